section MM
variable {p : Program} {l : Launch} {e : Env} {s : State} {m : MethodId} {args : Array Value} {below : List Frame} {meth : Method} {c : Code} {A : Nat → Prop} {D : va_G} {cy : Nat → ClassId}
/-! TrueOutlinesModel.goOn()V -/
def m_X12_goOn_78 (n : Nat) (S : q_S) (l0 : Option Nat) (l1 : Int32) : Option (Unit × q_S) := q_at (S) (l0) 13 (fun a1 => q_at (S) (q_R (S) a1 27) 100 (fun a2 => q_if (q_in (l1) (q_N (S) a2) = true) (q_at (q_sI (S) a1 14 (q_I (S) a2 (l1).toNatClampNeg)) (q_R (q_sI (S) a1 14 (q_I (S) a2 (l1).toNatClampNeg)) a1 28) 100 (fun a4 => q_if (q_in (l1) (q_N (q_sI (S) a1 14 (q_I (S) a2 (l1).toNatClampNeg)) a4) = true) (q_let (q_sI (q_sI (S) a1 14 (q_I (S) a2 (l1).toNatClampNeg)) a1 18 (q_I (q_sI (S) a1 14 (q_I (S) a2 (l1).toNatClampNeg)) a4 (l1).toNatClampNeg)) (fun S6 => q_at (S6) (q_R (S6) a1 25) 100 (fun a7 => q_if (q_in (l1) (q_N (S6) a7) = true) (q_b (m_X12_tell n (S6) a1 ((1 : Int32)) (q_I (S6) a7 (l1).toNatClampNeg)) (fun _ S9 => q_at (S9) (l0) 13 (fun a12 => q_at (S9) (q_R (S9) a12 29) 102 (fun a13 => q_if (q_in (l1) (q_N (S9) a13) = true) (some ((), q_sI (S9) a13 (l1).toNatClampNeg (vp_nar .boolean ((0 : Int32))))))))))))))))
set_option maxHeartbeats 4000000 in
set_option maxRecDepth 100000 in
theorem w_X12_goOn_78 (X : q_X p s m args c cX12_goOn 5 RX12 q_T D cy A) (hr : meth.sig.returnType = none) (hl : meth.locks = false)  {n : Nat} {Sv : q_S}  (S : q_S) (l0 : Option Nat) (l1 : Int32) (h : m_X12_goOn_78 n S l0 l1 = some ((), Sv)) : q_W p l e ({ frames := 5, cells := 0, slots := 0, locals := 129 } : Room) s m args below meth c (MQ below (va_Qv (fun (u : q_S) => u = Sv) (q_B D cy A) A) args s 0 0 A) A D cy 5 0 0 S 78 [(0, va_rf (l0)), (1, .int (l1))] [] := by
  unfold m_X12_goOn_78 at h
  refine q_aload_n X 0 rfl dX12_goOn_78 ?_
  refine q_aload_n X 0 rfl dX12_goOn_79 ?_
  obtain ⟨a1, ea1, ma1, ka1, h⟩ := q_atE h
  refine q_getR X 27 ea1 ma1 ka1 rfl tW_X12 (by decide) (by decide) tF_X12_60 rfl dX12_goOn_80 ?_
  refine q_iload_n X 1 rfl dX12_goOn_83 ?_
  obtain ⟨a2, ea2, ma2, ka2, h⟩ := q_atE h
  obtain ⟨g3, h⟩ := q_ifE h
  refine q_iaload X ea2 ma2 ka2 (q_inE g3) dX12_goOn_84 ?_
  refine q_putI X 14 ea1 ma1 ka1 rfl tW_X12 (by decide) (by decide) tF_X12_136 tyX12 tyX12_ok nmX12 rfl (tyX12_ok 14 (by decide)) rfl rfl rfl dX12_goOn_85 ?_
  have ma1 : a1 ∈ q_L (q_sI (S) a1 14 (q_I (S) a2 (l1).toNatClampNeg)) := q_LsI ma1
  have ka1 : q_K (q_sI (S) a1 14 (q_I (S) a2 (l1).toNatClampNeg)) a1 = 13 := q_KsI ka1
  have ma2 : a2 ∈ q_L (q_sI (S) a1 14 (q_I (S) a2 (l1).toNatClampNeg)) := q_LsI ma2
  have ka2 : q_K (q_sI (S) a1 14 (q_I (S) a2 (l1).toNatClampNeg)) a2 = 100 := q_KsI ka2
  refine q_aload_n X 0 rfl dX12_goOn_88 ?_
  refine q_aload_n X 0 rfl dX12_goOn_89 ?_
  refine q_getR X 28 ea1 ma1 ka1 rfl tW_X12 (by decide) (by decide) tF_X12_63 rfl dX12_goOn_90 ?_
  refine q_iload_n X 1 rfl dX12_goOn_93 ?_
  obtain ⟨a4, ea4, ma4, ka4, h⟩ := q_atE h
  obtain ⟨g5, h⟩ := q_ifE h
  refine q_iaload X ea4 ma4 ka4 (q_inE g5) dX12_goOn_94 ?_
  refine q_putI X 18 ea1 ma1 ka1 rfl tW_X12 (by decide) (by decide) tF_X12_139 tyX12 tyX12_ok nmX12 rfl (tyX12_ok 18 (by decide)) rfl rfl rfl dX12_goOn_95 ?_
  have ma1 : a1 ∈ q_L (q_sI (q_sI (S) a1 14 (q_I (S) a2 (l1).toNatClampNeg)) a1 18 (q_I (q_sI (S) a1 14 (q_I (S) a2 (l1).toNatClampNeg)) a4 (l1).toNatClampNeg)) := q_LsI ma1
  have ka1 : q_K (q_sI (q_sI (S) a1 14 (q_I (S) a2 (l1).toNatClampNeg)) a1 18 (q_I (q_sI (S) a1 14 (q_I (S) a2 (l1).toNatClampNeg)) a4 (l1).toNatClampNeg)) a1 = 13 := q_KsI ka1
  have ma2 : a2 ∈ q_L (q_sI (q_sI (S) a1 14 (q_I (S) a2 (l1).toNatClampNeg)) a1 18 (q_I (q_sI (S) a1 14 (q_I (S) a2 (l1).toNatClampNeg)) a4 (l1).toNatClampNeg)) := q_LsI ma2
  have ka2 : q_K (q_sI (q_sI (S) a1 14 (q_I (S) a2 (l1).toNatClampNeg)) a1 18 (q_I (q_sI (S) a1 14 (q_I (S) a2 (l1).toNatClampNeg)) a4 (l1).toNatClampNeg)) a2 = 100 := q_KsI ka2
  have ma4 : a4 ∈ q_L (q_sI (q_sI (S) a1 14 (q_I (S) a2 (l1).toNatClampNeg)) a1 18 (q_I (q_sI (S) a1 14 (q_I (S) a2 (l1).toNatClampNeg)) a4 (l1).toNatClampNeg)) := q_LsI ma4
  have ka4 : q_K (q_sI (q_sI (S) a1 14 (q_I (S) a2 (l1).toNatClampNeg)) a1 18 (q_I (q_sI (S) a1 14 (q_I (S) a2 (l1).toNatClampNeg)) a4 (l1).toNatClampNeg)) a4 = 100 := q_KsI ka4
  obtain ⟨S6, eS6, h⟩ := q_letE h
  refine q_sub eS6 ?_
  have ma1 : a1 ∈ q_L S6 := by rw [eS6]; exact ma1
  have ka1 : q_K S6 a1 = 13 := by rw [eS6]; exact ka1
  have ma2 : a2 ∈ q_L S6 := by rw [eS6]; exact ma2
  have ka2 : q_K S6 a2 = 100 := by rw [eS6]; exact ka2
  have ma4 : a4 ∈ q_L S6 := by rw [eS6]; exact ma4
  have ka4 : q_K S6 a4 = 100 := by rw [eS6]; exact ka4
  refine q_aload_n X 0 rfl dX12_goOn_98 ?_
  refine q_iconst X (1) (by decide) dX12_goOn_99 ?_
  refine q_aload_n X 0 rfl dX12_goOn_100 ?_
  refine q_getR X 25 ea1 ma1 ka1 rfl tW_X12 (by decide) (by decide) tF_X12_54 rfl dX12_goOn_101 ?_
  refine q_iload_n X 1 rfl dX12_goOn_104 ?_
  obtain ⟨a7, ea7, ma7, ka7, h⟩ := q_atE h
  obtain ⟨g8, h⟩ := q_ifE h
  refine q_iaload X ea7 ma7 ka7 (q_inE g8) dX12_goOn_105 ?_
  obtain ⟨u11, S9, c10, h⟩ := q_bE h
  refine q_cVV X (As := [.int ((1 : Int32)), .int (q_I (S6) a7 (l1).toNatClampNeg)]) ea1 ma1 ka1 rfl (by decide) (c_X12_tell c10) (q_cwV X tK_X12_tell tM_X12_159 tI_X12_tell tV_X12_tell tN_X12 rfl rfl tD_X12_tell ⟨Nat.le_of_ble_eq_true rfl, Nat.le_of_ble_eq_true rfl⟩) rfl rfl (by first | exact Nat.le_of_ble_eq_true rfl | (simp only [List.map, q_catR]; exact Nat.le_of_ble_eq_true rfl)) ⟨Nat.zero_le _, Nat.zero_le _⟩ dX12_goOn_106 ?_
  refine q_aload_n X 0 rfl dX12_goOn_109 ?_
  obtain ⟨a12, ea12, ma12, ka12, h⟩ := q_atE h
  refine q_getR X 29 ea12 ma12 ka12 rfl tW_X12 (by decide) (by decide) tF_X12_66 rfl dX12_goOn_110 ?_
  refine q_iload_n X 1 rfl dX12_goOn_113 ?_
  refine q_iconst X (0) (by decide) dX12_goOn_114 ?_
  obtain ⟨a13, ea13, ma13, ka13, h⟩ := q_atE h
  obtain ⟨g14, h⟩ := q_ifE h
  refine q_zastore X ea13 ma13 ka13 (q_inE g14) dX12_goOn_115 ?_
  have ma12 : a12 ∈ q_L (q_sI (S9) a13 (l1).toNatClampNeg (vp_nar .boolean ((0 : Int32)))) := q_LsI ma12
  have ka12 : q_K (q_sI (S9) a13 (l1).toNatClampNeg (vp_nar .boolean ((0 : Int32)))) a12 = 13 := q_KsI ka12
  have ma13 : a13 ∈ q_L (q_sI (S9) a13 (l1).toNatClampNeg (vp_nar .boolean ((0 : Int32)))) := q_LsI ma13
  have ka13 : q_K (q_sI (S9) a13 (l1).toNatClampNeg (vp_nar .boolean ((0 : Int32)))) a13 = 102 := q_KsI ka13
  obtain ⟨ev, eS⟩ := q_end h
  exact q_vret X hr hl eS dX12_goOn_116
def m_X12_goOn_218 (n : Nat) (S : q_S) : Option (Unit × q_S) := some ((), S)
set_option maxHeartbeats 4000000 in
set_option maxRecDepth 100000 in
theorem w_X12_goOn_218 (X : q_X p s m args c cX12_goOn 5 RX12 q_T D cy A) (hr : meth.sig.returnType = none) (hl : meth.locks = false)  {n : Nat} {Sv : q_S}  (S : q_S) (h : m_X12_goOn_218 n S = some ((), Sv)) : q_W p l e ({ frames := 5, cells := 0, slots := 0, locals := 129 } : Room) s m args below meth c (MQ below (va_Qv (fun (u : q_S) => u = Sv) (q_B D cy A) A) args s 0 0 A) A D cy 5 0 0 S 218 [] [] := by
  unfold m_X12_goOn_218 at h
  obtain ⟨ev, eS⟩ := q_end h
  exact q_vret X hr hl eS dX12_goOn_218
def m_X12_goOn_194 (n : Nat) (S : q_S) (l0 : Option Nat) (l4 : Int32) : Option (Unit × q_S) := q_at (S) (l0) 13 (fun a1 => q_b (m_X12_tell n (S) a1 ((4 : Int32)) (l4)) (fun _ S2 => m_X12_goOn_218 n (S2)))
set_option maxHeartbeats 4000000 in
set_option maxRecDepth 100000 in
theorem w_X12_goOn_194 (X : q_X p s m args c cX12_goOn 5 RX12 q_T D cy A) (hr : meth.sig.returnType = none) (hl : meth.locks = false)  {n : Nat} {Sv : q_S}  (S : q_S) (l0 : Option Nat) (l4 : Int32) (h : m_X12_goOn_194 n S l0 l4 = some ((), Sv)) : q_W p l e ({ frames := 5, cells := 0, slots := 0, locals := 129 } : Room) s m args below meth c (MQ below (va_Qv (fun (u : q_S) => u = Sv) (q_B D cy A) A) args s 0 0 A) A D cy 5 0 0 S 194 [(0, va_rf (l0)), (4, .int (l4))] [] := by
  unfold m_X12_goOn_194 at h
  refine q_aload_n X 0 rfl dX12_goOn_194 ?_
  refine q_iconst X (4) (by decide) dX12_goOn_195 ?_
  refine q_iload X 1 rfl dX12_goOn_196 ?_
  obtain ⟨a1, ea1, ma1, ka1, h⟩ := q_atE h
  obtain ⟨u4, S2, c3, h⟩ := q_bE h
  refine q_cVV X (As := [.int ((4 : Int32)), .int (l4)]) ea1 ma1 ka1 rfl (by decide) (c_X12_tell c3) (q_cwV X tK_X12_tell tM_X12_159 tI_X12_tell tV_X12_tell tN_X12 rfl rfl tD_X12_tell ⟨Nat.le_of_ble_eq_true rfl, Nat.le_of_ble_eq_true rfl⟩) rfl rfl (by first | exact Nat.le_of_ble_eq_true rfl | (simp only [List.map, q_catR]; exact Nat.le_of_ble_eq_true rfl)) ⟨Nat.zero_le _, Nat.zero_le _⟩ dX12_goOn_198 ?_
  refine q_goto X 218 (by decide) dX12_goOn_201 ?_
  refine q_lv [] rfl ?_
  exact w_X12_goOn_218 X hr hl _ h
def m_X12_goOn_149 (n : Nat) (S : q_S) (l0 : Option Nat) (l1 : Int32) (s0 : Int32) (s1 : Int32) (s2 : Option Nat) : Option (Unit × q_S) := q_at (S) (s2) 102 (fun a1 => q_if (q_in (s1) (q_N (S) a1) = true) (q_at (q_sI (S) a1 (s1).toNatClampNeg (vp_nar .boolean (s0))) (l0) 13 (fun a3 => q_at (q_sI (S) a1 (s1).toNatClampNeg (vp_nar .boolean (s0))) (q_R (q_sI (S) a1 (s1).toNatClampNeg (vp_nar .boolean (s0))) a3 31) 100 (fun a4 => q_if (q_in (l1) (q_N (q_sI (S) a1 (s1).toNatClampNeg (vp_nar .boolean (s0))) a4) = true) (q_let (q_sI (q_sI (S) a1 (s1).toNatClampNeg (vp_nar .boolean (s0))) a4 (l1).toNatClampNeg (q_I (q_sI (S) a1 (s1).toNatClampNeg (vp_nar .boolean (s0))) a3 14)) (fun S6 => q_at (S6) (q_R (S6) a3 30) 100 (fun a7 => q_if (q_in (l1) (q_N (S6) a7) = true) (q_b (m_X12_isSign n (S6) a3 (q_I (S6) a7 (l1).toNatClampNeg)) (fun r9 S10 => (if r9 = 0 then m_X12_goOn_194 n (S10) (l0) (q_I (S6) a7 (l1).toNatClampNeg) else q_at (S10) (l0) 13 (fun a13 => q_b (m_X12_isOpen n (S10) a13 (q_I (S6) a7 (l1).toNatClampNeg)) (fun r14 S15 => (if r14 = 0 then q_at (S15) (l0) 13 (fun a18 => (if (q_I (S15) a18 24) ≤ (5 : Int32) then q_b (m_X12_enter n (S15) a18 (q_I (S6) a7 (l1).toNatClampNeg)) (fun r20 S21 => (if r20 = 0 then q_at (S21) (l0) 13 (fun a24 => q_b (m_X12_place n (S21) a24 (l1)) (fun _ S25 => m_X12_goOn_218 n (S25))) else m_X12_goOn_218 n (S21))) else m_X12_goOn_194 n (S15) (l0) (q_I (S6) a7 (l1).toNatClampNeg))) else m_X12_goOn_194 n (S15) (l0) (q_I (S6) a7 (l1).toNatClampNeg))))))))))))))
set_option maxHeartbeats 4000000 in
set_option maxRecDepth 100000 in
theorem w_X12_goOn_149 (X : q_X p s m args c cX12_goOn 5 RX12 q_T D cy A) (hr : meth.sig.returnType = none) (hl : meth.locks = false)  {n : Nat} {Sv : q_S}  (S : q_S) (l0 : Option Nat) (l1 : Int32) (s0 : Int32) (s1 : Int32) (s2 : Option Nat) (h : m_X12_goOn_149 n S l0 l1 s0 s1 s2 = some ((), Sv)) : q_W p l e ({ frames := 5, cells := 0, slots := 0, locals := 129 } : Room) s m args below meth c (MQ below (va_Qv (fun (u : q_S) => u = Sv) (q_B D cy A) A) args s 0 0 A) A D cy 5 0 0 S 149 [(0, va_rf (l0)), (1, .int (l1))] [.int (s0), .int (s1), va_rf (s2)] := by
  unfold m_X12_goOn_149 at h
  obtain ⟨a1, ea1, ma1, ka1, h⟩ := q_atE h
  obtain ⟨g2, h⟩ := q_ifE h
  refine q_zastore X ea1 ma1 ka1 (q_inE g2) dX12_goOn_149 ?_
  have ma1 : a1 ∈ q_L (q_sI (S) a1 (s1).toNatClampNeg (vp_nar .boolean (s0))) := q_LsI ma1
  have ka1 : q_K (q_sI (S) a1 (s1).toNatClampNeg (vp_nar .boolean (s0))) a1 = 102 := q_KsI ka1
  refine q_aload_n X 0 rfl dX12_goOn_150 ?_
  obtain ⟨a3, ea3, ma3, ka3, h⟩ := q_atE h
  refine q_getR X 31 ea3 ma3 ka3 rfl tW_X12 (by decide) (by decide) tF_X12_72 rfl dX12_goOn_151 ?_
  refine q_iload_n X 1 rfl dX12_goOn_154 ?_
  refine q_aload_n X 0 rfl dX12_goOn_155 ?_
  refine q_getI X 14 ea3 ma3 ka3 rfl tW_X12 (by decide) (by decide) tF_X12_136 rfl dX12_goOn_156 ?_
  obtain ⟨a4, ea4, ma4, ka4, h⟩ := q_atE h
  obtain ⟨g5, h⟩ := q_ifE h
  refine q_iastore X ea4 ma4 ka4 (q_inE g5) dX12_goOn_159 ?_
  have ma1 : a1 ∈ q_L (q_sI (q_sI (S) a1 (s1).toNatClampNeg (vp_nar .boolean (s0))) a4 (l1).toNatClampNeg (q_I (q_sI (S) a1 (s1).toNatClampNeg (vp_nar .boolean (s0))) a3 14)) := q_LsI ma1
  have ka1 : q_K (q_sI (q_sI (S) a1 (s1).toNatClampNeg (vp_nar .boolean (s0))) a4 (l1).toNatClampNeg (q_I (q_sI (S) a1 (s1).toNatClampNeg (vp_nar .boolean (s0))) a3 14)) a1 = 102 := q_KsI ka1
  have ma3 : a3 ∈ q_L (q_sI (q_sI (S) a1 (s1).toNatClampNeg (vp_nar .boolean (s0))) a4 (l1).toNatClampNeg (q_I (q_sI (S) a1 (s1).toNatClampNeg (vp_nar .boolean (s0))) a3 14)) := q_LsI ma3
  have ka3 : q_K (q_sI (q_sI (S) a1 (s1).toNatClampNeg (vp_nar .boolean (s0))) a4 (l1).toNatClampNeg (q_I (q_sI (S) a1 (s1).toNatClampNeg (vp_nar .boolean (s0))) a3 14)) a3 = 13 := q_KsI ka3
  have ma4 : a4 ∈ q_L (q_sI (q_sI (S) a1 (s1).toNatClampNeg (vp_nar .boolean (s0))) a4 (l1).toNatClampNeg (q_I (q_sI (S) a1 (s1).toNatClampNeg (vp_nar .boolean (s0))) a3 14)) := q_LsI ma4
  have ka4 : q_K (q_sI (q_sI (S) a1 (s1).toNatClampNeg (vp_nar .boolean (s0))) a4 (l1).toNatClampNeg (q_I (q_sI (S) a1 (s1).toNatClampNeg (vp_nar .boolean (s0))) a3 14)) a4 = 100 := q_KsI ka4
  obtain ⟨S6, eS6, h⟩ := q_letE h
  refine q_sub eS6 ?_
  have ma1 : a1 ∈ q_L S6 := by rw [eS6]; exact ma1
  have ka1 : q_K S6 a1 = 102 := by rw [eS6]; exact ka1
  have ma3 : a3 ∈ q_L S6 := by rw [eS6]; exact ma3
  have ka3 : q_K S6 a3 = 13 := by rw [eS6]; exact ka3
  have ma4 : a4 ∈ q_L S6 := by rw [eS6]; exact ma4
  have ka4 : q_K S6 a4 = 100 := by rw [eS6]; exact ka4
  refine q_aload_n X 0 rfl dX12_goOn_160 ?_
  refine q_getR X 30 ea3 ma3 ka3 rfl tW_X12 (by decide) (by decide) tF_X12_69 rfl dX12_goOn_161 ?_
  refine q_iload_n X 1 rfl dX12_goOn_164 ?_
  obtain ⟨a7, ea7, ma7, ka7, h⟩ := q_atE h
  obtain ⟨g8, h⟩ := q_ifE h
  refine q_iaload X ea7 ma7 ka7 (q_inE g8) dX12_goOn_165 ?_
  refine q_istore X 4 [(4, .int (q_I (S6) a7 (l1).toNatClampNeg)), (0, va_rf (l0)), (1, .int (l1))] (by decide) (by first | rfl | simp [List.filter, q_catR]) dX12_goOn_166 ?_
  refine q_aload_n X 1 rfl dX12_goOn_168 ?_
  refine q_iload X 0 rfl dX12_goOn_169 ?_
  obtain ⟨r9, S10, c11, h⟩ := q_bE h
  refine q_cVI X (As := [.int (q_I (S6) a7 (l1).toNatClampNeg)]) ea3 ma3 ka3 rfl (by decide) (c_X12_isSign c11) (q_cwV X tK_X12_isSign tM_X12_239 tI_X12_isSign tV_X12_isSign tN_X12 rfl rfl tD_X12_isSign ⟨Nat.le_of_ble_eq_true rfl, Nat.le_of_ble_eq_true rfl⟩) rfl rfl (by first | exact Nat.le_of_ble_eq_true rfl | (simp only [List.map, q_catR]; exact Nat.le_of_ble_eq_true rfl)) ⟨Nat.zero_le _, Nat.zero_le _⟩ dX12_goOn_171 ?_
  refine q_if_eq X 194 (by decide) dX12_goOn_174 (fun g12 => ?_) (fun g12 => ?_)
  · rw [if_pos g12] at h
    refine q_lv [1, 0] rfl ?_
    exact w_X12_goOn_194 X hr hl _ _ _ h
  · rw [if_neg g12] at h
    refine q_aload_n X 1 rfl dX12_goOn_177 ?_
    refine q_iload X 0 rfl dX12_goOn_178 ?_
    obtain ⟨a13, ea13, ma13, ka13, h⟩ := q_atE h
    obtain ⟨r14, S15, c16, h⟩ := q_bE h
    refine q_cVI X (As := [.int (q_I (S6) a7 (l1).toNatClampNeg)]) ea13 ma13 ka13 rfl (by decide) (c_X12_isOpen c16) (q_cwV X tK_X12_isOpen tM_X12_242 tI_X12_isOpen tV_X12_isOpen tN_X12 rfl rfl tD_X12_isOpen ⟨Nat.le_of_ble_eq_true rfl, Nat.le_of_ble_eq_true rfl⟩) rfl rfl (by first | exact Nat.le_of_ble_eq_true rfl | (simp only [List.map, q_catR]; exact Nat.le_of_ble_eq_true rfl)) ⟨Nat.zero_le _, Nat.zero_le _⟩ dX12_goOn_180 ?_
    refine q_if_ne X 194 (by decide) dX12_goOn_183 (fun g17 => ?_) (fun g17 => ?_)
    · rw [if_neg g17] at h
      refine q_lv [1, 0] rfl ?_
      exact w_X12_goOn_194 X hr hl _ _ _ h
    · rw [if_pos g17] at h
      refine q_aload_n X 1 rfl dX12_goOn_186 ?_
      obtain ⟨a18, ea18, ma18, ka18, h⟩ := q_atE h
      refine q_getI X 24 ea18 ma18 ka18 rfl tW_X12 (by decide) (by decide) tF_X12_213 rfl dX12_goOn_187 ?_
      refine q_iconst X (5) (by decide) dX12_goOn_190 ?_
      refine q_icmp_le X 204 (by decide) dX12_goOn_191 (fun g19 => ?_) (fun g19 => ?_)
      · rw [if_pos g19] at h
        refine q_aload_n X 1 rfl dX12_goOn_204 ?_
        refine q_iload X 0 rfl dX12_goOn_205 ?_
        obtain ⟨r20, S21, c22, h⟩ := q_bE h
        refine q_cVI X (As := [.int (q_I (S6) a7 (l1).toNatClampNeg)]) ea18 ma18 ka18 rfl (by decide) (c_X12_enter c22) (q_cwV X tK_X12_enter tM_X12_245 tI_X12_enter tV_X12_enter tN_X12 rfl rfl tD_X12_enter ⟨Nat.le_of_ble_eq_true rfl, Nat.le_of_ble_eq_true rfl⟩) rfl rfl (by first | exact Nat.le_of_ble_eq_true rfl | (simp only [List.map, q_catR]; exact Nat.le_of_ble_eq_true rfl)) ⟨Nat.zero_le _, Nat.zero_le _⟩ dX12_goOn_207 ?_
        refine q_if_ne X 218 (by decide) dX12_goOn_210 (fun g23 => ?_) (fun g23 => ?_)
        · rw [if_neg g23] at h
          refine q_lv [] rfl ?_
          exact w_X12_goOn_218 X hr hl _ h
        · rw [if_pos g23] at h
          refine q_aload_n X 1 rfl dX12_goOn_213 ?_
          refine q_iload_n X 2 rfl dX12_goOn_214 ?_
          obtain ⟨a24, ea24, ma24, ka24, h⟩ := q_atE h
          obtain ⟨u27, S25, c26, h⟩ := q_bE h
          refine q_cVV X (As := [.int (l1)]) ea24 ma24 ka24 rfl (by decide) (c_X12_place c26) (q_cwV X tK_X12_place tM_X12_232 tI_X12_place tV_X12_place tN_X12 rfl rfl tD_X12_place ⟨Nat.le_of_ble_eq_true rfl, Nat.le_of_ble_eq_true rfl⟩) rfl rfl (by first | exact Nat.le_of_ble_eq_true rfl | (simp only [List.map, q_catR]; exact Nat.le_of_ble_eq_true rfl)) ⟨Nat.zero_le _, Nat.zero_le _⟩ dX12_goOn_215 ?_
          refine q_lv [] rfl ?_
          exact w_X12_goOn_218 X hr hl _ h
      · rw [if_neg g19] at h
        refine q_lv [1, 0] rfl ?_
        exact w_X12_goOn_194 X hr hl _ _ _ h
def m_X12_goOn_43 (n : Nat) (S : q_S) : Option (Unit × q_S) := some ((), S)
set_option maxHeartbeats 4000000 in
set_option maxRecDepth 100000 in
theorem w_X12_goOn_43 (X : q_X p s m args c cX12_goOn 5 RX12 q_T D cy A) (hr : meth.sig.returnType = none) (hl : meth.locks = false)  {n : Nat} {Sv : q_S}  (S : q_S) (h : m_X12_goOn_43 n S = some ((), Sv)) : q_W p l e ({ frames := 5, cells := 0, slots := 0, locals := 129 } : Room) s m args below meth c (MQ below (va_Qv (fun (u : q_S) => u = Sv) (q_B D cy A) A) args s 0 0 A) A D cy 5 0 0 S 43 [] [] := by
  unfold m_X12_goOn_43 at h
  obtain ⟨ev, eS⟩ := q_end h
  exact q_vret X hr hl eS dX12_goOn_43
def m_X12_goOn (n : Nat) (S : q_S) (o : Nat)  : Option (Unit × q_S) := q_at (S) (some o) 13 (fun a1 => q_at (S) (q_R (S) a1 29) 102 (fun a2 => q_if (q_in ((q_I (S) a1 24) - (1 : Int32)) (q_N (S) a2) = true) ((if (q_I (S) a2 ((q_I (S) a1 24) - (1 : Int32)).toNatClampNeg) = 0 then (if (q_I (q_sI (S) a1 24 ((q_I (S) a1 24) - (1 : Int32))) a1 24) ≤ 0 then m_X12_goOn_43 n (q_sI (S) a1 24 ((q_I (S) a1 24) - (1 : Int32))) else q_b (m_X12_place n (q_sI (S) a1 24 ((q_I (S) a1 24) - (1 : Int32))) a1 ((q_I (q_sI (S) a1 24 ((q_I (S) a1 24) - (1 : Int32))) a1 24) - (1 : Int32))) (fun _ S26 => m_X12_goOn_43 n (S26))) else q_at (S) (q_R (S) a1 25) 100 (fun a5 => q_if (q_in ((q_I (S) a1 24) - (1 : Int32)) (q_N (S) a5) = true) (q_b (m_X12_lookData n (S) a1 (q_I (S) a5 ((q_I (S) a1 24) - (1 : Int32)).toNatClampNeg)) (fun r7 S8 => q_at (S8) (some o) 13 (fun a10 => q_at (S8) (q_R (S8) a10 26) 100 (fun a11 => q_if (q_in ((q_I (S) a1 24) - (1 : Int32)) (q_N (S8) a11) = true) (q_b (m_X12_readPart n (S8) a10 ((q_I (S) a1 24) - (1 : Int32)) (q_I (S8) a11 ((q_I (S) a1 24) - (1 : Int32)).toNatClampNeg)) (fun r13 S14 => (if r7 = 0 then m_X12_goOn_78 n (S14) (some o) ((q_I (S) a1 24) - (1 : Int32)) else q_at (S14) (some o) 13 (fun a17 => (if (q_I (S14) a17 8) = 0 then q_at (S14) (q_R (S14) a17 26) 100 (fun a19 => q_if (q_in ((q_I (S) a1 24) - (1 : Int32)) (q_N (S14) a19) = true) (q_if (q_in ((q_I (S) a1 24) - (1 : Int32)) (q_N (S14) a19) = true) (q_at (q_sI (S14) a19 ((q_I (S) a1 24) - (1 : Int32)).toNatClampNeg ((q_I (S14) a19 ((q_I (S) a1 24) - (1 : Int32)).toNatClampNeg) + r13)) (q_R (q_sI (S14) a19 ((q_I (S) a1 24) - (1 : Int32)).toNatClampNeg ((q_I (S14) a19 ((q_I (S) a1 24) - (1 : Int32)).toNatClampNeg) + r13)) a17 32) 100 (fun a22 => q_if (q_in ((q_I (S) a1 24) - (1 : Int32)) (q_N (q_sI (S14) a19 ((q_I (S) a1 24) - (1 : Int32)).toNatClampNeg ((q_I (S14) a19 ((q_I (S) a1 24) - (1 : Int32)).toNatClampNeg) + r13)) a22) = true) ((if ((q_I (q_sI (S14) a19 ((q_I (S) a1 24) - (1 : Int32)).toNatClampNeg ((q_I (S14) a19 ((q_I (S) a1 24) - (1 : Int32)).toNatClampNeg) + r13)) a22 ((q_I (S) a1 24) - (1 : Int32)).toNatClampNeg) &&& (32 : Int32)) = 0 then m_X12_goOn_149 n (q_sI (S14) a19 ((q_I (S) a1 24) - (1 : Int32)).toNatClampNeg ((q_I (S14) a19 ((q_I (S) a1 24) - (1 : Int32)).toNatClampNeg) + r13)) (some o) ((q_I (S) a1 24) - (1 : Int32)) ((0 : Int32)) ((q_I (S) a1 24) - (1 : Int32)) (q_R (q_sI (S14) a19 ((q_I (S) a1 24) - (1 : Int32)).toNatClampNeg ((q_I (S14) a19 ((q_I (S) a1 24) - (1 : Int32)).toNatClampNeg) + r13)) a17 29) else m_X12_goOn_149 n (q_sI (S14) a19 ((q_I (S) a1 24) - (1 : Int32)).toNatClampNeg ((q_I (S14) a19 ((q_I (S) a1 24) - (1 : Int32)).toNatClampNeg) + r13)) (some o) ((q_I (S) a1 24) - (1 : Int32)) ((1 : Int32)) ((q_I (S) a1 24) - (1 : Int32)) (q_R (q_sI (S14) a19 ((q_I (S) a1 24) - (1 : Int32)).toNatClampNeg ((q_I (S14) a19 ((q_I (S) a1 24) - (1 : Int32)).toNatClampNeg) + r13)) a17 29))))))) else m_X12_goOn_78 n (S14) (some o) ((q_I (S) a1 24) - (1 : Int32))))))))))))))))
set_option maxHeartbeats 4000000 in
set_option maxRecDepth 100000 in
theorem w_X12_goOn (X : q_X p s m args c cX12_goOn 5 RX12 q_T D cy A) (hr : meth.sig.returnType = none) (hl : meth.locks = false)  {n : Nat} {S Sv : q_S} {o : Nat}  (h : m_X12_goOn n S o = some ((), Sv)) : q_W p l e ({ frames := 5, cells := 0, slots := 0, locals := 129 } : Room) s m args below meth c (MQ below (va_Qv (fun (u : q_S) => u = Sv) (q_B D cy A) A) args s 0 0 A) A D cy 5 0 0 S 0 [(0, va_rf (some o))] [] := by
  unfold m_X12_goOn at h
  refine q_aload_n X 0 rfl dX12_goOn_0 ?_
  obtain ⟨a1, ea1, ma1, ka1, h⟩ := q_atE h
  refine q_getI X 24 ea1 ma1 ka1 rfl tW_X12 (by decide) (by decide) tF_X12_213 rfl dX12_goOn_1 ?_
  refine q_iconst X (1) (by decide) dX12_goOn_4 ?_
  refine q_isub X dX12_goOn_5 ?_
  refine q_istore_n X 1 [(1, .int ((q_I (S) a1 24) - (1 : Int32))), (0, va_rf (some o))] rfl (by decide) (by first | rfl | simp [List.filter, q_catR]) dX12_goOn_6 ?_
  refine q_aload_n X 1 rfl dX12_goOn_7 ?_
  refine q_getR X 29 ea1 ma1 ka1 rfl tW_X12 (by decide) (by decide) tF_X12_66 rfl dX12_goOn_8 ?_
  refine q_iload_n X 0 rfl dX12_goOn_11 ?_
  obtain ⟨a2, ea2, ma2, ka2, h⟩ := q_atE h
  obtain ⟨g3, h⟩ := q_ifE h
  refine q_zaload X ea2 ma2 ka2 (q_inE g3) dX12_goOn_12 ?_
  refine q_if_ne X 44 (by decide) dX12_goOn_13 (fun g4 => ?_) (fun g4 => ?_)
  · rw [if_neg g4] at h
    refine q_aload_n X 1 rfl dX12_goOn_44 ?_
    refine q_aload_n X 1 rfl dX12_goOn_45 ?_
    refine q_getR X 25 ea1 ma1 ka1 rfl tW_X12 (by decide) (by decide) tF_X12_54 rfl dX12_goOn_46 ?_
    refine q_iload_n X 0 rfl dX12_goOn_49 ?_
    obtain ⟨a5, ea5, ma5, ka5, h⟩ := q_atE h
    obtain ⟨g6, h⟩ := q_ifE h
    refine q_iaload X ea5 ma5 ka5 (q_inE g6) dX12_goOn_50 ?_
    obtain ⟨r7, S8, c9, h⟩ := q_bE h
    refine q_cVI X (As := [.int (q_I (S) a5 ((q_I (S) a1 24) - (1 : Int32)).toNatClampNeg)]) ea1 ma1 ka1 rfl (by decide) (c_X12_lookData c9) (q_cwV X tK_X12_lookData tM_X12_216 tI_X12_lookData tV_X12_lookData tN_X12 rfl rfl tD_X12_lookData ⟨Nat.le_of_ble_eq_true rfl, Nat.le_of_ble_eq_true rfl⟩) rfl rfl (by first | exact Nat.le_of_ble_eq_true rfl | (simp only [List.map, q_catR]; exact Nat.le_of_ble_eq_true rfl)) ⟨Nat.zero_le _, Nat.zero_le _⟩ dX12_goOn_51 ?_
    refine q_istore_n X 2 [(2, .int (r7)), (1, .int ((q_I (S) a1 24) - (1 : Int32))), (0, va_rf (some o))] rfl (by decide) (by first | rfl | simp [List.filter, q_catR]) dX12_goOn_54 ?_
    refine q_aload_n X 2 rfl dX12_goOn_55 ?_
    refine q_iload_n X 1 rfl dX12_goOn_56 ?_
    refine q_aload_n X 2 rfl dX12_goOn_57 ?_
    obtain ⟨a10, ea10, ma10, ka10, h⟩ := q_atE h
    refine q_getR X 26 ea10 ma10 ka10 rfl tW_X12 (by decide) (by decide) tF_X12_57 rfl dX12_goOn_58 ?_
    refine q_iload_n X 1 rfl dX12_goOn_61 ?_
    obtain ⟨a11, ea11, ma11, ka11, h⟩ := q_atE h
    obtain ⟨g12, h⟩ := q_ifE h
    refine q_iaload X ea11 ma11 ka11 (q_inE g12) dX12_goOn_62 ?_
    obtain ⟨r13, S14, c15, h⟩ := q_bE h
    refine q_cVI X (As := [.int ((q_I (S) a1 24) - (1 : Int32)), .int (q_I (S8) a11 ((q_I (S) a1 24) - (1 : Int32)).toNatClampNeg)]) ea10 ma10 ka10 rfl (by decide) (c_X12_readPart c15) (q_cwV X tK_X12_readPart tM_X12_236 tI_X12_readPart tV_X12_readPart tN_X12 rfl rfl tD_X12_readPart ⟨Nat.le_of_ble_eq_true rfl, Nat.le_of_ble_eq_true rfl⟩) rfl rfl (by first | exact Nat.le_of_ble_eq_true rfl | (simp only [List.map, q_catR]; exact Nat.le_of_ble_eq_true rfl)) ⟨Nat.zero_le _, Nat.zero_le _⟩ dX12_goOn_63 ?_
    refine q_istore_n X 3 [(3, .int (r13)), (2, .int (r7)), (1, .int ((q_I (S) a1 24) - (1 : Int32))), (0, va_rf (some o))] rfl (by decide) (by first | rfl | simp [List.filter, q_catR]) dX12_goOn_66 ?_
    refine q_iload_n X 1 rfl dX12_goOn_67 ?_
    refine q_if_eq X 78 (by decide) dX12_goOn_68 (fun g16 => ?_) (fun g16 => ?_)
    · rw [if_pos g16] at h
      refine q_lv [3, 2] rfl ?_
      exact w_X12_goOn_78 X hr hl _ _ _ h
    · rw [if_neg g16] at h
      refine q_aload_n X 3 rfl dX12_goOn_71 ?_
      obtain ⟨a17, ea17, ma17, ka17, h⟩ := q_atE h
      refine q_getI X 8 ea17 ma17 ka17 rfl tW_X12 (by decide) (by decide) tF_X12_114 rfl dX12_goOn_72 ?_
      refine q_if_eq X 117 (by decide) dX12_goOn_75 (fun g18 => ?_) (fun g18 => ?_)
      · rw [if_pos g18] at h
        refine q_aload_n X 3 rfl dX12_goOn_117 ?_
        refine q_getR X 26 ea17 ma17 ka17 rfl tW_X12 (by decide) (by decide) tF_X12_57 rfl dX12_goOn_118 ?_
        refine q_iload_n X 2 rfl dX12_goOn_121 ?_
        refine q_dup2_11 X rfl (q_catR _) dX12_goOn_122 ?_
        obtain ⟨a19, ea19, ma19, ka19, h⟩ := q_atE h
        obtain ⟨g20, h⟩ := q_ifE h
        refine q_iaload X ea19 ma19 ka19 (q_inE g20) dX12_goOn_123 ?_
        refine q_iload_n X 0 rfl dX12_goOn_124 ?_
        refine q_iadd X dX12_goOn_125 ?_
        obtain ⟨g21, h⟩ := q_ifE h
        refine q_iastore X ea19 ma19 ka19 (q_inE g21) dX12_goOn_126 ?_
        have ma17 : a17 ∈ q_L (q_sI (S14) a19 ((q_I (S) a1 24) - (1 : Int32)).toNatClampNeg ((q_I (S14) a19 ((q_I (S) a1 24) - (1 : Int32)).toNatClampNeg) + r13)) := q_LsI ma17
        have ka17 : q_K (q_sI (S14) a19 ((q_I (S) a1 24) - (1 : Int32)).toNatClampNeg ((q_I (S14) a19 ((q_I (S) a1 24) - (1 : Int32)).toNatClampNeg) + r13)) a17 = 13 := q_KsI ka17
        have ma19 : a19 ∈ q_L (q_sI (S14) a19 ((q_I (S) a1 24) - (1 : Int32)).toNatClampNeg ((q_I (S14) a19 ((q_I (S) a1 24) - (1 : Int32)).toNatClampNeg) + r13)) := q_LsI ma19
        have ka19 : q_K (q_sI (S14) a19 ((q_I (S) a1 24) - (1 : Int32)).toNatClampNeg ((q_I (S14) a19 ((q_I (S) a1 24) - (1 : Int32)).toNatClampNeg) + r13)) a19 = 100 := q_KsI ka19
        refine q_aload_n X 3 rfl dX12_goOn_127 ?_
        refine q_getR X 29 ea17 ma17 ka17 rfl tW_X12 (by decide) (by decide) tF_X12_66 rfl dX12_goOn_128 ?_
        refine q_iload_n X 2 rfl dX12_goOn_131 ?_
        refine q_aload_n X 3 rfl dX12_goOn_132 ?_
        refine q_getR X 32 ea17 ma17 ka17 rfl tW_X12 (by decide) (by decide) tF_X12_75 rfl dX12_goOn_133 ?_
        refine q_iload_n X 2 rfl dX12_goOn_136 ?_
        obtain ⟨a22, ea22, ma22, ka22, h⟩ := q_atE h
        obtain ⟨g23, h⟩ := q_ifE h
        refine q_iaload X ea22 ma22 ka22 (q_inE g23) dX12_goOn_137 ?_
        refine q_bipush X (32) (by decide) dX12_goOn_138 ?_
        refine q_iand X dX12_goOn_140 ?_
        refine q_if_eq X 148 (by decide) dX12_goOn_141 (fun g24 => ?_) (fun g24 => ?_)
        · rw [if_pos g24] at h
          refine q_iconst X (0) (by decide) dX12_goOn_148 ?_
          refine q_lv [3, 2] rfl ?_
          exact w_X12_goOn_149 X hr hl _ _ _ _ _ _ h
        · rw [if_neg g24] at h
          refine q_iconst X (1) (by decide) dX12_goOn_144 ?_
          refine q_goto X 149 (by decide) dX12_goOn_145 ?_
          refine q_lv [3, 2] rfl ?_
          exact w_X12_goOn_149 X hr hl _ _ _ _ _ _ h
      · rw [if_neg g18] at h
        refine q_lv [3, 2] rfl ?_
        exact w_X12_goOn_78 X hr hl _ _ _ h
  · rw [if_pos g4] at h
    refine q_aload_n X 1 rfl dX12_goOn_16 ?_
    refine q_dup X (q_catR _) dX12_goOn_17 ?_
    refine q_getI X 24 ea1 ma1 ka1 rfl tW_X12 (by decide) (by decide) tF_X12_213 rfl dX12_goOn_18 ?_
    refine q_iconst X (1) (by decide) dX12_goOn_21 ?_
    refine q_isub X dX12_goOn_22 ?_
    refine q_putI X 24 ea1 ma1 ka1 rfl tW_X12 (by decide) (by decide) tF_X12_213 tyX12 tyX12_ok nmX12 rfl (tyX12_ok 24 (by decide)) rfl rfl rfl dX12_goOn_23 ?_
    have ma1 : a1 ∈ q_L (q_sI (S) a1 24 ((q_I (S) a1 24) - (1 : Int32))) := q_LsI ma1
    have ka1 : q_K (q_sI (S) a1 24 ((q_I (S) a1 24) - (1 : Int32))) a1 = 13 := q_KsI ka1
    have ma2 : a2 ∈ q_L (q_sI (S) a1 24 ((q_I (S) a1 24) - (1 : Int32))) := q_LsI ma2
    have ka2 : q_K (q_sI (S) a1 24 ((q_I (S) a1 24) - (1 : Int32))) a2 = 102 := q_KsI ka2
    refine q_aload_n X 1 rfl dX12_goOn_26 ?_
    refine q_getI X 24 ea1 ma1 ka1 rfl tW_X12 (by decide) (by decide) tF_X12_213 rfl dX12_goOn_27 ?_
    refine q_if_le X 43 (by decide) dX12_goOn_30 (fun g25 => ?_) (fun g25 => ?_)
    · rw [if_pos g25] at h
      refine q_lv [] rfl ?_
      exact w_X12_goOn_43 X hr hl _ h
    · rw [if_neg g25] at h
      refine q_aload_n X 1 rfl dX12_goOn_33 ?_
      refine q_aload_n X 1 rfl dX12_goOn_34 ?_
      refine q_getI X 24 ea1 ma1 ka1 rfl tW_X12 (by decide) (by decide) tF_X12_213 rfl dX12_goOn_35 ?_
      refine q_iconst X (1) (by decide) dX12_goOn_38 ?_
      refine q_isub X dX12_goOn_39 ?_
      obtain ⟨u28, S26, c27, h⟩ := q_bE h
      refine q_cVV X (As := [.int ((q_I (q_sI (S) a1 24 ((q_I (S) a1 24) - (1 : Int32))) a1 24) - (1 : Int32))]) ea1 ma1 ka1 rfl (by decide) (c_X12_place c27) (q_cwV X tK_X12_place tM_X12_232 tI_X12_place tV_X12_place tN_X12 rfl rfl tD_X12_place ⟨Nat.le_of_ble_eq_true rfl, Nat.le_of_ble_eq_true rfl⟩) rfl rfl (by first | exact Nat.le_of_ble_eq_true rfl | (simp only [List.map, q_catR]; exact Nat.le_of_ble_eq_true rfl)) ⟨Nat.zero_le _, Nat.zero_le _⟩ dX12_goOn_40 ?_
      refine q_lv [] rfl ?_
      exact w_X12_goOn_43 X hr hl _ h
theorem tD_X12_goOn : yX12_goOn.cls ≠ "java/lang/invoke/MethodHandle" ∧ yX12_goOn.cls ≠ "java/lang/invoke/VarHandle" ∧ (parseMethodDescriptor yX12_goOn.desc).map (fun d => d.parameters.length) = some 0 := by decide +kernel
theorem c_X12_goOn {l : Launch} {D : va_G} {cy : Nat → ClassId} {n : Nat} {S Sv : q_S} {o : Nat}  (h : m_X12_goOn n S o = some ((), Sv)) : q_MV l yX12_goOn (q_ws yX12_goOn cX12_goOn 5 (none)) ({ frames := 5, cells := 0, slots := 0, locals := 129 } : Room) D cy [.ref o] S Sv := by
  exact q_MV_of (by decide +kernel) (Nat.le_of_ble_eq_true rfl) (fun p e s m args below meth c A X hr hl => w_X12_goOn X hr hl h)
/-! TrueOutlinesModel.piece(IZIIIIII)V -/
def m_X12_piece_93 (n : Nat) (S : q_S) (l0 : Option Nat) (l7 : Int32) (l8 : Int32) (l9 : Int32) (s0 : Int32) (s1 : Int32) (s2 : Option Nat) : Option (Unit × q_S) := q_at (S) (s2) 100 (fun a1 => q_if (q_in (s1) (q_N (S) a1) = true) (q_at (q_sI (S) a1 (s1).toNatClampNeg (s0)) (l0) 13 (fun a3 => q_at (q_sI (S) a1 (s1).toNatClampNeg (s0)) (q_R (q_sI (S) a1 (s1).toNatClampNeg (s0)) a3 37) 100 (fun a4 => q_if (q_in (l9 + (6 : Int32)) (q_N (q_sI (S) a1 (s1).toNatClampNeg (s0)) a4) = true) (q_let (q_sI (q_sI (S) a1 (s1).toNatClampNeg (s0)) a4 (l9 + (6 : Int32)).toNatClampNeg (l7)) (fun S6 => q_at (S6) (q_R (S6) a3 37) 100 (fun a7 => q_if (q_in (l9 + (7 : Int32)) (q_N (S6) a7) = true) (some ((), q_sI (q_sI (S6) a7 (l9 + (7 : Int32)).toNatClampNeg (l8)) a3 36 ((q_I (q_sI (S6) a7 (l9 + (7 : Int32)).toNatClampNeg (l8)) a3 36) + (1 : Int32)))))))))))
set_option maxHeartbeats 4000000 in
set_option maxRecDepth 100000 in
theorem w_X12_piece_93 (X : q_X p s m args c cX12_piece 10 RX12 q_T D cy A) (hr : meth.sig.returnType = none) (hl : meth.locks = false)  {n : Nat} {Sv : q_S}  (S : q_S) (l0 : Option Nat) (l7 : Int32) (l8 : Int32) (l9 : Int32) (s0 : Int32) (s1 : Int32) (s2 : Option Nat) (h : m_X12_piece_93 n S l0 l7 l8 l9 s0 s1 s2 = some ((), Sv)) : q_W p l e ({ frames := 0, cells := 0, slots := 0, locals := 0 } : Room) s m args below meth c (MQ below (va_Qv (fun (u : q_S) => u = Sv) (q_B D cy A) A) args s 0 0 A) A D cy 10 0 0 S 93 [(0, va_rf (l0)), (7, .int (l7)), (8, .int (l8)), (9, .int (l9))] [.int (s0), .int (s1), va_rf (s2)] := by
  unfold m_X12_piece_93 at h
  obtain ⟨a1, ea1, ma1, ka1, h⟩ := q_atE h
  obtain ⟨g2, h⟩ := q_ifE h
  refine q_iastore X ea1 ma1 ka1 (q_inE g2) dX12_piece_93 ?_
  have ma1 : a1 ∈ q_L (q_sI (S) a1 (s1).toNatClampNeg (s0)) := q_LsI ma1
  have ka1 : q_K (q_sI (S) a1 (s1).toNatClampNeg (s0)) a1 = 100 := q_KsI ka1
  refine q_aload_n X 0 rfl dX12_piece_94 ?_
  obtain ⟨a3, ea3, ma3, ka3, h⟩ := q_atE h
  refine q_getR X 37 ea3 ma3 ka3 rfl tW_X12 (by decide) (by decide) tF_X12_87 rfl dX12_piece_95 ?_
  refine q_iload X 3 rfl dX12_piece_98 ?_
  refine q_bipush X (6) (by decide) dX12_piece_100 ?_
  refine q_iadd X dX12_piece_102 ?_
  refine q_iload X 1 rfl dX12_piece_103 ?_
  obtain ⟨a4, ea4, ma4, ka4, h⟩ := q_atE h
  obtain ⟨g5, h⟩ := q_ifE h
  refine q_iastore X ea4 ma4 ka4 (q_inE g5) dX12_piece_105 ?_
  have ma1 : a1 ∈ q_L (q_sI (q_sI (S) a1 (s1).toNatClampNeg (s0)) a4 (l9 + (6 : Int32)).toNatClampNeg (l7)) := q_LsI ma1
  have ka1 : q_K (q_sI (q_sI (S) a1 (s1).toNatClampNeg (s0)) a4 (l9 + (6 : Int32)).toNatClampNeg (l7)) a1 = 100 := q_KsI ka1
  have ma3 : a3 ∈ q_L (q_sI (q_sI (S) a1 (s1).toNatClampNeg (s0)) a4 (l9 + (6 : Int32)).toNatClampNeg (l7)) := q_LsI ma3
  have ka3 : q_K (q_sI (q_sI (S) a1 (s1).toNatClampNeg (s0)) a4 (l9 + (6 : Int32)).toNatClampNeg (l7)) a3 = 13 := q_KsI ka3
  have ma4 : a4 ∈ q_L (q_sI (q_sI (S) a1 (s1).toNatClampNeg (s0)) a4 (l9 + (6 : Int32)).toNatClampNeg (l7)) := q_LsI ma4
  have ka4 : q_K (q_sI (q_sI (S) a1 (s1).toNatClampNeg (s0)) a4 (l9 + (6 : Int32)).toNatClampNeg (l7)) a4 = 100 := q_KsI ka4
  obtain ⟨S6, eS6, h⟩ := q_letE h
  refine q_sub eS6 ?_
  have ma1 : a1 ∈ q_L S6 := by rw [eS6]; exact ma1
  have ka1 : q_K S6 a1 = 100 := by rw [eS6]; exact ka1
  have ma3 : a3 ∈ q_L S6 := by rw [eS6]; exact ma3
  have ka3 : q_K S6 a3 = 13 := by rw [eS6]; exact ka3
  have ma4 : a4 ∈ q_L S6 := by rw [eS6]; exact ma4
  have ka4 : q_K S6 a4 = 100 := by rw [eS6]; exact ka4
  refine q_aload_n X 0 rfl dX12_piece_106 ?_
  refine q_getR X 37 ea3 ma3 ka3 rfl tW_X12 (by decide) (by decide) tF_X12_87 rfl dX12_piece_107 ?_
  refine q_iload X 3 rfl dX12_piece_110 ?_
  refine q_bipush X (7) (by decide) dX12_piece_112 ?_
  refine q_iadd X dX12_piece_114 ?_
  refine q_iload X 2 rfl dX12_piece_115 ?_
  obtain ⟨a7, ea7, ma7, ka7, h⟩ := q_atE h
  obtain ⟨g8, h⟩ := q_ifE h
  refine q_iastore X ea7 ma7 ka7 (q_inE g8) dX12_piece_117 ?_
  have ma1 : a1 ∈ q_L (q_sI (S6) a7 (l9 + (7 : Int32)).toNatClampNeg (l8)) := q_LsI ma1
  have ka1 : q_K (q_sI (S6) a7 (l9 + (7 : Int32)).toNatClampNeg (l8)) a1 = 100 := q_KsI ka1
  have ma3 : a3 ∈ q_L (q_sI (S6) a7 (l9 + (7 : Int32)).toNatClampNeg (l8)) := q_LsI ma3
  have ka3 : q_K (q_sI (S6) a7 (l9 + (7 : Int32)).toNatClampNeg (l8)) a3 = 13 := q_KsI ka3
  have ma4 : a4 ∈ q_L (q_sI (S6) a7 (l9 + (7 : Int32)).toNatClampNeg (l8)) := q_LsI ma4
  have ka4 : q_K (q_sI (S6) a7 (l9 + (7 : Int32)).toNatClampNeg (l8)) a4 = 100 := q_KsI ka4
  have ma7 : a7 ∈ q_L (q_sI (S6) a7 (l9 + (7 : Int32)).toNatClampNeg (l8)) := q_LsI ma7
  have ka7 : q_K (q_sI (S6) a7 (l9 + (7 : Int32)).toNatClampNeg (l8)) a7 = 100 := q_KsI ka7
  refine q_aload_n X 0 rfl dX12_piece_118 ?_
  refine q_dup X (q_catR _) dX12_piece_119 ?_
  refine q_getI X 36 ea3 ma3 ka3 rfl tW_X12 (by decide) (by decide) tF_X12_142 rfl dX12_piece_120 ?_
  refine q_iconst X (1) (by decide) dX12_piece_123 ?_
  refine q_iadd X dX12_piece_124 ?_
  refine q_putI X 36 ea3 ma3 ka3 rfl tW_X12 (by decide) (by decide) tF_X12_142 tyX12 tyX12_ok nmX12 rfl (tyX12_ok 36 (by decide)) rfl rfl rfl dX12_piece_125 ?_
  have ma1 : a1 ∈ q_L (q_sI (q_sI (S6) a7 (l9 + (7 : Int32)).toNatClampNeg (l8)) a3 36 ((q_I (q_sI (S6) a7 (l9 + (7 : Int32)).toNatClampNeg (l8)) a3 36) + (1 : Int32))) := q_LsI ma1
  have ka1 : q_K (q_sI (q_sI (S6) a7 (l9 + (7 : Int32)).toNatClampNeg (l8)) a3 36 ((q_I (q_sI (S6) a7 (l9 + (7 : Int32)).toNatClampNeg (l8)) a3 36) + (1 : Int32))) a1 = 100 := q_KsI ka1
  have ma3 : a3 ∈ q_L (q_sI (q_sI (S6) a7 (l9 + (7 : Int32)).toNatClampNeg (l8)) a3 36 ((q_I (q_sI (S6) a7 (l9 + (7 : Int32)).toNatClampNeg (l8)) a3 36) + (1 : Int32))) := q_LsI ma3
  have ka3 : q_K (q_sI (q_sI (S6) a7 (l9 + (7 : Int32)).toNatClampNeg (l8)) a3 36 ((q_I (q_sI (S6) a7 (l9 + (7 : Int32)).toNatClampNeg (l8)) a3 36) + (1 : Int32))) a3 = 13 := q_KsI ka3
  have ma4 : a4 ∈ q_L (q_sI (q_sI (S6) a7 (l9 + (7 : Int32)).toNatClampNeg (l8)) a3 36 ((q_I (q_sI (S6) a7 (l9 + (7 : Int32)).toNatClampNeg (l8)) a3 36) + (1 : Int32))) := q_LsI ma4
  have ka4 : q_K (q_sI (q_sI (S6) a7 (l9 + (7 : Int32)).toNatClampNeg (l8)) a3 36 ((q_I (q_sI (S6) a7 (l9 + (7 : Int32)).toNatClampNeg (l8)) a3 36) + (1 : Int32))) a4 = 100 := q_KsI ka4
  have ma7 : a7 ∈ q_L (q_sI (q_sI (S6) a7 (l9 + (7 : Int32)).toNatClampNeg (l8)) a3 36 ((q_I (q_sI (S6) a7 (l9 + (7 : Int32)).toNatClampNeg (l8)) a3 36) + (1 : Int32))) := q_LsI ma7
  have ka7 : q_K (q_sI (q_sI (S6) a7 (l9 + (7 : Int32)).toNatClampNeg (l8)) a3 36 ((q_I (q_sI (S6) a7 (l9 + (7 : Int32)).toNatClampNeg (l8)) a3 36) + (1 : Int32))) a7 = 100 := q_KsI ka7
  obtain ⟨ev, eS⟩ := q_end h
  exact q_vret X hr hl eS dX12_piece_128
def m_X12_piece_74 (n : Nat) (S : q_S) (l0 : Option Nat) (l2 : Int32) (l6 : Int32) (l7 : Int32) (l8 : Int32) (l9 : Int32) (s0 : Int32) (s1 : Int32) (s2 : Option Nat) : Option (Unit × q_S) := q_at (S) (s2) 100 (fun a1 => q_if (q_in (s1) (q_N (S) a1) = true) (q_at (q_sI (S) a1 (s1).toNatClampNeg (s0)) (l0) 13 (fun a3 => (if l2 = 0 then m_X12_piece_93 n (q_sI (S) a1 (s1).toNatClampNeg (s0)) (l0) (l7) (l8) (l9) ((0 : Int32)) (l9 + (5 : Int32)) (q_R (q_sI (S) a1 (s1).toNatClampNeg (s0)) a3 37) else m_X12_piece_93 n (q_sI (S) a1 (s1).toNatClampNeg (s0)) (l0) (l7) (l8) (l9) (l6) (l9 + (5 : Int32)) (q_R (q_sI (S) a1 (s1).toNatClampNeg (s0)) a3 37)))))
set_option maxHeartbeats 4000000 in
set_option maxRecDepth 100000 in
theorem w_X12_piece_74 (X : q_X p s m args c cX12_piece 10 RX12 q_T D cy A) (hr : meth.sig.returnType = none) (hl : meth.locks = false)  {n : Nat} {Sv : q_S}  (S : q_S) (l0 : Option Nat) (l2 : Int32) (l6 : Int32) (l7 : Int32) (l8 : Int32) (l9 : Int32) (s0 : Int32) (s1 : Int32) (s2 : Option Nat) (h : m_X12_piece_74 n S l0 l2 l6 l7 l8 l9 s0 s1 s2 = some ((), Sv)) : q_W p l e ({ frames := 0, cells := 0, slots := 0, locals := 0 } : Room) s m args below meth c (MQ below (va_Qv (fun (u : q_S) => u = Sv) (q_B D cy A) A) args s 0 0 A) A D cy 10 0 0 S 74 [(0, va_rf (l0)), (2, .int (l2)), (6, .int (l6)), (7, .int (l7)), (8, .int (l8)), (9, .int (l9))] [.int (s0), .int (s1), va_rf (s2)] := by
  unfold m_X12_piece_74 at h
  obtain ⟨a1, ea1, ma1, ka1, h⟩ := q_atE h
  obtain ⟨g2, h⟩ := q_ifE h
  refine q_iastore X ea1 ma1 ka1 (q_inE g2) dX12_piece_74 ?_
  have ma1 : a1 ∈ q_L (q_sI (S) a1 (s1).toNatClampNeg (s0)) := q_LsI ma1
  have ka1 : q_K (q_sI (S) a1 (s1).toNatClampNeg (s0)) a1 = 100 := q_KsI ka1
  refine q_aload_n X 0 rfl dX12_piece_75 ?_
  obtain ⟨a3, ea3, ma3, ka3, h⟩ := q_atE h
  refine q_getR X 37 ea3 ma3 ka3 rfl tW_X12 (by decide) (by decide) tF_X12_87 rfl dX12_piece_76 ?_
  refine q_iload X 5 rfl dX12_piece_79 ?_
  refine q_iconst X (5) (by decide) dX12_piece_81 ?_
  refine q_iadd X dX12_piece_82 ?_
  refine q_iload_n X 1 rfl dX12_piece_83 ?_
  refine q_if_eq X 92 (by decide) dX12_piece_84 (fun g4 => ?_) (fun g4 => ?_)
  · rw [if_pos g4] at h
    refine q_iconst X (0) (by decide) dX12_piece_92 ?_
    refine q_lv [0, 3, 4, 5] rfl ?_
    exact w_X12_piece_93 X hr hl _ _ _ _ _ _ _ _ h
  · rw [if_neg g4] at h
    refine q_iload X 2 rfl dX12_piece_87 ?_
    refine q_goto X 93 (by decide) dX12_piece_89 ?_
    refine q_lv [0, 3, 4, 5] rfl ?_
    exact w_X12_piece_93 X hr hl _ _ _ _ _ _ _ _ h
def m_X12_piece_34 (n : Nat) (S : q_S) (l0 : Option Nat) (l2 : Int32) (l3 : Int32) (l4 : Int32) (l5 : Int32) (l6 : Int32) (l7 : Int32) (l8 : Int32) (l9 : Int32) (s0 : Int32) (s1 : Int32) (s2 : Option Nat) : Option (Unit × q_S) := q_at (S) (s2) 100 (fun a1 => q_if (q_in (s1) (q_N (S) a1) = true) (q_at (q_sI (S) a1 (s1).toNatClampNeg (s0)) (l0) 13 (fun a3 => q_at (q_sI (S) a1 (s1).toNatClampNeg (s0)) (q_R (q_sI (S) a1 (s1).toNatClampNeg (s0)) a3 37) 100 (fun a4 => q_if (q_in (l9 + (2 : Int32)) (q_N (q_sI (S) a1 (s1).toNatClampNeg (s0)) a4) = true) (q_let (q_sI (q_sI (S) a1 (s1).toNatClampNeg (s0)) a4 (l9 + (2 : Int32)).toNatClampNeg (l3)) (fun S6 => q_at (S6) (q_R (S6) a3 37) 100 (fun a7 => q_if (q_in (l9 + (3 : Int32)) (q_N (S6) a7) = true) ((if l2 = 0 then m_X12_piece_74 n (q_sI (S6) a7 (l9 + (3 : Int32)).toNatClampNeg (l4)) (l0) (l2) (l6) (l7) (l8) (l9) ((0 : Int32)) (l9 + (4 : Int32)) (q_R (q_sI (S6) a7 (l9 + (3 : Int32)).toNatClampNeg (l4)) a3 37) else m_X12_piece_74 n (q_sI (S6) a7 (l9 + (3 : Int32)).toNatClampNeg (l4)) (l0) (l2) (l6) (l7) (l8) (l9) (l5) (l9 + (4 : Int32)) (q_R (q_sI (S6) a7 (l9 + (3 : Int32)).toNatClampNeg (l4)) a3 37))))))))))
set_option maxHeartbeats 4000000 in
set_option maxRecDepth 100000 in
theorem w_X12_piece_34 (X : q_X p s m args c cX12_piece 10 RX12 q_T D cy A) (hr : meth.sig.returnType = none) (hl : meth.locks = false)  {n : Nat} {Sv : q_S}  (S : q_S) (l0 : Option Nat) (l2 : Int32) (l3 : Int32) (l4 : Int32) (l5 : Int32) (l6 : Int32) (l7 : Int32) (l8 : Int32) (l9 : Int32) (s0 : Int32) (s1 : Int32) (s2 : Option Nat) (h : m_X12_piece_34 n S l0 l2 l3 l4 l5 l6 l7 l8 l9 s0 s1 s2 = some ((), Sv)) : q_W p l e ({ frames := 0, cells := 0, slots := 0, locals := 0 } : Room) s m args below meth c (MQ below (va_Qv (fun (u : q_S) => u = Sv) (q_B D cy A) A) args s 0 0 A) A D cy 10 0 0 S 34 [(0, va_rf (l0)), (2, .int (l2)), (3, .int (l3)), (4, .int (l4)), (5, .int (l5)), (6, .int (l6)), (7, .int (l7)), (8, .int (l8)), (9, .int (l9))] [.int (s0), .int (s1), va_rf (s2)] := by
  unfold m_X12_piece_34 at h
  obtain ⟨a1, ea1, ma1, ka1, h⟩ := q_atE h
  obtain ⟨g2, h⟩ := q_ifE h
  refine q_iastore X ea1 ma1 ka1 (q_inE g2) dX12_piece_34 ?_
  have ma1 : a1 ∈ q_L (q_sI (S) a1 (s1).toNatClampNeg (s0)) := q_LsI ma1
  have ka1 : q_K (q_sI (S) a1 (s1).toNatClampNeg (s0)) a1 = 100 := q_KsI ka1
  refine q_aload_n X 0 rfl dX12_piece_35 ?_
  obtain ⟨a3, ea3, ma3, ka3, h⟩ := q_atE h
  refine q_getR X 37 ea3 ma3 ka3 rfl tW_X12 (by decide) (by decide) tF_X12_87 rfl dX12_piece_36 ?_
  refine q_iload X 8 rfl dX12_piece_39 ?_
  refine q_iconst X (2) (by decide) dX12_piece_41 ?_
  refine q_iadd X dX12_piece_42 ?_
  refine q_iload_n X 2 rfl dX12_piece_43 ?_
  obtain ⟨a4, ea4, ma4, ka4, h⟩ := q_atE h
  obtain ⟨g5, h⟩ := q_ifE h
  refine q_iastore X ea4 ma4 ka4 (q_inE g5) dX12_piece_44 ?_
  have ma1 : a1 ∈ q_L (q_sI (q_sI (S) a1 (s1).toNatClampNeg (s0)) a4 (l9 + (2 : Int32)).toNatClampNeg (l3)) := q_LsI ma1
  have ka1 : q_K (q_sI (q_sI (S) a1 (s1).toNatClampNeg (s0)) a4 (l9 + (2 : Int32)).toNatClampNeg (l3)) a1 = 100 := q_KsI ka1
  have ma3 : a3 ∈ q_L (q_sI (q_sI (S) a1 (s1).toNatClampNeg (s0)) a4 (l9 + (2 : Int32)).toNatClampNeg (l3)) := q_LsI ma3
  have ka3 : q_K (q_sI (q_sI (S) a1 (s1).toNatClampNeg (s0)) a4 (l9 + (2 : Int32)).toNatClampNeg (l3)) a3 = 13 := q_KsI ka3
  have ma4 : a4 ∈ q_L (q_sI (q_sI (S) a1 (s1).toNatClampNeg (s0)) a4 (l9 + (2 : Int32)).toNatClampNeg (l3)) := q_LsI ma4
  have ka4 : q_K (q_sI (q_sI (S) a1 (s1).toNatClampNeg (s0)) a4 (l9 + (2 : Int32)).toNatClampNeg (l3)) a4 = 100 := q_KsI ka4
  obtain ⟨S6, eS6, h⟩ := q_letE h
  refine q_sub eS6 ?_
  have ma1 : a1 ∈ q_L S6 := by rw [eS6]; exact ma1
  have ka1 : q_K S6 a1 = 100 := by rw [eS6]; exact ka1
  have ma3 : a3 ∈ q_L S6 := by rw [eS6]; exact ma3
  have ka3 : q_K S6 a3 = 13 := by rw [eS6]; exact ka3
  have ma4 : a4 ∈ q_L S6 := by rw [eS6]; exact ma4
  have ka4 : q_K S6 a4 = 100 := by rw [eS6]; exact ka4
  refine q_aload_n X 0 rfl dX12_piece_45 ?_
  refine q_getR X 37 ea3 ma3 ka3 rfl tW_X12 (by decide) (by decide) tF_X12_87 rfl dX12_piece_46 ?_
  refine q_iload X 8 rfl dX12_piece_49 ?_
  refine q_iconst X (3) (by decide) dX12_piece_51 ?_
  refine q_iadd X dX12_piece_52 ?_
  refine q_iload X 3 rfl dX12_piece_53 ?_
  obtain ⟨a7, ea7, ma7, ka7, h⟩ := q_atE h
  obtain ⟨g8, h⟩ := q_ifE h
  refine q_iastore X ea7 ma7 ka7 (q_inE g8) dX12_piece_55 ?_
  have ma1 : a1 ∈ q_L (q_sI (S6) a7 (l9 + (3 : Int32)).toNatClampNeg (l4)) := q_LsI ma1
  have ka1 : q_K (q_sI (S6) a7 (l9 + (3 : Int32)).toNatClampNeg (l4)) a1 = 100 := q_KsI ka1
  have ma3 : a3 ∈ q_L (q_sI (S6) a7 (l9 + (3 : Int32)).toNatClampNeg (l4)) := q_LsI ma3
  have ka3 : q_K (q_sI (S6) a7 (l9 + (3 : Int32)).toNatClampNeg (l4)) a3 = 13 := q_KsI ka3
  have ma4 : a4 ∈ q_L (q_sI (S6) a7 (l9 + (3 : Int32)).toNatClampNeg (l4)) := q_LsI ma4
  have ka4 : q_K (q_sI (S6) a7 (l9 + (3 : Int32)).toNatClampNeg (l4)) a4 = 100 := q_KsI ka4
  have ma7 : a7 ∈ q_L (q_sI (S6) a7 (l9 + (3 : Int32)).toNatClampNeg (l4)) := q_LsI ma7
  have ka7 : q_K (q_sI (S6) a7 (l9 + (3 : Int32)).toNatClampNeg (l4)) a7 = 100 := q_KsI ka7
  refine q_aload_n X 0 rfl dX12_piece_56 ?_
  refine q_getR X 37 ea3 ma3 ka3 rfl tW_X12 (by decide) (by decide) tF_X12_87 rfl dX12_piece_57 ?_
  refine q_iload X 8 rfl dX12_piece_60 ?_
  refine q_iconst X (4) (by decide) dX12_piece_62 ?_
  refine q_iadd X dX12_piece_63 ?_
  refine q_iload_n X 1 rfl dX12_piece_64 ?_
  refine q_if_eq X 73 (by decide) dX12_piece_65 (fun g9 => ?_) (fun g9 => ?_)
  · rw [if_pos g9] at h
    refine q_iconst X (0) (by decide) dX12_piece_73 ?_
    refine q_lv [0, 1, 5, 6, 7, 8] rfl ?_
    exact w_X12_piece_74 X hr hl _ _ _ _ _ _ _ _ _ _ h
  · rw [if_neg g9] at h
    refine q_iload X 4 rfl dX12_piece_68 ?_
    refine q_goto X 74 (by decide) dX12_piece_70 ?_
    refine q_lv [0, 1, 5, 6, 7, 8] rfl ?_
    exact w_X12_piece_74 X hr hl _ _ _ _ _ _ _ _ _ _ h
def m_X12_piece (n : Nat) (S : q_S) (o : Nat) (p0 : Int32) (p1 : Int32) (p2 : Int32) (p3 : Int32) (p4 : Int32) (p5 : Int32) (p6 : Int32) (p7 : Int32) : Option (Unit × q_S) := q_at (S) (some o) 13 (fun a1 => q_at (S) (q_R (S) a1 37) 100 (fun a2 => q_if (q_in ((8 : Int32) * (q_I (S) a1 36)) (q_N (S) a2) = true) ((if p1 = 0 then m_X12_piece_34 n (q_sI (S) a2 ((8 : Int32) * (q_I (S) a1 36)).toNatClampNeg (p0)) (some o) (p1) (p2) (p3) (p4) (p5) (p6) (p7) ((8 : Int32) * (q_I (S) a1 36)) ((0 : Int32)) (((8 : Int32) * (q_I (S) a1 36)) + (1 : Int32)) (q_R (q_sI (S) a2 ((8 : Int32) * (q_I (S) a1 36)).toNatClampNeg (p0)) a1 37) else m_X12_piece_34 n (q_sI (S) a2 ((8 : Int32) * (q_I (S) a1 36)).toNatClampNeg (p0)) (some o) (p1) (p2) (p3) (p4) (p5) (p6) (p7) ((8 : Int32) * (q_I (S) a1 36)) ((1 : Int32)) (((8 : Int32) * (q_I (S) a1 36)) + (1 : Int32)) (q_R (q_sI (S) a2 ((8 : Int32) * (q_I (S) a1 36)).toNatClampNeg (p0)) a1 37)))))
set_option maxHeartbeats 4000000 in
set_option maxRecDepth 100000 in
theorem w_X12_piece (X : q_X p s m args c cX12_piece 10 RX12 q_T D cy A) (hr : meth.sig.returnType = none) (hl : meth.locks = false)  {n : Nat} {S Sv : q_S} {o : Nat} {p0 : Int32} {p1 : Int32} {p2 : Int32} {p3 : Int32} {p4 : Int32} {p5 : Int32} {p6 : Int32} {p7 : Int32} (h : m_X12_piece n S o p0 p1 p2 p3 p4 p5 p6 p7 = some ((), Sv)) : q_W p l e ({ frames := 0, cells := 0, slots := 0, locals := 0 } : Room) s m args below meth c (MQ below (va_Qv (fun (u : q_S) => u = Sv) (q_B D cy A) A) args s 0 0 A) A D cy 10 0 0 S 0 [(0, va_rf (some o)), (1, .int (p0)), (2, .int (p1)), (3, .int (p2)), (4, .int (p3)), (5, .int (p4)), (6, .int (p5)), (7, .int (p6)), (8, .int (p7))] [] := by
  unfold m_X12_piece at h
  refine q_bipush X (8) (by decide) dX12_piece_0 ?_
  refine q_aload_n X 0 rfl dX12_piece_2 ?_
  obtain ⟨a1, ea1, ma1, ka1, h⟩ := q_atE h
  refine q_getI X 36 ea1 ma1 ka1 rfl tW_X12 (by decide) (by decide) tF_X12_142 rfl dX12_piece_3 ?_
  refine q_imul X dX12_piece_6 ?_
  refine q_istore X 9 [(9, .int ((8 : Int32) * (q_I (S) a1 36))), (0, va_rf (some o)), (1, .int (p0)), (2, .int (p1)), (3, .int (p2)), (4, .int (p3)), (5, .int (p4)), (6, .int (p5)), (7, .int (p6)), (8, .int (p7))] (by decide) (by first | rfl | simp [List.filter, q_catR]) dX12_piece_7 ?_
  refine q_aload_n X 1 rfl dX12_piece_9 ?_
  refine q_getR X 37 ea1 ma1 ka1 rfl tW_X12 (by decide) (by decide) tF_X12_87 rfl dX12_piece_10 ?_
  refine q_iload X 0 rfl dX12_piece_13 ?_
  refine q_iload_n X 2 rfl dX12_piece_15 ?_
  obtain ⟨a2, ea2, ma2, ka2, h⟩ := q_atE h
  obtain ⟨g3, h⟩ := q_ifE h
  refine q_iastore X ea2 ma2 ka2 (q_inE g3) dX12_piece_16 ?_
  have ma1 : a1 ∈ q_L (q_sI (S) a2 ((8 : Int32) * (q_I (S) a1 36)).toNatClampNeg (p0)) := q_LsI ma1
  have ka1 : q_K (q_sI (S) a2 ((8 : Int32) * (q_I (S) a1 36)).toNatClampNeg (p0)) a1 = 13 := q_KsI ka1
  have ma2 : a2 ∈ q_L (q_sI (S) a2 ((8 : Int32) * (q_I (S) a1 36)).toNatClampNeg (p0)) := q_LsI ma2
  have ka2 : q_K (q_sI (S) a2 ((8 : Int32) * (q_I (S) a1 36)).toNatClampNeg (p0)) a2 = 100 := q_KsI ka2
  refine q_aload_n X 1 rfl dX12_piece_17 ?_
  refine q_getR X 37 ea1 ma1 ka1 rfl tW_X12 (by decide) (by decide) tF_X12_87 rfl dX12_piece_18 ?_
  refine q_iload X 0 rfl dX12_piece_21 ?_
  refine q_iconst X (1) (by decide) dX12_piece_23 ?_
  refine q_iadd X dX12_piece_24 ?_
  refine q_iload_n X 3 rfl dX12_piece_25 ?_
  refine q_if_eq X 33 (by decide) dX12_piece_26 (fun g4 => ?_) (fun g4 => ?_)
  · rw [if_pos g4] at h
    refine q_iconst X (0) (by decide) dX12_piece_33 ?_
    refine q_lv [1, 3, 4, 5, 6, 7, 8, 9, 0] rfl ?_
    exact w_X12_piece_34 X hr hl _ _ _ _ _ _ _ _ _ _ _ _ _ h
  · rw [if_neg g4] at h
    refine q_iconst X (1) (by decide) dX12_piece_29 ?_
    refine q_goto X 34 (by decide) dX12_piece_30 ?_
    refine q_lv [1, 3, 4, 5, 6, 7, 8, 9, 0] rfl ?_
    exact w_X12_piece_34 X hr hl _ _ _ _ _ _ _ _ _ _ _ _ _ h
theorem tD_X12_piece : yX12_piece.cls ≠ "java/lang/invoke/MethodHandle" ∧ yX12_piece.cls ≠ "java/lang/invoke/VarHandle" ∧ (parseMethodDescriptor yX12_piece.desc).map (fun d => d.parameters.length) = some 8 := by decide +kernel
theorem c_X12_piece {l : Launch} {D : va_G} {cy : Nat → ClassId} {n : Nat} {S Sv : q_S} {o : Nat} {p0 : Int32} {p1 : Int32} {p2 : Int32} {p3 : Int32} {p4 : Int32} {p5 : Int32} {p6 : Int32} {p7 : Int32} (h : m_X12_piece n S o p0 p1 p2 p3 p4 p5 p6 p7 = some ((), Sv)) : q_MV l yX12_piece (q_ws yX12_piece cX12_piece 10 (none)) ({ frames := 0, cells := 0, slots := 0, locals := 0 } : Room) D cy [.ref o, .int (p0), .int (p1), .int (p2), .int (p3), .int (p4), .int (p5), .int (p6), .int (p7)] S Sv := by
  exact q_MV_of (by decide +kernel) (Nat.le_of_ble_eq_true rfl) (fun p e s m args below meth c A X hr hl => w_X12_piece X hr hl h)
/-! TrueOutlinesModel.goRound(III)V -/
def m_X12_goRound_365 (n : Nat) (k148 : q_S → Option Nat → Int32 → Int32 → Int32 → Int32 → Int32 → Int32 → Int32 → Option (Unit × q_S)) (S : q_S) (l0 : Option Nat) (l1 : Int32) (l2 : Int32) (l3 : Int32) (l6 : Int32) (l7 : Int32) (l9 : Int32) (s0 : Int32) (s1 : Int32) : Option (Unit × q_S) := k148 (S) (l0) (l1) (l2) (l3) (l6) (l7) (s1 + s0) (l9)
set_option maxHeartbeats 4000000 in
set_option maxRecDepth 100000 in
theorem w_X12_goRound_365 (X : q_X p s m args c cX12_goRound 15 RX12 q_T D cy A) (hr : meth.sig.returnType = none) (hl : meth.locks = false)  {n : Nat} {Sv : q_S}  {k148 : q_S → Option Nat → Int32 → Int32 → Int32 → Int32 → Int32 → Int32 → Int32 → Option (Unit × q_S)} (hk148 : ∀ (S : q_S) (z0 : Option Nat) (z1 : Int32) (z2 : Int32) (z3 : Int32) (z4 : Int32) (z5 : Int32) (z6 : Int32) (z7 : Int32), k148 S z0 z1 z2 z3 z4 z5 z6 z7 = some ((), Sv) → q_W p l e ({ frames := 1, cells := 0, slots := 0, locals := 29 } : Room) s m args below meth c (MQ below (va_Qv (fun (u : q_S) => u = Sv) (q_B D cy A) A) args s 0 0 A) A D cy 15 0 0 S 148 [(0, va_rf (z0)), (1, .int (z1)), (2, .int (z2)), (3, .int (z3)), (6, .int (z4)), (7, .int (z5)), (8, .int (z6)), (9, .int (z7))] []) (S : q_S) (l0 : Option Nat) (l1 : Int32) (l2 : Int32) (l3 : Int32) (l6 : Int32) (l7 : Int32) (l9 : Int32) (s0 : Int32) (s1 : Int32) (h : m_X12_goRound_365 n k148 S l0 l1 l2 l3 l6 l7 l9 s0 s1 = some ((), Sv)) : q_W p l e ({ frames := 1, cells := 0, slots := 0, locals := 29 } : Room) s m args below meth c (MQ below (va_Qv (fun (u : q_S) => u = Sv) (q_B D cy A) A) args s 0 0 A) A D cy 15 0 0 S 365 [(0, va_rf (l0)), (1, .int (l1)), (2, .int (l2)), (3, .int (l3)), (6, .int (l6)), (7, .int (l7)), (9, .int (l9))] [.int (s0), .int (s1)] := by
  unfold m_X12_goRound_365 at h
  refine q_iadd X dX12_goRound_365 ?_
  refine q_istore X 8 [(8, .int (s1 + s0)), (0, va_rf (l0)), (1, .int (l1)), (2, .int (l2)), (3, .int (l3)), (6, .int (l6)), (7, .int (l7)), (9, .int (l9))] (by decide) (by first | rfl | simp [List.filter, q_catR]) dX12_goRound_366 ?_
  refine q_goto X 148 (by decide) dX12_goRound_368 ?_
  refine q_lv [1, 2, 3, 4, 5, 6, 0, 7] rfl ?_
  exact hk148 _ _ _ _ _ _ _ _ _ h
def m_X12_goRound_364 (n : Nat) (k148 : q_S → Option Nat → Int32 → Int32 → Int32 → Int32 → Int32 → Int32 → Int32 → Option (Unit × q_S)) (S : q_S) (l0 : Option Nat) (l1 : Int32) (l2 : Int32) (l3 : Int32) (l6 : Int32) (l7 : Int32) (l9 : Int32) (s0 : Int32) : Option (Unit × q_S) := m_X12_goRound_365 n k148 (S) (l0) (l1) (l2) (l3) (l6) (l7) (l9) ((1 : Int32)) (s0)
set_option maxHeartbeats 4000000 in
set_option maxRecDepth 100000 in
theorem w_X12_goRound_364 (X : q_X p s m args c cX12_goRound 15 RX12 q_T D cy A) (hr : meth.sig.returnType = none) (hl : meth.locks = false)  {n : Nat} {Sv : q_S}  {k148 : q_S → Option Nat → Int32 → Int32 → Int32 → Int32 → Int32 → Int32 → Int32 → Option (Unit × q_S)} (hk148 : ∀ (S : q_S) (z0 : Option Nat) (z1 : Int32) (z2 : Int32) (z3 : Int32) (z4 : Int32) (z5 : Int32) (z6 : Int32) (z7 : Int32), k148 S z0 z1 z2 z3 z4 z5 z6 z7 = some ((), Sv) → q_W p l e ({ frames := 1, cells := 0, slots := 0, locals := 29 } : Room) s m args below meth c (MQ below (va_Qv (fun (u : q_S) => u = Sv) (q_B D cy A) A) args s 0 0 A) A D cy 15 0 0 S 148 [(0, va_rf (z0)), (1, .int (z1)), (2, .int (z2)), (3, .int (z3)), (6, .int (z4)), (7, .int (z5)), (8, .int (z6)), (9, .int (z7))] []) (S : q_S) (l0 : Option Nat) (l1 : Int32) (l2 : Int32) (l3 : Int32) (l6 : Int32) (l7 : Int32) (l9 : Int32) (s0 : Int32) (h : m_X12_goRound_364 n k148 S l0 l1 l2 l3 l6 l7 l9 s0 = some ((), Sv)) : q_W p l e ({ frames := 1, cells := 0, slots := 0, locals := 29 } : Room) s m args below meth c (MQ below (va_Qv (fun (u : q_S) => u = Sv) (q_B D cy A) A) args s 0 0 A) A D cy 15 0 0 S 364 [(0, va_rf (l0)), (1, .int (l1)), (2, .int (l2)), (3, .int (l3)), (6, .int (l6)), (7, .int (l7)), (9, .int (l9))] [.int (s0)] := by
  unfold m_X12_goRound_364 at h
  refine q_iconst X (1) (by decide) dX12_goRound_364 ?_
  exact w_X12_goRound_365 X hr hl hk148 _ _ _ _ _ _ _ _ _ _ h
def m_X12_goRound_300 (n : Nat) (k148 : q_S → Option Nat → Int32 → Int32 → Int32 → Int32 → Int32 → Int32 → Int32 → Option (Unit × q_S)) (S : q_S) (l0 : Option Nat) (l1 : Int32) (l2 : Int32) (l3 : Int32) (l6 : Int32) (l7 : Int32) (l8 : Int32) (l9 : Int32) (l10 : Int32) (l11 : Int32) (l12 : Int32) (l13 : Int32) (s0 : Int32) : Option (Unit × q_S) := q_at (S) (l0) 13 (fun a1 => q_at (S) (q_R (S) a1 15) 100 (fun a2 => q_if (q_in (l10) (q_N (S) a2) = true) (q_at (S) (q_R (S) a1 16) 100 (fun a4 => q_if (q_in (l10) (q_N (S) a4) = true) (q_b (m_X12_piece n (S) a1 (l1) (l12) (l6) (l7) ((2 : Int32) * (q_I (S) a2 (l10).toNatClampNeg)) ((2 : Int32) * (q_I (S) a4 (l10).toNatClampNeg)) (l13) (s0)) (fun _ S6 => (if l12 = 0 then m_X12_goRound_364 n k148 (S6) (l0) (l1) (l2) (l3) (l13) (s0) (l9) (l8) else q_at (S6) (l0) 13 (fun a10 => q_at (S6) (q_R (S6) a10 17) 102 (fun a11 => q_if (q_in (l11) (q_N (S6) a11) = true) ((if (q_I (S6) a11 (l11).toNatClampNeg) = 0 then m_X12_goRound_364 n k148 (S6) (l0) (l1) (l2) (l3) (l13) (s0) (l9) (l8) else m_X12_goRound_365 n k148 (S6) (l0) (l1) (l2) (l3) (l13) (s0) (l9) ((2 : Int32)) (l8))))))))))))
set_option maxHeartbeats 4000000 in
set_option maxRecDepth 100000 in
theorem w_X12_goRound_300 (X : q_X p s m args c cX12_goRound 15 RX12 q_T D cy A) (hr : meth.sig.returnType = none) (hl : meth.locks = false)  {n : Nat} {Sv : q_S}  {k148 : q_S → Option Nat → Int32 → Int32 → Int32 → Int32 → Int32 → Int32 → Int32 → Option (Unit × q_S)} (hk148 : ∀ (S : q_S) (z0 : Option Nat) (z1 : Int32) (z2 : Int32) (z3 : Int32) (z4 : Int32) (z5 : Int32) (z6 : Int32) (z7 : Int32), k148 S z0 z1 z2 z3 z4 z5 z6 z7 = some ((), Sv) → q_W p l e ({ frames := 1, cells := 0, slots := 0, locals := 29 } : Room) s m args below meth c (MQ below (va_Qv (fun (u : q_S) => u = Sv) (q_B D cy A) A) args s 0 0 A) A D cy 15 0 0 S 148 [(0, va_rf (z0)), (1, .int (z1)), (2, .int (z2)), (3, .int (z3)), (6, .int (z4)), (7, .int (z5)), (8, .int (z6)), (9, .int (z7))] []) (S : q_S) (l0 : Option Nat) (l1 : Int32) (l2 : Int32) (l3 : Int32) (l6 : Int32) (l7 : Int32) (l8 : Int32) (l9 : Int32) (l10 : Int32) (l11 : Int32) (l12 : Int32) (l13 : Int32) (s0 : Int32) (h : m_X12_goRound_300 n k148 S l0 l1 l2 l3 l6 l7 l8 l9 l10 l11 l12 l13 s0 = some ((), Sv)) : q_W p l e ({ frames := 1, cells := 0, slots := 0, locals := 29 } : Room) s m args below meth c (MQ below (va_Qv (fun (u : q_S) => u = Sv) (q_B D cy A) A) args s 0 0 A) A D cy 15 0 0 S 300 [(0, va_rf (l0)), (1, .int (l1)), (2, .int (l2)), (3, .int (l3)), (6, .int (l6)), (7, .int (l7)), (8, .int (l8)), (9, .int (l9)), (10, .int (l10)), (11, .int (l11)), (12, .int (l12)), (13, .int (l13))] [.int (s0)] := by
  unfold m_X12_goRound_300 at h
  refine q_istore X 14 [(14, .int (s0)), (0, va_rf (l0)), (1, .int (l1)), (2, .int (l2)), (3, .int (l3)), (6, .int (l6)), (7, .int (l7)), (8, .int (l8)), (9, .int (l9)), (10, .int (l10)), (11, .int (l11)), (12, .int (l12)), (13, .int (l13))] (by decide) (by first | rfl | simp [List.filter, q_catR]) dX12_goRound_300 ?_
  refine q_aload_n X 1 rfl dX12_goRound_302 ?_
  refine q_iload_n X 2 rfl dX12_goRound_303 ?_
  refine q_iload X 11 rfl dX12_goRound_304 ?_
  refine q_iload X 5 rfl dX12_goRound_306 ?_
  refine q_iload X 6 rfl dX12_goRound_308 ?_
  refine q_iconst X (2) (by decide) dX12_goRound_310 ?_
  refine q_aload_n X 1 rfl dX12_goRound_311 ?_
  obtain ⟨a1, ea1, ma1, ka1, h⟩ := q_atE h
  refine q_getR X 15 ea1 ma1 ka1 rfl tW_X12 (by decide) (by decide) tF_X12_39 rfl dX12_goRound_312 ?_
  refine q_iload X 9 rfl dX12_goRound_315 ?_
  obtain ⟨a2, ea2, ma2, ka2, h⟩ := q_atE h
  obtain ⟨g3, h⟩ := q_ifE h
  refine q_iaload X ea2 ma2 ka2 (q_inE g3) dX12_goRound_317 ?_
  refine q_imul X dX12_goRound_318 ?_
  refine q_iconst X (2) (by decide) dX12_goRound_319 ?_
  refine q_aload_n X 1 rfl dX12_goRound_320 ?_
  refine q_getR X 16 ea1 ma1 ka1 rfl tW_X12 (by decide) (by decide) tF_X12_42 rfl dX12_goRound_321 ?_
  refine q_iload X 9 rfl dX12_goRound_324 ?_
  obtain ⟨a4, ea4, ma4, ka4, h⟩ := q_atE h
  obtain ⟨g5, h⟩ := q_ifE h
  refine q_iaload X ea4 ma4 ka4 (q_inE g5) dX12_goRound_326 ?_
  refine q_imul X dX12_goRound_327 ?_
  refine q_iload X 12 rfl dX12_goRound_328 ?_
  refine q_iload X 0 rfl dX12_goRound_330 ?_
  obtain ⟨u8, S6, c7, h⟩ := q_bE h
  refine q_cVV X (As := [.int (l1), .int (l12), .int (l6), .int (l7), .int ((2 : Int32) * (q_I (S) a2 (l10).toNatClampNeg)), .int ((2 : Int32) * (q_I (S) a4 (l10).toNatClampNeg)), .int (l13), .int (s0)]) ea1 ma1 ka1 rfl (by decide) (c_X12_piece c7) (q_cwV X tK_X12_piece tM_X12_248 tI_X12_piece tV_X12_piece tN_X12 rfl rfl tD_X12_piece ⟨Nat.le_of_ble_eq_true rfl, Nat.le_of_ble_eq_true rfl⟩) rfl rfl (by first | exact Nat.le_of_ble_eq_true rfl | (simp only [List.map, q_catR]; exact Nat.le_of_ble_eq_true rfl)) ⟨Nat.zero_le _, Nat.zero_le _⟩ dX12_goRound_332 ?_
  refine q_iload X 12 rfl dX12_goRound_335 ?_
  refine q_istore X 6 [(6, .int (l13)), (14, .int (s0)), (0, va_rf (l0)), (1, .int (l1)), (2, .int (l2)), (3, .int (l3)), (7, .int (l7)), (8, .int (l8)), (9, .int (l9)), (10, .int (l10)), (11, .int (l11)), (12, .int (l12)), (13, .int (l13))] (by decide) (by first | rfl | simp [List.filter, q_catR]) dX12_goRound_337 ?_
  refine q_iload X 1 rfl dX12_goRound_339 ?_
  refine q_istore X 7 [(7, .int (s0)), (6, .int (l13)), (14, .int (s0)), (0, va_rf (l0)), (1, .int (l1)), (2, .int (l2)), (3, .int (l3)), (8, .int (l8)), (9, .int (l9)), (10, .int (l10)), (11, .int (l11)), (12, .int (l12)), (13, .int (l13))] (by decide) (by first | rfl | simp [List.filter, q_catR]) dX12_goRound_341 ?_
  refine q_iload X 7 rfl dX12_goRound_343 ?_
  refine q_iload X 11 rfl dX12_goRound_345 ?_
  refine q_if_eq X 364 (by decide) dX12_goRound_347 (fun g9 => ?_) (fun g9 => ?_)
  · rw [if_pos g9] at h
    refine q_lv [3, 4, 5, 6, 1, 0, 8] rfl ?_
    exact w_X12_goRound_364 X hr hl hk148 _ _ _ _ _ _ _ _ _ h
  · rw [if_neg g9] at h
    refine q_aload_n X 3 rfl dX12_goRound_350 ?_
    obtain ⟨a10, ea10, ma10, ka10, h⟩ := q_atE h
    refine q_getR X 17 ea10 ma10 ka10 rfl tW_X12 (by decide) (by decide) tF_X12_45 rfl dX12_goRound_351 ?_
    refine q_iload X 10 rfl dX12_goRound_354 ?_
    obtain ⟨a11, ea11, ma11, ka11, h⟩ := q_atE h
    obtain ⟨g12, h⟩ := q_ifE h
    refine q_zaload X ea11 ma11 ka11 (q_inE g12) dX12_goRound_356 ?_
    refine q_if_eq X 364 (by decide) dX12_goRound_357 (fun g13 => ?_) (fun g13 => ?_)
    · rw [if_pos g13] at h
      refine q_lv [3, 4, 5, 6, 1, 0, 8] rfl ?_
      exact w_X12_goRound_364 X hr hl hk148 _ _ _ _ _ _ _ _ _ h
    · rw [if_neg g13] at h
      refine q_iconst X (2) (by decide) dX12_goRound_360 ?_
      refine q_goto X 365 (by decide) dX12_goRound_361 ?_
      refine q_lv [3, 4, 5, 6, 1, 0, 8] rfl ?_
      exact w_X12_goRound_365 X hr hl hk148 _ _ _ _ _ _ _ _ _ _ h
def m_X12_goRound_244 (n : Nat) (k148 : q_S → Option Nat → Int32 → Int32 → Int32 → Int32 → Int32 → Int32 → Int32 → Option (Unit × q_S)) (S : q_S) (l0 : Option Nat) (l1 : Int32) (l2 : Int32) (l3 : Int32) (l6 : Int32) (l7 : Int32) (l8 : Int32) (l9 : Int32) (l10 : Int32) (l11 : Int32) (l12 : Int32) (s0 : Int32) : Option (Unit × q_S) := (if l12 = 0 then q_at (S) (l0) 13 (fun a11 => q_at (S) (q_R (S) a11 16) 100 (fun a12 => q_if (q_in (l10) (q_N (S) a12) = true) (m_X12_goRound_300 n k148 (S) (l0) (l1) (l2) (l3) (l6) (l7) (l8) (l9) (l10) (l11) (l12) (s0) ((2 : Int32) * (q_I (S) a12 (l10).toNatClampNeg))))) else q_at (S) (l0) 13 (fun a2 => q_at (S) (q_R (S) a2 17) 102 (fun a3 => q_if (q_in (l11) (q_N (S) a3) = true) ((if (q_I (S) a3 (l11).toNatClampNeg) = 0 then q_at (S) (q_R (S) a2 16) 100 (fun a6 => q_if (q_in (l10) (q_N (S) a6) = true) (q_if (q_in (l11) (q_N (S) a6) = true) (m_X12_goRound_300 n k148 (S) (l0) (l1) (l2) (l3) (l6) (l7) (l8) (l9) (l10) (l11) (l12) (s0) ((q_I (S) a6 (l10).toNatClampNeg) + (q_I (S) a6 (l11).toNatClampNeg))))) else q_at (S) (q_R (S) a2 16) 100 (fun a9 => q_if (q_in (l11) (q_N (S) a9) = true) (m_X12_goRound_300 n k148 (S) (l0) (l1) (l2) (l3) (l6) (l7) (l8) (l9) (l10) (l11) (l12) (s0) ((2 : Int32) * (q_I (S) a9 (l11).toNatClampNeg)))))))))
set_option maxHeartbeats 4000000 in
set_option maxRecDepth 100000 in
theorem w_X12_goRound_244 (X : q_X p s m args c cX12_goRound 15 RX12 q_T D cy A) (hr : meth.sig.returnType = none) (hl : meth.locks = false)  {n : Nat} {Sv : q_S}  {k148 : q_S → Option Nat → Int32 → Int32 → Int32 → Int32 → Int32 → Int32 → Int32 → Option (Unit × q_S)} (hk148 : ∀ (S : q_S) (z0 : Option Nat) (z1 : Int32) (z2 : Int32) (z3 : Int32) (z4 : Int32) (z5 : Int32) (z6 : Int32) (z7 : Int32), k148 S z0 z1 z2 z3 z4 z5 z6 z7 = some ((), Sv) → q_W p l e ({ frames := 1, cells := 0, slots := 0, locals := 29 } : Room) s m args below meth c (MQ below (va_Qv (fun (u : q_S) => u = Sv) (q_B D cy A) A) args s 0 0 A) A D cy 15 0 0 S 148 [(0, va_rf (z0)), (1, .int (z1)), (2, .int (z2)), (3, .int (z3)), (6, .int (z4)), (7, .int (z5)), (8, .int (z6)), (9, .int (z7))] []) (S : q_S) (l0 : Option Nat) (l1 : Int32) (l2 : Int32) (l3 : Int32) (l6 : Int32) (l7 : Int32) (l8 : Int32) (l9 : Int32) (l10 : Int32) (l11 : Int32) (l12 : Int32) (s0 : Int32) (h : m_X12_goRound_244 n k148 S l0 l1 l2 l3 l6 l7 l8 l9 l10 l11 l12 s0 = some ((), Sv)) : q_W p l e ({ frames := 1, cells := 0, slots := 0, locals := 29 } : Room) s m args below meth c (MQ below (va_Qv (fun (u : q_S) => u = Sv) (q_B D cy A) A) args s 0 0 A) A D cy 15 0 0 S 244 [(0, va_rf (l0)), (1, .int (l1)), (2, .int (l2)), (3, .int (l3)), (6, .int (l6)), (7, .int (l7)), (8, .int (l8)), (9, .int (l9)), (10, .int (l10)), (11, .int (l11)), (12, .int (l12))] [.int (s0)] := by
  unfold m_X12_goRound_244 at h
  refine q_istore X 13 [(13, .int (s0)), (0, va_rf (l0)), (1, .int (l1)), (2, .int (l2)), (3, .int (l3)), (6, .int (l6)), (7, .int (l7)), (8, .int (l8)), (9, .int (l9)), (10, .int (l10)), (11, .int (l11)), (12, .int (l12))] (by decide) (by first | rfl | simp [List.filter, q_catR]) dX12_goRound_244 ?_
  refine q_iload X 11 rfl dX12_goRound_246 ?_
  refine q_if_ne X 263 (by decide) dX12_goRound_248 (fun g1 => ?_) (fun g1 => ?_)
  · rw [if_neg g1] at h
    refine q_aload_n X 1 rfl dX12_goRound_263 ?_
    obtain ⟨a2, ea2, ma2, ka2, h⟩ := q_atE h
    refine q_getR X 17 ea2 ma2 ka2 rfl tW_X12 (by decide) (by decide) tF_X12_45 rfl dX12_goRound_264 ?_
    refine q_iload X 10 rfl dX12_goRound_267 ?_
    obtain ⟨a3, ea3, ma3, ka3, h⟩ := q_atE h
    obtain ⟨g4, h⟩ := q_ifE h
    refine q_zaload X ea3 ma3 ka3 (q_inE g4) dX12_goRound_269 ?_
    refine q_if_eq X 285 (by decide) dX12_goRound_270 (fun g5 => ?_) (fun g5 => ?_)
    · rw [if_pos g5] at h
      refine q_aload_n X 1 rfl dX12_goRound_285 ?_
      refine q_getR X 16 ea2 ma2 ka2 rfl tW_X12 (by decide) (by decide) tF_X12_42 rfl dX12_goRound_286 ?_
      refine q_iload X 9 rfl dX12_goRound_289 ?_
      obtain ⟨a6, ea6, ma6, ka6, h⟩ := q_atE h
      obtain ⟨g7, h⟩ := q_ifE h
      refine q_iaload X ea6 ma6 ka6 (q_inE g7) dX12_goRound_291 ?_
      refine q_aload_n X 1 rfl dX12_goRound_292 ?_
      refine q_getR X 16 ea2 ma2 ka2 rfl tW_X12 (by decide) (by decide) tF_X12_42 rfl dX12_goRound_293 ?_
      refine q_iload X 10 rfl dX12_goRound_296 ?_
      obtain ⟨g8, h⟩ := q_ifE h
      refine q_iaload X ea6 ma6 ka6 (q_inE g8) dX12_goRound_298 ?_
      refine q_iadd X dX12_goRound_299 ?_
      refine q_lv [1, 2, 3, 4, 5, 6, 7, 8, 9, 10, 11, 0] rfl ?_
      exact w_X12_goRound_300 X hr hl hk148 _ _ _ _ _ _ _ _ _ _ _ _ _ _ h
    · rw [if_neg g5] at h
      refine q_iconst X (2) (by decide) dX12_goRound_273 ?_
      refine q_aload_n X 1 rfl dX12_goRound_274 ?_
      refine q_getR X 16 ea2 ma2 ka2 rfl tW_X12 (by decide) (by decide) tF_X12_42 rfl dX12_goRound_275 ?_
      refine q_iload X 10 rfl dX12_goRound_278 ?_
      obtain ⟨a9, ea9, ma9, ka9, h⟩ := q_atE h
      obtain ⟨g10, h⟩ := q_ifE h
      refine q_iaload X ea9 ma9 ka9 (q_inE g10) dX12_goRound_280 ?_
      refine q_imul X dX12_goRound_281 ?_
      refine q_goto X 300 (by decide) dX12_goRound_282 ?_
      refine q_lv [1, 2, 3, 4, 5, 6, 7, 8, 9, 10, 11, 0] rfl ?_
      exact w_X12_goRound_300 X hr hl hk148 _ _ _ _ _ _ _ _ _ _ _ _ _ _ h
  · rw [if_pos g1] at h
    refine q_iconst X (2) (by decide) dX12_goRound_251 ?_
    refine q_aload_n X 1 rfl dX12_goRound_252 ?_
    obtain ⟨a11, ea11, ma11, ka11, h⟩ := q_atE h
    refine q_getR X 16 ea11 ma11 ka11 rfl tW_X12 (by decide) (by decide) tF_X12_42 rfl dX12_goRound_253 ?_
    refine q_iload X 9 rfl dX12_goRound_256 ?_
    obtain ⟨a12, ea12, ma12, ka12, h⟩ := q_atE h
    obtain ⟨g13, h⟩ := q_ifE h
    refine q_iaload X ea12 ma12 ka12 (q_inE g13) dX12_goRound_258 ?_
    refine q_imul X dX12_goRound_259 ?_
    refine q_goto X 300 (by decide) dX12_goRound_260 ?_
    refine q_lv [1, 2, 3, 4, 5, 6, 7, 8, 9, 10, 11, 0] rfl ?_
    exact w_X12_goRound_300 X hr hl hk148 _ _ _ _ _ _ _ _ _ _ _ _ _ _ h
def m_X12_goRound_188 (n : Nat) (k148 : q_S → Option Nat → Int32 → Int32 → Int32 → Int32 → Int32 → Int32 → Int32 → Option (Unit × q_S)) (S : q_S) (l0 : Option Nat) (l1 : Int32) (l2 : Int32) (l3 : Int32) (l6 : Int32) (l7 : Int32) (l8 : Int32) (l9 : Int32) (l10 : Int32) (l11 : Int32) (s0 : Int32) : Option (Unit × q_S) := (if s0 = 0 then q_at (S) (l0) 13 (fun a11 => q_at (S) (q_R (S) a11 15) 100 (fun a12 => q_if (q_in (l10) (q_N (S) a12) = true) (m_X12_goRound_244 n k148 (S) (l0) (l1) (l2) (l3) (l6) (l7) (l8) (l9) (l10) (l11) (s0) ((2 : Int32) * (q_I (S) a12 (l10).toNatClampNeg))))) else q_at (S) (l0) 13 (fun a2 => q_at (S) (q_R (S) a2 17) 102 (fun a3 => q_if (q_in (l11) (q_N (S) a3) = true) ((if (q_I (S) a3 (l11).toNatClampNeg) = 0 then q_at (S) (q_R (S) a2 15) 100 (fun a6 => q_if (q_in (l10) (q_N (S) a6) = true) (q_if (q_in (l11) (q_N (S) a6) = true) (m_X12_goRound_244 n k148 (S) (l0) (l1) (l2) (l3) (l6) (l7) (l8) (l9) (l10) (l11) (s0) ((q_I (S) a6 (l10).toNatClampNeg) + (q_I (S) a6 (l11).toNatClampNeg))))) else q_at (S) (q_R (S) a2 15) 100 (fun a9 => q_if (q_in (l11) (q_N (S) a9) = true) (m_X12_goRound_244 n k148 (S) (l0) (l1) (l2) (l3) (l6) (l7) (l8) (l9) (l10) (l11) (s0) ((2 : Int32) * (q_I (S) a9 (l11).toNatClampNeg)))))))))
set_option maxHeartbeats 4000000 in
set_option maxRecDepth 100000 in
theorem w_X12_goRound_188 (X : q_X p s m args c cX12_goRound 15 RX12 q_T D cy A) (hr : meth.sig.returnType = none) (hl : meth.locks = false)  {n : Nat} {Sv : q_S}  {k148 : q_S → Option Nat → Int32 → Int32 → Int32 → Int32 → Int32 → Int32 → Int32 → Option (Unit × q_S)} (hk148 : ∀ (S : q_S) (z0 : Option Nat) (z1 : Int32) (z2 : Int32) (z3 : Int32) (z4 : Int32) (z5 : Int32) (z6 : Int32) (z7 : Int32), k148 S z0 z1 z2 z3 z4 z5 z6 z7 = some ((), Sv) → q_W p l e ({ frames := 1, cells := 0, slots := 0, locals := 29 } : Room) s m args below meth c (MQ below (va_Qv (fun (u : q_S) => u = Sv) (q_B D cy A) A) args s 0 0 A) A D cy 15 0 0 S 148 [(0, va_rf (z0)), (1, .int (z1)), (2, .int (z2)), (3, .int (z3)), (6, .int (z4)), (7, .int (z5)), (8, .int (z6)), (9, .int (z7))] []) (S : q_S) (l0 : Option Nat) (l1 : Int32) (l2 : Int32) (l3 : Int32) (l6 : Int32) (l7 : Int32) (l8 : Int32) (l9 : Int32) (l10 : Int32) (l11 : Int32) (s0 : Int32) (h : m_X12_goRound_188 n k148 S l0 l1 l2 l3 l6 l7 l8 l9 l10 l11 s0 = some ((), Sv)) : q_W p l e ({ frames := 1, cells := 0, slots := 0, locals := 29 } : Room) s m args below meth c (MQ below (va_Qv (fun (u : q_S) => u = Sv) (q_B D cy A) A) args s 0 0 A) A D cy 15 0 0 S 188 [(0, va_rf (l0)), (1, .int (l1)), (2, .int (l2)), (3, .int (l3)), (6, .int (l6)), (7, .int (l7)), (8, .int (l8)), (9, .int (l9)), (10, .int (l10)), (11, .int (l11))] [.int (s0)] := by
  unfold m_X12_goRound_188 at h
  refine q_istore X 12 [(12, .int (s0)), (0, va_rf (l0)), (1, .int (l1)), (2, .int (l2)), (3, .int (l3)), (6, .int (l6)), (7, .int (l7)), (8, .int (l8)), (9, .int (l9)), (10, .int (l10)), (11, .int (l11))] (by decide) (by first | rfl | simp [List.filter, q_catR]) dX12_goRound_188 ?_
  refine q_iload X 0 rfl dX12_goRound_190 ?_
  refine q_if_ne X 207 (by decide) dX12_goRound_192 (fun g1 => ?_) (fun g1 => ?_)
  · rw [if_neg g1] at h
    refine q_aload_n X 1 rfl dX12_goRound_207 ?_
    obtain ⟨a2, ea2, ma2, ka2, h⟩ := q_atE h
    refine q_getR X 17 ea2 ma2 ka2 rfl tW_X12 (by decide) (by decide) tF_X12_45 rfl dX12_goRound_208 ?_
    refine q_iload X 10 rfl dX12_goRound_211 ?_
    obtain ⟨a3, ea3, ma3, ka3, h⟩ := q_atE h
    obtain ⟨g4, h⟩ := q_ifE h
    refine q_zaload X ea3 ma3 ka3 (q_inE g4) dX12_goRound_213 ?_
    refine q_if_eq X 229 (by decide) dX12_goRound_214 (fun g5 => ?_) (fun g5 => ?_)
    · rw [if_pos g5] at h
      refine q_aload_n X 1 rfl dX12_goRound_229 ?_
      refine q_getR X 15 ea2 ma2 ka2 rfl tW_X12 (by decide) (by decide) tF_X12_39 rfl dX12_goRound_230 ?_
      refine q_iload X 9 rfl dX12_goRound_233 ?_
      obtain ⟨a6, ea6, ma6, ka6, h⟩ := q_atE h
      obtain ⟨g7, h⟩ := q_ifE h
      refine q_iaload X ea6 ma6 ka6 (q_inE g7) dX12_goRound_235 ?_
      refine q_aload_n X 1 rfl dX12_goRound_236 ?_
      refine q_getR X 15 ea2 ma2 ka2 rfl tW_X12 (by decide) (by decide) tF_X12_39 rfl dX12_goRound_237 ?_
      refine q_iload X 10 rfl dX12_goRound_240 ?_
      obtain ⟨g8, h⟩ := q_ifE h
      refine q_iaload X ea6 ma6 ka6 (q_inE g8) dX12_goRound_242 ?_
      refine q_iadd X dX12_goRound_243 ?_
      refine q_lv [1, 2, 3, 4, 5, 6, 7, 8, 9, 10, 0] rfl ?_
      exact w_X12_goRound_244 X hr hl hk148 _ _ _ _ _ _ _ _ _ _ _ _ _ h
    · rw [if_neg g5] at h
      refine q_iconst X (2) (by decide) dX12_goRound_217 ?_
      refine q_aload_n X 1 rfl dX12_goRound_218 ?_
      refine q_getR X 15 ea2 ma2 ka2 rfl tW_X12 (by decide) (by decide) tF_X12_39 rfl dX12_goRound_219 ?_
      refine q_iload X 10 rfl dX12_goRound_222 ?_
      obtain ⟨a9, ea9, ma9, ka9, h⟩ := q_atE h
      obtain ⟨g10, h⟩ := q_ifE h
      refine q_iaload X ea9 ma9 ka9 (q_inE g10) dX12_goRound_224 ?_
      refine q_imul X dX12_goRound_225 ?_
      refine q_goto X 244 (by decide) dX12_goRound_226 ?_
      refine q_lv [1, 2, 3, 4, 5, 6, 7, 8, 9, 10, 0] rfl ?_
      exact w_X12_goRound_244 X hr hl hk148 _ _ _ _ _ _ _ _ _ _ _ _ _ h
  · rw [if_pos g1] at h
    refine q_iconst X (2) (by decide) dX12_goRound_195 ?_
    refine q_aload_n X 1 rfl dX12_goRound_196 ?_
    obtain ⟨a11, ea11, ma11, ka11, h⟩ := q_atE h
    refine q_getR X 15 ea11 ma11 ka11 rfl tW_X12 (by decide) (by decide) tF_X12_39 rfl dX12_goRound_197 ?_
    refine q_iload X 9 rfl dX12_goRound_200 ?_
    obtain ⟨a12, ea12, ma12, ka12, h⟩ := q_atE h
    obtain ⟨g13, h⟩ := q_ifE h
    refine q_iaload X ea12 ma12 ka12 (q_inE g13) dX12_goRound_202 ?_
    refine q_imul X dX12_goRound_203 ?_
    refine q_goto X 244 (by decide) dX12_goRound_204 ?_
    refine q_lv [1, 2, 3, 4, 5, 6, 7, 8, 9, 10, 0] rfl ?_
    exact w_X12_goRound_244 X hr hl hk148 _ _ _ _ _ _ _ _ _ _ _ _ _ h
def m_X12_goRound_148 (n : Nat) : Nat → q_S → Option Nat → Int32 → Int32 → Int32 → Int32 → Int32 → Int32 → Int32 → Option (Unit × q_S)
  | 0, _, _, _, _, _, _, _, _, _ => none
  | k + 1, S, l0, l1, l2, l3, l6, l7, l8, l9 => (if l9 ≤ l8 then some ((), S) else q_if (¬ l3 = 0) (q_if (¬ l3 = 0) (q_at (S) (l0) 13 (fun a4 => q_at (S) (q_R (S) a4 17) 102 (fun a5 => q_if (q_in (l2 + (l8 - l8 / l3 * l3)) (q_N (S) a5) = true) ((if (q_I (S) a5 (l2 + (l8 - l8 / l3 * l3)).toNatClampNeg) = 0 then m_X12_goRound_188 n (m_X12_goRound_148 n k) (S) (l0) (l1) (l2) (l3) (l6) (l7) (l8) (l9) (l2 + (l8 - l8 / l3 * l3)) (l2 + ((l8 + (1 : Int32)) - (l8 + (1 : Int32)) / l3 * l3)) ((1 : Int32)) else m_X12_goRound_188 n (m_X12_goRound_148 n k) (S) (l0) (l1) (l2) (l3) (l6) (l7) (l8) (l9) (l2 + (l8 - l8 / l3 * l3)) (l2 + ((l8 + (1 : Int32)) - (l8 + (1 : Int32)) / l3 * l3)) ((0 : Int32)))))))))
set_option maxHeartbeats 4000000 in
set_option maxRecDepth 100000 in
theorem w_X12_goRound_148 (X : q_X p s m args c cX12_goRound 15 RX12 q_T D cy A) (hr : meth.sig.returnType = none) (hl : meth.locks = false)  {n : Nat} {Sv : q_S}  : ∀ (k : Nat) (S : q_S) (l0 : Option Nat) (l1 : Int32) (l2 : Int32) (l3 : Int32) (l6 : Int32) (l7 : Int32) (l8 : Int32) (l9 : Int32), m_X12_goRound_148 n k S l0 l1 l2 l3 l6 l7 l8 l9 = some ((), Sv) → q_W p l e ({ frames := 1, cells := 0, slots := 0, locals := 29 } : Room) s m args below meth c (MQ below (va_Qv (fun (u : q_S) => u = Sv) (q_B D cy A) A) args s 0 0 A) A D cy 15 0 0 S 148 [(0, va_rf (l0)), (1, .int (l1)), (2, .int (l2)), (3, .int (l3)), (6, .int (l6)), (7, .int (l7)), (8, .int (l8)), (9, .int (l9))] [] := by
  intro k
  induction k with
  | zero => intro S l0 l1 l2 l3 l6 l7 l8 l9 h; rw [m_X12_goRound_148] at h; cases h
  | succ k ih =>
    intro S l0 l1 l2 l3 l6 l7 l8 l9 h
    rw [m_X12_goRound_148] at h
    refine q_iload X 6 rfl dX12_goRound_148 ?_
    refine q_iload X 7 rfl dX12_goRound_150 ?_
    refine q_icmp_ge X 371 (by decide) dX12_goRound_152 (fun g1 => ?_) (fun g1 => ?_)
    · rw [if_pos g1] at h
      obtain ⟨ev, eS⟩ := q_end h
      exact q_vret X hr hl eS dX12_goRound_371
    · rw [if_neg g1] at h
      refine q_iload_n X 2 rfl dX12_goRound_155 ?_
      refine q_iload X 6 rfl dX12_goRound_156 ?_
      refine q_iload_n X 3 rfl dX12_goRound_158 ?_
      obtain ⟨g2, h⟩ := q_ifE h
      refine q_irem X g2 dX12_goRound_159 ?_
      refine q_iadd X dX12_goRound_160 ?_
      refine q_istore X 10 [(10, .int (l2 + (l8 - l8 / l3 * l3))), (0, va_rf (l0)), (1, .int (l1)), (2, .int (l2)), (3, .int (l3)), (6, .int (l6)), (7, .int (l7)), (8, .int (l8)), (9, .int (l9))] (by decide) (by first | rfl | simp [List.filter, q_catR]) dX12_goRound_161 ?_
      refine q_iload_n X 3 rfl dX12_goRound_163 ?_
      refine q_iload X 7 rfl dX12_goRound_164 ?_
      refine q_iconst X (1) (by decide) dX12_goRound_166 ?_
      refine q_iadd X dX12_goRound_167 ?_
      refine q_iload_n X 4 rfl dX12_goRound_168 ?_
      obtain ⟨g3, h⟩ := q_ifE h
      refine q_irem X g3 dX12_goRound_169 ?_
      refine q_iadd X dX12_goRound_170 ?_
      refine q_istore X 11 [(11, .int (l2 + ((l8 + (1 : Int32)) - (l8 + (1 : Int32)) / l3 * l3))), (10, .int (l2 + (l8 - l8 / l3 * l3))), (0, va_rf (l0)), (1, .int (l1)), (2, .int (l2)), (3, .int (l3)), (6, .int (l6)), (7, .int (l7)), (8, .int (l8)), (9, .int (l9))] (by decide) (by first | rfl | simp [List.filter, q_catR]) dX12_goRound_171 ?_
      refine q_aload_n X 2 rfl dX12_goRound_173 ?_
      obtain ⟨a4, ea4, ma4, ka4, h⟩ := q_atE h
      refine q_getR X 17 ea4 ma4 ka4 rfl tW_X12 (by decide) (by decide) tF_X12_45 rfl dX12_goRound_174 ?_
      refine q_iload X 1 rfl dX12_goRound_177 ?_
      obtain ⟨a5, ea5, ma5, ka5, h⟩ := q_atE h
      obtain ⟨g6, h⟩ := q_ifE h
      refine q_zaload X ea5 ma5 ka5 (q_inE g6) dX12_goRound_179 ?_
      refine q_if_ne X 187 (by decide) dX12_goRound_180 (fun g7 => ?_) (fun g7 => ?_)
      · rw [if_neg g7] at h
        refine q_iconst X (0) (by decide) dX12_goRound_187 ?_
        refine q_lv [2, 3, 4, 5, 6, 7, 8, 9, 1, 0] rfl ?_
        exact w_X12_goRound_188 X hr hl ih _ _ _ _ _ _ _ _ _ _ _ _ h
      · rw [if_pos g7] at h
        refine q_iconst X (1) (by decide) dX12_goRound_183 ?_
        refine q_goto X 188 (by decide) dX12_goRound_184 ?_
        refine q_lv [2, 3, 4, 5, 6, 7, 8, 9, 1, 0] rfl ?_
        exact w_X12_goRound_188 X hr hl ih _ _ _ _ _ _ _ _ _ _ _ _ h
def m_X12_goRound_146 (n : Nat) (S : q_S) (l0 : Option Nat) (l1 : Int32) (l2 : Int32) (l3 : Int32) (l6 : Int32) (l7 : Int32) (l8 : Int32) (s0 : Int32) : Option (Unit × q_S) := m_X12_goRound_148 n n (S) (l0) (l1) (l2) (l3) (l6) (l7) (l8) (s0)
set_option maxHeartbeats 4000000 in
set_option maxRecDepth 100000 in
theorem w_X12_goRound_146 (X : q_X p s m args c cX12_goRound 15 RX12 q_T D cy A) (hr : meth.sig.returnType = none) (hl : meth.locks = false)  {n : Nat} {Sv : q_S}  (S : q_S) (l0 : Option Nat) (l1 : Int32) (l2 : Int32) (l3 : Int32) (l6 : Int32) (l7 : Int32) (l8 : Int32) (s0 : Int32) (h : m_X12_goRound_146 n S l0 l1 l2 l3 l6 l7 l8 s0 = some ((), Sv)) : q_W p l e ({ frames := 1, cells := 0, slots := 0, locals := 29 } : Room) s m args below meth c (MQ below (va_Qv (fun (u : q_S) => u = Sv) (q_B D cy A) A) args s 0 0 A) A D cy 15 0 0 S 146 [(0, va_rf (l0)), (1, .int (l1)), (2, .int (l2)), (3, .int (l3)), (6, .int (l6)), (7, .int (l7)), (8, .int (l8))] [.int (s0)] := by
  unfold m_X12_goRound_146 at h
  refine q_istore X 9 [(9, .int (s0)), (0, va_rf (l0)), (1, .int (l1)), (2, .int (l2)), (3, .int (l3)), (6, .int (l6)), (7, .int (l7)), (8, .int (l8))] (by decide) (by first | rfl | simp [List.filter, q_catR]) dX12_goRound_146 ?_
  refine q_lv [1, 2, 3, 4, 5, 6, 7, 0] rfl ?_
  exact w_X12_goRound_148 X hr hl n _ _ _ _ _ _ _ _ _ h
def m_X12_goRound_129 (n : Nat) (S : q_S) (l0 : Option Nat) (l1 : Int32) (l2 : Int32) (l3 : Int32) (l4 : Int32) (l5 : Int32) (l6 : Int32) (l7 : Int32) (s0 : Int32) : Option (Unit × q_S) := (if l5 = 0 then m_X12_goRound_146 n (S) (l0) (l1) (l2) (l3) (l6) (l7) (s0) ((l4 + l3) + (1 : Int32)) else m_X12_goRound_146 n (S) (l0) (l1) (l2) (l3) (l6) (l7) (s0) (l3))
set_option maxHeartbeats 4000000 in
set_option maxRecDepth 100000 in
theorem w_X12_goRound_129 (X : q_X p s m args c cX12_goRound 15 RX12 q_T D cy A) (hr : meth.sig.returnType = none) (hl : meth.locks = false)  {n : Nat} {Sv : q_S}  (S : q_S) (l0 : Option Nat) (l1 : Int32) (l2 : Int32) (l3 : Int32) (l4 : Int32) (l5 : Int32) (l6 : Int32) (l7 : Int32) (s0 : Int32) (h : m_X12_goRound_129 n S l0 l1 l2 l3 l4 l5 l6 l7 s0 = some ((), Sv)) : q_W p l e ({ frames := 1, cells := 0, slots := 0, locals := 29 } : Room) s m args below meth c (MQ below (va_Qv (fun (u : q_S) => u = Sv) (q_B D cy A) A) args s 0 0 A) A D cy 15 0 0 S 129 [(0, va_rf (l0)), (1, .int (l1)), (2, .int (l2)), (3, .int (l3)), (4, .int (l4)), (5, .int (l5)), (6, .int (l6)), (7, .int (l7))] [.int (s0)] := by
  unfold m_X12_goRound_129 at h
  refine q_istore X 8 [(8, .int (s0)), (0, va_rf (l0)), (1, .int (l1)), (2, .int (l2)), (3, .int (l3)), (4, .int (l4)), (5, .int (l5)), (6, .int (l6)), (7, .int (l7))] (by decide) (by first | rfl | simp [List.filter, q_catR]) dX12_goRound_129 ?_
  refine q_iload X 6 rfl dX12_goRound_131 ?_
  refine q_if_eq X 140 (by decide) dX12_goRound_133 (fun g1 => ?_) (fun g1 => ?_)
  · rw [if_pos g1] at h
    refine q_iload X 5 rfl dX12_goRound_140 ?_
    refine q_iload_n X 4 rfl dX12_goRound_142 ?_
    refine q_iadd X dX12_goRound_143 ?_
    refine q_iconst X (1) (by decide) dX12_goRound_144 ?_
    refine q_iadd X dX12_goRound_145 ?_
    refine q_lv [1, 2, 3, 4, 7, 8, 0] rfl ?_
    exact w_X12_goRound_146 X hr hl _ _ _ _ _ _ _ _ _ h
  · rw [if_neg g1] at h
    refine q_iload_n X 4 rfl dX12_goRound_136 ?_
    refine q_goto X 146 (by decide) dX12_goRound_137 ?_
    refine q_lv [1, 2, 3, 4, 7, 8, 0] rfl ?_
    exact w_X12_goRound_146 X hr hl _ _ _ _ _ _ _ _ _ h
def m_X12_goRound_114 (n : Nat) (S : q_S) (l0 : Option Nat) (l1 : Int32) (l2 : Int32) (l3 : Int32) (l4 : Int32) (l5 : Int32) (l6 : Int32) (s0 : Int32) : Option (Unit × q_S) := (if l5 = 0 then m_X12_goRound_129 n (S) (l0) (l1) (l2) (l3) (l4) (l5) (l6) (s0) (l4 + (1 : Int32)) else m_X12_goRound_129 n (S) (l0) (l1) (l2) (l3) (l4) (l5) (l6) (s0) ((0 : Int32)))
set_option maxHeartbeats 4000000 in
set_option maxRecDepth 100000 in
theorem w_X12_goRound_114 (X : q_X p s m args c cX12_goRound 15 RX12 q_T D cy A) (hr : meth.sig.returnType = none) (hl : meth.locks = false)  {n : Nat} {Sv : q_S}  (S : q_S) (l0 : Option Nat) (l1 : Int32) (l2 : Int32) (l3 : Int32) (l4 : Int32) (l5 : Int32) (l6 : Int32) (s0 : Int32) (h : m_X12_goRound_114 n S l0 l1 l2 l3 l4 l5 l6 s0 = some ((), Sv)) : q_W p l e ({ frames := 1, cells := 0, slots := 0, locals := 29 } : Room) s m args below meth c (MQ below (va_Qv (fun (u : q_S) => u = Sv) (q_B D cy A) A) args s 0 0 A) A D cy 15 0 0 S 114 [(0, va_rf (l0)), (1, .int (l1)), (2, .int (l2)), (3, .int (l3)), (4, .int (l4)), (5, .int (l5)), (6, .int (l6))] [.int (s0)] := by
  unfold m_X12_goRound_114 at h
  refine q_istore X 7 [(7, .int (s0)), (0, va_rf (l0)), (1, .int (l1)), (2, .int (l2)), (3, .int (l3)), (4, .int (l4)), (5, .int (l5)), (6, .int (l6))] (by decide) (by first | rfl | simp [List.filter, q_catR]) dX12_goRound_114 ?_
  refine q_iload X 6 rfl dX12_goRound_116 ?_
  refine q_if_eq X 125 (by decide) dX12_goRound_118 (fun g1 => ?_) (fun g1 => ?_)
  · rw [if_pos g1] at h
    refine q_iload X 5 rfl dX12_goRound_125 ?_
    refine q_iconst X (1) (by decide) dX12_goRound_127 ?_
    refine q_iadd X dX12_goRound_128 ?_
    refine q_lv [1, 2, 3, 4, 5, 6, 7, 0] rfl ?_
    exact w_X12_goRound_129 X hr hl _ _ _ _ _ _ _ _ _ _ h
  · rw [if_neg g1] at h
    refine q_iconst X (0) (by decide) dX12_goRound_121 ?_
    refine q_goto X 129 (by decide) dX12_goRound_122 ?_
    refine q_lv [1, 2, 3, 4, 5, 6, 7, 0] rfl ?_
    exact w_X12_goRound_129 X hr hl _ _ _ _ _ _ _ _ _ _ h
def m_X12_goRound_76 (n : Nat) (S : q_S) (l0 : Option Nat) (l1 : Int32) (l2 : Int32) (l3 : Int32) (l4 : Int32) (l5 : Int32) (s0 : Int32) : Option (Unit × q_S) := (if l5 = 0 then q_at (S) (l0) 13 (fun a2 => q_at (S) (q_R (S) a2 16) 100 (fun a3 => q_if (q_in (l2 + l4) (q_N (S) a3) = true) (m_X12_goRound_114 n (S) (l0) (l1) (l2) (l3) (l4) (l5) (s0) ((2 : Int32) * (q_I (S) a3 (l2 + l4).toNatClampNeg))))) else q_at (S) (l0) 13 (fun a5 => q_at (S) (q_R (S) a5 16) 100 (fun a6 => q_if (q_in (l2) (q_N (S) a6) = true) (q_if (q_in ((l2 + l3) - (1 : Int32)) (q_N (S) a6) = true) (m_X12_goRound_114 n (S) (l0) (l1) (l2) (l3) (l4) (l5) (s0) ((q_I (S) a6 (l2).toNatClampNeg) + (q_I (S) a6 ((l2 + l3) - (1 : Int32)).toNatClampNeg)))))))
set_option maxHeartbeats 4000000 in
set_option maxRecDepth 100000 in
theorem w_X12_goRound_76 (X : q_X p s m args c cX12_goRound 15 RX12 q_T D cy A) (hr : meth.sig.returnType = none) (hl : meth.locks = false)  {n : Nat} {Sv : q_S}  (S : q_S) (l0 : Option Nat) (l1 : Int32) (l2 : Int32) (l3 : Int32) (l4 : Int32) (l5 : Int32) (s0 : Int32) (h : m_X12_goRound_76 n S l0 l1 l2 l3 l4 l5 s0 = some ((), Sv)) : q_W p l e ({ frames := 1, cells := 0, slots := 0, locals := 29 } : Room) s m args below meth c (MQ below (va_Qv (fun (u : q_S) => u = Sv) (q_B D cy A) A) args s 0 0 A) A D cy 15 0 0 S 76 [(0, va_rf (l0)), (1, .int (l1)), (2, .int (l2)), (3, .int (l3)), (4, .int (l4)), (5, .int (l5))] [.int (s0)] := by
  unfold m_X12_goRound_76 at h
  refine q_istore X 6 [(6, .int (s0)), (0, va_rf (l0)), (1, .int (l1)), (2, .int (l2)), (3, .int (l3)), (4, .int (l4)), (5, .int (l5))] (by decide) (by first | rfl | simp [List.filter, q_catR]) dX12_goRound_76 ?_
  refine q_iload X 6 rfl dX12_goRound_78 ?_
  refine q_if_eq X 103 (by decide) dX12_goRound_80 (fun g1 => ?_) (fun g1 => ?_)
  · rw [if_pos g1] at h
    refine q_iconst X (2) (by decide) dX12_goRound_103 ?_
    refine q_aload_n X 1 rfl dX12_goRound_104 ?_
    obtain ⟨a2, ea2, ma2, ka2, h⟩ := q_atE h
    refine q_getR X 16 ea2 ma2 ka2 rfl tW_X12 (by decide) (by decide) tF_X12_42 rfl dX12_goRound_105 ?_
    refine q_iload_n X 3 rfl dX12_goRound_108 ?_
    refine q_iload X 5 rfl dX12_goRound_109 ?_
    refine q_iadd X dX12_goRound_111 ?_
    obtain ⟨a3, ea3, ma3, ka3, h⟩ := q_atE h
    obtain ⟨g4, h⟩ := q_ifE h
    refine q_iaload X ea3 ma3 ka3 (q_inE g4) dX12_goRound_112 ?_
    refine q_imul X dX12_goRound_113 ?_
    refine q_lv [1, 2, 3, 4, 5, 6, 0] rfl ?_
    exact w_X12_goRound_114 X hr hl _ _ _ _ _ _ _ _ _ h
  · rw [if_neg g1] at h
    refine q_aload_n X 1 rfl dX12_goRound_83 ?_
    obtain ⟨a5, ea5, ma5, ka5, h⟩ := q_atE h
    refine q_getR X 16 ea5 ma5 ka5 rfl tW_X12 (by decide) (by decide) tF_X12_42 rfl dX12_goRound_84 ?_
    refine q_iload_n X 3 rfl dX12_goRound_87 ?_
    obtain ⟨a6, ea6, ma6, ka6, h⟩ := q_atE h
    obtain ⟨g7, h⟩ := q_ifE h
    refine q_iaload X ea6 ma6 ka6 (q_inE g7) dX12_goRound_88 ?_
    refine q_aload_n X 1 rfl dX12_goRound_89 ?_
    refine q_getR X 16 ea5 ma5 ka5 rfl tW_X12 (by decide) (by decide) tF_X12_42 rfl dX12_goRound_90 ?_
    refine q_iload_n X 3 rfl dX12_goRound_93 ?_
    refine q_iload_n X 4 rfl dX12_goRound_94 ?_
    refine q_iadd X dX12_goRound_95 ?_
    refine q_iconst X (1) (by decide) dX12_goRound_96 ?_
    refine q_isub X dX12_goRound_97 ?_
    obtain ⟨g8, h⟩ := q_ifE h
    refine q_iaload X ea6 ma6 ka6 (q_inE g8) dX12_goRound_98 ?_
    refine q_iadd X dX12_goRound_99 ?_
    refine q_goto X 114 (by decide) dX12_goRound_100 ?_
    refine q_lv [1, 2, 3, 4, 5, 6, 0] rfl ?_
    exact w_X12_goRound_114 X hr hl _ _ _ _ _ _ _ _ _ h
def m_X12_goRound_38 (n : Nat) (S : q_S) (l0 : Option Nat) (l1 : Int32) (l2 : Int32) (l3 : Int32) (l4 : Int32) (s0 : Int32) : Option (Unit × q_S) := (if s0 = 0 then q_at (S) (l0) 13 (fun a2 => q_at (S) (q_R (S) a2 15) 100 (fun a3 => q_if (q_in (l2 + l4) (q_N (S) a3) = true) (m_X12_goRound_76 n (S) (l0) (l1) (l2) (l3) (l4) (s0) ((2 : Int32) * (q_I (S) a3 (l2 + l4).toNatClampNeg))))) else q_at (S) (l0) 13 (fun a5 => q_at (S) (q_R (S) a5 15) 100 (fun a6 => q_if (q_in (l2) (q_N (S) a6) = true) (q_if (q_in ((l2 + l3) - (1 : Int32)) (q_N (S) a6) = true) (m_X12_goRound_76 n (S) (l0) (l1) (l2) (l3) (l4) (s0) ((q_I (S) a6 (l2).toNatClampNeg) + (q_I (S) a6 ((l2 + l3) - (1 : Int32)).toNatClampNeg)))))))
set_option maxHeartbeats 4000000 in
set_option maxRecDepth 100000 in
theorem w_X12_goRound_38 (X : q_X p s m args c cX12_goRound 15 RX12 q_T D cy A) (hr : meth.sig.returnType = none) (hl : meth.locks = false)  {n : Nat} {Sv : q_S}  (S : q_S) (l0 : Option Nat) (l1 : Int32) (l2 : Int32) (l3 : Int32) (l4 : Int32) (s0 : Int32) (h : m_X12_goRound_38 n S l0 l1 l2 l3 l4 s0 = some ((), Sv)) : q_W p l e ({ frames := 1, cells := 0, slots := 0, locals := 29 } : Room) s m args below meth c (MQ below (va_Qv (fun (u : q_S) => u = Sv) (q_B D cy A) A) args s 0 0 A) A D cy 15 0 0 S 38 [(0, va_rf (l0)), (1, .int (l1)), (2, .int (l2)), (3, .int (l3)), (4, .int (l4))] [.int (s0)] := by
  unfold m_X12_goRound_38 at h
  refine q_istore X 5 [(5, .int (s0)), (0, va_rf (l0)), (1, .int (l1)), (2, .int (l2)), (3, .int (l3)), (4, .int (l4))] (by decide) (by first | rfl | simp [List.filter, q_catR]) dX12_goRound_38 ?_
  refine q_iload X 0 rfl dX12_goRound_40 ?_
  refine q_if_eq X 65 (by decide) dX12_goRound_42 (fun g1 => ?_) (fun g1 => ?_)
  · rw [if_pos g1] at h
    refine q_iconst X (2) (by decide) dX12_goRound_65 ?_
    refine q_aload_n X 1 rfl dX12_goRound_66 ?_
    obtain ⟨a2, ea2, ma2, ka2, h⟩ := q_atE h
    refine q_getR X 15 ea2 ma2 ka2 rfl tW_X12 (by decide) (by decide) tF_X12_39 rfl dX12_goRound_67 ?_
    refine q_iload_n X 3 rfl dX12_goRound_70 ?_
    refine q_iload X 5 rfl dX12_goRound_71 ?_
    refine q_iadd X dX12_goRound_73 ?_
    obtain ⟨a3, ea3, ma3, ka3, h⟩ := q_atE h
    obtain ⟨g4, h⟩ := q_ifE h
    refine q_iaload X ea3 ma3 ka3 (q_inE g4) dX12_goRound_74 ?_
    refine q_imul X dX12_goRound_75 ?_
    refine q_lv [1, 2, 3, 4, 5, 0] rfl ?_
    exact w_X12_goRound_76 X hr hl _ _ _ _ _ _ _ _ h
  · rw [if_neg g1] at h
    refine q_aload_n X 1 rfl dX12_goRound_45 ?_
    obtain ⟨a5, ea5, ma5, ka5, h⟩ := q_atE h
    refine q_getR X 15 ea5 ma5 ka5 rfl tW_X12 (by decide) (by decide) tF_X12_39 rfl dX12_goRound_46 ?_
    refine q_iload_n X 3 rfl dX12_goRound_49 ?_
    obtain ⟨a6, ea6, ma6, ka6, h⟩ := q_atE h
    obtain ⟨g7, h⟩ := q_ifE h
    refine q_iaload X ea6 ma6 ka6 (q_inE g7) dX12_goRound_50 ?_
    refine q_aload_n X 1 rfl dX12_goRound_51 ?_
    refine q_getR X 15 ea5 ma5 ka5 rfl tW_X12 (by decide) (by decide) tF_X12_39 rfl dX12_goRound_52 ?_
    refine q_iload_n X 3 rfl dX12_goRound_55 ?_
    refine q_iload_n X 4 rfl dX12_goRound_56 ?_
    refine q_iadd X dX12_goRound_57 ?_
    refine q_iconst X (1) (by decide) dX12_goRound_58 ?_
    refine q_isub X dX12_goRound_59 ?_
    obtain ⟨g8, h⟩ := q_ifE h
    refine q_iaload X ea6 ma6 ka6 (q_inE g8) dX12_goRound_60 ?_
    refine q_iadd X dX12_goRound_61 ?_
    refine q_goto X 76 (by decide) dX12_goRound_62 ?_
    refine q_lv [1, 2, 3, 4, 5, 0] rfl ?_
    exact w_X12_goRound_76 X hr hl _ _ _ _ _ _ _ _ h
def m_X12_goRound_27 (n : Nat) (S : q_S) (l0 : Option Nat) (l1 : Int32) (l2 : Int32) (l3 : Int32) (l4 : Int32) : Option (Unit × q_S) := (if l4 = l3 then m_X12_goRound_38 n (S) (l0) (l1) (l2) (l3) (l4) ((1 : Int32)) else m_X12_goRound_38 n (S) (l0) (l1) (l2) (l3) (l4) ((0 : Int32)))
set_option maxHeartbeats 4000000 in
set_option maxRecDepth 100000 in
theorem w_X12_goRound_27 (X : q_X p s m args c cX12_goRound 15 RX12 q_T D cy A) (hr : meth.sig.returnType = none) (hl : meth.locks = false)  {n : Nat} {Sv : q_S}  (S : q_S) (l0 : Option Nat) (l1 : Int32) (l2 : Int32) (l3 : Int32) (l4 : Int32) (h : m_X12_goRound_27 n S l0 l1 l2 l3 l4 = some ((), Sv)) : q_W p l e ({ frames := 1, cells := 0, slots := 0, locals := 29 } : Room) s m args below meth c (MQ below (va_Qv (fun (u : q_S) => u = Sv) (q_B D cy A) A) args s 0 0 A) A D cy 15 0 0 S 27 [(0, va_rf (l0)), (1, .int (l1)), (2, .int (l2)), (3, .int (l3)), (4, .int (l4))] [] := by
  unfold m_X12_goRound_27 at h
  refine q_iload X 4 rfl dX12_goRound_27 ?_
  refine q_iload_n X 3 rfl dX12_goRound_29 ?_
  refine q_icmp_ne X 37 (by decide) dX12_goRound_30 (fun g1 => ?_) (fun g1 => ?_)
  · rw [if_neg g1] at h
    refine q_iconst X (0) (by decide) dX12_goRound_37 ?_
    exact w_X12_goRound_38 X hr hl _ _ _ _ _ _ _ h
  · rw [if_pos g1] at h
    refine q_iconst X (1) (by decide) dX12_goRound_33 ?_
    refine q_goto X 38 (by decide) dX12_goRound_34 ?_
    exact w_X12_goRound_38 X hr hl _ _ _ _ _ _ _ h
def m_X12_goRound_3 (n : Nat) : Nat → q_S → Option Nat → Int32 → Int32 → Int32 → Int32 → Option (Unit × q_S)
  | 0, _, _, _, _, _, _ => none
  | k + 1, S, l0, l1, l2, l3, l4 => (if l3 ≤ l4 then m_X12_goRound_27 n (S) (l0) (l1) (l2) (l3) (l4) else q_at (S) (l0) 13 (fun a2 => q_at (S) (q_R (S) a2 17) 102 (fun a3 => q_if (q_in (l2 + l4) (q_N (S) a3) = true) ((if (q_I (S) a3 (l2 + l4).toNatClampNeg) = 0 then m_X12_goRound_3 n k (S) (l0) (l1) (l2) (l3) (l4 + (1)) else m_X12_goRound_27 n (S) (l0) (l1) (l2) (l3) (l4))))))
set_option maxHeartbeats 4000000 in
set_option maxRecDepth 100000 in
theorem w_X12_goRound_3 (X : q_X p s m args c cX12_goRound 15 RX12 q_T D cy A) (hr : meth.sig.returnType = none) (hl : meth.locks = false)  {n : Nat} {Sv : q_S}  : ∀ (k : Nat) (S : q_S) (l0 : Option Nat) (l1 : Int32) (l2 : Int32) (l3 : Int32) (l4 : Int32), m_X12_goRound_3 n k S l0 l1 l2 l3 l4 = some ((), Sv) → q_W p l e ({ frames := 1, cells := 0, slots := 0, locals := 29 } : Room) s m args below meth c (MQ below (va_Qv (fun (u : q_S) => u = Sv) (q_B D cy A) A) args s 0 0 A) A D cy 15 0 0 S 3 [(0, va_rf (l0)), (1, .int (l1)), (2, .int (l2)), (3, .int (l3)), (4, .int (l4))] [] := by
  intro k
  induction k with
  | zero => intro S l0 l1 l2 l3 l4 h; rw [m_X12_goRound_3] at h; cases h
  | succ k ih =>
    intro S l0 l1 l2 l3 l4 h
    rw [m_X12_goRound_3] at h
    refine q_iload X 4 rfl dX12_goRound_3 ?_
    refine q_iload_n X 3 rfl dX12_goRound_5 ?_
    refine q_icmp_ge X 27 (by decide) dX12_goRound_6 (fun g1 => ?_) (fun g1 => ?_)
    · rw [if_pos g1] at h
      exact w_X12_goRound_27 X hr hl _ _ _ _ _ _ h
    · rw [if_neg g1] at h
      refine q_aload_n X 0 rfl dX12_goRound_9 ?_
      obtain ⟨a2, ea2, ma2, ka2, h⟩ := q_atE h
      refine q_getR X 17 ea2 ma2 ka2 rfl tW_X12 (by decide) (by decide) tF_X12_45 rfl dX12_goRound_10 ?_
      refine q_iload_n X 2 rfl dX12_goRound_13 ?_
      refine q_iload X 4 rfl dX12_goRound_14 ?_
      refine q_iadd X dX12_goRound_16 ?_
      obtain ⟨a3, ea3, ma3, ka3, h⟩ := q_atE h
      obtain ⟨g4, h⟩ := q_ifE h
      refine q_zaload X ea3 ma3 ka3 (q_inE g4) dX12_goRound_17 ?_
      refine q_if_ne X 27 (by decide) dX12_goRound_18 (fun g5 => ?_) (fun g5 => ?_)
      · rw [if_neg g5] at h
        exact w_X12_goRound_27 X hr hl _ _ _ _ _ _ h
      · rw [if_pos g5] at h
        refine q_iinc X 4 4 (l4 + (1)) [(4, .int (l4 + (1))), (0, va_rf (l0)), (1, .int (l1)), (2, .int (l2)), (3, .int (l3))] rfl (congrArg (fun z => l4 + z) (show Int32.ofInt (1) = (1) by decide)) (by decide) (by first | rfl | simp [List.filter, q_catR]) dX12_goRound_21 ?_
        refine q_goto X 3 (by decide) dX12_goRound_24 ?_
        refine q_lv [1, 2, 3, 4, 0] rfl ?_
        exact ih _ _ _ _ _ _ h
def m_X12_goRound (n : Nat) (S : q_S) (o : Nat) (p0 : Int32) (p1 : Int32) (p2 : Int32) : Option (Unit × q_S) := m_X12_goRound_3 n n (S) (some o) (p0) (p1) (p2) ((0 : Int32))
set_option maxHeartbeats 4000000 in
set_option maxRecDepth 100000 in
theorem w_X12_goRound (X : q_X p s m args c cX12_goRound 15 RX12 q_T D cy A) (hr : meth.sig.returnType = none) (hl : meth.locks = false)  {n : Nat} {S Sv : q_S} {o : Nat} {p0 : Int32} {p1 : Int32} {p2 : Int32} (h : m_X12_goRound n S o p0 p1 p2 = some ((), Sv)) : q_W p l e ({ frames := 1, cells := 0, slots := 0, locals := 29 } : Room) s m args below meth c (MQ below (va_Qv (fun (u : q_S) => u = Sv) (q_B D cy A) A) args s 0 0 A) A D cy 15 0 0 S 0 [(0, va_rf (some o)), (1, .int (p0)), (2, .int (p1)), (3, .int (p2))] [] := by
  unfold m_X12_goRound at h
  refine q_iconst X (0) (by decide) dX12_goRound_0 ?_
  refine q_istore X 4 [(4, .int ((0 : Int32))), (0, va_rf (some o)), (1, .int (p0)), (2, .int (p1)), (3, .int (p2))] (by decide) (by first | rfl | simp [List.filter, q_catR]) dX12_goRound_1 ?_
  refine q_lv [1, 2, 3, 4, 0] rfl ?_
  exact w_X12_goRound_3 X hr hl n _ _ _ _ _ _ h
theorem tD_X12_goRound : yX12_goRound.cls ≠ "java/lang/invoke/MethodHandle" ∧ yX12_goRound.cls ≠ "java/lang/invoke/VarHandle" ∧ (parseMethodDescriptor yX12_goRound.desc).map (fun d => d.parameters.length) = some 3 := by decide +kernel
theorem c_X12_goRound {l : Launch} {D : va_G} {cy : Nat → ClassId} {n : Nat} {S Sv : q_S} {o : Nat} {p0 : Int32} {p1 : Int32} {p2 : Int32} (h : m_X12_goRound n S o p0 p1 p2 = some ((), Sv)) : q_MV l yX12_goRound (q_ws yX12_goRound cX12_goRound 15 (none)) ({ frames := 1, cells := 0, slots := 0, locals := 29 } : Room) D cy [.ref o, .int (p0), .int (p1), .int (p2)] S Sv := by
  exact q_MV_of (by decide +kernel) (Nat.le_of_ble_eq_true rfl) (fun p e s m args below meth c A X hr hl => w_X12_goRound X hr hl h)
/-! TrueOutlinesModel.goes(I)Z -/
def m_X12_goes_52 (n : Nat) (S : q_S) (s0 : Int32) : Option (Int32 × q_S) := q_if (s0 = 0 ∨ s0 = 1) (some (s0, S))
set_option maxHeartbeats 4000000 in
set_option maxRecDepth 100000 in
theorem w_X12_goes_52 (X : q_X p s m args c cX12_goes 2 RX12 q_T D cy A) (hr : meth.sig.returnType = (some .boolean)) (hl : meth.locks = false)  {n : Nat} {Sv : q_S} {rv : Int32}  (S : q_S) (s0 : Int32) (h : m_X12_goes_52 n S s0 = some (rv, Sv)) : q_W p l e ({ frames := 4, cells := 0, slots := 0, locals := 97 } : Room) s m args below meth c (MQ below (va_Qi (fun (r : Int32) (u : q_S) => r = rv ∧ u = Sv) (q_B D cy A) A) args s 0 0 A) A D cy 2 0 0 S 52 [] [.int (s0)] := by
  unfold m_X12_goes_52 at h
  obtain ⟨g1, h⟩ := q_ifE h
  obtain ⟨ev, eS⟩ := q_end h
  exact q_iret X hr hl (q_bool g1) ev eS dX12_goes_52
def m_X12_goes_51 (n : Nat) (S : q_S) : Option (Int32 × q_S) := m_X12_goes_52 n (S) ((0 : Int32))
set_option maxHeartbeats 4000000 in
set_option maxRecDepth 100000 in
theorem w_X12_goes_51 (X : q_X p s m args c cX12_goes 2 RX12 q_T D cy A) (hr : meth.sig.returnType = (some .boolean)) (hl : meth.locks = false)  {n : Nat} {Sv : q_S} {rv : Int32}  (S : q_S) (h : m_X12_goes_51 n S = some (rv, Sv)) : q_W p l e ({ frames := 4, cells := 0, slots := 0, locals := 97 } : Room) s m args below meth c (MQ below (va_Qi (fun (r : Int32) (u : q_S) => r = rv ∧ u = Sv) (q_B D cy A) A) args s 0 0 A) A D cy 2 0 0 S 51 [] [] := by
  unfold m_X12_goes_51 at h
  refine q_iconst X (0) (by decide) dX12_goes_51 ?_
  exact w_X12_goes_52 X hr hl _ _ h
def m_X12_goes (n : Nat) (S : q_S) (o : Nat) (p0 : Int32) : Option (Int32 × q_S) := q_at (S) (some o) 13 (fun a1 => q_at (S) (q_R (S) a1 9) 102 (fun a2 => q_if (q_in (p0) (q_N (S) a2) = true) ((if (q_I (S) a2 (p0).toNatClampNeg) = 0 then m_X12_goes_51 n (S) else q_b (m_X12_lookData n (S) a1 (p0)) (fun r5 S6 => (if r5 = 0 then m_X12_goes_51 n (S6) else q_at (S6) (some o) 13 (fun a9 => (if (q_I (S6) a9 22) ≤ (q_I (S6) a9 21) then m_X12_goes_51 n (S6) else q_b (m_X12_find n (S6) a9 ((1735162214 : Int64))) (fun r11 S12 => q_at (S12) (q_R (S6) a9 7) 100 (fun a14 => q_if (q_in (r11) (q_N (S12) a14) = true) ((if (q_I (S12) a14 (r11).toNatClampNeg) < (q_I (S6) a9 22) then m_X12_goes_51 n (S12) else m_X12_goes_52 n (S12) ((1 : Int32))))))))))))))
set_option maxHeartbeats 4000000 in
set_option maxRecDepth 100000 in
theorem w_X12_goes (X : q_X p s m args c cX12_goes 2 RX12 q_T D cy A) (hr : meth.sig.returnType = (some .boolean)) (hl : meth.locks = false)  {n : Nat} {S Sv : q_S} {rv : Int32} {o : Nat} {p0 : Int32} (h : m_X12_goes n S o p0 = some (rv, Sv)) : q_W p l e ({ frames := 4, cells := 0, slots := 0, locals := 97 } : Room) s m args below meth c (MQ below (va_Qi (fun (r : Int32) (u : q_S) => r = rv ∧ u = Sv) (q_B D cy A) A) args s 0 0 A) A D cy 2 0 0 S 0 [(0, va_rf (some o)), (1, .int (p0))] [] := by
  unfold m_X12_goes at h
  refine q_aload_n X 0 rfl dX12_goes_0 ?_
  obtain ⟨a1, ea1, ma1, ka1, h⟩ := q_atE h
  refine q_getR X 9 ea1 ma1 ka1 rfl tW_X12 (by decide) (by decide) tF_X12_26 rfl dX12_goes_1 ?_
  refine q_iload_n X 1 rfl dX12_goes_4 ?_
  obtain ⟨a2, ea2, ma2, ka2, h⟩ := q_atE h
  obtain ⟨g3, h⟩ := q_ifE h
  refine q_zaload X ea2 ma2 ka2 (q_inE g3) dX12_goes_5 ?_
  refine q_if_eq X 51 (by decide) dX12_goes_6 (fun g4 => ?_) (fun g4 => ?_)
  · rw [if_pos g4] at h
    refine q_lv [] rfl ?_
    exact w_X12_goes_51 X hr hl _ h
  · rw [if_neg g4] at h
    refine q_aload_n X 0 rfl dX12_goes_9 ?_
    refine q_iload_n X 1 rfl dX12_goes_10 ?_
    obtain ⟨r5, S6, c7, h⟩ := q_bE h
    refine q_cVI X (As := [.int (p0)]) ea1 ma1 ka1 rfl (by decide) (c_X12_lookData c7) (q_cwV X tK_X12_lookData tM_X12_216 tI_X12_lookData tV_X12_lookData tN_X12 rfl rfl tD_X12_lookData ⟨Nat.le_of_ble_eq_true rfl, Nat.le_of_ble_eq_true rfl⟩) rfl rfl (by first | exact Nat.le_of_ble_eq_true rfl | (simp only [List.map, q_catR]; exact Nat.le_of_ble_eq_true rfl)) ⟨Nat.zero_le _, Nat.zero_le _⟩ dX12_goes_11 ?_
    refine q_if_eq X 51 (by decide) dX12_goes_14 (fun g8 => ?_) (fun g8 => ?_)
    · rw [if_pos g8] at h
      refine q_lv [] rfl ?_
      exact w_X12_goes_51 X hr hl _ h
    · rw [if_neg g8] at h
      refine q_aload_n X 0 rfl dX12_goes_17 ?_
      obtain ⟨a9, ea9, ma9, ka9, h⟩ := q_atE h
      refine q_getI X 21 ea9 ma9 ka9 rfl tW_X12 (by decide) (by decide) tF_X12_191 rfl dX12_goes_18 ?_
      refine q_aload_n X 0 rfl dX12_goes_21 ?_
      refine q_getI X 22 ea9 ma9 ka9 rfl tW_X12 (by decide) (by decide) tF_X12_194 rfl dX12_goes_22 ?_
      refine q_icmp_ge X 51 (by decide) dX12_goes_25 (fun g10 => ?_) (fun g10 => ?_)
      · rw [if_pos g10] at h
        refine q_lv [] rfl ?_
        exact w_X12_goes_51 X hr hl _ h
      · rw [if_neg g10] at h
        refine q_aload_n X 0 rfl dX12_goes_28 ?_
        refine q_getI X 22 ea9 ma9 ka9 rfl tW_X12 (by decide) (by decide) tF_X12_194 rfl dX12_goes_29 ?_
        refine q_aload_n X 0 rfl dX12_goes_32 ?_
        refine q_getR X 7 ea9 ma9 ka9 rfl tW_X12 (by decide) (by decide) tF_X12_23 rfl dX12_goes_33 ?_
        refine q_aload_n X 0 rfl dX12_goes_36 ?_
        refine q_ldc2_w X (1735162214) tC_X12_197 dX12_goes_37 ?_
        obtain ⟨r11, S12, c13, h⟩ := q_bE h
        refine q_cVI X (As := [.long ((1735162214 : Int64))]) ea9 ma9 ka9 rfl (by decide) (c_X12_find c13) (q_cwV X tK_X12_find tM_X12_127 tI_X12_find tV_X12_find tN_X12 rfl rfl tD_X12_find ⟨Nat.le_of_ble_eq_true rfl, Nat.le_of_ble_eq_true rfl⟩) rfl rfl (by first | exact Nat.le_of_ble_eq_true rfl | (simp only [List.map, q_catR]; exact Nat.le_of_ble_eq_true rfl)) ⟨Nat.zero_le _, Nat.zero_le _⟩ dX12_goes_40 ?_
        obtain ⟨a14, ea14, ma14, ka14, h⟩ := q_atE h
        obtain ⟨g15, h⟩ := q_ifE h
        refine q_iaload X ea14 ma14 ka14 (q_inE g15) dX12_goes_43 ?_
        refine q_icmp_gt X 51 (by decide) dX12_goes_44 (fun g16 => ?_) (fun g16 => ?_)
        · rw [if_pos g16] at h
          refine q_lv [] rfl ?_
          exact w_X12_goes_51 X hr hl _ h
        · rw [if_neg g16] at h
          refine q_iconst X (1) (by decide) dX12_goes_47 ?_
          refine q_goto X 52 (by decide) dX12_goes_48 ?_
          refine q_lv [] rfl ?_
          exact w_X12_goes_52 X hr hl _ _ h
theorem tD_X12_goes : yX12_goes.cls ≠ "java/lang/invoke/MethodHandle" ∧ yX12_goes.cls ≠ "java/lang/invoke/VarHandle" ∧ (parseMethodDescriptor yX12_goes.desc).map (fun d => d.parameters.length) = some 1 := by decide +kernel
theorem c_X12_goes {l : Launch} {D : va_G} {cy : Nat → ClassId} {n : Nat} {S Sv : q_S} {rv : Int32} {o : Nat} {p0 : Int32} (h : m_X12_goes n S o p0 = some (rv, Sv)) : q_MI l yX12_goes (q_ws yX12_goes cX12_goes 2 ((some .boolean))) ({ frames := 4, cells := 0, slots := 0, locals := 97 } : Room) D cy [.ref o, .int (p0)] S rv Sv := by
  exact q_MI_of (by decide +kernel) (Nat.le_of_ble_eq_true rfl) (fun p e s m args below meth c A X hr hl => w_X12_goes X hr hl h)
/-! TrueOutlinesModel.kern(II)I -/
def m_X12_kern_130 (n : Nat) (S : q_S) : Option (Int32 × q_S) := some ((0 : Int32), S)
set_option maxHeartbeats 4000000 in
set_option maxRecDepth 100000 in
theorem w_X12_kern_130 (X : q_X p s m args c cX12_kern 9 RX12 q_T D cy A) (hr : meth.sig.returnType = (some .int)) (hl : meth.locks = false)  {n : Nat} {Sv : q_S} {rv : Int32}  (S : q_S) (h : m_X12_kern_130 n S = some (rv, Sv)) : q_W p l e ({ frames := 2, cells := 0, slots := 0, locals := 50 } : Room) s m args below meth c (MQ below (va_Qi (fun (r : Int32) (u : q_S) => r = rv ∧ u = Sv) (q_B D cy A) A) args s 0 0 A) A D cy 9 0 0 S 130 [] [] := by
  unfold m_X12_kern_130 at h
  refine q_iconst X (0) (by decide) dX12_kern_130 ?_
  obtain ⟨ev, eS⟩ := q_end h
  exact q_iret X hr hl rfl ev eS dX12_kern_131
def m_X12_kern_124 (n : Nat) (k31 : q_S → Option Nat → Int32 → Int32 → Int32 → Int32 → Int32 → Option (Int32 × q_S)) (S : q_S) (l0 : Option Nat) (l1 : Int32) (l2 : Int32) (l3 : Int32) (l4 : Int32) (l5 : Int32) : Option (Int32 × q_S) := k31 (S) (l0) (l1) (l2) (l3) (l4) (l5 + (1))
set_option maxHeartbeats 4000000 in
set_option maxRecDepth 100000 in
theorem w_X12_kern_124 (X : q_X p s m args c cX12_kern 9 RX12 q_T D cy A) (hr : meth.sig.returnType = (some .int)) (hl : meth.locks = false)  {n : Nat} {Sv : q_S} {rv : Int32}  {k31 : q_S → Option Nat → Int32 → Int32 → Int32 → Int32 → Int32 → Option (Int32 × q_S)} (hk31 : ∀ (S : q_S) (z0 : Option Nat) (z1 : Int32) (z2 : Int32) (z3 : Int32) (z4 : Int32) (z5 : Int32), k31 S z0 z1 z2 z3 z4 z5 = some (rv, Sv) → q_W p l e ({ frames := 2, cells := 0, slots := 0, locals := 50 } : Room) s m args below meth c (MQ below (va_Qi (fun (r : Int32) (u : q_S) => r = rv ∧ u = Sv) (q_B D cy A) A) args s 0 0 A) A D cy 9 0 0 S 31 [(0, va_rf (z0)), (1, .int (z1)), (2, .int (z2)), (3, .int (z3)), (4, .int (z4)), (5, .int (z5))] []) (S : q_S) (l0 : Option Nat) (l1 : Int32) (l2 : Int32) (l3 : Int32) (l4 : Int32) (l5 : Int32) (h : m_X12_kern_124 n k31 S l0 l1 l2 l3 l4 l5 = some (rv, Sv)) : q_W p l e ({ frames := 2, cells := 0, slots := 0, locals := 50 } : Room) s m args below meth c (MQ below (va_Qi (fun (r : Int32) (u : q_S) => r = rv ∧ u = Sv) (q_B D cy A) A) args s 0 0 A) A D cy 9 0 0 S 124 [(0, va_rf (l0)), (1, .int (l1)), (2, .int (l2)), (3, .int (l3)), (4, .int (l4)), (5, .int (l5))] [] := by
  unfold m_X12_kern_124 at h
  refine q_iinc X 5 5 (l5 + (1)) [(5, .int (l5 + (1))), (0, va_rf (l0)), (1, .int (l1)), (2, .int (l2)), (3, .int (l3)), (4, .int (l4))] rfl (congrArg (fun z => l5 + z) (show Int32.ofInt (1) = (1) by decide)) (by decide) (by first | rfl | simp [List.filter, q_catR]) dX12_kern_124 ?_
  refine q_goto X 31 (by decide) dX12_kern_127 ?_
  refine q_lv [1, 2, 3, 4, 5, 0] rfl ?_
  exact hk31 _ _ _ _ _ _ _ h
def m_X12_kern_31 (n : Nat) : Nat → q_S → Option Nat → Int32 → Int32 → Int32 → Int32 → Int32 → Option (Int32 × q_S)
  | 0, _, _, _, _, _, _, _ => none
  | k + 1, S, l0, l1, l2, l3, l4, l5 => (if l4 ≤ l5 then m_X12_kern_130 n (S) else q_at (S) (l0) 13 (fun a2 => (if (q_I (S) a2 8) = 0 then q_b (m_X12_two n (S) a2 (l3) ((18 : Int64) + ((6 : Int64) * (l5.toInt64)))) (fun r4 S5 => q_at (S5) (l0) 13 (fun a7 => q_b (m_X12_two n (S5) a7 (l3) ((20 : Int64) + ((6 : Int64) * (l5.toInt64)))) (fun r8 S9 => q_at (S9) (l0) 13 (fun a11 => q_b (m_X12_two n (S9) a11 (l3) ((22 : Int64) + ((6 : Int64) * (l5.toInt64)))) (fun r12 S13 => q_at (S13) (l0) 13 (fun a15 => (if (q_I (S13) a15 8) = 0 then (if r4 = l1 then (if r8 = l2 then q_b (m_X12_signed n (S13) (r12)) (fun r19 S20 => some (r19, S20)) else m_X12_kern_124 n (m_X12_kern_31 n k) (S13) (l0) (l1) (l2) (l3) (l4) (l5)) else m_X12_kern_124 n (m_X12_kern_31 n k) (S13) (l0) (l1) (l2) (l3) (l4) (l5)) else m_X12_kern_124 n (m_X12_kern_31 n k) (S13) (l0) (l1) (l2) (l3) (l4) (l5)))))))) else m_X12_kern_130 n (S))))
set_option maxHeartbeats 4000000 in
set_option maxRecDepth 100000 in
theorem w_X12_kern_31 (X : q_X p s m args c cX12_kern 9 RX12 q_T D cy A) (hr : meth.sig.returnType = (some .int)) (hl : meth.locks = false)  {n : Nat} {Sv : q_S} {rv : Int32}  : ∀ (k : Nat) (S : q_S) (l0 : Option Nat) (l1 : Int32) (l2 : Int32) (l3 : Int32) (l4 : Int32) (l5 : Int32), m_X12_kern_31 n k S l0 l1 l2 l3 l4 l5 = some (rv, Sv) → q_W p l e ({ frames := 2, cells := 0, slots := 0, locals := 50 } : Room) s m args below meth c (MQ below (va_Qi (fun (r : Int32) (u : q_S) => r = rv ∧ u = Sv) (q_B D cy A) A) args s 0 0 A) A D cy 9 0 0 S 31 [(0, va_rf (l0)), (1, .int (l1)), (2, .int (l2)), (3, .int (l3)), (4, .int (l4)), (5, .int (l5))] [] := by
  intro k
  induction k with
  | zero => intro S l0 l1 l2 l3 l4 l5 h; rw [m_X12_kern_31] at h; cases h
  | succ k ih =>
    intro S l0 l1 l2 l3 l4 l5 h
    rw [m_X12_kern_31] at h
    refine q_iload X 5 rfl dX12_kern_31 ?_
    refine q_iload X 4 rfl dX12_kern_33 ?_
    refine q_icmp_ge X 130 (by decide) dX12_kern_35 (fun g1 => ?_) (fun g1 => ?_)
    · rw [if_pos g1] at h
      refine q_lv [] rfl ?_
      exact w_X12_kern_130 X hr hl _ h
    · rw [if_neg g1] at h
      refine q_aload_n X 0 rfl dX12_kern_38 ?_
      obtain ⟨a2, ea2, ma2, ka2, h⟩ := q_atE h
      refine q_getI X 8 ea2 ma2 ka2 rfl tW_X12 (by decide) (by decide) tF_X12_114 rfl dX12_kern_39 ?_
      refine q_if_ne X 130 (by decide) dX12_kern_42 (fun g3 => ?_) (fun g3 => ?_)
      · rw [if_neg g3] at h
        refine q_lv [] rfl ?_
        exact w_X12_kern_130 X hr hl _ h
      · rw [if_pos g3] at h
        refine q_aload_n X 0 rfl dX12_kern_45 ?_
        refine q_iload_n X 3 rfl dX12_kern_46 ?_
        refine q_ldc2_w X (18) tC_X12_292 dX12_kern_47 ?_
        refine q_ldc2_w X (6) tC_X12_261 dX12_kern_50 ?_
        refine q_iload X 5 rfl dX12_kern_53 ?_
        refine q_i2l X dX12_kern_55 ?_
        refine q_lmul X dX12_kern_56 ?_
        refine q_ladd X dX12_kern_57 ?_
        obtain ⟨r4, S5, c6, h⟩ := q_bE h
        refine q_cVI X (As := [.int (l3), .long ((18 : Int64) + ((6 : Int64) * (l5.toInt64)))]) ea2 ma2 ka2 rfl (by decide) (c_X12_two c6) (q_cwV X tK_X12_two tM_X12_169 tI_X12_two tV_X12_two tN_X12 rfl rfl tD_X12_two ⟨Nat.le_of_ble_eq_true rfl, Nat.le_of_ble_eq_true rfl⟩) rfl rfl (by first | exact Nat.le_of_ble_eq_true rfl | (simp only [List.map, q_catR]; exact Nat.le_of_ble_eq_true rfl)) ⟨Nat.zero_le _, Nat.zero_le _⟩ dX12_kern_58 ?_
        refine q_istore X 6 [(6, .int (r4)), (0, va_rf (l0)), (1, .int (l1)), (2, .int (l2)), (3, .int (l3)), (4, .int (l4)), (5, .int (l5))] (by decide) (by first | rfl | simp [List.filter, q_catR]) dX12_kern_61 ?_
        refine q_aload_n X 1 rfl dX12_kern_63 ?_
        refine q_iload_n X 4 rfl dX12_kern_64 ?_
        refine q_ldc2_w X (20) tC_X12_269 dX12_kern_65 ?_
        refine q_ldc2_w X (6) tC_X12_261 dX12_kern_68 ?_
        refine q_iload X 6 rfl dX12_kern_71 ?_
        refine q_i2l X dX12_kern_73 ?_
        refine q_lmul X dX12_kern_74 ?_
        refine q_ladd X dX12_kern_75 ?_
        obtain ⟨a7, ea7, ma7, ka7, h⟩ := q_atE h
        obtain ⟨r8, S9, c10, h⟩ := q_bE h
        refine q_cVI X (As := [.int (l3), .long ((20 : Int64) + ((6 : Int64) * (l5.toInt64)))]) ea7 ma7 ka7 rfl (by decide) (c_X12_two c10) (q_cwV X tK_X12_two tM_X12_169 tI_X12_two tV_X12_two tN_X12 rfl rfl tD_X12_two ⟨Nat.le_of_ble_eq_true rfl, Nat.le_of_ble_eq_true rfl⟩) rfl rfl (by first | exact Nat.le_of_ble_eq_true rfl | (simp only [List.map, q_catR]; exact Nat.le_of_ble_eq_true rfl)) ⟨Nat.zero_le _, Nat.zero_le _⟩ dX12_kern_76 ?_
        refine q_istore X 7 [(7, .int (r8)), (6, .int (r4)), (0, va_rf (l0)), (1, .int (l1)), (2, .int (l2)), (3, .int (l3)), (4, .int (l4)), (5, .int (l5))] (by decide) (by first | rfl | simp [List.filter, q_catR]) dX12_kern_79 ?_
        refine q_aload_n X 2 rfl dX12_kern_81 ?_
        refine q_iload_n X 5 rfl dX12_kern_82 ?_
        refine q_ldc2_w X (22) tC_X12_294 dX12_kern_83 ?_
        refine q_ldc2_w X (6) tC_X12_261 dX12_kern_86 ?_
        refine q_iload X 7 rfl dX12_kern_89 ?_
        refine q_i2l X dX12_kern_91 ?_
        refine q_lmul X dX12_kern_92 ?_
        refine q_ladd X dX12_kern_93 ?_
        obtain ⟨a11, ea11, ma11, ka11, h⟩ := q_atE h
        obtain ⟨r12, S13, c14, h⟩ := q_bE h
        refine q_cVI X (As := [.int (l3), .long ((22 : Int64) + ((6 : Int64) * (l5.toInt64)))]) ea11 ma11 ka11 rfl (by decide) (c_X12_two c14) (q_cwV X tK_X12_two tM_X12_169 tI_X12_two tV_X12_two tN_X12 rfl rfl tD_X12_two ⟨Nat.le_of_ble_eq_true rfl, Nat.le_of_ble_eq_true rfl⟩) rfl rfl (by first | exact Nat.le_of_ble_eq_true rfl | (simp only [List.map, q_catR]; exact Nat.le_of_ble_eq_true rfl)) ⟨Nat.zero_le _, Nat.zero_le _⟩ dX12_kern_94 ?_
        refine q_istore X 8 [(8, .int (r12)), (7, .int (r8)), (6, .int (r4)), (0, va_rf (l0)), (1, .int (l1)), (2, .int (l2)), (3, .int (l3)), (4, .int (l4)), (5, .int (l5))] (by decide) (by first | rfl | simp [List.filter, q_catR]) dX12_kern_97 ?_
        refine q_aload_n X 3 rfl dX12_kern_99 ?_
        obtain ⟨a15, ea15, ma15, ka15, h⟩ := q_atE h
        refine q_getI X 8 ea15 ma15 ka15 rfl tW_X12 (by decide) (by decide) tF_X12_114 rfl dX12_kern_100 ?_
        refine q_if_ne X 124 (by decide) dX12_kern_103 (fun g16 => ?_) (fun g16 => ?_)
        · rw [if_neg g16] at h
          refine q_lv [3, 4, 5, 6, 7, 8] rfl ?_
          exact w_X12_kern_124 X hr hl ih _ _ _ _ _ _ _ h
        · rw [if_pos g16] at h
          refine q_iload X 2 rfl dX12_kern_106 ?_
          refine q_iload_n X 4 rfl dX12_kern_108 ?_
          refine q_icmp_ne X 124 (by decide) dX12_kern_109 (fun g17 => ?_) (fun g17 => ?_)
          · rw [if_neg g17] at h
            refine q_lv [3, 4, 5, 6, 7, 8] rfl ?_
            exact w_X12_kern_124 X hr hl ih _ _ _ _ _ _ _ h
          · rw [if_pos g17] at h
            refine q_iload X 1 rfl dX12_kern_112 ?_
            refine q_iload_n X 5 rfl dX12_kern_114 ?_
            refine q_icmp_ne X 124 (by decide) dX12_kern_115 (fun g18 => ?_) (fun g18 => ?_)
            · rw [if_neg g18] at h
              refine q_lv [3, 4, 5, 6, 7, 8] rfl ?_
              exact w_X12_kern_124 X hr hl ih _ _ _ _ _ _ _ h
            · rw [if_pos g18] at h
              refine q_iload X 0 rfl dX12_kern_118 ?_
              obtain ⟨r19, S20, c21, h⟩ := q_bE h
              refine q_cSI X (As := [.int (r12)]) (c_X12_signed c21) (q_cwS X tK_X12_signed tM_X12_210 tS_X12_signed tN_X12 rfl rfl tD_X12_signed ⟨Nat.le_of_ble_eq_true rfl, Nat.le_of_ble_eq_true rfl⟩) rfl rfl (by first | exact Nat.le_of_ble_eq_true rfl | (simp only [List.map, q_catR]; exact Nat.le_of_ble_eq_true rfl)) ⟨Nat.zero_le _, Nat.zero_le _⟩ dX12_kern_120 ?_
              obtain ⟨ev, eS⟩ := q_end h
              exact q_iret X hr hl rfl ev eS dX12_kern_123
def m_X12_kern (n : Nat) (S : q_S) (o : Nat) (p0 : Int32) (p1 : Int32) : Option (Int32 × q_S) := q_at (S) (some o) 13 (fun a1 => q_if ((0 : Int32) = 0 ∨ (0 : Int32) = 1) (q_let (q_sI (q_sI (S) a1 0 ((0 : Int32))) a1 8 ((0 : Int32))) (fun S3 => q_b (m_X12_find n (S3) a1 ((1801810542 : Int64))) (fun r4 S5 => q_at (S5) (some o) 13 (fun a7 => q_b (m_X12_two n (S5) a7 (r4) ((10 : Int64))) (fun r8 S9 => m_X12_kern_31 n n (S9) (some o) (p0) (p1) (r4) (r8) ((0 : Int32))))))))
set_option maxHeartbeats 4000000 in
set_option maxRecDepth 100000 in
theorem w_X12_kern (X : q_X p s m args c cX12_kern 9 RX12 q_T D cy A) (hr : meth.sig.returnType = (some .int)) (hl : meth.locks = false)  {n : Nat} {S Sv : q_S} {rv : Int32} {o : Nat} {p0 : Int32} {p1 : Int32} (h : m_X12_kern n S o p0 p1 = some (rv, Sv)) : q_W p l e ({ frames := 2, cells := 0, slots := 0, locals := 50 } : Room) s m args below meth c (MQ below (va_Qi (fun (r : Int32) (u : q_S) => r = rv ∧ u = Sv) (q_B D cy A) A) args s 0 0 A) A D cy 9 0 0 S 0 [(0, va_rf (some o)), (1, .int (p0)), (2, .int (p1))] [] := by
  unfold m_X12_kern at h
  refine q_aload_n X 0 rfl dX12_kern_0 ?_
  refine q_iconst X (0) (by decide) dX12_kern_1 ?_
  obtain ⟨a1, ea1, ma1, ka1, h⟩ := q_atE h
  refine q_putI X 0 ea1 ma1 ka1 rfl tW_X12 (by decide) (by decide) tF_X12_96 tyX12 tyX12_ok nmX12 rfl (tyX12_ok 0 (by decide)) rfl rfl rfl dX12_kern_2 ?_
  have ma1 : a1 ∈ q_L (q_sI (S) a1 0 ((0 : Int32))) := q_LsI ma1
  have ka1 : q_K (q_sI (S) a1 0 ((0 : Int32))) a1 = 13 := q_KsI ka1
  refine q_aload_n X 0 rfl dX12_kern_5 ?_
  refine q_iconst X (0) (by decide) dX12_kern_6 ?_
  obtain ⟨g2, h⟩ := q_ifE h
  refine q_putI X 8 ea1 ma1 ka1 rfl tW_X12 (by decide) (by decide) tF_X12_114 tyX12 tyX12_ok nmX12 rfl (tyX12_ok 8 (by decide)) (q_bool g2) (q_boolF g2) rfl dX12_kern_7 ?_
  have ma1 : a1 ∈ q_L (q_sI (q_sI (S) a1 0 ((0 : Int32))) a1 8 ((0 : Int32))) := q_LsI ma1
  have ka1 : q_K (q_sI (q_sI (S) a1 0 ((0 : Int32))) a1 8 ((0 : Int32))) a1 = 13 := q_KsI ka1
  obtain ⟨S3, eS3, h⟩ := q_letE h
  refine q_sub eS3 ?_
  have ma1 : a1 ∈ q_L S3 := by rw [eS3]; exact ma1
  have ka1 : q_K S3 a1 = 13 := by rw [eS3]; exact ka1
  refine q_aload_n X 0 rfl dX12_kern_10 ?_
  refine q_ldc2_w X (1801810542) tC_X12_290 dX12_kern_11 ?_
  obtain ⟨r4, S5, c6, h⟩ := q_bE h
  refine q_cVI X (As := [.long ((1801810542 : Int64))]) ea1 ma1 ka1 rfl (by decide) (c_X12_find c6) (q_cwV X tK_X12_find tM_X12_127 tI_X12_find tV_X12_find tN_X12 rfl rfl tD_X12_find ⟨Nat.le_of_ble_eq_true rfl, Nat.le_of_ble_eq_true rfl⟩) rfl rfl (by first | exact Nat.le_of_ble_eq_true rfl | (simp only [List.map, q_catR]; exact Nat.le_of_ble_eq_true rfl)) ⟨Nat.zero_le _, Nat.zero_le _⟩ dX12_kern_14 ?_
  refine q_istore_n X 3 [(3, .int (r4)), (0, va_rf (some o)), (1, .int (p0)), (2, .int (p1))] rfl (by decide) (by first | rfl | simp [List.filter, q_catR]) dX12_kern_17 ?_
  refine q_aload_n X 1 rfl dX12_kern_18 ?_
  refine q_iload_n X 0 rfl dX12_kern_19 ?_
  refine q_ldc2_w X (10) tC_X12_263 dX12_kern_20 ?_
  obtain ⟨a7, ea7, ma7, ka7, h⟩ := q_atE h
  obtain ⟨r8, S9, c10, h⟩ := q_bE h
  refine q_cVI X (As := [.int (r4), .long ((10 : Int64))]) ea7 ma7 ka7 rfl (by decide) (c_X12_two c10) (q_cwV X tK_X12_two tM_X12_169 tI_X12_two tV_X12_two tN_X12 rfl rfl tD_X12_two ⟨Nat.le_of_ble_eq_true rfl, Nat.le_of_ble_eq_true rfl⟩) rfl rfl (by first | exact Nat.le_of_ble_eq_true rfl | (simp only [List.map, q_catR]; exact Nat.le_of_ble_eq_true rfl)) ⟨Nat.zero_le _, Nat.zero_le _⟩ dX12_kern_23 ?_
  refine q_istore X 4 [(4, .int (r8)), (3, .int (r4)), (0, va_rf (some o)), (1, .int (p0)), (2, .int (p1))] (by decide) (by first | rfl | simp [List.filter, q_catR]) dX12_kern_26 ?_
  refine q_iconst X (0) (by decide) dX12_kern_28 ?_
  refine q_istore X 5 [(5, .int ((0 : Int32))), (4, .int (r8)), (3, .int (r4)), (0, va_rf (some o)), (1, .int (p0)), (2, .int (p1))] (by decide) (by first | rfl | simp [List.filter, q_catR]) dX12_kern_29 ?_
  refine q_lv [3, 4, 5, 2, 1, 0] rfl ?_
  exact w_X12_kern_31 X hr hl n _ _ _ _ _ _ _ h
theorem tD_X12_kern : yX12_kern.cls ≠ "java/lang/invoke/MethodHandle" ∧ yX12_kern.cls ≠ "java/lang/invoke/VarHandle" ∧ (parseMethodDescriptor yX12_kern.desc).map (fun d => d.parameters.length) = some 2 := by decide +kernel
theorem c_X12_kern {l : Launch} {D : va_G} {cy : Nat → ClassId} {n : Nat} {S Sv : q_S} {rv : Int32} {o : Nat} {p0 : Int32} {p1 : Int32} (h : m_X12_kern n S o p0 p1 = some (rv, Sv)) : q_MI l yX12_kern (q_ws yX12_kern cX12_kern 9 ((some .int))) ({ frames := 2, cells := 0, slots := 0, locals := 50 } : Room) D cy [.ref o, .int (p0), .int (p1)] S rv Sv := by
  exact q_MI_of (by decide +kernel) (Nat.le_of_ble_eq_true rfl) (fun p e s m args below meth c A X hr hl => w_X12_kern X hr hl h)
end MM
