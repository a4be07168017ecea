section MM
variable {p : Program} {l : Launch} {e : Env} {s : State} {m : MethodId} {args : Array Value} {below : List Frame} {meth : Method} {c : Code} {A : Nat → Prop} {D : va_G} {cy : Nat → ClassId}
/-! TrueOutlines$Shaper.make(I)V -/
def m_X5_make_26 (n : Nat) (S : q_S) : Option (Unit × q_S) := some ((), S)
set_option maxHeartbeats 4000000 in
set_option maxRecDepth 100000 in
theorem w_X5_make_26 (X : q_X p s m args c cX5_make 2 RX5 q_T D cy A) (hr : meth.sig.returnType = none) (hl : meth.locks = false)  {n : Nat} {Sv : q_S}  (S : q_S) (h : m_X5_make_26 n S = some ((), Sv)) : q_W p l e ({ frames := 36, cells := 0, slots := 0, locals := 887 } : Room) s m args below meth c (MQ below (va_Qv (fun (u : q_S) => u = Sv) (q_B D cy A) A) args s 0 0 A) A D cy 2 0 0 S 26 [] [] := by
  unfold m_X5_make_26 at h
  obtain ⟨ev, eS⟩ := q_end h
  exact q_vret X hr hl eS dX5_make_26
def m_X5_make (n : Nat) (S : q_S) (o : Nat) (p0 : Int32) : Option (Unit × q_S) := q_at (S) (some o) 6 (fun a1 => q_at (S) (q_R (S) a1 2) 4 (fun a2 => q_b (m_X3_keep n (S) a2 ((0 : Int32)) ((0 : Int32))) (fun _ S3 => q_at (S3) (some o) 6 (fun a6 => q_at (S3) (q_R (S3) a6 0) 7 (fun a7 => q_b (m_X6_has n (S3) a7 (p0)) (fun r8 S9 => (if r8 = 0 then m_X5_make_26 n (S9) else q_at (S9) (some o) 6 (fun a12 => q_b (m_X5_shape n (S9) a12 ((0 : Int32)) (p0)) (fun _ S13 => m_X5_make_26 n (S13))))))))))
set_option maxHeartbeats 4000000 in
set_option maxRecDepth 100000 in
theorem w_X5_make (X : q_X p s m args c cX5_make 2 RX5 q_T D cy A) (hr : meth.sig.returnType = none) (hl : meth.locks = false)  {n : Nat} {S Sv : q_S} {o : Nat} {p0 : Int32} (h : m_X5_make n S o p0 = some ((), Sv)) : q_W p l e ({ frames := 36, cells := 0, slots := 0, locals := 887 } : Room) s m args below meth c (MQ below (va_Qv (fun (u : q_S) => u = Sv) (q_B D cy A) A) args s 0 0 A) A D cy 2 0 0 S 0 [(0, va_rf (some o)), (1, .int (p0))] [] := by
  unfold m_X5_make at h
  refine q_aload_n X 0 rfl dX5_make_0 ?_
  obtain ⟨a1, ea1, ma1, ka1, h⟩ := q_atE h
  refine q_getR X 2 ea1 ma1 ka1 rfl tW_X5 (by decide) (by decide) tF_X5_12 rfl dX5_make_1 ?_
  refine q_iconst X (0) (by decide) dX5_make_4 ?_
  refine q_iconst X (0) (by decide) dX5_make_5 ?_
  obtain ⟨a2, ea2, ma2, ka2, h⟩ := q_atE h
  obtain ⟨u5, S3, c4, h⟩ := q_bE h
  refine q_cVV X (As := [.int ((0 : Int32)), .int ((0 : Int32))]) ea2 ma2 ka2 rfl (by decide) (c_X3_keep c4) (q_cwV X tK_X3_keep tM_X5_51 tI_X3_keep tV_X3_keep tN_X3 rfl rfl tD_X3_keep ⟨Nat.le_of_ble_eq_true rfl, Nat.le_of_ble_eq_true rfl⟩) rfl rfl (by first | exact Nat.le_of_ble_eq_true rfl | (simp only [List.map, q_catR]; exact Nat.le_of_ble_eq_true rfl)) ⟨Nat.zero_le _, Nat.zero_le _⟩ dX5_make_6 ?_
  refine q_aload_n X 0 rfl dX5_make_9 ?_
  obtain ⟨a6, ea6, ma6, ka6, h⟩ := q_atE h
  refine q_getR X 0 ea6 ma6 ka6 rfl tW_X5 (by decide) (by decide) tF_X5_40 rfl dX5_make_10 ?_
  refine q_iload_n X 1 rfl dX5_make_13 ?_
  obtain ⟨a7, ea7, ma7, ka7, h⟩ := q_atE h
  obtain ⟨r8, S9, c10, h⟩ := q_bE h
  refine q_cVI X (As := [.int (p0)]) ea7 ma7 ka7 rfl (by decide) (c_X6_has c10) (q_cwV X tK_X6_has tM_X5_55 tI_X6_has tV_X6_has tN_X6 rfl rfl tD_X6_has ⟨Nat.le_of_ble_eq_true rfl, Nat.le_of_ble_eq_true rfl⟩) rfl rfl (by first | exact Nat.le_of_ble_eq_true rfl | (simp only [List.map, q_catR]; exact Nat.le_of_ble_eq_true rfl)) ⟨Nat.zero_le _, Nat.zero_le _⟩ dX5_make_14 ?_
  refine q_if_eq X 26 (by decide) dX5_make_17 (fun g11 => ?_) (fun g11 => ?_)
  · rw [if_pos g11] at h
    refine q_lv [] rfl ?_
    exact w_X5_make_26 X hr hl _ h
  · rw [if_neg g11] at h
    refine q_aload_n X 0 rfl dX5_make_20 ?_
    refine q_iconst X (0) (by decide) dX5_make_21 ?_
    refine q_iload_n X 1 rfl dX5_make_22 ?_
    obtain ⟨a12, ea12, ma12, ka12, h⟩ := q_atE h
    obtain ⟨u15, S13, c14, h⟩ := q_bE h
    refine q_cVV X (As := [.int ((0 : Int32)), .int (p0)]) ea12 ma12 ka12 rfl (by decide) (c_X5_shape c14) (q_cwV X tK_X5_shape tM_X5_61 tI_X5_shape tV_X5_shape tN_X5 rfl rfl tD_X5_shape ⟨Nat.le_of_ble_eq_true rfl, Nat.le_of_ble_eq_true rfl⟩) rfl rfl (by first | exact Nat.le_of_ble_eq_true rfl | (simp only [List.map, q_catR]; exact Nat.le_of_ble_eq_true rfl)) ⟨Nat.zero_le _, Nat.zero_le _⟩ dX5_make_23 ?_
    refine q_lv [] rfl ?_
    exact w_X5_make_26 X hr hl _ h
theorem tD_X5_make : yX5_make.cls ≠ "java/lang/invoke/MethodHandle" ∧ yX5_make.cls ≠ "java/lang/invoke/VarHandle" ∧ (parseMethodDescriptor yX5_make.desc).map (fun d => d.parameters.length) = some 1 := by decide +kernel
theorem c_X5_make {l : Launch} {D : va_G} {cy : Nat → ClassId} {n : Nat} {S Sv : q_S} {o : Nat} {p0 : Int32} (h : m_X5_make n S o p0 = some ((), Sv)) : q_MV l yX5_make (q_ws yX5_make cX5_make 2 (none)) ({ frames := 36, cells := 0, slots := 0, locals := 887 } : Room) D cy [.ref o, .int (p0)] S Sv := by
  exact q_MV_of (by decide +kernel) (Nat.le_of_ble_eq_true rfl) (fun p e s m args below meth c A X hr hl => w_X5_make X hr hl h)
/-! TrueOutlines.run(I)I -/
def m_X11_run_51 (n : Nat) (S : q_S) (s0 : Int32) : Option (Int32 × q_S) := some (s0, S)
set_option maxHeartbeats 4000000 in
set_option maxRecDepth 100000 in
theorem w_X11_run_51 (X : q_X p s m args c cX11_run 2 RX11 q_T D cy A) (hr : meth.sig.returnType = (some .int)) (hl : meth.locks = false)  {n : Nat} {Sv : q_S} {rv : Int32}  (S : q_S) (s0 : Int32) (h : m_X11_run_51 n S s0 = some (rv, Sv)) : q_W p l e ({ frames := 37, cells := 0, slots := 0, locals := 908 } : Room) s m args below meth c (MQ below (va_Qi (fun (r : Int32) (u : q_S) => r = rv ∧ u = Sv) (q_B D cy A) A) args s 0 0 A) A D cy 2 0 0 S 51 [] [.int (s0)] := by
  unfold m_X11_run_51 at h
  obtain ⟨ev, eS⟩ := q_end h
  exact q_iret X hr hl rfl ev eS dX11_run_51
def m_X11_run (n : Nat) (S : q_S) (o : Nat) (p0 : Int32) : Option (Int32 × q_S) := q_at (S) (some o) 12 (fun a1 => q_at (S) (q_R (S) a1 1) 10 (fun a2 => q_b (m_X9_clear n (S) a2) (fun _ S3 => q_at (S3) (some o) 12 (fun a6 => q_at (S3) (q_R (S3) a6 5) 6 (fun a7 => q_b (m_X5_make n (S3) a7 (p0)) (fun _ S8 => q_at (S8) (some o) 12 (fun a11 => q_at (S8) (q_R (S8) a11 5) 6 (fun a12 => q_b (m_X5_points n (S8) a12) (fun r13 S14 => q_at (S14) (q_R (S8) a11 6) 3 (fun a16 => q_b (m_X2_trace n (S14) a16 (some r13)) (fun _ S17 => q_at (S17) (some o) 12 (fun a20 => q_at (S17) (q_R (S17) a20 3) 7 (fun a21 => q_b (m_X6_has n (S17) a21 (p0)) (fun r22 S23 => (if r22 = 0 then m_X11_run_51 n (S23) ((-1 : Int32)) else q_at (S23) (some o) 12 (fun a26 => q_at (S23) (q_R (S23) a26 6) 3 (fun a27 => q_b (m_X2_size n (S23) a27) (fun r28 S29 => m_X11_run_51 n (S29) (r28)))))))))))))))))))
set_option maxHeartbeats 4000000 in
set_option maxRecDepth 100000 in
theorem w_X11_run (X : q_X p s m args c cX11_run 2 RX11 q_T D cy A) (hr : meth.sig.returnType = (some .int)) (hl : meth.locks = false)  {n : Nat} {S Sv : q_S} {rv : Int32} {o : Nat} {p0 : Int32} (h : m_X11_run n S o p0 = some (rv, Sv)) : q_W p l e ({ frames := 37, cells := 0, slots := 0, locals := 908 } : Room) s m args below meth c (MQ below (va_Qi (fun (r : Int32) (u : q_S) => r = rv ∧ u = Sv) (q_B D cy A) A) args s 0 0 A) A D cy 2 0 0 S 0 [(0, va_rf (some o)), (1, .int (p0))] [] := by
  unfold m_X11_run at h
  refine q_aload_n X 0 rfl dX11_run_0 ?_
  obtain ⟨a1, ea1, ma1, ka1, h⟩ := q_atE h
  refine q_getR X 1 ea1 ma1 ka1 rfl tW_X11 (by decide) (by decide) tF_X11_21 rfl dX11_run_1 ?_
  obtain ⟨a2, ea2, ma2, ka2, h⟩ := q_atE h
  obtain ⟨u5, S3, c4, h⟩ := q_bE h
  refine q_cVV X (As := []) ea2 ma2 ka2 rfl (by decide) (c_X9_clear c4) (q_cwV X tK_X9_clear tM_X11_85 tI_X9_clear tV_X9_clear tN_X9 rfl rfl tD_X9_clear ⟨Nat.le_of_ble_eq_true rfl, Nat.le_of_ble_eq_true rfl⟩) rfl rfl (by first | exact Nat.le_of_ble_eq_true rfl | (simp only [List.map, q_catR]; exact Nat.le_of_ble_eq_true rfl)) ⟨Nat.zero_le _, Nat.zero_le _⟩ dX11_run_4 ?_
  refine q_aload_n X 0 rfl dX11_run_7 ?_
  obtain ⟨a6, ea6, ma6, ka6, h⟩ := q_atE h
  refine q_getR X 5 ea6 ma6 ka6 rfl tW_X11 (by decide) (by decide) tF_X11_57 rfl dX11_run_8 ?_
  refine q_iload_n X 1 rfl dX11_run_11 ?_
  obtain ⟨a7, ea7, ma7, ka7, h⟩ := q_atE h
  obtain ⟨u10, S8, c9, h⟩ := q_bE h
  refine q_cVV X (As := [.int (p0)]) ea7 ma7 ka7 rfl (by decide) (c_X5_make c9) (q_cwV X tK_X5_make tM_X11_145 tI_X5_make tV_X5_make tN_X5 rfl rfl tD_X5_make ⟨Nat.le_of_ble_eq_true rfl, Nat.le_of_ble_eq_true rfl⟩) rfl rfl (by first | exact Nat.le_of_ble_eq_true rfl | (simp only [List.map, q_catR]; exact Nat.le_of_ble_eq_true rfl)) ⟨Nat.zero_le _, Nat.zero_le _⟩ dX11_run_12 ?_
  refine q_aload_n X 0 rfl dX11_run_15 ?_
  obtain ⟨a11, ea11, ma11, ka11, h⟩ := q_atE h
  refine q_getR X 6 ea11 ma11 ka11 rfl tW_X11 (by decide) (by decide) tF_X11_64 rfl dX11_run_16 ?_
  refine q_aload_n X 0 rfl dX11_run_19 ?_
  refine q_getR X 5 ea11 ma11 ka11 rfl tW_X11 (by decide) (by decide) tF_X11_57 rfl dX11_run_20 ?_
  obtain ⟨a12, ea12, ma12, ka12, h⟩ := q_atE h
  obtain ⟨r13, S14, c15, h⟩ := q_bE h
  refine q_cVR X (As := []) ea12 ma12 ka12 rfl (by decide) (c_X5_points c15) (q_cwV X tK_X5_points tM_X11_132 tI_X5_points tV_X5_points tN_X5 rfl rfl tD_X5_points ⟨Nat.le_of_ble_eq_true rfl, Nat.le_of_ble_eq_true rfl⟩) rfl rfl (by first | exact Nat.le_of_ble_eq_true rfl | (simp only [List.map, q_catR]; exact Nat.le_of_ble_eq_true rfl)) ⟨Nat.zero_le _, Nat.zero_le _⟩ dX11_run_23 ?_
  obtain ⟨a16, ea16, ma16, ka16, h⟩ := q_atE h
  obtain ⟨u19, S17, c18, h⟩ := q_bE h
  refine q_cVV X (As := [va_rf (some r13)]) ea16 ma16 ka16 rfl (by decide) (c_X2_trace c18) (q_cwV X tK_X2_trace tM_X11_148 tI_X2_trace tV_X2_trace tN_X2 rfl rfl tD_X2_trace ⟨Nat.le_of_ble_eq_true rfl, Nat.le_of_ble_eq_true rfl⟩) rfl rfl (by first | exact Nat.le_of_ble_eq_true rfl | (simp only [List.map, q_catR]; exact Nat.le_of_ble_eq_true rfl)) ⟨Nat.zero_le _, Nat.zero_le _⟩ dX11_run_26 ?_
  refine q_aload_n X 0 rfl dX11_run_29 ?_
  obtain ⟨a20, ea20, ma20, ka20, h⟩ := q_atE h
  refine q_getR X 3 ea20 ma20 ka20 rfl tW_X11 (by decide) (by decide) tF_X11_39 rfl dX11_run_30 ?_
  refine q_iload_n X 1 rfl dX11_run_33 ?_
  obtain ⟨a21, ea21, ma21, ka21, h⟩ := q_atE h
  obtain ⟨r22, S23, c24, h⟩ := q_bE h
  refine q_cVI X (As := [.int (p0)]) ea21 ma21 ka21 rfl (by decide) (c_X6_has c24) (q_cwV X tK_X6_has tM_X11_152 tI_X6_has tV_X6_has tN_X6 rfl rfl tD_X6_has ⟨Nat.le_of_ble_eq_true rfl, Nat.le_of_ble_eq_true rfl⟩) rfl rfl (by first | exact Nat.le_of_ble_eq_true rfl | (simp only [List.map, q_catR]; exact Nat.le_of_ble_eq_true rfl)) ⟨Nat.zero_le _, Nat.zero_le _⟩ dX11_run_34 ?_
  refine q_if_eq X 50 (by decide) dX11_run_37 (fun g25 => ?_) (fun g25 => ?_)
  · rw [if_pos g25] at h
    refine q_iconst X (-1) (by decide) dX11_run_50 ?_
    refine q_lv [] rfl ?_
    exact w_X11_run_51 X hr hl _ _ h
  · rw [if_neg g25] at h
    refine q_aload_n X 0 rfl dX11_run_40 ?_
    obtain ⟨a26, ea26, ma26, ka26, h⟩ := q_atE h
    refine q_getR X 6 ea26 ma26 ka26 rfl tW_X11 (by decide) (by decide) tF_X11_64 rfl dX11_run_41 ?_
    obtain ⟨a27, ea27, ma27, ka27, h⟩ := q_atE h
    obtain ⟨r28, S29, c30, h⟩ := q_bE h
    refine q_cVI X (As := []) ea27 ma27 ka27 rfl (by decide) (c_X2_size c30) (q_cwV X tK_X2_size tM_X11_153 tI_X2_size tV_X2_size tN_X2 rfl rfl tD_X2_size ⟨Nat.le_of_ble_eq_true rfl, Nat.le_of_ble_eq_true rfl⟩) rfl rfl (by first | exact Nat.le_of_ble_eq_true rfl | (simp only [List.map, q_catR]; exact Nat.le_of_ble_eq_true rfl)) ⟨Nat.zero_le _, Nat.zero_le _⟩ dX11_run_44 ?_
    refine q_goto X 51 (by decide) dX11_run_47 ?_
    refine q_lv [] rfl ?_
    exact w_X11_run_51 X hr hl _ _ h
theorem tD_X11_run : yX11_run.cls ≠ "java/lang/invoke/MethodHandle" ∧ yX11_run.cls ≠ "java/lang/invoke/VarHandle" ∧ (parseMethodDescriptor yX11_run.desc).map (fun d => d.parameters.length) = some 1 := by decide +kernel
theorem c_X11_run {l : Launch} {D : va_G} {cy : Nat → ClassId} {n : Nat} {S Sv : q_S} {rv : Int32} {o : Nat} {p0 : Int32} (h : m_X11_run n S o p0 = some (rv, Sv)) : q_MI l yX11_run (q_ws yX11_run cX11_run 2 ((some .int))) ({ frames := 37, cells := 0, slots := 0, locals := 908 } : Room) D cy [.ref o, .int (p0)] S rv Sv := by
  exact q_MI_of (by decide +kernel) (Nat.le_of_ble_eq_true rfl) (fun p e s m args below meth c A X hr hl => w_X11_run X hr hl h)
end MM
