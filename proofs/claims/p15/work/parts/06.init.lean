section MI
variable {p : Program} {l : Launch} {e : Env} {s : State} {m : MethodId} {args : Array Value} {below : List Frame} {meth : Method} {c : Code} {A : Nat → Prop} {D : va_G} {cy : Nat → ClassId}
theorem q_df_X0 : ∀ j, j < 3 → defaultValue (tyX0 j) = vp_V (q_df 1) j := by decide +kernel
theorem q_df_X1 : ∀ j, j < 14 → defaultValue (tyX1 j) = vp_V (q_df 2) j := by decide +kernel
theorem q_df_X2 : ∀ j, j < 4 → defaultValue (tyX2 j) = vp_V (q_df 3) j := by decide +kernel
theorem q_df_X3 : ∀ j, j < 6 → defaultValue (tyX3 j) = vp_V (q_df 4) j := by decide +kernel
theorem q_df_X4 : ∀ j, j < 2 → defaultValue (tyX4 j) = vp_V (q_df 5) j := by decide +kernel
theorem q_df_X5 : ∀ j, j < 10 → defaultValue (tyX5 j) = vp_V (q_df 6) j := by decide +kernel
theorem q_df_X6 : ∀ j, j < 10 → defaultValue (tyX6 j) = vp_V (q_df 7) j := by decide +kernel
theorem q_df_X7 : ∀ j, j < 5 → defaultValue (tyX7 j) = vp_V (q_df 8) j := by decide +kernel
theorem q_df_X8 : ∀ j, j < 4 → defaultValue (tyX8 j) = vp_V (q_df 9) j := by decide +kernel
theorem q_df_X9 : ∀ j, j < 3 → defaultValue (tyX9 j) = vp_V (q_df 10) j := by decide +kernel
theorem q_df_X10 : ∀ j, j < 9 → defaultValue (tyX10 j) = vp_V (q_df 11) j := by decide +kernel
theorem q_df_X11 : ∀ j, j < 8 → defaultValue (tyX11 j) = vp_V (q_df 12) j := by decide +kernel
theorem q_df_X12 : ∀ j, j < 43 → defaultValue (tyX12 j) = vp_V (q_df 13) j := by decide +kernel
theorem q_nRa (t : FieldType) (r : Option Nat) : narrow (.array t) (va_rf r) = va_rf r := by cases r <;> rfl
theorem q_fRa (t : FieldType) (r : Option Nat) : fits (.array t) (va_rf r) = true := by cases r <;> rfl
def i_X4_init (S : q_S) (o : Nat) (p0 : Option Nat) (Post : q_S → Prop) : Prop := q_aP (S) (some o) 5 (fun a1 => Post (q_sR (S) a1 0 (p0)))
set_option maxHeartbeats 4000000 in
set_option maxRecDepth 100000 in
theorem wi_X4_init (X : q_X p s m args c cX4_init 2 RX4 q_T D cy A) (hr : meth.sig.returnType = none) (hl : meth.locks = false) (hin : meth.name = "<init>") {S : q_S} {o : Nat} {p0 : Option Nat} {Post : q_S → Prop} (h : i_X4_init S o p0 Post) : q_W p l e ({ frames := 1, cells := 0, slots := 0, locals := 20 } : Room) s m args below meth c (MQ below (va_Qv Post (q_B D cy A) A) args s 0 0 A) A D cy 2 0 0 S 0 [(0, va_rf (some o)), (1, va_rf (p0))] [] := by
  unfold i_X4_init at h
  refine q_aload_n X 0 rfl dX4_init_0 ?_
  refine q_objI X rfl tO_X4_3 tO_i tO_c (Nat.le_of_ble_eq_true rfl) (Nat.le_of_ble_eq_true rfl) dX4_init_1 ?_
  refine q_aload_n X 0 rfl dX4_init_4 ?_
  refine q_aload_n X 1 rfl dX4_init_5 ?_
  obtain ⟨a1, ea1, ma1, ka1, h⟩ := h
  refine q_putF X 0 ea1 ma1 ka1 rfl tW_X4 (by decide) (by decide) tF_X4_9 tyX4 tyX4_ok nmX4 rfl hin rfl (tyX4_ok 0 (by decide)) (q_nRa _ _) (q_fRa _ _) rfl dX4_init_6 ?_
  have ma1 : a1 ∈ q_L (q_sR (S) a1 0 (p0)) := q_LsR ma1
  have ka1 : q_K (q_sR (S) a1 0 (p0)) a1 = 5 := q_KsR ka1
  exact q_vretC X hr hl h (Nat.le_of_ble_eq_true rfl) (Nat.le_of_ble_eq_true rfl) dX4_init_9
theorem tD_X4_init : yX4_init.cls ≠ "java/lang/invoke/MethodHandle" ∧ yX4_init.cls ≠ "java/lang/invoke/VarHandle" ∧ (parseMethodDescriptor yX4_init.desc).map (fun d => d.parameters.length) = some 1 := by decide +kernel
theorem ci_X4_init {l : Launch} {D : va_G} {cy : Nat → ClassId} {S : q_S} {o : Nat} {p0 : Option Nat} {Post : q_S → Prop} (h : i_X4_init S o p0 Post) : q_MC l yX4_init (q_ws yX4_init cX4_init 2 none) ({ frames := 1, cells := 0, slots := 0, locals := 20 } : Room) D cy [.ref o, va_rf (p0)] S Post 0 0 := by
  cases p0 <;> exact q_MC_of (by decide +kernel) (Nat.le_of_ble_eq_true rfl) (fun p e s m args below meth c A X hr hl hin => wi_X4_init X hr hl hin h)
def i_X9_init (S : q_S) (o : Nat)  (Post : q_S → Prop) : Prop := ∀ q1 : Nat, q1 ∉ q_L (S) → (q_aP (q_nw (S) q1 100 100) (some o) 10 (fun a2 => ∀ q3 : Nat, q3 ∉ q_L (q_sR (q_nw (S) q1 100 100) a2 0 (some q1)) → (q_aP (q_nw (q_sR (q_nw (S) q1 100 100) a2 0 (some q1)) q3 100 100) (some o) 10 (fun a4 => Post (q_sR (q_nw (q_sR (q_nw (S) q1 100 100) a2 0 (some q1)) q3 100 100) a4 1 (some q3))))))
set_option maxHeartbeats 4000000 in
set_option maxRecDepth 100000 in
theorem wi_X9_init (X : q_X p s m args c cX9_init 1 RX9 q_T D cy A) (hr : meth.sig.returnType = none) (hl : meth.locks = false) (hin : meth.name = "<init>") {S : q_S} {o : Nat}  {Post : q_S → Prop} (h : i_X9_init S o Post) : q_W p l e ({ frames := 1, cells := 2, slots := 200, locals := 20 } : Room) s m args below meth c (MQ below (va_Qv Post (q_B D cy A) A) args s 2 200 A) A D cy 1 0 0 S 0 [(0, va_rf (some o))] [] := by
  unfold i_X9_init at h
  refine q_aload_n X 0 rfl dX9_init_0 ?_
  refine q_objI X rfl tO_X9_3 tO_i tO_c (Nat.le_of_ble_eq_true rfl) (Nat.le_of_ble_eq_true rfl) dX9_init_1 ?_
  refine q_aload_n X 0 rfl dX9_init_4 ?_
  refine q_bipush X (100) (by decide) dX9_init_5 ?_
  refine q_rnewa100 X 100 tA_int (by decide) (by decide) (Nat.le_of_ble_eq_true rfl) (Nat.le_of_ble_eq_true rfl) (Nat.le_of_ble_eq_true rfl) dX9_init_7 (fun q1 fq1 => ?_)
  have h := h q1 fq1
  obtain ⟨a2, ea2, ma2, ka2, h⟩ := h
  refine q_putF X 0 ea2 ma2 ka2 rfl tW_X9 (by decide) (by decide) tF_X9_9 tyX9 tyX9_ok nmX9 rfl hin rfl (tyX9_ok 0 (by decide)) (q_nRa _ _) (q_fRa _ _) rfl dX9_init_9 ?_
  have ma2 : a2 ∈ q_L (q_sR (q_nw (S) q1 100 100) a2 0 (some q1)) := q_LsR ma2
  have ka2 : q_K (q_sR (q_nw (S) q1 100 100) a2 0 (some q1)) a2 = 10 := q_KsR ka2
  refine q_aload_n X 0 rfl dX9_init_12 ?_
  refine q_bipush X (100) (by decide) dX9_init_13 ?_
  refine q_rnewa100 X 100 tA_int (by decide) (by decide) (Nat.le_of_ble_eq_true rfl) (Nat.le_of_ble_eq_true rfl) (Nat.le_of_ble_eq_true rfl) dX9_init_15 (fun q3 fq3 => ?_)
  have h := h q3 fq3
  obtain ⟨a4, ea4, ma4, ka4, h⟩ := h
  refine q_putF X 1 ea4 ma4 ka4 rfl tW_X9 (by decide) (by decide) tF_X9_15 tyX9 tyX9_ok nmX9 rfl hin rfl (tyX9_ok 1 (by decide)) (q_nRa _ _) (q_fRa _ _) rfl dX9_init_17 ?_
  have ma4 : a4 ∈ q_L (q_sR (q_nw (q_sR (q_nw (S) q1 100 100) a2 0 (some q1)) q3 100 100) a4 1 (some q3)) := q_LsR ma4
  have ka4 : q_K (q_sR (q_nw (q_sR (q_nw (S) q1 100 100) a2 0 (some q1)) q3 100 100) a4 1 (some q3)) a4 = 10 := q_KsR ka4
  exact q_vretC X hr hl h (Nat.le_of_ble_eq_true rfl) (Nat.le_of_ble_eq_true rfl) dX9_init_20
theorem tD_X9_init : yX9_init.cls ≠ "java/lang/invoke/MethodHandle" ∧ yX9_init.cls ≠ "java/lang/invoke/VarHandle" ∧ (parseMethodDescriptor yX9_init.desc).map (fun d => d.parameters.length) = some 0 := by decide +kernel
theorem ci_X9_init {l : Launch} {D : va_G} {cy : Nat → ClassId} {S : q_S} {o : Nat}  {Post : q_S → Prop} (h : i_X9_init S o Post) : q_MC l yX9_init (q_ws yX9_init cX9_init 1 none) ({ frames := 1, cells := 2, slots := 200, locals := 20 } : Room) D cy [.ref o] S Post 2 200 := by
  exact q_MC_of (by decide +kernel) (Nat.le_of_ble_eq_true rfl) (fun p e s m args below meth c A X hr hl hin => wi_X9_init X hr hl hin h)
def i_X7_init (S : q_S) (o : Nat) (p0 : Option Nat) (Post : q_S → Prop) : Prop := q_aP (S) (some o) 8 (fun a1 => Post (q_sR (S) a1 0 (p0)))
set_option maxHeartbeats 4000000 in
set_option maxRecDepth 100000 in
theorem wi_X7_init (X : q_X p s m args c cX7_init 2 RX7 q_T D cy A) (hr : meth.sig.returnType = none) (hl : meth.locks = false) (hin : meth.name = "<init>") {S : q_S} {o : Nat} {p0 : Option Nat} {Post : q_S → Prop} (h : i_X7_init S o p0 Post) : q_W p l e ({ frames := 1, cells := 0, slots := 0, locals := 20 } : Room) s m args below meth c (MQ below (va_Qv Post (q_B D cy A) A) args s 0 0 A) A D cy 2 0 0 S 0 [(0, va_rf (some o)), (1, va_rf (p0))] [] := by
  unfold i_X7_init at h
  refine q_aload_n X 0 rfl dX7_init_0 ?_
  refine q_objI X rfl tO_X7_3 tO_i tO_c (Nat.le_of_ble_eq_true rfl) (Nat.le_of_ble_eq_true rfl) dX7_init_1 ?_
  refine q_aload_n X 0 rfl dX7_init_4 ?_
  refine q_aload_n X 1 rfl dX7_init_5 ?_
  obtain ⟨a1, ea1, ma1, ka1, h⟩ := h
  refine q_putF X 0 ea1 ma1 ka1 rfl tW_X7 (by decide) (by decide) tF_X7_9 tyX7 tyX7_ok nmX7 rfl hin rfl (tyX7_ok 0 (by decide)) (q_nR _ _) (q_fR _ _) rfl dX7_init_6 ?_
  have ma1 : a1 ∈ q_L (q_sR (S) a1 0 (p0)) := q_LsR ma1
  have ka1 : q_K (q_sR (S) a1 0 (p0)) a1 = 8 := q_KsR ka1
  exact q_vretC X hr hl h (Nat.le_of_ble_eq_true rfl) (Nat.le_of_ble_eq_true rfl) dX7_init_9
theorem tD_X7_init : yX7_init.cls ≠ "java/lang/invoke/MethodHandle" ∧ yX7_init.cls ≠ "java/lang/invoke/VarHandle" ∧ (parseMethodDescriptor yX7_init.desc).map (fun d => d.parameters.length) = some 1 := by decide +kernel
theorem ci_X7_init {l : Launch} {D : va_G} {cy : Nat → ClassId} {S : q_S} {o : Nat} {p0 : Option Nat} {Post : q_S → Prop} (h : i_X7_init S o p0 Post) : q_MC l yX7_init (q_ws yX7_init cX7_init 2 none) ({ frames := 1, cells := 0, slots := 0, locals := 20 } : Room) D cy [.ref o, va_rf (p0)] S Post 0 0 := by
  cases p0 <;> exact q_MC_of (by decide +kernel) (Nat.le_of_ble_eq_true rfl) (fun p e s m args below meth c A X hr hl hin => wi_X7_init X hr hl hin h)
def i_X1_init (S : q_S) (o : Nat) (p0 : Option Nat) (Post : q_S → Prop) : Prop := q_aP (S) (some o) 2 (fun a1 => Post (q_sR (S) a1 0 (p0)))
set_option maxHeartbeats 4000000 in
set_option maxRecDepth 100000 in
theorem wi_X1_init (X : q_X p s m args c cX1_init 2 RX1 q_T D cy A) (hr : meth.sig.returnType = none) (hl : meth.locks = false) (hin : meth.name = "<init>") {S : q_S} {o : Nat} {p0 : Option Nat} {Post : q_S → Prop} (h : i_X1_init S o p0 Post) : q_W p l e ({ frames := 1, cells := 0, slots := 0, locals := 20 } : Room) s m args below meth c (MQ below (va_Qv Post (q_B D cy A) A) args s 0 0 A) A D cy 2 0 0 S 0 [(0, va_rf (some o)), (1, va_rf (p0))] [] := by
  unfold i_X1_init at h
  refine q_aload_n X 0 rfl dX1_init_0 ?_
  refine q_objI X rfl tO_X1_3 tO_i tO_c (Nat.le_of_ble_eq_true rfl) (Nat.le_of_ble_eq_true rfl) dX1_init_1 ?_
  refine q_aload_n X 0 rfl dX1_init_4 ?_
  refine q_aload_n X 1 rfl dX1_init_5 ?_
  obtain ⟨a1, ea1, ma1, ka1, h⟩ := h
  refine q_putF X 0 ea1 ma1 ka1 rfl tW_X1 (by decide) (by decide) tF_X1_9 tyX1 tyX1_ok nmX1 rfl hin rfl (tyX1_ok 0 (by decide)) (q_nR _ _) (q_fR _ _) rfl dX1_init_6 ?_
  have ma1 : a1 ∈ q_L (q_sR (S) a1 0 (p0)) := q_LsR ma1
  have ka1 : q_K (q_sR (S) a1 0 (p0)) a1 = 2 := q_KsR ka1
  exact q_vretC X hr hl h (Nat.le_of_ble_eq_true rfl) (Nat.le_of_ble_eq_true rfl) dX1_init_9
theorem tD_X1_init : yX1_init.cls ≠ "java/lang/invoke/MethodHandle" ∧ yX1_init.cls ≠ "java/lang/invoke/VarHandle" ∧ (parseMethodDescriptor yX1_init.desc).map (fun d => d.parameters.length) = some 1 := by decide +kernel
theorem ci_X1_init {l : Launch} {D : va_G} {cy : Nat → ClassId} {S : q_S} {o : Nat} {p0 : Option Nat} {Post : q_S → Prop} (h : i_X1_init S o p0 Post) : q_MC l yX1_init (q_ws yX1_init cX1_init 2 none) ({ frames := 1, cells := 0, slots := 0, locals := 20 } : Room) D cy [.ref o, va_rf (p0)] S Post 0 0 := by
  cases p0 <;> exact q_MC_of (by decide +kernel) (Nat.le_of_ble_eq_true rfl) (fun p e s m args below meth c A X hr hl hin => wi_X1_init X hr hl hin h)
def i_X8_init (S : q_S) (o : Nat) (p0 : Option Nat) (Post : q_S → Prop) : Prop := ∀ q1 : Nat, q1 ∉ q_L (S) → (q_aP (q_nw (S) q1 104 24) (some o) 9 (fun a2 => ∀ q3 : Nat, q3 ∉ q_L (q_sR (q_sR (q_nw (S) q1 104 24) a2 1 (some q1)) a2 0 (p0)) → (i_X7_init (q_nw (q_sR (q_sR (q_nw (S) q1 104 24) a2 1 (some q1)) a2 0 (p0)) q3 8 0) (q3) (p0) (fun S4 => q_aP (S4) (some o) 9 (fun a5 => ∀ q6 : Nat, q6 ∉ q_L (q_sR (S4) a5 2 (some q3)) → (i_X7_init (q_nw (q_sR (S4) a5 2 (some q3)) q6 8 0) (q6) (p0) (fun S7 => q_aP (S7) (q_R (q_sR (S4) a5 2 (some q3)) a5 1) 104 (fun a8 => q_aP (S7) (some q6) 8 (fun a9 => q_in ((0 : Int32)) (q_N (S7) a8) = true ∧ (q_aP (q_sR (S7) a8 ((0 : Int32)).toNatClampNeg (some a9)) (some o) 9 (fun a11 => ∀ q12 : Nat, q12 ∉ q_L (q_sR (S7) a8 ((0 : Int32)).toNatClampNeg (some a9)) → (i_X7_init (q_nw (q_sR (S7) a8 ((0 : Int32)).toNatClampNeg (some a9)) q12 8 0) (q12) (p0) (fun S13 => q_aP (S13) (q_R (q_sR (S7) a8 ((0 : Int32)).toNatClampNeg (some a9)) a11 1) 104 (fun a14 => q_aP (S13) (some q12) 8 (fun a15 => q_in ((1 : Int32)) (q_N (S13) a14) = true ∧ (q_aP (q_sR (S13) a14 ((1 : Int32)).toNatClampNeg (some a15)) (some o) 9 (fun a17 => ∀ q18 : Nat, q18 ∉ q_L (q_sR (S13) a14 ((1 : Int32)).toNatClampNeg (some a15)) → (i_X7_init (q_nw (q_sR (S13) a14 ((1 : Int32)).toNatClampNeg (some a15)) q18 8 0) (q18) (p0) (fun S19 => q_aP (S19) (q_R (q_sR (S13) a14 ((1 : Int32)).toNatClampNeg (some a15)) a17 1) 104 (fun a20 => q_aP (S19) (some q18) 8 (fun a21 => q_in ((2 : Int32)) (q_N (S19) a20) = true ∧ (q_aP (q_sR (S19) a20 ((2 : Int32)).toNatClampNeg (some a21)) (some o) 9 (fun a23 => ∀ q24 : Nat, q24 ∉ q_L (q_sR (S19) a20 ((2 : Int32)).toNatClampNeg (some a21)) → (i_X7_init (q_nw (q_sR (S19) a20 ((2 : Int32)).toNatClampNeg (some a21)) q24 8 0) (q24) (p0) (fun S25 => q_aP (S25) (q_R (q_sR (S19) a20 ((2 : Int32)).toNatClampNeg (some a21)) a23 1) 104 (fun a26 => q_aP (S25) (some q24) 8 (fun a27 => q_in ((3 : Int32)) (q_N (S25) a26) = true ∧ (q_aP (q_sR (S25) a26 ((3 : Int32)).toNatClampNeg (some a27)) (some o) 9 (fun a29 => ∀ q30 : Nat, q30 ∉ q_L (q_sR (S25) a26 ((3 : Int32)).toNatClampNeg (some a27)) → (i_X7_init (q_nw (q_sR (S25) a26 ((3 : Int32)).toNatClampNeg (some a27)) q30 8 0) (q30) (p0) (fun S31 => q_aP (S31) (q_R (q_sR (S25) a26 ((3 : Int32)).toNatClampNeg (some a27)) a29 1) 104 (fun a32 => q_aP (S31) (some q30) 8 (fun a33 => q_in ((4 : Int32)) (q_N (S31) a32) = true ∧ (q_aP (q_sR (S31) a32 ((4 : Int32)).toNatClampNeg (some a33)) (some o) 9 (fun a35 => ∀ q36 : Nat, q36 ∉ q_L (q_sR (S31) a32 ((4 : Int32)).toNatClampNeg (some a33)) → (i_X7_init (q_nw (q_sR (S31) a32 ((4 : Int32)).toNatClampNeg (some a33)) q36 8 0) (q36) (p0) (fun S37 => q_aP (S37) (q_R (q_sR (S31) a32 ((4 : Int32)).toNatClampNeg (some a33)) a35 1) 104 (fun a38 => q_aP (S37) (some q36) 8 (fun a39 => q_in ((5 : Int32)) (q_N (S37) a38) = true ∧ (q_aP (q_sR (S37) a38 ((5 : Int32)).toNatClampNeg (some a39)) (some o) 9 (fun a41 => ∀ q42 : Nat, q42 ∉ q_L (q_sR (S37) a38 ((5 : Int32)).toNatClampNeg (some a39)) → (i_X7_init (q_nw (q_sR (S37) a38 ((5 : Int32)).toNatClampNeg (some a39)) q42 8 0) (q42) (p0) (fun S43 => q_aP (S43) (q_R (q_sR (S37) a38 ((5 : Int32)).toNatClampNeg (some a39)) a41 1) 104 (fun a44 => q_aP (S43) (some q42) 8 (fun a45 => q_in ((6 : Int32)) (q_N (S43) a44) = true ∧ (q_aP (q_sR (S43) a44 ((6 : Int32)).toNatClampNeg (some a45)) (some o) 9 (fun a47 => ∀ q48 : Nat, q48 ∉ q_L (q_sR (S43) a44 ((6 : Int32)).toNatClampNeg (some a45)) → (i_X7_init (q_nw (q_sR (S43) a44 ((6 : Int32)).toNatClampNeg (some a45)) q48 8 0) (q48) (p0) (fun S49 => q_aP (S49) (q_R (q_sR (S43) a44 ((6 : Int32)).toNatClampNeg (some a45)) a47 1) 104 (fun a50 => q_aP (S49) (some q48) 8 (fun a51 => q_in ((7 : Int32)) (q_N (S49) a50) = true ∧ (q_aP (q_sR (S49) a50 ((7 : Int32)).toNatClampNeg (some a51)) (some o) 9 (fun a53 => ∀ q54 : Nat, q54 ∉ q_L (q_sR (S49) a50 ((7 : Int32)).toNatClampNeg (some a51)) → (i_X7_init (q_nw (q_sR (S49) a50 ((7 : Int32)).toNatClampNeg (some a51)) q54 8 0) (q54) (p0) (fun S55 => q_aP (S55) (q_R (q_sR (S49) a50 ((7 : Int32)).toNatClampNeg (some a51)) a53 1) 104 (fun a56 => q_aP (S55) (some q54) 8 (fun a57 => q_in ((8 : Int32)) (q_N (S55) a56) = true ∧ (q_aP (q_sR (S55) a56 ((8 : Int32)).toNatClampNeg (some a57)) (some o) 9 (fun a59 => ∀ q60 : Nat, q60 ∉ q_L (q_sR (S55) a56 ((8 : Int32)).toNatClampNeg (some a57)) → (i_X7_init (q_nw (q_sR (S55) a56 ((8 : Int32)).toNatClampNeg (some a57)) q60 8 0) (q60) (p0) (fun S61 => q_aP (S61) (q_R (q_sR (S55) a56 ((8 : Int32)).toNatClampNeg (some a57)) a59 1) 104 (fun a62 => q_aP (S61) (some q60) 8 (fun a63 => q_in ((9 : Int32)) (q_N (S61) a62) = true ∧ (q_aP (q_sR (S61) a62 ((9 : Int32)).toNatClampNeg (some a63)) (some o) 9 (fun a65 => ∀ q66 : Nat, q66 ∉ q_L (q_sR (S61) a62 ((9 : Int32)).toNatClampNeg (some a63)) → (i_X7_init (q_nw (q_sR (S61) a62 ((9 : Int32)).toNatClampNeg (some a63)) q66 8 0) (q66) (p0) (fun S67 => q_aP (S67) (q_R (q_sR (S61) a62 ((9 : Int32)).toNatClampNeg (some a63)) a65 1) 104 (fun a68 => q_aP (S67) (some q66) 8 (fun a69 => q_in ((10 : Int32)) (q_N (S67) a68) = true ∧ (q_aP (q_sR (S67) a68 ((10 : Int32)).toNatClampNeg (some a69)) (some o) 9 (fun a71 => ∀ q72 : Nat, q72 ∉ q_L (q_sR (S67) a68 ((10 : Int32)).toNatClampNeg (some a69)) → (i_X7_init (q_nw (q_sR (S67) a68 ((10 : Int32)).toNatClampNeg (some a69)) q72 8 0) (q72) (p0) (fun S73 => q_aP (S73) (q_R (q_sR (S67) a68 ((10 : Int32)).toNatClampNeg (some a69)) a71 1) 104 (fun a74 => q_aP (S73) (some q72) 8 (fun a75 => q_in ((11 : Int32)) (q_N (S73) a74) = true ∧ (q_aP (q_sR (S73) a74 ((11 : Int32)).toNatClampNeg (some a75)) (some o) 9 (fun a77 => ∀ q78 : Nat, q78 ∉ q_L (q_sR (S73) a74 ((11 : Int32)).toNatClampNeg (some a75)) → (i_X7_init (q_nw (q_sR (S73) a74 ((11 : Int32)).toNatClampNeg (some a75)) q78 8 0) (q78) (p0) (fun S79 => q_aP (S79) (q_R (q_sR (S73) a74 ((11 : Int32)).toNatClampNeg (some a75)) a77 1) 104 (fun a80 => q_aP (S79) (some q78) 8 (fun a81 => q_in ((12 : Int32)) (q_N (S79) a80) = true ∧ (q_aP (q_sR (S79) a80 ((12 : Int32)).toNatClampNeg (some a81)) (some o) 9 (fun a83 => ∀ q84 : Nat, q84 ∉ q_L (q_sR (S79) a80 ((12 : Int32)).toNatClampNeg (some a81)) → (i_X7_init (q_nw (q_sR (S79) a80 ((12 : Int32)).toNatClampNeg (some a81)) q84 8 0) (q84) (p0) (fun S85 => q_aP (S85) (q_R (q_sR (S79) a80 ((12 : Int32)).toNatClampNeg (some a81)) a83 1) 104 (fun a86 => q_aP (S85) (some q84) 8 (fun a87 => q_in ((13 : Int32)) (q_N (S85) a86) = true ∧ (q_aP (q_sR (S85) a86 ((13 : Int32)).toNatClampNeg (some a87)) (some o) 9 (fun a89 => ∀ q90 : Nat, q90 ∉ q_L (q_sR (S85) a86 ((13 : Int32)).toNatClampNeg (some a87)) → (i_X7_init (q_nw (q_sR (S85) a86 ((13 : Int32)).toNatClampNeg (some a87)) q90 8 0) (q90) (p0) (fun S91 => q_aP (S91) (q_R (q_sR (S85) a86 ((13 : Int32)).toNatClampNeg (some a87)) a89 1) 104 (fun a92 => q_aP (S91) (some q90) 8 (fun a93 => q_in ((14 : Int32)) (q_N (S91) a92) = true ∧ (q_aP (q_sR (S91) a92 ((14 : Int32)).toNatClampNeg (some a93)) (some o) 9 (fun a95 => ∀ q96 : Nat, q96 ∉ q_L (q_sR (S91) a92 ((14 : Int32)).toNatClampNeg (some a93)) → (i_X7_init (q_nw (q_sR (S91) a92 ((14 : Int32)).toNatClampNeg (some a93)) q96 8 0) (q96) (p0) (fun S97 => q_aP (S97) (q_R (q_sR (S91) a92 ((14 : Int32)).toNatClampNeg (some a93)) a95 1) 104 (fun a98 => q_aP (S97) (some q96) 8 (fun a99 => q_in ((15 : Int32)) (q_N (S97) a98) = true ∧ (q_aP (q_sR (S97) a98 ((15 : Int32)).toNatClampNeg (some a99)) (some o) 9 (fun a101 => ∀ q102 : Nat, q102 ∉ q_L (q_sR (S97) a98 ((15 : Int32)).toNatClampNeg (some a99)) → (i_X7_init (q_nw (q_sR (S97) a98 ((15 : Int32)).toNatClampNeg (some a99)) q102 8 0) (q102) (p0) (fun S103 => q_aP (S103) (q_R (q_sR (S97) a98 ((15 : Int32)).toNatClampNeg (some a99)) a101 1) 104 (fun a104 => q_aP (S103) (some q102) 8 (fun a105 => q_in ((16 : Int32)) (q_N (S103) a104) = true ∧ (q_aP (q_sR (S103) a104 ((16 : Int32)).toNatClampNeg (some a105)) (some o) 9 (fun a107 => ∀ q108 : Nat, q108 ∉ q_L (q_sR (S103) a104 ((16 : Int32)).toNatClampNeg (some a105)) → (i_X7_init (q_nw (q_sR (S103) a104 ((16 : Int32)).toNatClampNeg (some a105)) q108 8 0) (q108) (p0) (fun S109 => q_aP (S109) (q_R (q_sR (S103) a104 ((16 : Int32)).toNatClampNeg (some a105)) a107 1) 104 (fun a110 => q_aP (S109) (some q108) 8 (fun a111 => q_in ((17 : Int32)) (q_N (S109) a110) = true ∧ (q_aP (q_sR (S109) a110 ((17 : Int32)).toNatClampNeg (some a111)) (some o) 9 (fun a113 => ∀ q114 : Nat, q114 ∉ q_L (q_sR (S109) a110 ((17 : Int32)).toNatClampNeg (some a111)) → (i_X7_init (q_nw (q_sR (S109) a110 ((17 : Int32)).toNatClampNeg (some a111)) q114 8 0) (q114) (p0) (fun S115 => q_aP (S115) (q_R (q_sR (S109) a110 ((17 : Int32)).toNatClampNeg (some a111)) a113 1) 104 (fun a116 => q_aP (S115) (some q114) 8 (fun a117 => q_in ((18 : Int32)) (q_N (S115) a116) = true ∧ (q_aP (q_sR (S115) a116 ((18 : Int32)).toNatClampNeg (some a117)) (some o) 9 (fun a119 => ∀ q120 : Nat, q120 ∉ q_L (q_sR (S115) a116 ((18 : Int32)).toNatClampNeg (some a117)) → (i_X7_init (q_nw (q_sR (S115) a116 ((18 : Int32)).toNatClampNeg (some a117)) q120 8 0) (q120) (p0) (fun S121 => q_aP (S121) (q_R (q_sR (S115) a116 ((18 : Int32)).toNatClampNeg (some a117)) a119 1) 104 (fun a122 => q_aP (S121) (some q120) 8 (fun a123 => q_in ((19 : Int32)) (q_N (S121) a122) = true ∧ (q_aP (q_sR (S121) a122 ((19 : Int32)).toNatClampNeg (some a123)) (some o) 9 (fun a125 => ∀ q126 : Nat, q126 ∉ q_L (q_sR (S121) a122 ((19 : Int32)).toNatClampNeg (some a123)) → (i_X7_init (q_nw (q_sR (S121) a122 ((19 : Int32)).toNatClampNeg (some a123)) q126 8 0) (q126) (p0) (fun S127 => q_aP (S127) (q_R (q_sR (S121) a122 ((19 : Int32)).toNatClampNeg (some a123)) a125 1) 104 (fun a128 => q_aP (S127) (some q126) 8 (fun a129 => q_in ((20 : Int32)) (q_N (S127) a128) = true ∧ (q_aP (q_sR (S127) a128 ((20 : Int32)).toNatClampNeg (some a129)) (some o) 9 (fun a131 => ∀ q132 : Nat, q132 ∉ q_L (q_sR (S127) a128 ((20 : Int32)).toNatClampNeg (some a129)) → (i_X7_init (q_nw (q_sR (S127) a128 ((20 : Int32)).toNatClampNeg (some a129)) q132 8 0) (q132) (p0) (fun S133 => q_aP (S133) (q_R (q_sR (S127) a128 ((20 : Int32)).toNatClampNeg (some a129)) a131 1) 104 (fun a134 => q_aP (S133) (some q132) 8 (fun a135 => q_in ((21 : Int32)) (q_N (S133) a134) = true ∧ (q_aP (q_sR (S133) a134 ((21 : Int32)).toNatClampNeg (some a135)) (some o) 9 (fun a137 => ∀ q138 : Nat, q138 ∉ q_L (q_sR (S133) a134 ((21 : Int32)).toNatClampNeg (some a135)) → (i_X7_init (q_nw (q_sR (S133) a134 ((21 : Int32)).toNatClampNeg (some a135)) q138 8 0) (q138) (p0) (fun S139 => q_aP (S139) (q_R (q_sR (S133) a134 ((21 : Int32)).toNatClampNeg (some a135)) a137 1) 104 (fun a140 => q_aP (S139) (some q138) 8 (fun a141 => q_in ((22 : Int32)) (q_N (S139) a140) = true ∧ (q_aP (q_sR (S139) a140 ((22 : Int32)).toNatClampNeg (some a141)) (some o) 9 (fun a143 => ∀ q144 : Nat, q144 ∉ q_L (q_sR (S139) a140 ((22 : Int32)).toNatClampNeg (some a141)) → (i_X7_init (q_nw (q_sR (S139) a140 ((22 : Int32)).toNatClampNeg (some a141)) q144 8 0) (q144) (p0) (fun S145 => q_aP (S145) (q_R (q_sR (S139) a140 ((22 : Int32)).toNatClampNeg (some a141)) a143 1) 104 (fun a146 => q_aP (S145) (some q144) 8 (fun a147 => q_in ((23 : Int32)) (q_N (S145) a146) = true ∧ (Post (q_sR (S145) a146 ((23 : Int32)).toNatClampNeg (some a147))))))))))))))))))))))))))))))))))))))))))))))))))))))))))))))))))))))))))))))))))))))))))))))))))))))))))))))))))))))))))))))))))))))))))))))))))))))
set_option maxHeartbeats 4000000 in
set_option maxRecDepth 100000 in
theorem wi_X8_init (X : q_X p s m args c cX8_init 3 RX8 q_T D cy A) (hr : meth.sig.returnType = none) (hl : meth.locks = false) (hin : meth.name = "<init>") {S : q_S} {o : Nat} {p0 : Option Nat} {Post : q_S → Prop} (h : i_X8_init S o p0 Post) : q_W p l e ({ frames := 2, cells := 26, slots := 149, locals := 41 } : Room) s m args below meth c (MQ below (va_Qv Post (q_B D cy A) A) args s 26 149 A) A D cy 3 0 0 S 0 [(0, va_rf (some o)), (1, va_rf (p0))] [] := by
  unfold i_X8_init at h
  refine q_aload_n X 0 rfl dX8_init_0 ?_
  refine q_objI X rfl tO_X8_3 tO_i tO_c (Nat.le_of_ble_eq_true rfl) (Nat.le_of_ble_eq_true rfl) dX8_init_1 ?_
  refine q_aload_n X 0 rfl dX8_init_4 ?_
  refine q_bipush X (24) (by decide) dX8_init_5 ?_
  refine q_rnewq104 X 24 tL_X8_9 tA_Table (by decide) (by decide) (Nat.le_of_ble_eq_true rfl) (Nat.le_of_ble_eq_true rfl) (Nat.le_of_ble_eq_true rfl) dX8_init_7 (fun q1 fq1 => ?_)
  have h := h q1 fq1
  obtain ⟨a2, ea2, ma2, ka2, h⟩ := h
  refine q_putF X 1 ea2 ma2 ka2 rfl tW_X8 (by decide) (by decide) tF_X8_11 tyX8 tyX8_ok nmX8 rfl hin rfl (tyX8_ok 1 (by decide)) (q_nRa _ _) (q_fRa _ _) rfl dX8_init_10 ?_
  have ma2 : a2 ∈ q_L (q_sR (q_nw (S) q1 104 24) a2 1 (some q1)) := q_LsR ma2
  have ka2 : q_K (q_sR (q_nw (S) q1 104 24) a2 1 (some q1)) a2 = 9 := q_KsR ka2
  refine q_aload_n X 0 rfl dX8_init_13 ?_
  refine q_aload_n X 1 rfl dX8_init_14 ?_
  refine q_putF X 0 ea2 ma2 ka2 rfl tW_X8 (by decide) (by decide) tF_X8_17 tyX8 tyX8_ok nmX8 rfl hin rfl (tyX8_ok 0 (by decide)) (q_nR _ _) (q_fR _ _) rfl dX8_init_15 ?_
  have ma2 : a2 ∈ q_L (q_sR (q_sR (q_nw (S) q1 104 24) a2 1 (some q1)) a2 0 (p0)) := q_LsR ma2
  have ka2 : q_K (q_sR (q_sR (q_nw (S) q1 104 24) a2 1 (some q1)) a2 0 (p0)) a2 = 9 := q_KsR ka2
  refine q_aload_n X 0 rfl dX8_init_18 ?_
  refine q_rnew X tyX7 tyX7_ok rfl (by decide) tW_X7 tL_X8_9 tJ_X7 tN_X7 q_df_X7 (Nat.le_of_ble_eq_true rfl) (Nat.le_of_ble_eq_true rfl) dX8_init_19 (fun q3 fq3 => ?_)
  have h := h q3 fq3
  refine q_dup X (q_catR _) dX8_init_22 ?_
  refine q_aload_n X 1 rfl dX8_init_23 ?_
  refine q_cI X (As := [va_rf (p0)]) rfl (ci_X7_init h) tK_X7_init tM_X8_21 tI_X7_init tN_X7 rfl rfl rfl tD_X7_init ⟨Nat.le_of_ble_eq_true rfl, Nat.le_of_ble_eq_true rfl⟩ rfl rfl (by first | exact Nat.le_of_ble_eq_true rfl | (simp only [List.map, q_catR]; exact Nat.le_of_ble_eq_true rfl)) ⟨Nat.le_of_ble_eq_true rfl, Nat.le_of_ble_eq_true rfl⟩ dX8_init_24 (fun S4 h => ?_)
  obtain ⟨a5, ea5, ma5, ka5, h⟩ := h
  refine q_putF X 2 ea5 ma5 ka5 rfl tW_X8 (by decide) (by decide) tF_X8_24 tyX8 tyX8_ok nmX8 rfl hin rfl (tyX8_ok 2 (by decide)) (q_nR _ _) (q_fR _ _) rfl dX8_init_27 ?_
  have ma5 : a5 ∈ q_L (q_sR (S4) a5 2 (some q3)) := q_LsR ma5
  have ka5 : q_K (q_sR (S4) a5 2 (some q3)) a5 = 9 := q_KsR ka5
  refine q_iconst X (0) (by decide) dX8_init_30 ?_
  refine q_istore_n X 2 [(2, .int ((0 : Int32))), (0, va_rf (some o)), (1, va_rf (p0))] rfl (by decide) (by first | rfl | simp [List.filter, q_catR]) dX8_init_31 ?_
  refine q_iload_n X 0 rfl dX8_init_32 ?_
  refine q_bipush X (24) (by decide) dX8_init_33 ?_
  refine q_icmp_ge X 58 (by decide) dX8_init_35 (fun g => absurd g (by decide)) (fun _ => ?_)
  refine q_aload_n X 1 rfl dX8_init_38 ?_
  refine q_getR X 1 ea5 ma5 ka5 rfl tW_X8 (by decide) (by decide) tF_X8_11 rfl dX8_init_39 ?_
  refine q_iload_n X 0 rfl dX8_init_42 ?_
  refine q_rnew X tyX7 tyX7_ok rfl (by decide) tW_X7 tL_X8_9 tJ_X7 tN_X7 q_df_X7 (Nat.le_of_ble_eq_true rfl) (Nat.le_of_ble_eq_true rfl) dX8_init_43 (fun q6 fq6 => ?_)
  have h := h q6 fq6
  refine q_dup X (q_catR _) dX8_init_46 ?_
  refine q_aload_n X 2 rfl dX8_init_47 ?_
  refine q_cI X (As := [va_rf (p0)]) rfl (ci_X7_init h) tK_X7_init tM_X8_21 tI_X7_init tN_X7 rfl rfl rfl tD_X7_init ⟨Nat.le_of_ble_eq_true rfl, Nat.le_of_ble_eq_true rfl⟩ rfl rfl (by first | exact Nat.le_of_ble_eq_true rfl | (simp only [List.map, q_catR]; exact Nat.le_of_ble_eq_true rfl)) ⟨Nat.le_of_ble_eq_true rfl, Nat.le_of_ble_eq_true rfl⟩ dX8_init_48 (fun S7 h => ?_)
  obtain ⟨a8, ea8, ma8, ka8, h⟩ := h
  obtain ⟨a9, ea9, ma9, ka9, h⟩ := h
  obtain ⟨g10, h⟩ := h
  refine q_aast104 X ea8 ma8 ka8 (q_inE g10) ea9 ma9 ka9 rfl (by decide) dX8_init_51 ?_
  have ma8 : a8 ∈ q_L (q_sR (S7) a8 ((0 : Int32)).toNatClampNeg (some a9)) := q_LsR ma8
  have ka8 : q_K (q_sR (S7) a8 ((0 : Int32)).toNatClampNeg (some a9)) a8 = 104 := q_KsR ka8
  have ma9 : a9 ∈ q_L (q_sR (S7) a8 ((0 : Int32)).toNatClampNeg (some a9)) := q_LsR ma9
  have ka9 : q_K (q_sR (S7) a8 ((0 : Int32)).toNatClampNeg (some a9)) a9 = 8 := q_KsR ka9
  refine q_iinc X 2 0 (1 : Int32) [(2, .int ((1 : Int32))), (0, va_rf (some o)), (1, va_rf (p0))] rfl (by decide) (by decide) (by first | rfl | simp [List.filter, q_catR]) dX8_init_52 ?_
  refine q_goto X 32 (by decide) dX8_init_55 ?_
  refine q_iload_n X 0 rfl dX8_init_32 ?_
  refine q_bipush X (24) (by decide) dX8_init_33 ?_
  refine q_icmp_ge X 58 (by decide) dX8_init_35 (fun g => absurd g (by decide)) (fun _ => ?_)
  refine q_aload_n X 1 rfl dX8_init_38 ?_
  obtain ⟨a11, ea11, ma11, ka11, h⟩ := h
  refine q_getR X 1 ea11 ma11 ka11 rfl tW_X8 (by decide) (by decide) tF_X8_11 rfl dX8_init_39 ?_
  refine q_iload_n X 0 rfl dX8_init_42 ?_
  refine q_rnew X tyX7 tyX7_ok rfl (by decide) tW_X7 tL_X8_9 tJ_X7 tN_X7 q_df_X7 (Nat.le_of_ble_eq_true rfl) (Nat.le_of_ble_eq_true rfl) dX8_init_43 (fun q12 fq12 => ?_)
  have h := h q12 fq12
  refine q_dup X (q_catR _) dX8_init_46 ?_
  refine q_aload_n X 2 rfl dX8_init_47 ?_
  refine q_cI X (As := [va_rf (p0)]) rfl (ci_X7_init h) tK_X7_init tM_X8_21 tI_X7_init tN_X7 rfl rfl rfl tD_X7_init ⟨Nat.le_of_ble_eq_true rfl, Nat.le_of_ble_eq_true rfl⟩ rfl rfl (by first | exact Nat.le_of_ble_eq_true rfl | (simp only [List.map, q_catR]; exact Nat.le_of_ble_eq_true rfl)) ⟨Nat.le_of_ble_eq_true rfl, Nat.le_of_ble_eq_true rfl⟩ dX8_init_48 (fun S13 h => ?_)
  obtain ⟨a14, ea14, ma14, ka14, h⟩ := h
  obtain ⟨a15, ea15, ma15, ka15, h⟩ := h
  obtain ⟨g16, h⟩ := h
  refine q_aast104 X ea14 ma14 ka14 (q_inE g16) ea15 ma15 ka15 rfl (by decide) dX8_init_51 ?_
  have ma14 : a14 ∈ q_L (q_sR (S13) a14 ((1 : Int32)).toNatClampNeg (some a15)) := q_LsR ma14
  have ka14 : q_K (q_sR (S13) a14 ((1 : Int32)).toNatClampNeg (some a15)) a14 = 104 := q_KsR ka14
  have ma15 : a15 ∈ q_L (q_sR (S13) a14 ((1 : Int32)).toNatClampNeg (some a15)) := q_LsR ma15
  have ka15 : q_K (q_sR (S13) a14 ((1 : Int32)).toNatClampNeg (some a15)) a15 = 8 := q_KsR ka15
  refine q_iinc X 2 0 (2 : Int32) [(2, .int ((2 : Int32))), (0, va_rf (some o)), (1, va_rf (p0))] rfl (by decide) (by decide) (by first | rfl | simp [List.filter, q_catR]) dX8_init_52 ?_
  refine q_goto X 32 (by decide) dX8_init_55 ?_
  refine q_iload_n X 0 rfl dX8_init_32 ?_
  refine q_bipush X (24) (by decide) dX8_init_33 ?_
  refine q_icmp_ge X 58 (by decide) dX8_init_35 (fun g => absurd g (by decide)) (fun _ => ?_)
  refine q_aload_n X 1 rfl dX8_init_38 ?_
  obtain ⟨a17, ea17, ma17, ka17, h⟩ := h
  refine q_getR X 1 ea17 ma17 ka17 rfl tW_X8 (by decide) (by decide) tF_X8_11 rfl dX8_init_39 ?_
  refine q_iload_n X 0 rfl dX8_init_42 ?_
  refine q_rnew X tyX7 tyX7_ok rfl (by decide) tW_X7 tL_X8_9 tJ_X7 tN_X7 q_df_X7 (Nat.le_of_ble_eq_true rfl) (Nat.le_of_ble_eq_true rfl) dX8_init_43 (fun q18 fq18 => ?_)
  have h := h q18 fq18
  refine q_dup X (q_catR _) dX8_init_46 ?_
  refine q_aload_n X 2 rfl dX8_init_47 ?_
  refine q_cI X (As := [va_rf (p0)]) rfl (ci_X7_init h) tK_X7_init tM_X8_21 tI_X7_init tN_X7 rfl rfl rfl tD_X7_init ⟨Nat.le_of_ble_eq_true rfl, Nat.le_of_ble_eq_true rfl⟩ rfl rfl (by first | exact Nat.le_of_ble_eq_true rfl | (simp only [List.map, q_catR]; exact Nat.le_of_ble_eq_true rfl)) ⟨Nat.le_of_ble_eq_true rfl, Nat.le_of_ble_eq_true rfl⟩ dX8_init_48 (fun S19 h => ?_)
  obtain ⟨a20, ea20, ma20, ka20, h⟩ := h
  obtain ⟨a21, ea21, ma21, ka21, h⟩ := h
  obtain ⟨g22, h⟩ := h
  refine q_aast104 X ea20 ma20 ka20 (q_inE g22) ea21 ma21 ka21 rfl (by decide) dX8_init_51 ?_
  have ma20 : a20 ∈ q_L (q_sR (S19) a20 ((2 : Int32)).toNatClampNeg (some a21)) := q_LsR ma20
  have ka20 : q_K (q_sR (S19) a20 ((2 : Int32)).toNatClampNeg (some a21)) a20 = 104 := q_KsR ka20
  have ma21 : a21 ∈ q_L (q_sR (S19) a20 ((2 : Int32)).toNatClampNeg (some a21)) := q_LsR ma21
  have ka21 : q_K (q_sR (S19) a20 ((2 : Int32)).toNatClampNeg (some a21)) a21 = 8 := q_KsR ka21
  refine q_iinc X 2 0 (3 : Int32) [(2, .int ((3 : Int32))), (0, va_rf (some o)), (1, va_rf (p0))] rfl (by decide) (by decide) (by first | rfl | simp [List.filter, q_catR]) dX8_init_52 ?_
  refine q_goto X 32 (by decide) dX8_init_55 ?_
  refine q_iload_n X 0 rfl dX8_init_32 ?_
  refine q_bipush X (24) (by decide) dX8_init_33 ?_
  refine q_icmp_ge X 58 (by decide) dX8_init_35 (fun g => absurd g (by decide)) (fun _ => ?_)
  refine q_aload_n X 1 rfl dX8_init_38 ?_
  obtain ⟨a23, ea23, ma23, ka23, h⟩ := h
  refine q_getR X 1 ea23 ma23 ka23 rfl tW_X8 (by decide) (by decide) tF_X8_11 rfl dX8_init_39 ?_
  refine q_iload_n X 0 rfl dX8_init_42 ?_
  refine q_rnew X tyX7 tyX7_ok rfl (by decide) tW_X7 tL_X8_9 tJ_X7 tN_X7 q_df_X7 (Nat.le_of_ble_eq_true rfl) (Nat.le_of_ble_eq_true rfl) dX8_init_43 (fun q24 fq24 => ?_)
  have h := h q24 fq24
  refine q_dup X (q_catR _) dX8_init_46 ?_
  refine q_aload_n X 2 rfl dX8_init_47 ?_
  refine q_cI X (As := [va_rf (p0)]) rfl (ci_X7_init h) tK_X7_init tM_X8_21 tI_X7_init tN_X7 rfl rfl rfl tD_X7_init ⟨Nat.le_of_ble_eq_true rfl, Nat.le_of_ble_eq_true rfl⟩ rfl rfl (by first | exact Nat.le_of_ble_eq_true rfl | (simp only [List.map, q_catR]; exact Nat.le_of_ble_eq_true rfl)) ⟨Nat.le_of_ble_eq_true rfl, Nat.le_of_ble_eq_true rfl⟩ dX8_init_48 (fun S25 h => ?_)
  obtain ⟨a26, ea26, ma26, ka26, h⟩ := h
  obtain ⟨a27, ea27, ma27, ka27, h⟩ := h
  obtain ⟨g28, h⟩ := h
  refine q_aast104 X ea26 ma26 ka26 (q_inE g28) ea27 ma27 ka27 rfl (by decide) dX8_init_51 ?_
  have ma26 : a26 ∈ q_L (q_sR (S25) a26 ((3 : Int32)).toNatClampNeg (some a27)) := q_LsR ma26
  have ka26 : q_K (q_sR (S25) a26 ((3 : Int32)).toNatClampNeg (some a27)) a26 = 104 := q_KsR ka26
  have ma27 : a27 ∈ q_L (q_sR (S25) a26 ((3 : Int32)).toNatClampNeg (some a27)) := q_LsR ma27
  have ka27 : q_K (q_sR (S25) a26 ((3 : Int32)).toNatClampNeg (some a27)) a27 = 8 := q_KsR ka27
  refine q_iinc X 2 0 (4 : Int32) [(2, .int ((4 : Int32))), (0, va_rf (some o)), (1, va_rf (p0))] rfl (by decide) (by decide) (by first | rfl | simp [List.filter, q_catR]) dX8_init_52 ?_
  refine q_goto X 32 (by decide) dX8_init_55 ?_
  refine q_iload_n X 0 rfl dX8_init_32 ?_
  refine q_bipush X (24) (by decide) dX8_init_33 ?_
  refine q_icmp_ge X 58 (by decide) dX8_init_35 (fun g => absurd g (by decide)) (fun _ => ?_)
  refine q_aload_n X 1 rfl dX8_init_38 ?_
  obtain ⟨a29, ea29, ma29, ka29, h⟩ := h
  refine q_getR X 1 ea29 ma29 ka29 rfl tW_X8 (by decide) (by decide) tF_X8_11 rfl dX8_init_39 ?_
  refine q_iload_n X 0 rfl dX8_init_42 ?_
  refine q_rnew X tyX7 tyX7_ok rfl (by decide) tW_X7 tL_X8_9 tJ_X7 tN_X7 q_df_X7 (Nat.le_of_ble_eq_true rfl) (Nat.le_of_ble_eq_true rfl) dX8_init_43 (fun q30 fq30 => ?_)
  have h := h q30 fq30
  refine q_dup X (q_catR _) dX8_init_46 ?_
  refine q_aload_n X 2 rfl dX8_init_47 ?_
  refine q_cI X (As := [va_rf (p0)]) rfl (ci_X7_init h) tK_X7_init tM_X8_21 tI_X7_init tN_X7 rfl rfl rfl tD_X7_init ⟨Nat.le_of_ble_eq_true rfl, Nat.le_of_ble_eq_true rfl⟩ rfl rfl (by first | exact Nat.le_of_ble_eq_true rfl | (simp only [List.map, q_catR]; exact Nat.le_of_ble_eq_true rfl)) ⟨Nat.le_of_ble_eq_true rfl, Nat.le_of_ble_eq_true rfl⟩ dX8_init_48 (fun S31 h => ?_)
  obtain ⟨a32, ea32, ma32, ka32, h⟩ := h
  obtain ⟨a33, ea33, ma33, ka33, h⟩ := h
  obtain ⟨g34, h⟩ := h
  refine q_aast104 X ea32 ma32 ka32 (q_inE g34) ea33 ma33 ka33 rfl (by decide) dX8_init_51 ?_
  have ma32 : a32 ∈ q_L (q_sR (S31) a32 ((4 : Int32)).toNatClampNeg (some a33)) := q_LsR ma32
  have ka32 : q_K (q_sR (S31) a32 ((4 : Int32)).toNatClampNeg (some a33)) a32 = 104 := q_KsR ka32
  have ma33 : a33 ∈ q_L (q_sR (S31) a32 ((4 : Int32)).toNatClampNeg (some a33)) := q_LsR ma33
  have ka33 : q_K (q_sR (S31) a32 ((4 : Int32)).toNatClampNeg (some a33)) a33 = 8 := q_KsR ka33
  refine q_iinc X 2 0 (5 : Int32) [(2, .int ((5 : Int32))), (0, va_rf (some o)), (1, va_rf (p0))] rfl (by decide) (by decide) (by first | rfl | simp [List.filter, q_catR]) dX8_init_52 ?_
  refine q_goto X 32 (by decide) dX8_init_55 ?_
  refine q_iload_n X 0 rfl dX8_init_32 ?_
  refine q_bipush X (24) (by decide) dX8_init_33 ?_
  refine q_icmp_ge X 58 (by decide) dX8_init_35 (fun g => absurd g (by decide)) (fun _ => ?_)
  refine q_aload_n X 1 rfl dX8_init_38 ?_
  obtain ⟨a35, ea35, ma35, ka35, h⟩ := h
  refine q_getR X 1 ea35 ma35 ka35 rfl tW_X8 (by decide) (by decide) tF_X8_11 rfl dX8_init_39 ?_
  refine q_iload_n X 0 rfl dX8_init_42 ?_
  refine q_rnew X tyX7 tyX7_ok rfl (by decide) tW_X7 tL_X8_9 tJ_X7 tN_X7 q_df_X7 (Nat.le_of_ble_eq_true rfl) (Nat.le_of_ble_eq_true rfl) dX8_init_43 (fun q36 fq36 => ?_)
  have h := h q36 fq36
  refine q_dup X (q_catR _) dX8_init_46 ?_
  refine q_aload_n X 2 rfl dX8_init_47 ?_
  refine q_cI X (As := [va_rf (p0)]) rfl (ci_X7_init h) tK_X7_init tM_X8_21 tI_X7_init tN_X7 rfl rfl rfl tD_X7_init ⟨Nat.le_of_ble_eq_true rfl, Nat.le_of_ble_eq_true rfl⟩ rfl rfl (by first | exact Nat.le_of_ble_eq_true rfl | (simp only [List.map, q_catR]; exact Nat.le_of_ble_eq_true rfl)) ⟨Nat.le_of_ble_eq_true rfl, Nat.le_of_ble_eq_true rfl⟩ dX8_init_48 (fun S37 h => ?_)
  obtain ⟨a38, ea38, ma38, ka38, h⟩ := h
  obtain ⟨a39, ea39, ma39, ka39, h⟩ := h
  obtain ⟨g40, h⟩ := h
  refine q_aast104 X ea38 ma38 ka38 (q_inE g40) ea39 ma39 ka39 rfl (by decide) dX8_init_51 ?_
  have ma38 : a38 ∈ q_L (q_sR (S37) a38 ((5 : Int32)).toNatClampNeg (some a39)) := q_LsR ma38
  have ka38 : q_K (q_sR (S37) a38 ((5 : Int32)).toNatClampNeg (some a39)) a38 = 104 := q_KsR ka38
  have ma39 : a39 ∈ q_L (q_sR (S37) a38 ((5 : Int32)).toNatClampNeg (some a39)) := q_LsR ma39
  have ka39 : q_K (q_sR (S37) a38 ((5 : Int32)).toNatClampNeg (some a39)) a39 = 8 := q_KsR ka39
  refine q_iinc X 2 0 (6 : Int32) [(2, .int ((6 : Int32))), (0, va_rf (some o)), (1, va_rf (p0))] rfl (by decide) (by decide) (by first | rfl | simp [List.filter, q_catR]) dX8_init_52 ?_
  refine q_goto X 32 (by decide) dX8_init_55 ?_
  refine q_iload_n X 0 rfl dX8_init_32 ?_
  refine q_bipush X (24) (by decide) dX8_init_33 ?_
  refine q_icmp_ge X 58 (by decide) dX8_init_35 (fun g => absurd g (by decide)) (fun _ => ?_)
  refine q_aload_n X 1 rfl dX8_init_38 ?_
  obtain ⟨a41, ea41, ma41, ka41, h⟩ := h
  refine q_getR X 1 ea41 ma41 ka41 rfl tW_X8 (by decide) (by decide) tF_X8_11 rfl dX8_init_39 ?_
  refine q_iload_n X 0 rfl dX8_init_42 ?_
  refine q_rnew X tyX7 tyX7_ok rfl (by decide) tW_X7 tL_X8_9 tJ_X7 tN_X7 q_df_X7 (Nat.le_of_ble_eq_true rfl) (Nat.le_of_ble_eq_true rfl) dX8_init_43 (fun q42 fq42 => ?_)
  have h := h q42 fq42
  refine q_dup X (q_catR _) dX8_init_46 ?_
  refine q_aload_n X 2 rfl dX8_init_47 ?_
  refine q_cI X (As := [va_rf (p0)]) rfl (ci_X7_init h) tK_X7_init tM_X8_21 tI_X7_init tN_X7 rfl rfl rfl tD_X7_init ⟨Nat.le_of_ble_eq_true rfl, Nat.le_of_ble_eq_true rfl⟩ rfl rfl (by first | exact Nat.le_of_ble_eq_true rfl | (simp only [List.map, q_catR]; exact Nat.le_of_ble_eq_true rfl)) ⟨Nat.le_of_ble_eq_true rfl, Nat.le_of_ble_eq_true rfl⟩ dX8_init_48 (fun S43 h => ?_)
  obtain ⟨a44, ea44, ma44, ka44, h⟩ := h
  obtain ⟨a45, ea45, ma45, ka45, h⟩ := h
  obtain ⟨g46, h⟩ := h
  refine q_aast104 X ea44 ma44 ka44 (q_inE g46) ea45 ma45 ka45 rfl (by decide) dX8_init_51 ?_
  have ma44 : a44 ∈ q_L (q_sR (S43) a44 ((6 : Int32)).toNatClampNeg (some a45)) := q_LsR ma44
  have ka44 : q_K (q_sR (S43) a44 ((6 : Int32)).toNatClampNeg (some a45)) a44 = 104 := q_KsR ka44
  have ma45 : a45 ∈ q_L (q_sR (S43) a44 ((6 : Int32)).toNatClampNeg (some a45)) := q_LsR ma45
  have ka45 : q_K (q_sR (S43) a44 ((6 : Int32)).toNatClampNeg (some a45)) a45 = 8 := q_KsR ka45
  refine q_iinc X 2 0 (7 : Int32) [(2, .int ((7 : Int32))), (0, va_rf (some o)), (1, va_rf (p0))] rfl (by decide) (by decide) (by first | rfl | simp [List.filter, q_catR]) dX8_init_52 ?_
  refine q_goto X 32 (by decide) dX8_init_55 ?_
  refine q_iload_n X 0 rfl dX8_init_32 ?_
  refine q_bipush X (24) (by decide) dX8_init_33 ?_
  refine q_icmp_ge X 58 (by decide) dX8_init_35 (fun g => absurd g (by decide)) (fun _ => ?_)
  refine q_aload_n X 1 rfl dX8_init_38 ?_
  obtain ⟨a47, ea47, ma47, ka47, h⟩ := h
  refine q_getR X 1 ea47 ma47 ka47 rfl tW_X8 (by decide) (by decide) tF_X8_11 rfl dX8_init_39 ?_
  refine q_iload_n X 0 rfl dX8_init_42 ?_
  refine q_rnew X tyX7 tyX7_ok rfl (by decide) tW_X7 tL_X8_9 tJ_X7 tN_X7 q_df_X7 (Nat.le_of_ble_eq_true rfl) (Nat.le_of_ble_eq_true rfl) dX8_init_43 (fun q48 fq48 => ?_)
  have h := h q48 fq48
  refine q_dup X (q_catR _) dX8_init_46 ?_
  refine q_aload_n X 2 rfl dX8_init_47 ?_
  refine q_cI X (As := [va_rf (p0)]) rfl (ci_X7_init h) tK_X7_init tM_X8_21 tI_X7_init tN_X7 rfl rfl rfl tD_X7_init ⟨Nat.le_of_ble_eq_true rfl, Nat.le_of_ble_eq_true rfl⟩ rfl rfl (by first | exact Nat.le_of_ble_eq_true rfl | (simp only [List.map, q_catR]; exact Nat.le_of_ble_eq_true rfl)) ⟨Nat.le_of_ble_eq_true rfl, Nat.le_of_ble_eq_true rfl⟩ dX8_init_48 (fun S49 h => ?_)
  obtain ⟨a50, ea50, ma50, ka50, h⟩ := h
  obtain ⟨a51, ea51, ma51, ka51, h⟩ := h
  obtain ⟨g52, h⟩ := h
  refine q_aast104 X ea50 ma50 ka50 (q_inE g52) ea51 ma51 ka51 rfl (by decide) dX8_init_51 ?_
  have ma50 : a50 ∈ q_L (q_sR (S49) a50 ((7 : Int32)).toNatClampNeg (some a51)) := q_LsR ma50
  have ka50 : q_K (q_sR (S49) a50 ((7 : Int32)).toNatClampNeg (some a51)) a50 = 104 := q_KsR ka50
  have ma51 : a51 ∈ q_L (q_sR (S49) a50 ((7 : Int32)).toNatClampNeg (some a51)) := q_LsR ma51
  have ka51 : q_K (q_sR (S49) a50 ((7 : Int32)).toNatClampNeg (some a51)) a51 = 8 := q_KsR ka51
  refine q_iinc X 2 0 (8 : Int32) [(2, .int ((8 : Int32))), (0, va_rf (some o)), (1, va_rf (p0))] rfl (by decide) (by decide) (by first | rfl | simp [List.filter, q_catR]) dX8_init_52 ?_
  refine q_goto X 32 (by decide) dX8_init_55 ?_
  refine q_iload_n X 0 rfl dX8_init_32 ?_
  refine q_bipush X (24) (by decide) dX8_init_33 ?_
  refine q_icmp_ge X 58 (by decide) dX8_init_35 (fun g => absurd g (by decide)) (fun _ => ?_)
  refine q_aload_n X 1 rfl dX8_init_38 ?_
  obtain ⟨a53, ea53, ma53, ka53, h⟩ := h
  refine q_getR X 1 ea53 ma53 ka53 rfl tW_X8 (by decide) (by decide) tF_X8_11 rfl dX8_init_39 ?_
  refine q_iload_n X 0 rfl dX8_init_42 ?_
  refine q_rnew X tyX7 tyX7_ok rfl (by decide) tW_X7 tL_X8_9 tJ_X7 tN_X7 q_df_X7 (Nat.le_of_ble_eq_true rfl) (Nat.le_of_ble_eq_true rfl) dX8_init_43 (fun q54 fq54 => ?_)
  have h := h q54 fq54
  refine q_dup X (q_catR _) dX8_init_46 ?_
  refine q_aload_n X 2 rfl dX8_init_47 ?_
  refine q_cI X (As := [va_rf (p0)]) rfl (ci_X7_init h) tK_X7_init tM_X8_21 tI_X7_init tN_X7 rfl rfl rfl tD_X7_init ⟨Nat.le_of_ble_eq_true rfl, Nat.le_of_ble_eq_true rfl⟩ rfl rfl (by first | exact Nat.le_of_ble_eq_true rfl | (simp only [List.map, q_catR]; exact Nat.le_of_ble_eq_true rfl)) ⟨Nat.le_of_ble_eq_true rfl, Nat.le_of_ble_eq_true rfl⟩ dX8_init_48 (fun S55 h => ?_)
  obtain ⟨a56, ea56, ma56, ka56, h⟩ := h
  obtain ⟨a57, ea57, ma57, ka57, h⟩ := h
  obtain ⟨g58, h⟩ := h
  refine q_aast104 X ea56 ma56 ka56 (q_inE g58) ea57 ma57 ka57 rfl (by decide) dX8_init_51 ?_
  have ma56 : a56 ∈ q_L (q_sR (S55) a56 ((8 : Int32)).toNatClampNeg (some a57)) := q_LsR ma56
  have ka56 : q_K (q_sR (S55) a56 ((8 : Int32)).toNatClampNeg (some a57)) a56 = 104 := q_KsR ka56
  have ma57 : a57 ∈ q_L (q_sR (S55) a56 ((8 : Int32)).toNatClampNeg (some a57)) := q_LsR ma57
  have ka57 : q_K (q_sR (S55) a56 ((8 : Int32)).toNatClampNeg (some a57)) a57 = 8 := q_KsR ka57
  refine q_iinc X 2 0 (9 : Int32) [(2, .int ((9 : Int32))), (0, va_rf (some o)), (1, va_rf (p0))] rfl (by decide) (by decide) (by first | rfl | simp [List.filter, q_catR]) dX8_init_52 ?_
  refine q_goto X 32 (by decide) dX8_init_55 ?_
  refine q_iload_n X 0 rfl dX8_init_32 ?_
  refine q_bipush X (24) (by decide) dX8_init_33 ?_
  refine q_icmp_ge X 58 (by decide) dX8_init_35 (fun g => absurd g (by decide)) (fun _ => ?_)
  refine q_aload_n X 1 rfl dX8_init_38 ?_
  obtain ⟨a59, ea59, ma59, ka59, h⟩ := h
  refine q_getR X 1 ea59 ma59 ka59 rfl tW_X8 (by decide) (by decide) tF_X8_11 rfl dX8_init_39 ?_
  refine q_iload_n X 0 rfl dX8_init_42 ?_
  refine q_rnew X tyX7 tyX7_ok rfl (by decide) tW_X7 tL_X8_9 tJ_X7 tN_X7 q_df_X7 (Nat.le_of_ble_eq_true rfl) (Nat.le_of_ble_eq_true rfl) dX8_init_43 (fun q60 fq60 => ?_)
  have h := h q60 fq60
  refine q_dup X (q_catR _) dX8_init_46 ?_
  refine q_aload_n X 2 rfl dX8_init_47 ?_
  refine q_cI X (As := [va_rf (p0)]) rfl (ci_X7_init h) tK_X7_init tM_X8_21 tI_X7_init tN_X7 rfl rfl rfl tD_X7_init ⟨Nat.le_of_ble_eq_true rfl, Nat.le_of_ble_eq_true rfl⟩ rfl rfl (by first | exact Nat.le_of_ble_eq_true rfl | (simp only [List.map, q_catR]; exact Nat.le_of_ble_eq_true rfl)) ⟨Nat.le_of_ble_eq_true rfl, Nat.le_of_ble_eq_true rfl⟩ dX8_init_48 (fun S61 h => ?_)
  obtain ⟨a62, ea62, ma62, ka62, h⟩ := h
  obtain ⟨a63, ea63, ma63, ka63, h⟩ := h
  obtain ⟨g64, h⟩ := h
  refine q_aast104 X ea62 ma62 ka62 (q_inE g64) ea63 ma63 ka63 rfl (by decide) dX8_init_51 ?_
  have ma62 : a62 ∈ q_L (q_sR (S61) a62 ((9 : Int32)).toNatClampNeg (some a63)) := q_LsR ma62
  have ka62 : q_K (q_sR (S61) a62 ((9 : Int32)).toNatClampNeg (some a63)) a62 = 104 := q_KsR ka62
  have ma63 : a63 ∈ q_L (q_sR (S61) a62 ((9 : Int32)).toNatClampNeg (some a63)) := q_LsR ma63
  have ka63 : q_K (q_sR (S61) a62 ((9 : Int32)).toNatClampNeg (some a63)) a63 = 8 := q_KsR ka63
  refine q_iinc X 2 0 (10 : Int32) [(2, .int ((10 : Int32))), (0, va_rf (some o)), (1, va_rf (p0))] rfl (by decide) (by decide) (by first | rfl | simp [List.filter, q_catR]) dX8_init_52 ?_
  refine q_goto X 32 (by decide) dX8_init_55 ?_
  refine q_iload_n X 0 rfl dX8_init_32 ?_
  refine q_bipush X (24) (by decide) dX8_init_33 ?_
  refine q_icmp_ge X 58 (by decide) dX8_init_35 (fun g => absurd g (by decide)) (fun _ => ?_)
  refine q_aload_n X 1 rfl dX8_init_38 ?_
  obtain ⟨a65, ea65, ma65, ka65, h⟩ := h
  refine q_getR X 1 ea65 ma65 ka65 rfl tW_X8 (by decide) (by decide) tF_X8_11 rfl dX8_init_39 ?_
  refine q_iload_n X 0 rfl dX8_init_42 ?_
  refine q_rnew X tyX7 tyX7_ok rfl (by decide) tW_X7 tL_X8_9 tJ_X7 tN_X7 q_df_X7 (Nat.le_of_ble_eq_true rfl) (Nat.le_of_ble_eq_true rfl) dX8_init_43 (fun q66 fq66 => ?_)
  have h := h q66 fq66
  refine q_dup X (q_catR _) dX8_init_46 ?_
  refine q_aload_n X 2 rfl dX8_init_47 ?_
  refine q_cI X (As := [va_rf (p0)]) rfl (ci_X7_init h) tK_X7_init tM_X8_21 tI_X7_init tN_X7 rfl rfl rfl tD_X7_init ⟨Nat.le_of_ble_eq_true rfl, Nat.le_of_ble_eq_true rfl⟩ rfl rfl (by first | exact Nat.le_of_ble_eq_true rfl | (simp only [List.map, q_catR]; exact Nat.le_of_ble_eq_true rfl)) ⟨Nat.le_of_ble_eq_true rfl, Nat.le_of_ble_eq_true rfl⟩ dX8_init_48 (fun S67 h => ?_)
  obtain ⟨a68, ea68, ma68, ka68, h⟩ := h
  obtain ⟨a69, ea69, ma69, ka69, h⟩ := h
  obtain ⟨g70, h⟩ := h
  refine q_aast104 X ea68 ma68 ka68 (q_inE g70) ea69 ma69 ka69 rfl (by decide) dX8_init_51 ?_
  have ma68 : a68 ∈ q_L (q_sR (S67) a68 ((10 : Int32)).toNatClampNeg (some a69)) := q_LsR ma68
  have ka68 : q_K (q_sR (S67) a68 ((10 : Int32)).toNatClampNeg (some a69)) a68 = 104 := q_KsR ka68
  have ma69 : a69 ∈ q_L (q_sR (S67) a68 ((10 : Int32)).toNatClampNeg (some a69)) := q_LsR ma69
  have ka69 : q_K (q_sR (S67) a68 ((10 : Int32)).toNatClampNeg (some a69)) a69 = 8 := q_KsR ka69
  refine q_iinc X 2 0 (11 : Int32) [(2, .int ((11 : Int32))), (0, va_rf (some o)), (1, va_rf (p0))] rfl (by decide) (by decide) (by first | rfl | simp [List.filter, q_catR]) dX8_init_52 ?_
  refine q_goto X 32 (by decide) dX8_init_55 ?_
  refine q_iload_n X 0 rfl dX8_init_32 ?_
  refine q_bipush X (24) (by decide) dX8_init_33 ?_
  refine q_icmp_ge X 58 (by decide) dX8_init_35 (fun g => absurd g (by decide)) (fun _ => ?_)
  refine q_aload_n X 1 rfl dX8_init_38 ?_
  obtain ⟨a71, ea71, ma71, ka71, h⟩ := h
  refine q_getR X 1 ea71 ma71 ka71 rfl tW_X8 (by decide) (by decide) tF_X8_11 rfl dX8_init_39 ?_
  refine q_iload_n X 0 rfl dX8_init_42 ?_
  refine q_rnew X tyX7 tyX7_ok rfl (by decide) tW_X7 tL_X8_9 tJ_X7 tN_X7 q_df_X7 (Nat.le_of_ble_eq_true rfl) (Nat.le_of_ble_eq_true rfl) dX8_init_43 (fun q72 fq72 => ?_)
  have h := h q72 fq72
  refine q_dup X (q_catR _) dX8_init_46 ?_
  refine q_aload_n X 2 rfl dX8_init_47 ?_
  refine q_cI X (As := [va_rf (p0)]) rfl (ci_X7_init h) tK_X7_init tM_X8_21 tI_X7_init tN_X7 rfl rfl rfl tD_X7_init ⟨Nat.le_of_ble_eq_true rfl, Nat.le_of_ble_eq_true rfl⟩ rfl rfl (by first | exact Nat.le_of_ble_eq_true rfl | (simp only [List.map, q_catR]; exact Nat.le_of_ble_eq_true rfl)) ⟨Nat.le_of_ble_eq_true rfl, Nat.le_of_ble_eq_true rfl⟩ dX8_init_48 (fun S73 h => ?_)
  obtain ⟨a74, ea74, ma74, ka74, h⟩ := h
  obtain ⟨a75, ea75, ma75, ka75, h⟩ := h
  obtain ⟨g76, h⟩ := h
  refine q_aast104 X ea74 ma74 ka74 (q_inE g76) ea75 ma75 ka75 rfl (by decide) dX8_init_51 ?_
  have ma74 : a74 ∈ q_L (q_sR (S73) a74 ((11 : Int32)).toNatClampNeg (some a75)) := q_LsR ma74
  have ka74 : q_K (q_sR (S73) a74 ((11 : Int32)).toNatClampNeg (some a75)) a74 = 104 := q_KsR ka74
  have ma75 : a75 ∈ q_L (q_sR (S73) a74 ((11 : Int32)).toNatClampNeg (some a75)) := q_LsR ma75
  have ka75 : q_K (q_sR (S73) a74 ((11 : Int32)).toNatClampNeg (some a75)) a75 = 8 := q_KsR ka75
  refine q_iinc X 2 0 (12 : Int32) [(2, .int ((12 : Int32))), (0, va_rf (some o)), (1, va_rf (p0))] rfl (by decide) (by decide) (by first | rfl | simp [List.filter, q_catR]) dX8_init_52 ?_
  refine q_goto X 32 (by decide) dX8_init_55 ?_
  refine q_iload_n X 0 rfl dX8_init_32 ?_
  refine q_bipush X (24) (by decide) dX8_init_33 ?_
  refine q_icmp_ge X 58 (by decide) dX8_init_35 (fun g => absurd g (by decide)) (fun _ => ?_)
  refine q_aload_n X 1 rfl dX8_init_38 ?_
  obtain ⟨a77, ea77, ma77, ka77, h⟩ := h
  refine q_getR X 1 ea77 ma77 ka77 rfl tW_X8 (by decide) (by decide) tF_X8_11 rfl dX8_init_39 ?_
  refine q_iload_n X 0 rfl dX8_init_42 ?_
  refine q_rnew X tyX7 tyX7_ok rfl (by decide) tW_X7 tL_X8_9 tJ_X7 tN_X7 q_df_X7 (Nat.le_of_ble_eq_true rfl) (Nat.le_of_ble_eq_true rfl) dX8_init_43 (fun q78 fq78 => ?_)
  have h := h q78 fq78
  refine q_dup X (q_catR _) dX8_init_46 ?_
  refine q_aload_n X 2 rfl dX8_init_47 ?_
  refine q_cI X (As := [va_rf (p0)]) rfl (ci_X7_init h) tK_X7_init tM_X8_21 tI_X7_init tN_X7 rfl rfl rfl tD_X7_init ⟨Nat.le_of_ble_eq_true rfl, Nat.le_of_ble_eq_true rfl⟩ rfl rfl (by first | exact Nat.le_of_ble_eq_true rfl | (simp only [List.map, q_catR]; exact Nat.le_of_ble_eq_true rfl)) ⟨Nat.le_of_ble_eq_true rfl, Nat.le_of_ble_eq_true rfl⟩ dX8_init_48 (fun S79 h => ?_)
  obtain ⟨a80, ea80, ma80, ka80, h⟩ := h
  obtain ⟨a81, ea81, ma81, ka81, h⟩ := h
  obtain ⟨g82, h⟩ := h
  refine q_aast104 X ea80 ma80 ka80 (q_inE g82) ea81 ma81 ka81 rfl (by decide) dX8_init_51 ?_
  have ma80 : a80 ∈ q_L (q_sR (S79) a80 ((12 : Int32)).toNatClampNeg (some a81)) := q_LsR ma80
  have ka80 : q_K (q_sR (S79) a80 ((12 : Int32)).toNatClampNeg (some a81)) a80 = 104 := q_KsR ka80
  have ma81 : a81 ∈ q_L (q_sR (S79) a80 ((12 : Int32)).toNatClampNeg (some a81)) := q_LsR ma81
  have ka81 : q_K (q_sR (S79) a80 ((12 : Int32)).toNatClampNeg (some a81)) a81 = 8 := q_KsR ka81
  refine q_iinc X 2 0 (13 : Int32) [(2, .int ((13 : Int32))), (0, va_rf (some o)), (1, va_rf (p0))] rfl (by decide) (by decide) (by first | rfl | simp [List.filter, q_catR]) dX8_init_52 ?_
  refine q_goto X 32 (by decide) dX8_init_55 ?_
  refine q_iload_n X 0 rfl dX8_init_32 ?_
  refine q_bipush X (24) (by decide) dX8_init_33 ?_
  refine q_icmp_ge X 58 (by decide) dX8_init_35 (fun g => absurd g (by decide)) (fun _ => ?_)
  refine q_aload_n X 1 rfl dX8_init_38 ?_
  obtain ⟨a83, ea83, ma83, ka83, h⟩ := h
  refine q_getR X 1 ea83 ma83 ka83 rfl tW_X8 (by decide) (by decide) tF_X8_11 rfl dX8_init_39 ?_
  refine q_iload_n X 0 rfl dX8_init_42 ?_
  refine q_rnew X tyX7 tyX7_ok rfl (by decide) tW_X7 tL_X8_9 tJ_X7 tN_X7 q_df_X7 (Nat.le_of_ble_eq_true rfl) (Nat.le_of_ble_eq_true rfl) dX8_init_43 (fun q84 fq84 => ?_)
  have h := h q84 fq84
  refine q_dup X (q_catR _) dX8_init_46 ?_
  refine q_aload_n X 2 rfl dX8_init_47 ?_
  refine q_cI X (As := [va_rf (p0)]) rfl (ci_X7_init h) tK_X7_init tM_X8_21 tI_X7_init tN_X7 rfl rfl rfl tD_X7_init ⟨Nat.le_of_ble_eq_true rfl, Nat.le_of_ble_eq_true rfl⟩ rfl rfl (by first | exact Nat.le_of_ble_eq_true rfl | (simp only [List.map, q_catR]; exact Nat.le_of_ble_eq_true rfl)) ⟨Nat.le_of_ble_eq_true rfl, Nat.le_of_ble_eq_true rfl⟩ dX8_init_48 (fun S85 h => ?_)
  obtain ⟨a86, ea86, ma86, ka86, h⟩ := h
  obtain ⟨a87, ea87, ma87, ka87, h⟩ := h
  obtain ⟨g88, h⟩ := h
  refine q_aast104 X ea86 ma86 ka86 (q_inE g88) ea87 ma87 ka87 rfl (by decide) dX8_init_51 ?_
  have ma86 : a86 ∈ q_L (q_sR (S85) a86 ((13 : Int32)).toNatClampNeg (some a87)) := q_LsR ma86
  have ka86 : q_K (q_sR (S85) a86 ((13 : Int32)).toNatClampNeg (some a87)) a86 = 104 := q_KsR ka86
  have ma87 : a87 ∈ q_L (q_sR (S85) a86 ((13 : Int32)).toNatClampNeg (some a87)) := q_LsR ma87
  have ka87 : q_K (q_sR (S85) a86 ((13 : Int32)).toNatClampNeg (some a87)) a87 = 8 := q_KsR ka87
  refine q_iinc X 2 0 (14 : Int32) [(2, .int ((14 : Int32))), (0, va_rf (some o)), (1, va_rf (p0))] rfl (by decide) (by decide) (by first | rfl | simp [List.filter, q_catR]) dX8_init_52 ?_
  refine q_goto X 32 (by decide) dX8_init_55 ?_
  refine q_iload_n X 0 rfl dX8_init_32 ?_
  refine q_bipush X (24) (by decide) dX8_init_33 ?_
  refine q_icmp_ge X 58 (by decide) dX8_init_35 (fun g => absurd g (by decide)) (fun _ => ?_)
  refine q_aload_n X 1 rfl dX8_init_38 ?_
  obtain ⟨a89, ea89, ma89, ka89, h⟩ := h
  refine q_getR X 1 ea89 ma89 ka89 rfl tW_X8 (by decide) (by decide) tF_X8_11 rfl dX8_init_39 ?_
  refine q_iload_n X 0 rfl dX8_init_42 ?_
  refine q_rnew X tyX7 tyX7_ok rfl (by decide) tW_X7 tL_X8_9 tJ_X7 tN_X7 q_df_X7 (Nat.le_of_ble_eq_true rfl) (Nat.le_of_ble_eq_true rfl) dX8_init_43 (fun q90 fq90 => ?_)
  have h := h q90 fq90
  refine q_dup X (q_catR _) dX8_init_46 ?_
  refine q_aload_n X 2 rfl dX8_init_47 ?_
  refine q_cI X (As := [va_rf (p0)]) rfl (ci_X7_init h) tK_X7_init tM_X8_21 tI_X7_init tN_X7 rfl rfl rfl tD_X7_init ⟨Nat.le_of_ble_eq_true rfl, Nat.le_of_ble_eq_true rfl⟩ rfl rfl (by first | exact Nat.le_of_ble_eq_true rfl | (simp only [List.map, q_catR]; exact Nat.le_of_ble_eq_true rfl)) ⟨Nat.le_of_ble_eq_true rfl, Nat.le_of_ble_eq_true rfl⟩ dX8_init_48 (fun S91 h => ?_)
  obtain ⟨a92, ea92, ma92, ka92, h⟩ := h
  obtain ⟨a93, ea93, ma93, ka93, h⟩ := h
  obtain ⟨g94, h⟩ := h
  refine q_aast104 X ea92 ma92 ka92 (q_inE g94) ea93 ma93 ka93 rfl (by decide) dX8_init_51 ?_
  have ma92 : a92 ∈ q_L (q_sR (S91) a92 ((14 : Int32)).toNatClampNeg (some a93)) := q_LsR ma92
  have ka92 : q_K (q_sR (S91) a92 ((14 : Int32)).toNatClampNeg (some a93)) a92 = 104 := q_KsR ka92
  have ma93 : a93 ∈ q_L (q_sR (S91) a92 ((14 : Int32)).toNatClampNeg (some a93)) := q_LsR ma93
  have ka93 : q_K (q_sR (S91) a92 ((14 : Int32)).toNatClampNeg (some a93)) a93 = 8 := q_KsR ka93
  refine q_iinc X 2 0 (15 : Int32) [(2, .int ((15 : Int32))), (0, va_rf (some o)), (1, va_rf (p0))] rfl (by decide) (by decide) (by first | rfl | simp [List.filter, q_catR]) dX8_init_52 ?_
  refine q_goto X 32 (by decide) dX8_init_55 ?_
  refine q_iload_n X 0 rfl dX8_init_32 ?_
  refine q_bipush X (24) (by decide) dX8_init_33 ?_
  refine q_icmp_ge X 58 (by decide) dX8_init_35 (fun g => absurd g (by decide)) (fun _ => ?_)
  refine q_aload_n X 1 rfl dX8_init_38 ?_
  obtain ⟨a95, ea95, ma95, ka95, h⟩ := h
  refine q_getR X 1 ea95 ma95 ka95 rfl tW_X8 (by decide) (by decide) tF_X8_11 rfl dX8_init_39 ?_
  refine q_iload_n X 0 rfl dX8_init_42 ?_
  refine q_rnew X tyX7 tyX7_ok rfl (by decide) tW_X7 tL_X8_9 tJ_X7 tN_X7 q_df_X7 (Nat.le_of_ble_eq_true rfl) (Nat.le_of_ble_eq_true rfl) dX8_init_43 (fun q96 fq96 => ?_)
  have h := h q96 fq96
  refine q_dup X (q_catR _) dX8_init_46 ?_
  refine q_aload_n X 2 rfl dX8_init_47 ?_
  refine q_cI X (As := [va_rf (p0)]) rfl (ci_X7_init h) tK_X7_init tM_X8_21 tI_X7_init tN_X7 rfl rfl rfl tD_X7_init ⟨Nat.le_of_ble_eq_true rfl, Nat.le_of_ble_eq_true rfl⟩ rfl rfl (by first | exact Nat.le_of_ble_eq_true rfl | (simp only [List.map, q_catR]; exact Nat.le_of_ble_eq_true rfl)) ⟨Nat.le_of_ble_eq_true rfl, Nat.le_of_ble_eq_true rfl⟩ dX8_init_48 (fun S97 h => ?_)
  obtain ⟨a98, ea98, ma98, ka98, h⟩ := h
  obtain ⟨a99, ea99, ma99, ka99, h⟩ := h
  obtain ⟨g100, h⟩ := h
  refine q_aast104 X ea98 ma98 ka98 (q_inE g100) ea99 ma99 ka99 rfl (by decide) dX8_init_51 ?_
  have ma98 : a98 ∈ q_L (q_sR (S97) a98 ((15 : Int32)).toNatClampNeg (some a99)) := q_LsR ma98
  have ka98 : q_K (q_sR (S97) a98 ((15 : Int32)).toNatClampNeg (some a99)) a98 = 104 := q_KsR ka98
  have ma99 : a99 ∈ q_L (q_sR (S97) a98 ((15 : Int32)).toNatClampNeg (some a99)) := q_LsR ma99
  have ka99 : q_K (q_sR (S97) a98 ((15 : Int32)).toNatClampNeg (some a99)) a99 = 8 := q_KsR ka99
  refine q_iinc X 2 0 (16 : Int32) [(2, .int ((16 : Int32))), (0, va_rf (some o)), (1, va_rf (p0))] rfl (by decide) (by decide) (by first | rfl | simp [List.filter, q_catR]) dX8_init_52 ?_
  refine q_goto X 32 (by decide) dX8_init_55 ?_
  refine q_iload_n X 0 rfl dX8_init_32 ?_
  refine q_bipush X (24) (by decide) dX8_init_33 ?_
  refine q_icmp_ge X 58 (by decide) dX8_init_35 (fun g => absurd g (by decide)) (fun _ => ?_)
  refine q_aload_n X 1 rfl dX8_init_38 ?_
  obtain ⟨a101, ea101, ma101, ka101, h⟩ := h
  refine q_getR X 1 ea101 ma101 ka101 rfl tW_X8 (by decide) (by decide) tF_X8_11 rfl dX8_init_39 ?_
  refine q_iload_n X 0 rfl dX8_init_42 ?_
  refine q_rnew X tyX7 tyX7_ok rfl (by decide) tW_X7 tL_X8_9 tJ_X7 tN_X7 q_df_X7 (Nat.le_of_ble_eq_true rfl) (Nat.le_of_ble_eq_true rfl) dX8_init_43 (fun q102 fq102 => ?_)
  have h := h q102 fq102
  refine q_dup X (q_catR _) dX8_init_46 ?_
  refine q_aload_n X 2 rfl dX8_init_47 ?_
  refine q_cI X (As := [va_rf (p0)]) rfl (ci_X7_init h) tK_X7_init tM_X8_21 tI_X7_init tN_X7 rfl rfl rfl tD_X7_init ⟨Nat.le_of_ble_eq_true rfl, Nat.le_of_ble_eq_true rfl⟩ rfl rfl (by first | exact Nat.le_of_ble_eq_true rfl | (simp only [List.map, q_catR]; exact Nat.le_of_ble_eq_true rfl)) ⟨Nat.le_of_ble_eq_true rfl, Nat.le_of_ble_eq_true rfl⟩ dX8_init_48 (fun S103 h => ?_)
  obtain ⟨a104, ea104, ma104, ka104, h⟩ := h
  obtain ⟨a105, ea105, ma105, ka105, h⟩ := h
  obtain ⟨g106, h⟩ := h
  refine q_aast104 X ea104 ma104 ka104 (q_inE g106) ea105 ma105 ka105 rfl (by decide) dX8_init_51 ?_
  have ma104 : a104 ∈ q_L (q_sR (S103) a104 ((16 : Int32)).toNatClampNeg (some a105)) := q_LsR ma104
  have ka104 : q_K (q_sR (S103) a104 ((16 : Int32)).toNatClampNeg (some a105)) a104 = 104 := q_KsR ka104
  have ma105 : a105 ∈ q_L (q_sR (S103) a104 ((16 : Int32)).toNatClampNeg (some a105)) := q_LsR ma105
  have ka105 : q_K (q_sR (S103) a104 ((16 : Int32)).toNatClampNeg (some a105)) a105 = 8 := q_KsR ka105
  refine q_iinc X 2 0 (17 : Int32) [(2, .int ((17 : Int32))), (0, va_rf (some o)), (1, va_rf (p0))] rfl (by decide) (by decide) (by first | rfl | simp [List.filter, q_catR]) dX8_init_52 ?_
  refine q_goto X 32 (by decide) dX8_init_55 ?_
  refine q_iload_n X 0 rfl dX8_init_32 ?_
  refine q_bipush X (24) (by decide) dX8_init_33 ?_
  refine q_icmp_ge X 58 (by decide) dX8_init_35 (fun g => absurd g (by decide)) (fun _ => ?_)
  refine q_aload_n X 1 rfl dX8_init_38 ?_
  obtain ⟨a107, ea107, ma107, ka107, h⟩ := h
  refine q_getR X 1 ea107 ma107 ka107 rfl tW_X8 (by decide) (by decide) tF_X8_11 rfl dX8_init_39 ?_
  refine q_iload_n X 0 rfl dX8_init_42 ?_
  refine q_rnew X tyX7 tyX7_ok rfl (by decide) tW_X7 tL_X8_9 tJ_X7 tN_X7 q_df_X7 (Nat.le_of_ble_eq_true rfl) (Nat.le_of_ble_eq_true rfl) dX8_init_43 (fun q108 fq108 => ?_)
  have h := h q108 fq108
  refine q_dup X (q_catR _) dX8_init_46 ?_
  refine q_aload_n X 2 rfl dX8_init_47 ?_
  refine q_cI X (As := [va_rf (p0)]) rfl (ci_X7_init h) tK_X7_init tM_X8_21 tI_X7_init tN_X7 rfl rfl rfl tD_X7_init ⟨Nat.le_of_ble_eq_true rfl, Nat.le_of_ble_eq_true rfl⟩ rfl rfl (by first | exact Nat.le_of_ble_eq_true rfl | (simp only [List.map, q_catR]; exact Nat.le_of_ble_eq_true rfl)) ⟨Nat.le_of_ble_eq_true rfl, Nat.le_of_ble_eq_true rfl⟩ dX8_init_48 (fun S109 h => ?_)
  obtain ⟨a110, ea110, ma110, ka110, h⟩ := h
  obtain ⟨a111, ea111, ma111, ka111, h⟩ := h
  obtain ⟨g112, h⟩ := h
  refine q_aast104 X ea110 ma110 ka110 (q_inE g112) ea111 ma111 ka111 rfl (by decide) dX8_init_51 ?_
  have ma110 : a110 ∈ q_L (q_sR (S109) a110 ((17 : Int32)).toNatClampNeg (some a111)) := q_LsR ma110
  have ka110 : q_K (q_sR (S109) a110 ((17 : Int32)).toNatClampNeg (some a111)) a110 = 104 := q_KsR ka110
  have ma111 : a111 ∈ q_L (q_sR (S109) a110 ((17 : Int32)).toNatClampNeg (some a111)) := q_LsR ma111
  have ka111 : q_K (q_sR (S109) a110 ((17 : Int32)).toNatClampNeg (some a111)) a111 = 8 := q_KsR ka111
  refine q_iinc X 2 0 (18 : Int32) [(2, .int ((18 : Int32))), (0, va_rf (some o)), (1, va_rf (p0))] rfl (by decide) (by decide) (by first | rfl | simp [List.filter, q_catR]) dX8_init_52 ?_
  refine q_goto X 32 (by decide) dX8_init_55 ?_
  refine q_iload_n X 0 rfl dX8_init_32 ?_
  refine q_bipush X (24) (by decide) dX8_init_33 ?_
  refine q_icmp_ge X 58 (by decide) dX8_init_35 (fun g => absurd g (by decide)) (fun _ => ?_)
  refine q_aload_n X 1 rfl dX8_init_38 ?_
  obtain ⟨a113, ea113, ma113, ka113, h⟩ := h
  refine q_getR X 1 ea113 ma113 ka113 rfl tW_X8 (by decide) (by decide) tF_X8_11 rfl dX8_init_39 ?_
  refine q_iload_n X 0 rfl dX8_init_42 ?_
  refine q_rnew X tyX7 tyX7_ok rfl (by decide) tW_X7 tL_X8_9 tJ_X7 tN_X7 q_df_X7 (Nat.le_of_ble_eq_true rfl) (Nat.le_of_ble_eq_true rfl) dX8_init_43 (fun q114 fq114 => ?_)
  have h := h q114 fq114
  refine q_dup X (q_catR _) dX8_init_46 ?_
  refine q_aload_n X 2 rfl dX8_init_47 ?_
  refine q_cI X (As := [va_rf (p0)]) rfl (ci_X7_init h) tK_X7_init tM_X8_21 tI_X7_init tN_X7 rfl rfl rfl tD_X7_init ⟨Nat.le_of_ble_eq_true rfl, Nat.le_of_ble_eq_true rfl⟩ rfl rfl (by first | exact Nat.le_of_ble_eq_true rfl | (simp only [List.map, q_catR]; exact Nat.le_of_ble_eq_true rfl)) ⟨Nat.le_of_ble_eq_true rfl, Nat.le_of_ble_eq_true rfl⟩ dX8_init_48 (fun S115 h => ?_)
  obtain ⟨a116, ea116, ma116, ka116, h⟩ := h
  obtain ⟨a117, ea117, ma117, ka117, h⟩ := h
  obtain ⟨g118, h⟩ := h
  refine q_aast104 X ea116 ma116 ka116 (q_inE g118) ea117 ma117 ka117 rfl (by decide) dX8_init_51 ?_
  have ma116 : a116 ∈ q_L (q_sR (S115) a116 ((18 : Int32)).toNatClampNeg (some a117)) := q_LsR ma116
  have ka116 : q_K (q_sR (S115) a116 ((18 : Int32)).toNatClampNeg (some a117)) a116 = 104 := q_KsR ka116
  have ma117 : a117 ∈ q_L (q_sR (S115) a116 ((18 : Int32)).toNatClampNeg (some a117)) := q_LsR ma117
  have ka117 : q_K (q_sR (S115) a116 ((18 : Int32)).toNatClampNeg (some a117)) a117 = 8 := q_KsR ka117
  refine q_iinc X 2 0 (19 : Int32) [(2, .int ((19 : Int32))), (0, va_rf (some o)), (1, va_rf (p0))] rfl (by decide) (by decide) (by first | rfl | simp [List.filter, q_catR]) dX8_init_52 ?_
  refine q_goto X 32 (by decide) dX8_init_55 ?_
  refine q_iload_n X 0 rfl dX8_init_32 ?_
  refine q_bipush X (24) (by decide) dX8_init_33 ?_
  refine q_icmp_ge X 58 (by decide) dX8_init_35 (fun g => absurd g (by decide)) (fun _ => ?_)
  refine q_aload_n X 1 rfl dX8_init_38 ?_
  obtain ⟨a119, ea119, ma119, ka119, h⟩ := h
  refine q_getR X 1 ea119 ma119 ka119 rfl tW_X8 (by decide) (by decide) tF_X8_11 rfl dX8_init_39 ?_
  refine q_iload_n X 0 rfl dX8_init_42 ?_
  refine q_rnew X tyX7 tyX7_ok rfl (by decide) tW_X7 tL_X8_9 tJ_X7 tN_X7 q_df_X7 (Nat.le_of_ble_eq_true rfl) (Nat.le_of_ble_eq_true rfl) dX8_init_43 (fun q120 fq120 => ?_)
  have h := h q120 fq120
  refine q_dup X (q_catR _) dX8_init_46 ?_
  refine q_aload_n X 2 rfl dX8_init_47 ?_
  refine q_cI X (As := [va_rf (p0)]) rfl (ci_X7_init h) tK_X7_init tM_X8_21 tI_X7_init tN_X7 rfl rfl rfl tD_X7_init ⟨Nat.le_of_ble_eq_true rfl, Nat.le_of_ble_eq_true rfl⟩ rfl rfl (by first | exact Nat.le_of_ble_eq_true rfl | (simp only [List.map, q_catR]; exact Nat.le_of_ble_eq_true rfl)) ⟨Nat.le_of_ble_eq_true rfl, Nat.le_of_ble_eq_true rfl⟩ dX8_init_48 (fun S121 h => ?_)
  obtain ⟨a122, ea122, ma122, ka122, h⟩ := h
  obtain ⟨a123, ea123, ma123, ka123, h⟩ := h
  obtain ⟨g124, h⟩ := h
  refine q_aast104 X ea122 ma122 ka122 (q_inE g124) ea123 ma123 ka123 rfl (by decide) dX8_init_51 ?_
  have ma122 : a122 ∈ q_L (q_sR (S121) a122 ((19 : Int32)).toNatClampNeg (some a123)) := q_LsR ma122
  have ka122 : q_K (q_sR (S121) a122 ((19 : Int32)).toNatClampNeg (some a123)) a122 = 104 := q_KsR ka122
  have ma123 : a123 ∈ q_L (q_sR (S121) a122 ((19 : Int32)).toNatClampNeg (some a123)) := q_LsR ma123
  have ka123 : q_K (q_sR (S121) a122 ((19 : Int32)).toNatClampNeg (some a123)) a123 = 8 := q_KsR ka123
  refine q_iinc X 2 0 (20 : Int32) [(2, .int ((20 : Int32))), (0, va_rf (some o)), (1, va_rf (p0))] rfl (by decide) (by decide) (by first | rfl | simp [List.filter, q_catR]) dX8_init_52 ?_
  refine q_goto X 32 (by decide) dX8_init_55 ?_
  refine q_iload_n X 0 rfl dX8_init_32 ?_
  refine q_bipush X (24) (by decide) dX8_init_33 ?_
  refine q_icmp_ge X 58 (by decide) dX8_init_35 (fun g => absurd g (by decide)) (fun _ => ?_)
  refine q_aload_n X 1 rfl dX8_init_38 ?_
  obtain ⟨a125, ea125, ma125, ka125, h⟩ := h
  refine q_getR X 1 ea125 ma125 ka125 rfl tW_X8 (by decide) (by decide) tF_X8_11 rfl dX8_init_39 ?_
  refine q_iload_n X 0 rfl dX8_init_42 ?_
  refine q_rnew X tyX7 tyX7_ok rfl (by decide) tW_X7 tL_X8_9 tJ_X7 tN_X7 q_df_X7 (Nat.le_of_ble_eq_true rfl) (Nat.le_of_ble_eq_true rfl) dX8_init_43 (fun q126 fq126 => ?_)
  have h := h q126 fq126
  refine q_dup X (q_catR _) dX8_init_46 ?_
  refine q_aload_n X 2 rfl dX8_init_47 ?_
  refine q_cI X (As := [va_rf (p0)]) rfl (ci_X7_init h) tK_X7_init tM_X8_21 tI_X7_init tN_X7 rfl rfl rfl tD_X7_init ⟨Nat.le_of_ble_eq_true rfl, Nat.le_of_ble_eq_true rfl⟩ rfl rfl (by first | exact Nat.le_of_ble_eq_true rfl | (simp only [List.map, q_catR]; exact Nat.le_of_ble_eq_true rfl)) ⟨Nat.le_of_ble_eq_true rfl, Nat.le_of_ble_eq_true rfl⟩ dX8_init_48 (fun S127 h => ?_)
  obtain ⟨a128, ea128, ma128, ka128, h⟩ := h
  obtain ⟨a129, ea129, ma129, ka129, h⟩ := h
  obtain ⟨g130, h⟩ := h
  refine q_aast104 X ea128 ma128 ka128 (q_inE g130) ea129 ma129 ka129 rfl (by decide) dX8_init_51 ?_
  have ma128 : a128 ∈ q_L (q_sR (S127) a128 ((20 : Int32)).toNatClampNeg (some a129)) := q_LsR ma128
  have ka128 : q_K (q_sR (S127) a128 ((20 : Int32)).toNatClampNeg (some a129)) a128 = 104 := q_KsR ka128
  have ma129 : a129 ∈ q_L (q_sR (S127) a128 ((20 : Int32)).toNatClampNeg (some a129)) := q_LsR ma129
  have ka129 : q_K (q_sR (S127) a128 ((20 : Int32)).toNatClampNeg (some a129)) a129 = 8 := q_KsR ka129
  refine q_iinc X 2 0 (21 : Int32) [(2, .int ((21 : Int32))), (0, va_rf (some o)), (1, va_rf (p0))] rfl (by decide) (by decide) (by first | rfl | simp [List.filter, q_catR]) dX8_init_52 ?_
  refine q_goto X 32 (by decide) dX8_init_55 ?_
  refine q_iload_n X 0 rfl dX8_init_32 ?_
  refine q_bipush X (24) (by decide) dX8_init_33 ?_
  refine q_icmp_ge X 58 (by decide) dX8_init_35 (fun g => absurd g (by decide)) (fun _ => ?_)
  refine q_aload_n X 1 rfl dX8_init_38 ?_
  obtain ⟨a131, ea131, ma131, ka131, h⟩ := h
  refine q_getR X 1 ea131 ma131 ka131 rfl tW_X8 (by decide) (by decide) tF_X8_11 rfl dX8_init_39 ?_
  refine q_iload_n X 0 rfl dX8_init_42 ?_
  refine q_rnew X tyX7 tyX7_ok rfl (by decide) tW_X7 tL_X8_9 tJ_X7 tN_X7 q_df_X7 (Nat.le_of_ble_eq_true rfl) (Nat.le_of_ble_eq_true rfl) dX8_init_43 (fun q132 fq132 => ?_)
  have h := h q132 fq132
  refine q_dup X (q_catR _) dX8_init_46 ?_
  refine q_aload_n X 2 rfl dX8_init_47 ?_
  refine q_cI X (As := [va_rf (p0)]) rfl (ci_X7_init h) tK_X7_init tM_X8_21 tI_X7_init tN_X7 rfl rfl rfl tD_X7_init ⟨Nat.le_of_ble_eq_true rfl, Nat.le_of_ble_eq_true rfl⟩ rfl rfl (by first | exact Nat.le_of_ble_eq_true rfl | (simp only [List.map, q_catR]; exact Nat.le_of_ble_eq_true rfl)) ⟨Nat.le_of_ble_eq_true rfl, Nat.le_of_ble_eq_true rfl⟩ dX8_init_48 (fun S133 h => ?_)
  obtain ⟨a134, ea134, ma134, ka134, h⟩ := h
  obtain ⟨a135, ea135, ma135, ka135, h⟩ := h
  obtain ⟨g136, h⟩ := h
  refine q_aast104 X ea134 ma134 ka134 (q_inE g136) ea135 ma135 ka135 rfl (by decide) dX8_init_51 ?_
  have ma134 : a134 ∈ q_L (q_sR (S133) a134 ((21 : Int32)).toNatClampNeg (some a135)) := q_LsR ma134
  have ka134 : q_K (q_sR (S133) a134 ((21 : Int32)).toNatClampNeg (some a135)) a134 = 104 := q_KsR ka134
  have ma135 : a135 ∈ q_L (q_sR (S133) a134 ((21 : Int32)).toNatClampNeg (some a135)) := q_LsR ma135
  have ka135 : q_K (q_sR (S133) a134 ((21 : Int32)).toNatClampNeg (some a135)) a135 = 8 := q_KsR ka135
  refine q_iinc X 2 0 (22 : Int32) [(2, .int ((22 : Int32))), (0, va_rf (some o)), (1, va_rf (p0))] rfl (by decide) (by decide) (by first | rfl | simp [List.filter, q_catR]) dX8_init_52 ?_
  refine q_goto X 32 (by decide) dX8_init_55 ?_
  refine q_iload_n X 0 rfl dX8_init_32 ?_
  refine q_bipush X (24) (by decide) dX8_init_33 ?_
  refine q_icmp_ge X 58 (by decide) dX8_init_35 (fun g => absurd g (by decide)) (fun _ => ?_)
  refine q_aload_n X 1 rfl dX8_init_38 ?_
  obtain ⟨a137, ea137, ma137, ka137, h⟩ := h
  refine q_getR X 1 ea137 ma137 ka137 rfl tW_X8 (by decide) (by decide) tF_X8_11 rfl dX8_init_39 ?_
  refine q_iload_n X 0 rfl dX8_init_42 ?_
  refine q_rnew X tyX7 tyX7_ok rfl (by decide) tW_X7 tL_X8_9 tJ_X7 tN_X7 q_df_X7 (Nat.le_of_ble_eq_true rfl) (Nat.le_of_ble_eq_true rfl) dX8_init_43 (fun q138 fq138 => ?_)
  have h := h q138 fq138
  refine q_dup X (q_catR _) dX8_init_46 ?_
  refine q_aload_n X 2 rfl dX8_init_47 ?_
  refine q_cI X (As := [va_rf (p0)]) rfl (ci_X7_init h) tK_X7_init tM_X8_21 tI_X7_init tN_X7 rfl rfl rfl tD_X7_init ⟨Nat.le_of_ble_eq_true rfl, Nat.le_of_ble_eq_true rfl⟩ rfl rfl (by first | exact Nat.le_of_ble_eq_true rfl | (simp only [List.map, q_catR]; exact Nat.le_of_ble_eq_true rfl)) ⟨Nat.le_of_ble_eq_true rfl, Nat.le_of_ble_eq_true rfl⟩ dX8_init_48 (fun S139 h => ?_)
  obtain ⟨a140, ea140, ma140, ka140, h⟩ := h
  obtain ⟨a141, ea141, ma141, ka141, h⟩ := h
  obtain ⟨g142, h⟩ := h
  refine q_aast104 X ea140 ma140 ka140 (q_inE g142) ea141 ma141 ka141 rfl (by decide) dX8_init_51 ?_
  have ma140 : a140 ∈ q_L (q_sR (S139) a140 ((22 : Int32)).toNatClampNeg (some a141)) := q_LsR ma140
  have ka140 : q_K (q_sR (S139) a140 ((22 : Int32)).toNatClampNeg (some a141)) a140 = 104 := q_KsR ka140
  have ma141 : a141 ∈ q_L (q_sR (S139) a140 ((22 : Int32)).toNatClampNeg (some a141)) := q_LsR ma141
  have ka141 : q_K (q_sR (S139) a140 ((22 : Int32)).toNatClampNeg (some a141)) a141 = 8 := q_KsR ka141
  refine q_iinc X 2 0 (23 : Int32) [(2, .int ((23 : Int32))), (0, va_rf (some o)), (1, va_rf (p0))] rfl (by decide) (by decide) (by first | rfl | simp [List.filter, q_catR]) dX8_init_52 ?_
  refine q_goto X 32 (by decide) dX8_init_55 ?_
  refine q_iload_n X 0 rfl dX8_init_32 ?_
  refine q_bipush X (24) (by decide) dX8_init_33 ?_
  refine q_icmp_ge X 58 (by decide) dX8_init_35 (fun g => absurd g (by decide)) (fun _ => ?_)
  refine q_aload_n X 1 rfl dX8_init_38 ?_
  obtain ⟨a143, ea143, ma143, ka143, h⟩ := h
  refine q_getR X 1 ea143 ma143 ka143 rfl tW_X8 (by decide) (by decide) tF_X8_11 rfl dX8_init_39 ?_
  refine q_iload_n X 0 rfl dX8_init_42 ?_
  refine q_rnew X tyX7 tyX7_ok rfl (by decide) tW_X7 tL_X8_9 tJ_X7 tN_X7 q_df_X7 (Nat.le_of_ble_eq_true rfl) (Nat.le_of_ble_eq_true rfl) dX8_init_43 (fun q144 fq144 => ?_)
  have h := h q144 fq144
  refine q_dup X (q_catR _) dX8_init_46 ?_
  refine q_aload_n X 2 rfl dX8_init_47 ?_
  refine q_cI X (As := [va_rf (p0)]) rfl (ci_X7_init h) tK_X7_init tM_X8_21 tI_X7_init tN_X7 rfl rfl rfl tD_X7_init ⟨Nat.le_of_ble_eq_true rfl, Nat.le_of_ble_eq_true rfl⟩ rfl rfl (by first | exact Nat.le_of_ble_eq_true rfl | (simp only [List.map, q_catR]; exact Nat.le_of_ble_eq_true rfl)) ⟨Nat.le_of_ble_eq_true rfl, Nat.le_of_ble_eq_true rfl⟩ dX8_init_48 (fun S145 h => ?_)
  obtain ⟨a146, ea146, ma146, ka146, h⟩ := h
  obtain ⟨a147, ea147, ma147, ka147, h⟩ := h
  obtain ⟨g148, h⟩ := h
  refine q_aast104 X ea146 ma146 ka146 (q_inE g148) ea147 ma147 ka147 rfl (by decide) dX8_init_51 ?_
  have ma146 : a146 ∈ q_L (q_sR (S145) a146 ((23 : Int32)).toNatClampNeg (some a147)) := q_LsR ma146
  have ka146 : q_K (q_sR (S145) a146 ((23 : Int32)).toNatClampNeg (some a147)) a146 = 104 := q_KsR ka146
  have ma147 : a147 ∈ q_L (q_sR (S145) a146 ((23 : Int32)).toNatClampNeg (some a147)) := q_LsR ma147
  have ka147 : q_K (q_sR (S145) a146 ((23 : Int32)).toNatClampNeg (some a147)) a147 = 8 := q_KsR ka147
  refine q_iinc X 2 0 (24 : Int32) [(2, .int ((24 : Int32))), (0, va_rf (some o)), (1, va_rf (p0))] rfl (by decide) (by decide) (by first | rfl | simp [List.filter, q_catR]) dX8_init_52 ?_
  refine q_goto X 32 (by decide) dX8_init_55 ?_
  refine q_iload_n X 0 rfl dX8_init_32 ?_
  refine q_bipush X (24) (by decide) dX8_init_33 ?_
  refine q_icmp_ge X 58 (by decide) dX8_init_35 (fun _ => ?_) (fun g => absurd (by decide) g)
  exact q_vretC X hr hl h (Nat.le_of_ble_eq_true rfl) (Nat.le_of_ble_eq_true rfl) dX8_init_58
theorem tD_X8_init : yX8_init.cls ≠ "java/lang/invoke/MethodHandle" ∧ yX8_init.cls ≠ "java/lang/invoke/VarHandle" ∧ (parseMethodDescriptor yX8_init.desc).map (fun d => d.parameters.length) = some 1 := by decide +kernel
theorem ci_X8_init {l : Launch} {D : va_G} {cy : Nat → ClassId} {S : q_S} {o : Nat} {p0 : Option Nat} {Post : q_S → Prop} (h : i_X8_init S o p0 Post) : q_MC l yX8_init (q_ws yX8_init cX8_init 3 none) ({ frames := 2, cells := 26, slots := 149, locals := 41 } : Room) D cy [.ref o, va_rf (p0)] S Post 26 149 := by
  cases p0 <;> exact q_MC_of (by decide +kernel) (Nat.le_of_ble_eq_true rfl) (fun p e s m args below meth c A X hr hl hin => wi_X8_init X hr hl hin h)
def i_X6_init (S : q_S) (o : Nat) (p0 : Option Nat) (p1 : Option Nat) (Post : q_S → Prop) : Prop := ∀ q1 : Nat, q1 ∉ q_L (S) → (q_aP (q_nw (S) q1 102 200) (some o) 7 (fun a2 => ∀ q3 : Nat, q3 ∉ q_L (q_sR (q_nw (S) q1 102 200) a2 2 (some q1)) → (q_aP (q_nw (q_sR (q_nw (S) q1 102 200) a2 2 (some q1)) q3 100 200) (some o) 7 (fun a4 => ∀ q5 : Nat, q5 ∉ q_L (q_sR (q_sR (q_nw (q_sR (q_nw (S) q1 102 200) a2 2 (some q1)) q3 100 200) a4 3 (some q3)) a4 0 (p1)) → (i_X1_init (q_nw (q_sR (q_sR (q_nw (q_sR (q_nw (S) q1 102 200) a2 2 (some q1)) q3 100 200) a4 3 (some q3)) a4 0 (p1)) q5 2 0) (q5) (p0) (fun S6 => q_aP (S6) (some o) 7 (fun a7 => q_aP (q_sR (S6) a7 1 (some q5)) (p1) 9 (fun a8 => Post (q_sR (q_sR (q_sR (S6) a7 1 (some q5)) a7 8 (q_R (q_sR (S6) a7 1 (some q5)) a8 2)) a7 9 (q_R (q_sR (q_sR (S6) a7 1 (some q5)) a7 8 (q_R (q_sR (S6) a7 1 (some q5)) a8 2)) a8 2))))))))))
set_option maxHeartbeats 4000000 in
set_option maxRecDepth 100000 in
theorem wi_X6_init (X : q_X p s m args c cX6_init 3 RX6 q_T D cy A) (hr : meth.sig.returnType = none) (hl : meth.locks = false) (hin : meth.name = "<init>") {S : q_S} {o : Nat} {p0 : Option Nat} {p1 : Option Nat} {Post : q_S → Prop} (h : i_X6_init S o p0 p1 Post) : q_W p l e ({ frames := 2, cells := 3, slots := 414, locals := 41 } : Room) s m args below meth c (MQ below (va_Qv Post (q_B D cy A) A) args s 3 414 A) A D cy 3 0 0 S 0 [(0, va_rf (some o)), (1, va_rf (p0)), (2, va_rf (p1))] [] := by
  unfold i_X6_init at h
  refine q_aload_n X 0 rfl dX6_init_0 ?_
  refine q_objI X rfl tO_X6_3 tO_i tO_c (Nat.le_of_ble_eq_true rfl) (Nat.le_of_ble_eq_true rfl) dX6_init_1 ?_
  refine q_aload_n X 0 rfl dX6_init_4 ?_
  refine q_sipush X (200) (by decide) dX6_init_5 ?_
  refine q_rnewa102 X 200 tA_boolean (by decide) (by decide) (Nat.le_of_ble_eq_true rfl) (Nat.le_of_ble_eq_true rfl) (Nat.le_of_ble_eq_true rfl) dX6_init_8 (fun q1 fq1 => ?_)
  have h := h q1 fq1
  obtain ⟨a2, ea2, ma2, ka2, h⟩ := h
  refine q_putF X 2 ea2 ma2 ka2 rfl tW_X6 (by decide) (by decide) tF_X6_9 tyX6 tyX6_ok nmX6 rfl hin rfl (tyX6_ok 2 (by decide)) (q_nRa _ _) (q_fRa _ _) rfl dX6_init_10 ?_
  have ma2 : a2 ∈ q_L (q_sR (q_nw (S) q1 102 200) a2 2 (some q1)) := q_LsR ma2
  have ka2 : q_K (q_sR (q_nw (S) q1 102 200) a2 2 (some q1)) a2 = 7 := q_KsR ka2
  refine q_aload_n X 0 rfl dX6_init_13 ?_
  refine q_sipush X (200) (by decide) dX6_init_14 ?_
  refine q_rnewa100 X 200 tA_int (by decide) (by decide) (Nat.le_of_ble_eq_true rfl) (Nat.le_of_ble_eq_true rfl) (Nat.le_of_ble_eq_true rfl) dX6_init_17 (fun q3 fq3 => ?_)
  have h := h q3 fq3
  obtain ⟨a4, ea4, ma4, ka4, h⟩ := h
  refine q_putF X 3 ea4 ma4 ka4 rfl tW_X6 (by decide) (by decide) tF_X6_15 tyX6 tyX6_ok nmX6 rfl hin rfl (tyX6_ok 3 (by decide)) (q_nRa _ _) (q_fRa _ _) rfl dX6_init_19 ?_
  have ma4 : a4 ∈ q_L (q_sR (q_nw (q_sR (q_nw (S) q1 102 200) a2 2 (some q1)) q3 100 200) a4 3 (some q3)) := q_LsR ma4
  have ka4 : q_K (q_sR (q_nw (q_sR (q_nw (S) q1 102 200) a2 2 (some q1)) q3 100 200) a4 3 (some q3)) a4 = 7 := q_KsR ka4
  refine q_aload_n X 0 rfl dX6_init_22 ?_
  refine q_aload_n X 2 rfl dX6_init_23 ?_
  refine q_putF X 0 ea4 ma4 ka4 rfl tW_X6 (by decide) (by decide) tF_X6_19 tyX6 tyX6_ok nmX6 rfl hin rfl (tyX6_ok 0 (by decide)) (q_nR _ _) (q_fR _ _) rfl dX6_init_24 ?_
  have ma4 : a4 ∈ q_L (q_sR (q_sR (q_nw (q_sR (q_nw (S) q1 102 200) a2 2 (some q1)) q3 100 200) a4 3 (some q3)) a4 0 (p1)) := q_LsR ma4
  have ka4 : q_K (q_sR (q_sR (q_nw (q_sR (q_nw (S) q1 102 200) a2 2 (some q1)) q3 100 200) a4 3 (some q3)) a4 0 (p1)) a4 = 7 := q_KsR ka4
  refine q_aload_n X 0 rfl dX6_init_27 ?_
  refine q_rnew X tyX1 tyX1_ok rfl (by decide) tW_X1 tL_X6_23 tJ_X1 tN_X1 q_df_X1 (Nat.le_of_ble_eq_true rfl) (Nat.le_of_ble_eq_true rfl) dX6_init_28 (fun q5 fq5 => ?_)
  have h := h q5 fq5
  refine q_dup X (q_catR _) dX6_init_31 ?_
  refine q_aload_n X 1 rfl dX6_init_32 ?_
  refine q_cI X (As := [va_rf (p0)]) rfl (ci_X1_init h) tK_X1_init tM_X6_25 tI_X1_init tN_X1 rfl rfl rfl tD_X1_init ⟨Nat.le_of_ble_eq_true rfl, Nat.le_of_ble_eq_true rfl⟩ rfl rfl (by first | exact Nat.le_of_ble_eq_true rfl | (simp only [List.map, q_catR]; exact Nat.le_of_ble_eq_true rfl)) ⟨Nat.le_of_ble_eq_true rfl, Nat.le_of_ble_eq_true rfl⟩ dX6_init_33 (fun S6 h => ?_)
  obtain ⟨a7, ea7, ma7, ka7, h⟩ := h
  refine q_putF X 1 ea7 ma7 ka7 rfl tW_X6 (by decide) (by decide) tF_X6_28 tyX6 tyX6_ok nmX6 rfl hin rfl (tyX6_ok 1 (by decide)) (q_nR _ _) (q_fR _ _) rfl dX6_init_36 ?_
  have ma7 : a7 ∈ q_L (q_sR (S6) a7 1 (some q5)) := q_LsR ma7
  have ka7 : q_K (q_sR (S6) a7 1 (some q5)) a7 = 7 := q_KsR ka7
  refine q_aload_n X 0 rfl dX6_init_39 ?_
  refine q_aload_n X 2 rfl dX6_init_40 ?_
  obtain ⟨a8, ea8, ma8, ka8, h⟩ := h
  refine q_getRN X 2 ea8 ma8 ka8 rfl tW_X8 (by decide) (by decide) "TrueOutlines" tF_X6_32 rfl dX6_init_41 ?_
  refine q_putR X 8 ea7 ma7 ka7 rfl tW_X6 (by decide) (by decide) tF_X6_38 tyX6 tyX6_ok nmX6 rfl (tyX6_ok 8 (by decide)) (q_nR _ _) (q_fR _ _) rfl dX6_init_44 ?_
  have ma7 : a7 ∈ q_L (q_sR (q_sR (S6) a7 1 (some q5)) a7 8 (q_R (q_sR (S6) a7 1 (some q5)) a8 2)) := q_LsR ma7
  have ka7 : q_K (q_sR (q_sR (S6) a7 1 (some q5)) a7 8 (q_R (q_sR (S6) a7 1 (some q5)) a8 2)) a7 = 7 := q_KsR ka7
  have ma8 : a8 ∈ q_L (q_sR (q_sR (S6) a7 1 (some q5)) a7 8 (q_R (q_sR (S6) a7 1 (some q5)) a8 2)) := q_LsR ma8
  have ka8 : q_K (q_sR (q_sR (S6) a7 1 (some q5)) a7 8 (q_R (q_sR (S6) a7 1 (some q5)) a8 2)) a8 = 9 := q_KsR ka8
  refine q_aload_n X 0 rfl dX6_init_47 ?_
  refine q_aload_n X 2 rfl dX6_init_48 ?_
  refine q_getRN X 2 ea8 ma8 ka8 rfl tW_X8 (by decide) (by decide) "TrueOutlines" tF_X6_32 rfl dX6_init_49 ?_
  refine q_putR X 9 ea7 ma7 ka7 rfl tW_X6 (by decide) (by decide) tF_X6_41 tyX6 tyX6_ok nmX6 rfl (tyX6_ok 9 (by decide)) (q_nR _ _) (q_fR _ _) rfl dX6_init_52 ?_
  have ma7 : a7 ∈ q_L (q_sR (q_sR (q_sR (S6) a7 1 (some q5)) a7 8 (q_R (q_sR (S6) a7 1 (some q5)) a8 2)) a7 9 (q_R (q_sR (q_sR (S6) a7 1 (some q5)) a7 8 (q_R (q_sR (S6) a7 1 (some q5)) a8 2)) a8 2)) := q_LsR ma7
  have ka7 : q_K (q_sR (q_sR (q_sR (S6) a7 1 (some q5)) a7 8 (q_R (q_sR (S6) a7 1 (some q5)) a8 2)) a7 9 (q_R (q_sR (q_sR (S6) a7 1 (some q5)) a7 8 (q_R (q_sR (S6) a7 1 (some q5)) a8 2)) a8 2)) a7 = 7 := q_KsR ka7
  have ma8 : a8 ∈ q_L (q_sR (q_sR (q_sR (S6) a7 1 (some q5)) a7 8 (q_R (q_sR (S6) a7 1 (some q5)) a8 2)) a7 9 (q_R (q_sR (q_sR (S6) a7 1 (some q5)) a7 8 (q_R (q_sR (S6) a7 1 (some q5)) a8 2)) a8 2)) := q_LsR ma8
  have ka8 : q_K (q_sR (q_sR (q_sR (S6) a7 1 (some q5)) a7 8 (q_R (q_sR (S6) a7 1 (some q5)) a8 2)) a7 9 (q_R (q_sR (q_sR (S6) a7 1 (some q5)) a7 8 (q_R (q_sR (S6) a7 1 (some q5)) a8 2)) a8 2)) a8 = 9 := q_KsR ka8
  exact q_vretC X hr hl h (Nat.le_of_ble_eq_true rfl) (Nat.le_of_ble_eq_true rfl) dX6_init_55
theorem tD_X6_init : yX6_init.cls ≠ "java/lang/invoke/MethodHandle" ∧ yX6_init.cls ≠ "java/lang/invoke/VarHandle" ∧ (parseMethodDescriptor yX6_init.desc).map (fun d => d.parameters.length) = some 2 := by decide +kernel
theorem ci_X6_init {l : Launch} {D : va_G} {cy : Nat → ClassId} {S : q_S} {o : Nat} {p0 : Option Nat} {p1 : Option Nat} {Post : q_S → Prop} (h : i_X6_init S o p0 p1 Post) : q_MC l yX6_init (q_ws yX6_init cX6_init 3 none) ({ frames := 2, cells := 3, slots := 414, locals := 41 } : Room) D cy [.ref o, va_rf (p0), va_rf (p1)] S Post 3 414 := by
  cases p0 <;> cases p1 <;> exact q_MC_of (by decide +kernel) (Nat.le_of_ble_eq_true rfl) (fun p e s m args below meth c A X hr hl hin => wi_X6_init X hr hl hin h)
def i_X0_init (S : q_S) (o : Nat) (p0 : Option Nat) (Post : q_S → Prop) : Prop := q_aP (S) (some o) 1 (fun a1 => q_aP (q_sR (S) a1 0 (p0)) (p0) 9 (fun a2 => Post (q_sR (q_sR (S) a1 0 (p0)) a1 1 (q_R (q_sR (S) a1 0 (p0)) a2 2))))
set_option maxHeartbeats 4000000 in
set_option maxRecDepth 100000 in
theorem wi_X0_init (X : q_X p s m args c cX0_init 2 RX0 q_T D cy A) (hr : meth.sig.returnType = none) (hl : meth.locks = false) (hin : meth.name = "<init>") {S : q_S} {o : Nat} {p0 : Option Nat} {Post : q_S → Prop} (h : i_X0_init S o p0 Post) : q_W p l e ({ frames := 1, cells := 0, slots := 0, locals := 20 } : Room) s m args below meth c (MQ below (va_Qv Post (q_B D cy A) A) args s 0 0 A) A D cy 2 0 0 S 0 [(0, va_rf (some o)), (1, va_rf (p0))] [] := by
  unfold i_X0_init at h
  refine q_aload_n X 0 rfl dX0_init_0 ?_
  refine q_objI X rfl tO_X0_3 tO_i tO_c (Nat.le_of_ble_eq_true rfl) (Nat.le_of_ble_eq_true rfl) dX0_init_1 ?_
  refine q_aload_n X 0 rfl dX0_init_4 ?_
  refine q_aload_n X 1 rfl dX0_init_5 ?_
  obtain ⟨a1, ea1, ma1, ka1, h⟩ := h
  refine q_putF X 0 ea1 ma1 ka1 rfl tW_X0 (by decide) (by decide) tF_X0_9 tyX0 tyX0_ok nmX0 rfl hin rfl (tyX0_ok 0 (by decide)) (q_nR _ _) (q_fR _ _) rfl dX0_init_6 ?_
  have ma1 : a1 ∈ q_L (q_sR (S) a1 0 (p0)) := q_LsR ma1
  have ka1 : q_K (q_sR (S) a1 0 (p0)) a1 = 1 := q_KsR ka1
  refine q_aload_n X 0 rfl dX0_init_9 ?_
  refine q_aload_n X 1 rfl dX0_init_10 ?_
  obtain ⟨a2, ea2, ma2, ka2, h⟩ := h
  refine q_getRN X 2 ea2 ma2 ka2 rfl tW_X8 (by decide) (by decide) "TrueOutlines" tF_X0_15 rfl dX0_init_11 ?_
  refine q_putR X 1 ea1 ma1 ka1 rfl tW_X0 (by decide) (by decide) tF_X0_21 tyX0 tyX0_ok nmX0 rfl (tyX0_ok 1 (by decide)) (q_nR _ _) (q_fR _ _) rfl dX0_init_14 ?_
  have ma1 : a1 ∈ q_L (q_sR (q_sR (S) a1 0 (p0)) a1 1 (q_R (q_sR (S) a1 0 (p0)) a2 2)) := q_LsR ma1
  have ka1 : q_K (q_sR (q_sR (S) a1 0 (p0)) a1 1 (q_R (q_sR (S) a1 0 (p0)) a2 2)) a1 = 1 := q_KsR ka1
  have ma2 : a2 ∈ q_L (q_sR (q_sR (S) a1 0 (p0)) a1 1 (q_R (q_sR (S) a1 0 (p0)) a2 2)) := q_LsR ma2
  have ka2 : q_K (q_sR (q_sR (S) a1 0 (p0)) a1 1 (q_R (q_sR (S) a1 0 (p0)) a2 2)) a2 = 9 := q_KsR ka2
  exact q_vretC X hr hl h (Nat.le_of_ble_eq_true rfl) (Nat.le_of_ble_eq_true rfl) dX0_init_17
theorem tD_X0_init : yX0_init.cls ≠ "java/lang/invoke/MethodHandle" ∧ yX0_init.cls ≠ "java/lang/invoke/VarHandle" ∧ (parseMethodDescriptor yX0_init.desc).map (fun d => d.parameters.length) = some 1 := by decide +kernel
theorem ci_X0_init {l : Launch} {D : va_G} {cy : Nat → ClassId} {S : q_S} {o : Nat} {p0 : Option Nat} {Post : q_S → Prop} (h : i_X0_init S o p0 Post) : q_MC l yX0_init (q_ws yX0_init cX0_init 2 none) ({ frames := 1, cells := 0, slots := 0, locals := 20 } : Room) D cy [.ref o, va_rf (p0)] S Post 0 0 := by
  cases p0 <;> exact q_MC_of (by decide +kernel) (Nat.le_of_ble_eq_true rfl) (fun p e s m args below meth c A X hr hl hin => wi_X0_init X hr hl hin h)
def i_X3_init (S : q_S) (o : Nat)  (Post : q_S → Prop) : Prop := ∀ q1 : Nat, q1 ∉ q_L (S) → (q_aP (q_nw (S) q1 100 120) (some o) 4 (fun a2 => ∀ q3 : Nat, q3 ∉ q_L (q_sR (q_nw (S) q1 100 120) a2 0 (some q1)) → (q_aP (q_nw (q_sR (q_nw (S) q1 100 120) a2 0 (some q1)) q3 100 120) (some o) 4 (fun a4 => ∀ q5 : Nat, q5 ∉ q_L (q_sR (q_nw (q_sR (q_nw (S) q1 100 120) a2 0 (some q1)) q3 100 120) a4 1 (some q3)) → (q_aP (q_nw (q_sR (q_nw (q_sR (q_nw (S) q1 100 120) a2 0 (some q1)) q3 100 120) a4 1 (some q3)) q5 100 120) (some o) 4 (fun a6 => ∀ q7 : Nat, q7 ∉ q_L (q_sR (q_nw (q_sR (q_nw (q_sR (q_nw (S) q1 100 120) a2 0 (some q1)) q3 100 120) a4 1 (some q3)) q5 100 120) a6 2 (some q5)) → (q_aP (q_nw (q_sR (q_nw (q_sR (q_nw (q_sR (q_nw (S) q1 100 120) a2 0 (some q1)) q3 100 120) a4 1 (some q3)) q5 100 120) a6 2 (some q5)) q7 100 120) (some o) 4 (fun a8 => Post (q_sR (q_nw (q_sR (q_nw (q_sR (q_nw (q_sR (q_nw (S) q1 100 120) a2 0 (some q1)) q3 100 120) a4 1 (some q3)) q5 100 120) a6 2 (some q5)) q7 100 120) a8 3 (some q7))))))))))
set_option maxHeartbeats 4000000 in
set_option maxRecDepth 100000 in
theorem wi_X3_init (X : q_X p s m args c cX3_init 1 RX3 q_T D cy A) (hr : meth.sig.returnType = none) (hl : meth.locks = false) (hin : meth.name = "<init>") {S : q_S} {o : Nat}  {Post : q_S → Prop} (h : i_X3_init S o Post) : q_W p l e ({ frames := 1, cells := 4, slots := 480, locals := 20 } : Room) s m args below meth c (MQ below (va_Qv Post (q_B D cy A) A) args s 4 480 A) A D cy 1 0 0 S 0 [(0, va_rf (some o))] [] := by
  unfold i_X3_init at h
  refine q_aload_n X 0 rfl dX3_init_0 ?_
  refine q_objI X rfl tO_X3_3 tO_i tO_c (Nat.le_of_ble_eq_true rfl) (Nat.le_of_ble_eq_true rfl) dX3_init_1 ?_
  refine q_aload_n X 0 rfl dX3_init_4 ?_
  refine q_bipush X (120) (by decide) dX3_init_5 ?_
  refine q_rnewa100 X 120 tA_int (by decide) (by decide) (Nat.le_of_ble_eq_true rfl) (Nat.le_of_ble_eq_true rfl) (Nat.le_of_ble_eq_true rfl) dX3_init_7 (fun q1 fq1 => ?_)
  have h := h q1 fq1
  obtain ⟨a2, ea2, ma2, ka2, h⟩ := h
  refine q_putF X 0 ea2 ma2 ka2 rfl tW_X3 (by decide) (by decide) tF_X3_9 tyX3 tyX3_ok nmX3 rfl hin rfl (tyX3_ok 0 (by decide)) (q_nRa _ _) (q_fRa _ _) rfl dX3_init_9 ?_
  have ma2 : a2 ∈ q_L (q_sR (q_nw (S) q1 100 120) a2 0 (some q1)) := q_LsR ma2
  have ka2 : q_K (q_sR (q_nw (S) q1 100 120) a2 0 (some q1)) a2 = 4 := q_KsR ka2
  refine q_aload_n X 0 rfl dX3_init_12 ?_
  refine q_bipush X (120) (by decide) dX3_init_13 ?_
  refine q_rnewa100 X 120 tA_int (by decide) (by decide) (Nat.le_of_ble_eq_true rfl) (Nat.le_of_ble_eq_true rfl) (Nat.le_of_ble_eq_true rfl) dX3_init_15 (fun q3 fq3 => ?_)
  have h := h q3 fq3
  obtain ⟨a4, ea4, ma4, ka4, h⟩ := h
  refine q_putF X 1 ea4 ma4 ka4 rfl tW_X3 (by decide) (by decide) tF_X3_15 tyX3 tyX3_ok nmX3 rfl hin rfl (tyX3_ok 1 (by decide)) (q_nRa _ _) (q_fRa _ _) rfl dX3_init_17 ?_
  have ma4 : a4 ∈ q_L (q_sR (q_nw (q_sR (q_nw (S) q1 100 120) a2 0 (some q1)) q3 100 120) a4 1 (some q3)) := q_LsR ma4
  have ka4 : q_K (q_sR (q_nw (q_sR (q_nw (S) q1 100 120) a2 0 (some q1)) q3 100 120) a4 1 (some q3)) a4 = 4 := q_KsR ka4
  refine q_aload_n X 0 rfl dX3_init_20 ?_
  refine q_bipush X (120) (by decide) dX3_init_21 ?_
  refine q_rnewa100 X 120 tA_int (by decide) (by decide) (Nat.le_of_ble_eq_true rfl) (Nat.le_of_ble_eq_true rfl) (Nat.le_of_ble_eq_true rfl) dX3_init_23 (fun q5 fq5 => ?_)
  have h := h q5 fq5
  obtain ⟨a6, ea6, ma6, ka6, h⟩ := h
  refine q_putF X 2 ea6 ma6 ka6 rfl tW_X3 (by decide) (by decide) tF_X3_18 tyX3 tyX3_ok nmX3 rfl hin rfl (tyX3_ok 2 (by decide)) (q_nRa _ _) (q_fRa _ _) rfl dX3_init_25 ?_
  have ma6 : a6 ∈ q_L (q_sR (q_nw (q_sR (q_nw (q_sR (q_nw (S) q1 100 120) a2 0 (some q1)) q3 100 120) a4 1 (some q3)) q5 100 120) a6 2 (some q5)) := q_LsR ma6
  have ka6 : q_K (q_sR (q_nw (q_sR (q_nw (q_sR (q_nw (S) q1 100 120) a2 0 (some q1)) q3 100 120) a4 1 (some q3)) q5 100 120) a6 2 (some q5)) a6 = 4 := q_KsR ka6
  refine q_aload_n X 0 rfl dX3_init_28 ?_
  refine q_bipush X (120) (by decide) dX3_init_29 ?_
  refine q_rnewa100 X 120 tA_int (by decide) (by decide) (Nat.le_of_ble_eq_true rfl) (Nat.le_of_ble_eq_true rfl) (Nat.le_of_ble_eq_true rfl) dX3_init_31 (fun q7 fq7 => ?_)
  have h := h q7 fq7
  obtain ⟨a8, ea8, ma8, ka8, h⟩ := h
  refine q_putF X 3 ea8 ma8 ka8 rfl tW_X3 (by decide) (by decide) tF_X3_21 tyX3 tyX3_ok nmX3 rfl hin rfl (tyX3_ok 3 (by decide)) (q_nRa _ _) (q_fRa _ _) rfl dX3_init_33 ?_
  have ma8 : a8 ∈ q_L (q_sR (q_nw (q_sR (q_nw (q_sR (q_nw (q_sR (q_nw (S) q1 100 120) a2 0 (some q1)) q3 100 120) a4 1 (some q3)) q5 100 120) a6 2 (some q5)) q7 100 120) a8 3 (some q7)) := q_LsR ma8
  have ka8 : q_K (q_sR (q_nw (q_sR (q_nw (q_sR (q_nw (q_sR (q_nw (S) q1 100 120) a2 0 (some q1)) q3 100 120) a4 1 (some q3)) q5 100 120) a6 2 (some q5)) q7 100 120) a8 3 (some q7)) a8 = 4 := q_KsR ka8
  exact q_vretC X hr hl h (Nat.le_of_ble_eq_true rfl) (Nat.le_of_ble_eq_true rfl) dX3_init_36
theorem tD_X3_init : yX3_init.cls ≠ "java/lang/invoke/MethodHandle" ∧ yX3_init.cls ≠ "java/lang/invoke/VarHandle" ∧ (parseMethodDescriptor yX3_init.desc).map (fun d => d.parameters.length) = some 0 := by decide +kernel
theorem ci_X3_init {l : Launch} {D : va_G} {cy : Nat → ClassId} {S : q_S} {o : Nat}  {Post : q_S → Prop} (h : i_X3_init S o Post) : q_MC l yX3_init (q_ws yX3_init cX3_init 1 none) ({ frames := 1, cells := 4, slots := 480, locals := 20 } : Room) D cy [.ref o] S Post 4 480 := by
  exact q_MC_of (by decide +kernel) (Nat.le_of_ble_eq_true rfl) (fun p e s m args below meth c A X hr hl hin => wi_X3_init X hr hl hin h)
def i_X5_init (S : q_S) (o : Nat) (p0 : Option Nat) (p1 : Option Nat) (p2 : Option Nat) (Post : q_S → Prop) : Prop := ∀ q1 : Nat, q1 ∉ q_L (S) → (i_X3_init (q_nw (S) q1 4 0) (q1) (fun S2 => q_aP (S2) (some o) 6 (fun a3 => ∀ q4 : Nat, q4 ∉ q_L (q_sR (S2) a3 2 (some q1)) → (i_X3_init (q_nw (q_sR (S2) a3 2 (some q1)) q4 4 0) (q4) (fun S5 => q_aP (S5) (some o) 6 (fun a6 => ∀ q7 : Nat, q7 ∉ q_L (q_sR (S5) a6 3 (some q4)) → (q_aP (q_nw (q_sR (S5) a6 3 (some q4)) q7 103 6) (some o) 6 (fun a8 => ∀ q9 : Nat, q9 ∉ q_L (q_sR (q_nw (q_sR (S5) a6 3 (some q4)) q7 103 6) a8 4 (some q7)) → (q_aP (q_nw (q_sR (q_nw (q_sR (S5) a6 3 (some q4)) q7 103 6) a8 4 (some q7)) q9 100 6) (some o) 6 (fun a10 => ∀ q11 : Nat, q11 ∉ q_L (q_sR (q_nw (q_sR (q_nw (q_sR (S5) a6 3 (some q4)) q7 103 6) a8 4 (some q7)) q9 100 6) a10 5 (some q9)) → (q_aP (q_nw (q_sR (q_nw (q_sR (q_nw (q_sR (S5) a6 3 (some q4)) q7 103 6) a8 4 (some q7)) q9 100 6) a10 5 (some q9)) q11 100 6) (some o) 6 (fun a12 => ∀ q13 : Nat, q13 ∉ q_L (q_sR (q_nw (q_sR (q_nw (q_sR (q_nw (q_sR (S5) a6 3 (some q4)) q7 103 6) a8 4 (some q7)) q9 100 6) a10 5 (some q9)) q11 100 6) a12 6 (some q11)) → (q_aP (q_nw (q_sR (q_nw (q_sR (q_nw (q_sR (q_nw (q_sR (S5) a6 3 (some q4)) q7 103 6) a8 4 (some q7)) q9 100 6) a10 5 (some q9)) q11 100 6) a12 6 (some q11)) q13 100 1200) (some o) 6 (fun a14 => ∀ q15 : Nat, q15 ∉ q_L (q_sR (q_nw (q_sR (q_nw (q_sR (q_nw (q_sR (q_nw (q_sR (S5) a6 3 (some q4)) q7 103 6) a8 4 (some q7)) q9 100 6) a10 5 (some q9)) q11 100 6) a12 6 (some q11)) q13 100 1200) a14 7 (some q13)) → (q_aP (q_nw (q_sR (q_nw (q_sR (q_nw (q_sR (q_nw (q_sR (q_nw (q_sR (S5) a6 3 (some q4)) q7 103 6) a8 4 (some q7)) q9 100 6) a10 5 (some q9)) q11 100 6) a12 6 (some q11)) q13 100 1200) a14 7 (some q13)) q15 100 1200) (some o) 6 (fun a16 => ∀ q17 : Nat, q17 ∉ q_L (q_sR (q_sR (q_sR (q_nw (q_sR (q_nw (q_sR (q_nw (q_sR (q_nw (q_sR (q_nw (q_sR (S5) a6 3 (some q4)) q7 103 6) a8 4 (some q7)) q9 100 6) a10 5 (some q9)) q11 100 6) a12 6 (some q11)) q13 100 1200) a14 7 (some q13)) q15 100 1200) a16 8 (some q15)) a16 0 (p1)) a16 1 (p2)) → (i_X1_init (q_nw (q_sR (q_sR (q_sR (q_nw (q_sR (q_nw (q_sR (q_nw (q_sR (q_nw (q_sR (q_nw (q_sR (S5) a6 3 (some q4)) q7 103 6) a8 4 (some q7)) q9 100 6) a10 5 (some q9)) q11 100 6) a12 6 (some q11)) q13 100 1200) a14 7 (some q13)) q15 100 1200) a16 8 (some q15)) a16 0 (p1)) a16 1 (p2)) q17 2 0) (q17) (p0) (fun S18 => q_aP (S18) (q_R (q_sR (q_sR (q_sR (q_nw (q_sR (q_nw (q_sR (q_nw (q_sR (q_nw (q_sR (q_nw (q_sR (S5) a6 3 (some q4)) q7 103 6) a8 4 (some q7)) q9 100 6) a10 5 (some q9)) q11 100 6) a12 6 (some q11)) q13 100 1200) a14 7 (some q13)) q15 100 1200) a16 8 (some q15)) a16 0 (p1)) a16 1 (p2)) a16 4) 103 (fun a19 => q_aP (S18) (some q17) 2 (fun a20 => q_in ((0 : Int32)) (q_N (S18) a19) = true ∧ (q_aP (q_sR (S18) a19 ((0 : Int32)).toNatClampNeg (some a20)) (some o) 6 (fun a22 => ∀ q23 : Nat, q23 ∉ q_L (q_sR (S18) a19 ((0 : Int32)).toNatClampNeg (some a20)) → (i_X1_init (q_nw (q_sR (S18) a19 ((0 : Int32)).toNatClampNeg (some a20)) q23 2 0) (q23) (p0) (fun S24 => q_aP (S24) (q_R (q_sR (S18) a19 ((0 : Int32)).toNatClampNeg (some a20)) a22 4) 103 (fun a25 => q_aP (S24) (some q23) 2 (fun a26 => q_in ((1 : Int32)) (q_N (S24) a25) = true ∧ (q_aP (q_sR (S24) a25 ((1 : Int32)).toNatClampNeg (some a26)) (some o) 6 (fun a28 => ∀ q29 : Nat, q29 ∉ q_L (q_sR (S24) a25 ((1 : Int32)).toNatClampNeg (some a26)) → (i_X1_init (q_nw (q_sR (S24) a25 ((1 : Int32)).toNatClampNeg (some a26)) q29 2 0) (q29) (p0) (fun S30 => q_aP (S30) (q_R (q_sR (S24) a25 ((1 : Int32)).toNatClampNeg (some a26)) a28 4) 103 (fun a31 => q_aP (S30) (some q29) 2 (fun a32 => q_in ((2 : Int32)) (q_N (S30) a31) = true ∧ (q_aP (q_sR (S30) a31 ((2 : Int32)).toNatClampNeg (some a32)) (some o) 6 (fun a34 => ∀ q35 : Nat, q35 ∉ q_L (q_sR (S30) a31 ((2 : Int32)).toNatClampNeg (some a32)) → (i_X1_init (q_nw (q_sR (S30) a31 ((2 : Int32)).toNatClampNeg (some a32)) q35 2 0) (q35) (p0) (fun S36 => q_aP (S36) (q_R (q_sR (S30) a31 ((2 : Int32)).toNatClampNeg (some a32)) a34 4) 103 (fun a37 => q_aP (S36) (some q35) 2 (fun a38 => q_in ((3 : Int32)) (q_N (S36) a37) = true ∧ (q_aP (q_sR (S36) a37 ((3 : Int32)).toNatClampNeg (some a38)) (some o) 6 (fun a40 => ∀ q41 : Nat, q41 ∉ q_L (q_sR (S36) a37 ((3 : Int32)).toNatClampNeg (some a38)) → (i_X1_init (q_nw (q_sR (S36) a37 ((3 : Int32)).toNatClampNeg (some a38)) q41 2 0) (q41) (p0) (fun S42 => q_aP (S42) (q_R (q_sR (S36) a37 ((3 : Int32)).toNatClampNeg (some a38)) a40 4) 103 (fun a43 => q_aP (S42) (some q41) 2 (fun a44 => q_in ((4 : Int32)) (q_N (S42) a43) = true ∧ (q_aP (q_sR (S42) a43 ((4 : Int32)).toNatClampNeg (some a44)) (some o) 6 (fun a46 => ∀ q47 : Nat, q47 ∉ q_L (q_sR (S42) a43 ((4 : Int32)).toNatClampNeg (some a44)) → (i_X1_init (q_nw (q_sR (S42) a43 ((4 : Int32)).toNatClampNeg (some a44)) q47 2 0) (q47) (p0) (fun S48 => q_aP (S48) (q_R (q_sR (S42) a43 ((4 : Int32)).toNatClampNeg (some a44)) a46 4) 103 (fun a49 => q_aP (S48) (some q47) 2 (fun a50 => q_in ((5 : Int32)) (q_N (S48) a49) = true ∧ (Post (q_sR (S48) a49 ((5 : Int32)).toNatClampNeg (some a50)))))))))))))))))))))))))))))))))))))))))))))))))))))
set_option maxHeartbeats 4000000 in
set_option maxRecDepth 100000 in
theorem wi_X5_init (X : q_X p s m args c cX5_init 5 RX5 q_T D cy A) (hr : meth.sig.returnType = none) (hl : meth.locks = false) (hin : meth.name = "<init>") {S : q_S} {o : Nat} {p0 : Option Nat} {p1 : Option Nat} {p2 : Option Nat} {Post : q_S → Prop} (h : i_X5_init S o p0 p1 p2 Post) : q_W p l e ({ frames := 2, cells := 21, slots := 3474, locals := 41 } : Room) s m args below meth c (MQ below (va_Qv Post (q_B D cy A) A) args s 21 3474 A) A D cy 5 0 0 S 0 [(0, va_rf (some o)), (1, va_rf (p0)), (2, va_rf (p1)), (3, va_rf (p2))] [] := by
  unfold i_X5_init at h
  refine q_aload_n X 0 rfl dX5_init_0 ?_
  refine q_objI X rfl tO_X5_3 tO_i tO_c (Nat.le_of_ble_eq_true rfl) (Nat.le_of_ble_eq_true rfl) dX5_init_1 ?_
  refine q_aload_n X 0 rfl dX5_init_4 ?_
  refine q_rnew X tyX3 tyX3_ok rfl (by decide) tW_X3 tL_X5_9 tJ_X3 tN_X3 q_df_X3 (Nat.le_of_ble_eq_true rfl) (Nat.le_of_ble_eq_true rfl) dX5_init_5 (fun q1 fq1 => ?_)
  have h := h q1 fq1
  refine q_dup X (q_catR _) dX5_init_8 ?_
  refine q_cIN X (As := []) rfl (ci_X3_init h) tK_X3_init tM_X5_11 tI_X3_init tN_X3 rfl rfl rfl tD_X3_init ⟨Nat.le_of_ble_eq_true rfl, Nat.le_of_ble_eq_true rfl⟩ rfl rfl (by first | exact Nat.le_of_ble_eq_true rfl | (simp only [List.map, q_catR]; exact Nat.le_of_ble_eq_true rfl)) ⟨Nat.le_of_ble_eq_true rfl, Nat.le_of_ble_eq_true rfl⟩ dX5_init_9 (fun S2 h => ?_)
  obtain ⟨a3, ea3, ma3, ka3, h⟩ := h
  refine q_putF X 2 ea3 ma3 ka3 rfl tW_X5 (by decide) (by decide) tF_X5_12 tyX5 tyX5_ok nmX5 rfl hin rfl (tyX5_ok 2 (by decide)) (q_nR _ _) (q_fR _ _) rfl dX5_init_12 ?_
  have ma3 : a3 ∈ q_L (q_sR (S2) a3 2 (some q1)) := q_LsR ma3
  have ka3 : q_K (q_sR (S2) a3 2 (some q1)) a3 = 6 := q_KsR ka3
  refine q_aload_n X 0 rfl dX5_init_15 ?_
  refine q_rnew X tyX3 tyX3_ok rfl (by decide) tW_X3 tL_X5_9 tJ_X3 tN_X3 q_df_X3 (Nat.le_of_ble_eq_true rfl) (Nat.le_of_ble_eq_true rfl) dX5_init_16 (fun q4 fq4 => ?_)
  have h := h q4 fq4
  refine q_dup X (q_catR _) dX5_init_19 ?_
  refine q_cIN X (As := []) rfl (ci_X3_init h) tK_X3_init tM_X5_11 tI_X3_init tN_X3 rfl rfl rfl tD_X3_init ⟨Nat.le_of_ble_eq_true rfl, Nat.le_of_ble_eq_true rfl⟩ rfl rfl (by first | exact Nat.le_of_ble_eq_true rfl | (simp only [List.map, q_catR]; exact Nat.le_of_ble_eq_true rfl)) ⟨Nat.le_of_ble_eq_true rfl, Nat.le_of_ble_eq_true rfl⟩ dX5_init_20 (fun S5 h => ?_)
  obtain ⟨a6, ea6, ma6, ka6, h⟩ := h
  refine q_putF X 3 ea6 ma6 ka6 rfl tW_X5 (by decide) (by decide) tF_X5_18 tyX5 tyX5_ok nmX5 rfl hin rfl (tyX5_ok 3 (by decide)) (q_nR _ _) (q_fR _ _) rfl dX5_init_23 ?_
  have ma6 : a6 ∈ q_L (q_sR (S5) a6 3 (some q4)) := q_LsR ma6
  have ka6 : q_K (q_sR (S5) a6 3 (some q4)) a6 = 6 := q_KsR ka6
  refine q_aload_n X 0 rfl dX5_init_26 ?_
  refine q_bipush X (6) (by decide) dX5_init_27 ?_
  refine q_rnewq103 X 6 tL_X5_21 tA_Data (by decide) (by decide) (Nat.le_of_ble_eq_true rfl) (Nat.le_of_ble_eq_true rfl) (Nat.le_of_ble_eq_true rfl) dX5_init_29 (fun q7 fq7 => ?_)
  have h := h q7 fq7
  obtain ⟨a8, ea8, ma8, ka8, h⟩ := h
  refine q_putF X 4 ea8 ma8 ka8 rfl tW_X5 (by decide) (by decide) tF_X5_23 tyX5 tyX5_ok nmX5 rfl hin rfl (tyX5_ok 4 (by decide)) (q_nRa _ _) (q_fRa _ _) rfl dX5_init_32 ?_
  have ma8 : a8 ∈ q_L (q_sR (q_nw (q_sR (S5) a6 3 (some q4)) q7 103 6) a8 4 (some q7)) := q_LsR ma8
  have ka8 : q_K (q_sR (q_nw (q_sR (S5) a6 3 (some q4)) q7 103 6) a8 4 (some q7)) a8 = 6 := q_KsR ka8
  refine q_aload_n X 0 rfl dX5_init_35 ?_
  refine q_bipush X (6) (by decide) dX5_init_36 ?_
  refine q_rnewa100 X 6 tA_int (by decide) (by decide) (Nat.le_of_ble_eq_true rfl) (Nat.le_of_ble_eq_true rfl) (Nat.le_of_ble_eq_true rfl) dX5_init_38 (fun q9 fq9 => ?_)
  have h := h q9 fq9
  obtain ⟨a10, ea10, ma10, ka10, h⟩ := h
  refine q_putF X 5 ea10 ma10 ka10 rfl tW_X5 (by decide) (by decide) tF_X5_27 tyX5 tyX5_ok nmX5 rfl hin rfl (tyX5_ok 5 (by decide)) (q_nRa _ _) (q_fRa _ _) rfl dX5_init_40 ?_
  have ma10 : a10 ∈ q_L (q_sR (q_nw (q_sR (q_nw (q_sR (S5) a6 3 (some q4)) q7 103 6) a8 4 (some q7)) q9 100 6) a10 5 (some q9)) := q_LsR ma10
  have ka10 : q_K (q_sR (q_nw (q_sR (q_nw (q_sR (S5) a6 3 (some q4)) q7 103 6) a8 4 (some q7)) q9 100 6) a10 5 (some q9)) a10 = 6 := q_KsR ka10
  refine q_aload_n X 0 rfl dX5_init_43 ?_
  refine q_bipush X (6) (by decide) dX5_init_44 ?_
  refine q_rnewa100 X 6 tA_int (by decide) (by decide) (Nat.le_of_ble_eq_true rfl) (Nat.le_of_ble_eq_true rfl) (Nat.le_of_ble_eq_true rfl) dX5_init_46 (fun q11 fq11 => ?_)
  have h := h q11 fq11
  obtain ⟨a12, ea12, ma12, ka12, h⟩ := h
  refine q_putF X 6 ea12 ma12 ka12 rfl tW_X5 (by decide) (by decide) tF_X5_31 tyX5 tyX5_ok nmX5 rfl hin rfl (tyX5_ok 6 (by decide)) (q_nRa _ _) (q_fRa _ _) rfl dX5_init_48 ?_
  have ma12 : a12 ∈ q_L (q_sR (q_nw (q_sR (q_nw (q_sR (q_nw (q_sR (S5) a6 3 (some q4)) q7 103 6) a8 4 (some q7)) q9 100 6) a10 5 (some q9)) q11 100 6) a12 6 (some q11)) := q_LsR ma12
  have ka12 : q_K (q_sR (q_nw (q_sR (q_nw (q_sR (q_nw (q_sR (S5) a6 3 (some q4)) q7 103 6) a8 4 (some q7)) q9 100 6) a10 5 (some q9)) q11 100 6) a12 6 (some q11)) a12 = 6 := q_KsR ka12
  refine q_aload_n X 0 rfl dX5_init_51 ?_
  refine q_sipush X (1200) (by decide) dX5_init_52 ?_
  refine q_rnewa100 X 1200 tA_int (by decide) (by decide) (Nat.le_of_ble_eq_true rfl) (Nat.le_of_ble_eq_true rfl) (Nat.le_of_ble_eq_true rfl) dX5_init_55 (fun q13 fq13 => ?_)
  have h := h q13 fq13
  obtain ⟨a14, ea14, ma14, ka14, h⟩ := h
  refine q_putF X 7 ea14 ma14 ka14 rfl tW_X5 (by decide) (by decide) tF_X5_34 tyX5 tyX5_ok nmX5 rfl hin rfl (tyX5_ok 7 (by decide)) (q_nRa _ _) (q_fRa _ _) rfl dX5_init_57 ?_
  have ma14 : a14 ∈ q_L (q_sR (q_nw (q_sR (q_nw (q_sR (q_nw (q_sR (q_nw (q_sR (S5) a6 3 (some q4)) q7 103 6) a8 4 (some q7)) q9 100 6) a10 5 (some q9)) q11 100 6) a12 6 (some q11)) q13 100 1200) a14 7 (some q13)) := q_LsR ma14
  have ka14 : q_K (q_sR (q_nw (q_sR (q_nw (q_sR (q_nw (q_sR (q_nw (q_sR (S5) a6 3 (some q4)) q7 103 6) a8 4 (some q7)) q9 100 6) a10 5 (some q9)) q11 100 6) a12 6 (some q11)) q13 100 1200) a14 7 (some q13)) a14 = 6 := q_KsR ka14
  refine q_aload_n X 0 rfl dX5_init_60 ?_
  refine q_sipush X (1200) (by decide) dX5_init_61 ?_
  refine q_rnewa100 X 1200 tA_int (by decide) (by decide) (Nat.le_of_ble_eq_true rfl) (Nat.le_of_ble_eq_true rfl) (Nat.le_of_ble_eq_true rfl) dX5_init_64 (fun q15 fq15 => ?_)
  have h := h q15 fq15
  obtain ⟨a16, ea16, ma16, ka16, h⟩ := h
  refine q_putF X 8 ea16 ma16 ka16 rfl tW_X5 (by decide) (by decide) tF_X5_37 tyX5 tyX5_ok nmX5 rfl hin rfl (tyX5_ok 8 (by decide)) (q_nRa _ _) (q_fRa _ _) rfl dX5_init_66 ?_
  have ma16 : a16 ∈ q_L (q_sR (q_nw (q_sR (q_nw (q_sR (q_nw (q_sR (q_nw (q_sR (q_nw (q_sR (S5) a6 3 (some q4)) q7 103 6) a8 4 (some q7)) q9 100 6) a10 5 (some q9)) q11 100 6) a12 6 (some q11)) q13 100 1200) a14 7 (some q13)) q15 100 1200) a16 8 (some q15)) := q_LsR ma16
  have ka16 : q_K (q_sR (q_nw (q_sR (q_nw (q_sR (q_nw (q_sR (q_nw (q_sR (q_nw (q_sR (S5) a6 3 (some q4)) q7 103 6) a8 4 (some q7)) q9 100 6) a10 5 (some q9)) q11 100 6) a12 6 (some q11)) q13 100 1200) a14 7 (some q13)) q15 100 1200) a16 8 (some q15)) a16 = 6 := q_KsR ka16
  refine q_aload_n X 0 rfl dX5_init_69 ?_
  refine q_aload_n X 2 rfl dX5_init_70 ?_
  refine q_putF X 0 ea16 ma16 ka16 rfl tW_X5 (by decide) (by decide) tF_X5_40 tyX5 tyX5_ok nmX5 rfl hin rfl (tyX5_ok 0 (by decide)) (q_nR _ _) (q_fR _ _) rfl dX5_init_71 ?_
  have ma16 : a16 ∈ q_L (q_sR (q_sR (q_nw (q_sR (q_nw (q_sR (q_nw (q_sR (q_nw (q_sR (q_nw (q_sR (S5) a6 3 (some q4)) q7 103 6) a8 4 (some q7)) q9 100 6) a10 5 (some q9)) q11 100 6) a12 6 (some q11)) q13 100 1200) a14 7 (some q13)) q15 100 1200) a16 8 (some q15)) a16 0 (p1)) := q_LsR ma16
  have ka16 : q_K (q_sR (q_sR (q_nw (q_sR (q_nw (q_sR (q_nw (q_sR (q_nw (q_sR (q_nw (q_sR (S5) a6 3 (some q4)) q7 103 6) a8 4 (some q7)) q9 100 6) a10 5 (some q9)) q11 100 6) a12 6 (some q11)) q13 100 1200) a14 7 (some q13)) q15 100 1200) a16 8 (some q15)) a16 0 (p1)) a16 = 6 := q_KsR ka16
  refine q_aload_n X 0 rfl dX5_init_74 ?_
  refine q_aload_n X 3 rfl dX5_init_75 ?_
  refine q_putF X 1 ea16 ma16 ka16 rfl tW_X5 (by decide) (by decide) tF_X5_44 tyX5 tyX5_ok nmX5 rfl hin rfl (tyX5_ok 1 (by decide)) (q_nR _ _) (q_fR _ _) rfl dX5_init_76 ?_
  have ma16 : a16 ∈ q_L (q_sR (q_sR (q_sR (q_nw (q_sR (q_nw (q_sR (q_nw (q_sR (q_nw (q_sR (q_nw (q_sR (S5) a6 3 (some q4)) q7 103 6) a8 4 (some q7)) q9 100 6) a10 5 (some q9)) q11 100 6) a12 6 (some q11)) q13 100 1200) a14 7 (some q13)) q15 100 1200) a16 8 (some q15)) a16 0 (p1)) a16 1 (p2)) := q_LsR ma16
  have ka16 : q_K (q_sR (q_sR (q_sR (q_nw (q_sR (q_nw (q_sR (q_nw (q_sR (q_nw (q_sR (q_nw (q_sR (S5) a6 3 (some q4)) q7 103 6) a8 4 (some q7)) q9 100 6) a10 5 (some q9)) q11 100 6) a12 6 (some q11)) q13 100 1200) a14 7 (some q13)) q15 100 1200) a16 8 (some q15)) a16 0 (p1)) a16 1 (p2)) a16 = 6 := q_KsR ka16
  refine q_iconst X (0) (by decide) dX5_init_79 ?_
  refine q_istore X 4 [(4, .int ((0 : Int32))), (0, va_rf (some o)), (1, va_rf (p0)), (2, va_rf (p1)), (3, va_rf (p2))] (by decide) (by first | rfl | simp [List.filter, q_catR]) dX5_init_80 ?_
  refine q_iload X 0 rfl dX5_init_82 ?_
  refine q_iconst X (5) (by decide) dX5_init_84 ?_
  refine q_icmp_gt X 109 (by decide) dX5_init_85 (fun g => absurd g (by decide)) (fun _ => ?_)
  refine q_aload_n X 1 rfl dX5_init_88 ?_
  refine q_getR X 4 ea16 ma16 ka16 rfl tW_X5 (by decide) (by decide) tF_X5_23 rfl dX5_init_89 ?_
  refine q_iload X 0 rfl dX5_init_92 ?_
  refine q_rnew X tyX1 tyX1_ok rfl (by decide) tW_X1 tL_X5_21 tJ_X1 tN_X1 q_df_X1 (Nat.le_of_ble_eq_true rfl) (Nat.le_of_ble_eq_true rfl) dX5_init_94 (fun q17 fq17 => ?_)
  have h := h q17 fq17
  refine q_dup X (q_catR _) dX5_init_97 ?_
  refine q_aload_n X 2 rfl dX5_init_98 ?_
  refine q_cI X (As := [va_rf (p0)]) rfl (ci_X1_init h) tK_X1_init tM_X5_48 tI_X1_init tN_X1 rfl rfl rfl tD_X1_init ⟨Nat.le_of_ble_eq_true rfl, Nat.le_of_ble_eq_true rfl⟩ rfl rfl (by first | exact Nat.le_of_ble_eq_true rfl | (simp only [List.map, q_catR]; exact Nat.le_of_ble_eq_true rfl)) ⟨Nat.le_of_ble_eq_true rfl, Nat.le_of_ble_eq_true rfl⟩ dX5_init_99 (fun S18 h => ?_)
  obtain ⟨a19, ea19, ma19, ka19, h⟩ := h
  obtain ⟨a20, ea20, ma20, ka20, h⟩ := h
  obtain ⟨g21, h⟩ := h
  refine q_aast103 X ea19 ma19 ka19 (q_inE g21) ea20 ma20 ka20 rfl (by decide) dX5_init_102 ?_
  have ma19 : a19 ∈ q_L (q_sR (S18) a19 ((0 : Int32)).toNatClampNeg (some a20)) := q_LsR ma19
  have ka19 : q_K (q_sR (S18) a19 ((0 : Int32)).toNatClampNeg (some a20)) a19 = 103 := q_KsR ka19
  have ma20 : a20 ∈ q_L (q_sR (S18) a19 ((0 : Int32)).toNatClampNeg (some a20)) := q_LsR ma20
  have ka20 : q_K (q_sR (S18) a19 ((0 : Int32)).toNatClampNeg (some a20)) a20 = 2 := q_KsR ka20
  refine q_iinc X 4 0 (1 : Int32) [(4, .int ((1 : Int32))), (0, va_rf (some o)), (1, va_rf (p0)), (2, va_rf (p1)), (3, va_rf (p2))] rfl (by decide) (by decide) (by first | rfl | simp [List.filter, q_catR]) dX5_init_103 ?_
  refine q_goto X 82 (by decide) dX5_init_106 ?_
  refine q_iload X 0 rfl dX5_init_82 ?_
  refine q_iconst X (5) (by decide) dX5_init_84 ?_
  refine q_icmp_gt X 109 (by decide) dX5_init_85 (fun g => absurd g (by decide)) (fun _ => ?_)
  refine q_aload_n X 1 rfl dX5_init_88 ?_
  obtain ⟨a22, ea22, ma22, ka22, h⟩ := h
  refine q_getR X 4 ea22 ma22 ka22 rfl tW_X5 (by decide) (by decide) tF_X5_23 rfl dX5_init_89 ?_
  refine q_iload X 0 rfl dX5_init_92 ?_
  refine q_rnew X tyX1 tyX1_ok rfl (by decide) tW_X1 tL_X5_21 tJ_X1 tN_X1 q_df_X1 (Nat.le_of_ble_eq_true rfl) (Nat.le_of_ble_eq_true rfl) dX5_init_94 (fun q23 fq23 => ?_)
  have h := h q23 fq23
  refine q_dup X (q_catR _) dX5_init_97 ?_
  refine q_aload_n X 2 rfl dX5_init_98 ?_
  refine q_cI X (As := [va_rf (p0)]) rfl (ci_X1_init h) tK_X1_init tM_X5_48 tI_X1_init tN_X1 rfl rfl rfl tD_X1_init ⟨Nat.le_of_ble_eq_true rfl, Nat.le_of_ble_eq_true rfl⟩ rfl rfl (by first | exact Nat.le_of_ble_eq_true rfl | (simp only [List.map, q_catR]; exact Nat.le_of_ble_eq_true rfl)) ⟨Nat.le_of_ble_eq_true rfl, Nat.le_of_ble_eq_true rfl⟩ dX5_init_99 (fun S24 h => ?_)
  obtain ⟨a25, ea25, ma25, ka25, h⟩ := h
  obtain ⟨a26, ea26, ma26, ka26, h⟩ := h
  obtain ⟨g27, h⟩ := h
  refine q_aast103 X ea25 ma25 ka25 (q_inE g27) ea26 ma26 ka26 rfl (by decide) dX5_init_102 ?_
  have ma25 : a25 ∈ q_L (q_sR (S24) a25 ((1 : Int32)).toNatClampNeg (some a26)) := q_LsR ma25
  have ka25 : q_K (q_sR (S24) a25 ((1 : Int32)).toNatClampNeg (some a26)) a25 = 103 := q_KsR ka25
  have ma26 : a26 ∈ q_L (q_sR (S24) a25 ((1 : Int32)).toNatClampNeg (some a26)) := q_LsR ma26
  have ka26 : q_K (q_sR (S24) a25 ((1 : Int32)).toNatClampNeg (some a26)) a26 = 2 := q_KsR ka26
  refine q_iinc X 4 0 (2 : Int32) [(4, .int ((2 : Int32))), (0, va_rf (some o)), (1, va_rf (p0)), (2, va_rf (p1)), (3, va_rf (p2))] rfl (by decide) (by decide) (by first | rfl | simp [List.filter, q_catR]) dX5_init_103 ?_
  refine q_goto X 82 (by decide) dX5_init_106 ?_
  refine q_iload X 0 rfl dX5_init_82 ?_
  refine q_iconst X (5) (by decide) dX5_init_84 ?_
  refine q_icmp_gt X 109 (by decide) dX5_init_85 (fun g => absurd g (by decide)) (fun _ => ?_)
  refine q_aload_n X 1 rfl dX5_init_88 ?_
  obtain ⟨a28, ea28, ma28, ka28, h⟩ := h
  refine q_getR X 4 ea28 ma28 ka28 rfl tW_X5 (by decide) (by decide) tF_X5_23 rfl dX5_init_89 ?_
  refine q_iload X 0 rfl dX5_init_92 ?_
  refine q_rnew X tyX1 tyX1_ok rfl (by decide) tW_X1 tL_X5_21 tJ_X1 tN_X1 q_df_X1 (Nat.le_of_ble_eq_true rfl) (Nat.le_of_ble_eq_true rfl) dX5_init_94 (fun q29 fq29 => ?_)
  have h := h q29 fq29
  refine q_dup X (q_catR _) dX5_init_97 ?_
  refine q_aload_n X 2 rfl dX5_init_98 ?_
  refine q_cI X (As := [va_rf (p0)]) rfl (ci_X1_init h) tK_X1_init tM_X5_48 tI_X1_init tN_X1 rfl rfl rfl tD_X1_init ⟨Nat.le_of_ble_eq_true rfl, Nat.le_of_ble_eq_true rfl⟩ rfl rfl (by first | exact Nat.le_of_ble_eq_true rfl | (simp only [List.map, q_catR]; exact Nat.le_of_ble_eq_true rfl)) ⟨Nat.le_of_ble_eq_true rfl, Nat.le_of_ble_eq_true rfl⟩ dX5_init_99 (fun S30 h => ?_)
  obtain ⟨a31, ea31, ma31, ka31, h⟩ := h
  obtain ⟨a32, ea32, ma32, ka32, h⟩ := h
  obtain ⟨g33, h⟩ := h
  refine q_aast103 X ea31 ma31 ka31 (q_inE g33) ea32 ma32 ka32 rfl (by decide) dX5_init_102 ?_
  have ma31 : a31 ∈ q_L (q_sR (S30) a31 ((2 : Int32)).toNatClampNeg (some a32)) := q_LsR ma31
  have ka31 : q_K (q_sR (S30) a31 ((2 : Int32)).toNatClampNeg (some a32)) a31 = 103 := q_KsR ka31
  have ma32 : a32 ∈ q_L (q_sR (S30) a31 ((2 : Int32)).toNatClampNeg (some a32)) := q_LsR ma32
  have ka32 : q_K (q_sR (S30) a31 ((2 : Int32)).toNatClampNeg (some a32)) a32 = 2 := q_KsR ka32
  refine q_iinc X 4 0 (3 : Int32) [(4, .int ((3 : Int32))), (0, va_rf (some o)), (1, va_rf (p0)), (2, va_rf (p1)), (3, va_rf (p2))] rfl (by decide) (by decide) (by first | rfl | simp [List.filter, q_catR]) dX5_init_103 ?_
  refine q_goto X 82 (by decide) dX5_init_106 ?_
  refine q_iload X 0 rfl dX5_init_82 ?_
  refine q_iconst X (5) (by decide) dX5_init_84 ?_
  refine q_icmp_gt X 109 (by decide) dX5_init_85 (fun g => absurd g (by decide)) (fun _ => ?_)
  refine q_aload_n X 1 rfl dX5_init_88 ?_
  obtain ⟨a34, ea34, ma34, ka34, h⟩ := h
  refine q_getR X 4 ea34 ma34 ka34 rfl tW_X5 (by decide) (by decide) tF_X5_23 rfl dX5_init_89 ?_
  refine q_iload X 0 rfl dX5_init_92 ?_
  refine q_rnew X tyX1 tyX1_ok rfl (by decide) tW_X1 tL_X5_21 tJ_X1 tN_X1 q_df_X1 (Nat.le_of_ble_eq_true rfl) (Nat.le_of_ble_eq_true rfl) dX5_init_94 (fun q35 fq35 => ?_)
  have h := h q35 fq35
  refine q_dup X (q_catR _) dX5_init_97 ?_
  refine q_aload_n X 2 rfl dX5_init_98 ?_
  refine q_cI X (As := [va_rf (p0)]) rfl (ci_X1_init h) tK_X1_init tM_X5_48 tI_X1_init tN_X1 rfl rfl rfl tD_X1_init ⟨Nat.le_of_ble_eq_true rfl, Nat.le_of_ble_eq_true rfl⟩ rfl rfl (by first | exact Nat.le_of_ble_eq_true rfl | (simp only [List.map, q_catR]; exact Nat.le_of_ble_eq_true rfl)) ⟨Nat.le_of_ble_eq_true rfl, Nat.le_of_ble_eq_true rfl⟩ dX5_init_99 (fun S36 h => ?_)
  obtain ⟨a37, ea37, ma37, ka37, h⟩ := h
  obtain ⟨a38, ea38, ma38, ka38, h⟩ := h
  obtain ⟨g39, h⟩ := h
  refine q_aast103 X ea37 ma37 ka37 (q_inE g39) ea38 ma38 ka38 rfl (by decide) dX5_init_102 ?_
  have ma37 : a37 ∈ q_L (q_sR (S36) a37 ((3 : Int32)).toNatClampNeg (some a38)) := q_LsR ma37
  have ka37 : q_K (q_sR (S36) a37 ((3 : Int32)).toNatClampNeg (some a38)) a37 = 103 := q_KsR ka37
  have ma38 : a38 ∈ q_L (q_sR (S36) a37 ((3 : Int32)).toNatClampNeg (some a38)) := q_LsR ma38
  have ka38 : q_K (q_sR (S36) a37 ((3 : Int32)).toNatClampNeg (some a38)) a38 = 2 := q_KsR ka38
  refine q_iinc X 4 0 (4 : Int32) [(4, .int ((4 : Int32))), (0, va_rf (some o)), (1, va_rf (p0)), (2, va_rf (p1)), (3, va_rf (p2))] rfl (by decide) (by decide) (by first | rfl | simp [List.filter, q_catR]) dX5_init_103 ?_
  refine q_goto X 82 (by decide) dX5_init_106 ?_
  refine q_iload X 0 rfl dX5_init_82 ?_
  refine q_iconst X (5) (by decide) dX5_init_84 ?_
  refine q_icmp_gt X 109 (by decide) dX5_init_85 (fun g => absurd g (by decide)) (fun _ => ?_)
  refine q_aload_n X 1 rfl dX5_init_88 ?_
  obtain ⟨a40, ea40, ma40, ka40, h⟩ := h
  refine q_getR X 4 ea40 ma40 ka40 rfl tW_X5 (by decide) (by decide) tF_X5_23 rfl dX5_init_89 ?_
  refine q_iload X 0 rfl dX5_init_92 ?_
  refine q_rnew X tyX1 tyX1_ok rfl (by decide) tW_X1 tL_X5_21 tJ_X1 tN_X1 q_df_X1 (Nat.le_of_ble_eq_true rfl) (Nat.le_of_ble_eq_true rfl) dX5_init_94 (fun q41 fq41 => ?_)
  have h := h q41 fq41
  refine q_dup X (q_catR _) dX5_init_97 ?_
  refine q_aload_n X 2 rfl dX5_init_98 ?_
  refine q_cI X (As := [va_rf (p0)]) rfl (ci_X1_init h) tK_X1_init tM_X5_48 tI_X1_init tN_X1 rfl rfl rfl tD_X1_init ⟨Nat.le_of_ble_eq_true rfl, Nat.le_of_ble_eq_true rfl⟩ rfl rfl (by first | exact Nat.le_of_ble_eq_true rfl | (simp only [List.map, q_catR]; exact Nat.le_of_ble_eq_true rfl)) ⟨Nat.le_of_ble_eq_true rfl, Nat.le_of_ble_eq_true rfl⟩ dX5_init_99 (fun S42 h => ?_)
  obtain ⟨a43, ea43, ma43, ka43, h⟩ := h
  obtain ⟨a44, ea44, ma44, ka44, h⟩ := h
  obtain ⟨g45, h⟩ := h
  refine q_aast103 X ea43 ma43 ka43 (q_inE g45) ea44 ma44 ka44 rfl (by decide) dX5_init_102 ?_
  have ma43 : a43 ∈ q_L (q_sR (S42) a43 ((4 : Int32)).toNatClampNeg (some a44)) := q_LsR ma43
  have ka43 : q_K (q_sR (S42) a43 ((4 : Int32)).toNatClampNeg (some a44)) a43 = 103 := q_KsR ka43
  have ma44 : a44 ∈ q_L (q_sR (S42) a43 ((4 : Int32)).toNatClampNeg (some a44)) := q_LsR ma44
  have ka44 : q_K (q_sR (S42) a43 ((4 : Int32)).toNatClampNeg (some a44)) a44 = 2 := q_KsR ka44
  refine q_iinc X 4 0 (5 : Int32) [(4, .int ((5 : Int32))), (0, va_rf (some o)), (1, va_rf (p0)), (2, va_rf (p1)), (3, va_rf (p2))] rfl (by decide) (by decide) (by first | rfl | simp [List.filter, q_catR]) dX5_init_103 ?_
  refine q_goto X 82 (by decide) dX5_init_106 ?_
  refine q_iload X 0 rfl dX5_init_82 ?_
  refine q_iconst X (5) (by decide) dX5_init_84 ?_
  refine q_icmp_gt X 109 (by decide) dX5_init_85 (fun g => absurd g (by decide)) (fun _ => ?_)
  refine q_aload_n X 1 rfl dX5_init_88 ?_
  obtain ⟨a46, ea46, ma46, ka46, h⟩ := h
  refine q_getR X 4 ea46 ma46 ka46 rfl tW_X5 (by decide) (by decide) tF_X5_23 rfl dX5_init_89 ?_
  refine q_iload X 0 rfl dX5_init_92 ?_
  refine q_rnew X tyX1 tyX1_ok rfl (by decide) tW_X1 tL_X5_21 tJ_X1 tN_X1 q_df_X1 (Nat.le_of_ble_eq_true rfl) (Nat.le_of_ble_eq_true rfl) dX5_init_94 (fun q47 fq47 => ?_)
  have h := h q47 fq47
  refine q_dup X (q_catR _) dX5_init_97 ?_
  refine q_aload_n X 2 rfl dX5_init_98 ?_
  refine q_cI X (As := [va_rf (p0)]) rfl (ci_X1_init h) tK_X1_init tM_X5_48 tI_X1_init tN_X1 rfl rfl rfl tD_X1_init ⟨Nat.le_of_ble_eq_true rfl, Nat.le_of_ble_eq_true rfl⟩ rfl rfl (by first | exact Nat.le_of_ble_eq_true rfl | (simp only [List.map, q_catR]; exact Nat.le_of_ble_eq_true rfl)) ⟨Nat.le_of_ble_eq_true rfl, Nat.le_of_ble_eq_true rfl⟩ dX5_init_99 (fun S48 h => ?_)
  obtain ⟨a49, ea49, ma49, ka49, h⟩ := h
  obtain ⟨a50, ea50, ma50, ka50, h⟩ := h
  obtain ⟨g51, h⟩ := h
  refine q_aast103 X ea49 ma49 ka49 (q_inE g51) ea50 ma50 ka50 rfl (by decide) dX5_init_102 ?_
  have ma49 : a49 ∈ q_L (q_sR (S48) a49 ((5 : Int32)).toNatClampNeg (some a50)) := q_LsR ma49
  have ka49 : q_K (q_sR (S48) a49 ((5 : Int32)).toNatClampNeg (some a50)) a49 = 103 := q_KsR ka49
  have ma50 : a50 ∈ q_L (q_sR (S48) a49 ((5 : Int32)).toNatClampNeg (some a50)) := q_LsR ma50
  have ka50 : q_K (q_sR (S48) a49 ((5 : Int32)).toNatClampNeg (some a50)) a50 = 2 := q_KsR ka50
  refine q_iinc X 4 0 (6 : Int32) [(4, .int ((6 : Int32))), (0, va_rf (some o)), (1, va_rf (p0)), (2, va_rf (p1)), (3, va_rf (p2))] rfl (by decide) (by decide) (by first | rfl | simp [List.filter, q_catR]) dX5_init_103 ?_
  refine q_goto X 82 (by decide) dX5_init_106 ?_
  refine q_iload X 0 rfl dX5_init_82 ?_
  refine q_iconst X (5) (by decide) dX5_init_84 ?_
  refine q_icmp_gt X 109 (by decide) dX5_init_85 (fun _ => ?_) (fun g => absurd (by decide) g)
  exact q_vretC X hr hl h (Nat.le_of_ble_eq_true rfl) (Nat.le_of_ble_eq_true rfl) dX5_init_109
theorem tD_X5_init : yX5_init.cls ≠ "java/lang/invoke/MethodHandle" ∧ yX5_init.cls ≠ "java/lang/invoke/VarHandle" ∧ (parseMethodDescriptor yX5_init.desc).map (fun d => d.parameters.length) = some 3 := by decide +kernel
theorem ci_X5_init {l : Launch} {D : va_G} {cy : Nat → ClassId} {S : q_S} {o : Nat} {p0 : Option Nat} {p1 : Option Nat} {p2 : Option Nat} {Post : q_S → Prop} (h : i_X5_init S o p0 p1 p2 Post) : q_MC l yX5_init (q_ws yX5_init cX5_init 5 none) ({ frames := 2, cells := 21, slots := 3474, locals := 41 } : Room) D cy [.ref o, va_rf (p0), va_rf (p1), va_rf (p2)] S Post 21 3474 := by
  cases p0 <;> cases p1 <;> cases p2 <;> exact q_MC_of (by decide +kernel) (Nat.le_of_ble_eq_true rfl) (fun p e s m args below meth c A X hr hl hin => wi_X5_init X hr hl hin h)
def i_X2_init (S : q_S) (o : Nat)  (Post : q_S → Prop) : Prop := ∀ q1 : Nat, q1 ∉ q_L (S) → (q_aP (q_nw (S) q1 100 960) (some o) 3 (fun a2 => Post (q_sR (q_nw (S) q1 100 960) a2 0 (some q1))))
set_option maxHeartbeats 4000000 in
set_option maxRecDepth 100000 in
theorem wi_X2_init (X : q_X p s m args c cX2_init 1 RX2 q_T D cy A) (hr : meth.sig.returnType = none) (hl : meth.locks = false) (hin : meth.name = "<init>") {S : q_S} {o : Nat}  {Post : q_S → Prop} (h : i_X2_init S o Post) : q_W p l e ({ frames := 1, cells := 1, slots := 960, locals := 20 } : Room) s m args below meth c (MQ below (va_Qv Post (q_B D cy A) A) args s 1 960 A) A D cy 1 0 0 S 0 [(0, va_rf (some o))] [] := by
  unfold i_X2_init at h
  refine q_aload_n X 0 rfl dX2_init_0 ?_
  refine q_objI X rfl tO_X2_3 tO_i tO_c (Nat.le_of_ble_eq_true rfl) (Nat.le_of_ble_eq_true rfl) dX2_init_1 ?_
  refine q_aload_n X 0 rfl dX2_init_4 ?_
  refine q_sipush X (960) (by decide) dX2_init_5 ?_
  refine q_rnewa100 X 960 tA_int (by decide) (by decide) (Nat.le_of_ble_eq_true rfl) (Nat.le_of_ble_eq_true rfl) (Nat.le_of_ble_eq_true rfl) dX2_init_8 (fun q1 fq1 => ?_)
  have h := h q1 fq1
  obtain ⟨a2, ea2, ma2, ka2, h⟩ := h
  refine q_putF X 0 ea2 ma2 ka2 rfl tW_X2 (by decide) (by decide) tF_X2_9 tyX2 tyX2_ok nmX2 rfl hin rfl (tyX2_ok 0 (by decide)) (q_nRa _ _) (q_fRa _ _) rfl dX2_init_10 ?_
  have ma2 : a2 ∈ q_L (q_sR (q_nw (S) q1 100 960) a2 0 (some q1)) := q_LsR ma2
  have ka2 : q_K (q_sR (q_nw (S) q1 100 960) a2 0 (some q1)) a2 = 3 := q_KsR ka2
  exact q_vretC X hr hl h (Nat.le_of_ble_eq_true rfl) (Nat.le_of_ble_eq_true rfl) dX2_init_13
theorem tD_X2_init : yX2_init.cls ≠ "java/lang/invoke/MethodHandle" ∧ yX2_init.cls ≠ "java/lang/invoke/VarHandle" ∧ (parseMethodDescriptor yX2_init.desc).map (fun d => d.parameters.length) = some 0 := by decide +kernel
theorem ci_X2_init {l : Launch} {D : va_G} {cy : Nat → ClassId} {S : q_S} {o : Nat}  {Post : q_S → Prop} (h : i_X2_init S o Post) : q_MC l yX2_init (q_ws yX2_init cX2_init 1 none) ({ frames := 1, cells := 1, slots := 960, locals := 20 } : Room) D cy [.ref o] S Post 1 960 := by
  exact q_MC_of (by decide +kernel) (Nat.le_of_ble_eq_true rfl) (fun p e s m args below meth c A X hr hl hin => wi_X2_init X hr hl hin h)
def i_X10_init (S : q_S) (o : Nat) (p0 : Option Nat) (p1 : Option Nat) (p2 : Option Nat) (Post : q_S → Prop) : Prop := ∀ q1 : Nat, q1 ∉ q_L (S) → (∀ q2 : Nat, q2 ∉ q_L (q_nw (S) q1 5 0) → (i_X4_init (q_nw (q_nw (S) q1 5 0) q2 100 2400) (q1) (some q2) (fun S3 => q_aP (S3) (some o) 11 (fun a4 => ∀ q5 : Nat, q5 ∉ q_L (q_sR (S3) a4 3 (some q1)) → (q_aP (q_nw (q_sR (S3) a4 3 (some q1)) q5 100 24) (some o) 11 (fun a6 => ∀ q7 : Nat, q7 ∉ q_L (q_sR (q_nw (q_sR (S3) a4 3 (some q1)) q5 100 24) a6 5 (some q5)) → (q_aP (q_nw (q_sR (q_nw (q_sR (S3) a4 3 (some q1)) q5 100 24) a6 5 (some q5)) q7 100 200) (some o) 11 (fun a8 => ∀ q9 : Nat, q9 ∉ q_L (q_sR (q_nw (q_sR (q_nw (q_sR (S3) a4 3 (some q1)) q5 100 24) a6 5 (some q5)) q7 100 200) a8 6 (some q7)) → (q_aP (q_nw (q_sR (q_nw (q_sR (q_nw (q_sR (S3) a4 3 (some q1)) q5 100 24) a6 5 (some q5)) q7 100 200) a8 6 (some q7)) q9 100 201) (some o) 11 (fun a10 => ∀ q11 : Nat, q11 ∉ q_L (q_sR (q_sR (q_sR (q_sR (q_nw (q_sR (q_nw (q_sR (q_nw (q_sR (S3) a4 3 (some q1)) q5 100 24) a6 5 (some q5)) q7 100 200) a8 6 (some q7)) q9 100 201) a10 7 (some q9)) a10 0 (p0)) a10 1 (p1)) a10 2 (p2)) → (q_aP (q_nw (q_sR (q_sR (q_sR (q_sR (q_nw (q_sR (q_nw (q_sR (q_nw (q_sR (S3) a4 3 (some q1)) q5 100 24) a6 5 (some q5)) q7 100 200) a8 6 (some q7)) q9 100 201) a10 7 (some q9)) a10 0 (p0)) a10 1 (p1)) a10 2 (p2)) q11 8 0) (some o) 11 (fun a12 => i_X7_init (q_nw (q_sR (q_sR (q_sR (q_sR (q_nw (q_sR (q_nw (q_sR (q_nw (q_sR (S3) a4 3 (some q1)) q5 100 24) a6 5 (some q5)) q7 100 200) a8 6 (some q7)) q9 100 201) a10 7 (some q9)) a10 0 (p0)) a10 1 (p1)) a10 2 (p2)) q11 8 0) (q11) (q_R (q_nw (q_sR (q_sR (q_sR (q_sR (q_nw (q_sR (q_nw (q_sR (q_nw (q_sR (S3) a4 3 (some q1)) q5 100 24) a6 5 (some q5)) q7 100 200) a8 6 (some q7)) q9 100 201) a10 7 (some q9)) a10 0 (p0)) a10 1 (p1)) a10 2 (p2)) q11 8 0) a12 3) (fun S13 => q_aP (S13) (some o) 11 (fun a14 => Post (q_sR (S13) a14 4 (some q11))))))))))))))))
set_option maxHeartbeats 4000000 in
set_option maxRecDepth 100000 in
theorem wi_X10_init (X : q_X p s m args c cX10_init 4 RX10 q_T D cy A) (hr : meth.sig.returnType = none) (hl : meth.locks = false) (hin : meth.name = "<init>") {S : q_S} {o : Nat} {p0 : Option Nat} {p1 : Option Nat} {p2 : Option Nat} {Post : q_S → Prop} (h : i_X10_init S o p0 p1 p2 Post) : q_W p l e ({ frames := 2, cells := 6, slots := 2832, locals := 41 } : Room) s m args below meth c (MQ below (va_Qv Post (q_B D cy A) A) args s 6 2832 A) A D cy 4 0 0 S 0 [(0, va_rf (some o)), (1, va_rf (p0)), (2, va_rf (p1)), (3, va_rf (p2))] [] := by
  unfold i_X10_init at h
  refine q_aload_n X 0 rfl dX10_init_0 ?_
  refine q_objI X rfl tO_X10_3 tO_i tO_c (Nat.le_of_ble_eq_true rfl) (Nat.le_of_ble_eq_true rfl) dX10_init_1 ?_
  refine q_aload_n X 0 rfl dX10_init_4 ?_
  refine q_rnew X tyX4 tyX4_ok rfl (by decide) tW_X4 tL_X10_9 tJ_X4 tN_X4 q_df_X4 (Nat.le_of_ble_eq_true rfl) (Nat.le_of_ble_eq_true rfl) dX10_init_5 (fun q1 fq1 => ?_)
  have h := h q1 fq1
  refine q_dup X (q_catR _) dX10_init_8 ?_
  refine q_sipush X (2400) (by decide) dX10_init_9 ?_
  refine q_rnewa100 X 2400 tA_int (by decide) (by decide) (Nat.le_of_ble_eq_true rfl) (Nat.le_of_ble_eq_true rfl) (Nat.le_of_ble_eq_true rfl) dX10_init_12 (fun q2 fq2 => ?_)
  have h := h q2 fq2
  refine q_cI X (As := [va_rf (some q2)]) rfl (ci_X4_init h) tK_X4_init tM_X10_11 tI_X4_init tN_X4 rfl rfl rfl tD_X4_init ⟨Nat.le_of_ble_eq_true rfl, Nat.le_of_ble_eq_true rfl⟩ rfl rfl (by first | exact Nat.le_of_ble_eq_true rfl | (simp only [List.map, q_catR]; exact Nat.le_of_ble_eq_true rfl)) ⟨Nat.le_of_ble_eq_true rfl, Nat.le_of_ble_eq_true rfl⟩ dX10_init_14 (fun S3 h => ?_)
  obtain ⟨a4, ea4, ma4, ka4, h⟩ := h
  refine q_putF X 3 ea4 ma4 ka4 rfl tW_X10 (by decide) (by decide) tF_X10_14 tyX10 tyX10_ok nmX10 rfl hin rfl (tyX10_ok 3 (by decide)) (q_nR _ _) (q_fR _ _) rfl dX10_init_17 ?_
  have ma4 : a4 ∈ q_L (q_sR (S3) a4 3 (some q1)) := q_LsR ma4
  have ka4 : q_K (q_sR (S3) a4 3 (some q1)) a4 = 11 := q_KsR ka4
  refine q_aload_n X 0 rfl dX10_init_20 ?_
  refine q_bipush X (24) (by decide) dX10_init_21 ?_
  refine q_rnewa100 X 24 tA_int (by decide) (by decide) (Nat.le_of_ble_eq_true rfl) (Nat.le_of_ble_eq_true rfl) (Nat.le_of_ble_eq_true rfl) dX10_init_23 (fun q5 fq5 => ?_)
  have h := h q5 fq5
  obtain ⟨a6, ea6, ma6, ka6, h⟩ := h
  refine q_putF X 5 ea6 ma6 ka6 rfl tW_X10 (by decide) (by decide) tF_X10_20 tyX10 tyX10_ok nmX10 rfl hin rfl (tyX10_ok 5 (by decide)) (q_nRa _ _) (q_fRa _ _) rfl dX10_init_25 ?_
  have ma6 : a6 ∈ q_L (q_sR (q_nw (q_sR (S3) a4 3 (some q1)) q5 100 24) a6 5 (some q5)) := q_LsR ma6
  have ka6 : q_K (q_sR (q_nw (q_sR (S3) a4 3 (some q1)) q5 100 24) a6 5 (some q5)) a6 = 11 := q_KsR ka6
  refine q_aload_n X 0 rfl dX10_init_28 ?_
  refine q_sipush X (200) (by decide) dX10_init_29 ?_
  refine q_rnewa100 X 200 tA_int (by decide) (by decide) (Nat.le_of_ble_eq_true rfl) (Nat.le_of_ble_eq_true rfl) (Nat.le_of_ble_eq_true rfl) dX10_init_32 (fun q7 fq7 => ?_)
  have h := h q7 fq7
  obtain ⟨a8, ea8, ma8, ka8, h⟩ := h
  refine q_putF X 6 ea8 ma8 ka8 rfl tW_X10 (by decide) (by decide) tF_X10_24 tyX10 tyX10_ok nmX10 rfl hin rfl (tyX10_ok 6 (by decide)) (q_nRa _ _) (q_fRa _ _) rfl dX10_init_34 ?_
  have ma8 : a8 ∈ q_L (q_sR (q_nw (q_sR (q_nw (q_sR (S3) a4 3 (some q1)) q5 100 24) a6 5 (some q5)) q7 100 200) a8 6 (some q7)) := q_LsR ma8
  have ka8 : q_K (q_sR (q_nw (q_sR (q_nw (q_sR (S3) a4 3 (some q1)) q5 100 24) a6 5 (some q5)) q7 100 200) a8 6 (some q7)) a8 = 11 := q_KsR ka8
  refine q_aload_n X 0 rfl dX10_init_37 ?_
  refine q_sipush X (201) (by decide) dX10_init_38 ?_
  refine q_rnewa100 X 201 tA_int (by decide) (by decide) (Nat.le_of_ble_eq_true rfl) (Nat.le_of_ble_eq_true rfl) (Nat.le_of_ble_eq_true rfl) dX10_init_41 (fun q9 fq9 => ?_)
  have h := h q9 fq9
  obtain ⟨a10, ea10, ma10, ka10, h⟩ := h
  refine q_putF X 7 ea10 ma10 ka10 rfl tW_X10 (by decide) (by decide) tF_X10_27 tyX10 tyX10_ok nmX10 rfl hin rfl (tyX10_ok 7 (by decide)) (q_nRa _ _) (q_fRa _ _) rfl dX10_init_43 ?_
  have ma10 : a10 ∈ q_L (q_sR (q_nw (q_sR (q_nw (q_sR (q_nw (q_sR (S3) a4 3 (some q1)) q5 100 24) a6 5 (some q5)) q7 100 200) a8 6 (some q7)) q9 100 201) a10 7 (some q9)) := q_LsR ma10
  have ka10 : q_K (q_sR (q_nw (q_sR (q_nw (q_sR (q_nw (q_sR (S3) a4 3 (some q1)) q5 100 24) a6 5 (some q5)) q7 100 200) a8 6 (some q7)) q9 100 201) a10 7 (some q9)) a10 = 11 := q_KsR ka10
  refine q_aload_n X 0 rfl dX10_init_46 ?_
  refine q_aload_n X 1 rfl dX10_init_47 ?_
  refine q_putF X 0 ea10 ma10 ka10 rfl tW_X10 (by decide) (by decide) tF_X10_30 tyX10 tyX10_ok nmX10 rfl hin rfl (tyX10_ok 0 (by decide)) (q_nR _ _) (q_fR _ _) rfl dX10_init_48 ?_
  have ma10 : a10 ∈ q_L (q_sR (q_sR (q_nw (q_sR (q_nw (q_sR (q_nw (q_sR (S3) a4 3 (some q1)) q5 100 24) a6 5 (some q5)) q7 100 200) a8 6 (some q7)) q9 100 201) a10 7 (some q9)) a10 0 (p0)) := q_LsR ma10
  have ka10 : q_K (q_sR (q_sR (q_nw (q_sR (q_nw (q_sR (q_nw (q_sR (S3) a4 3 (some q1)) q5 100 24) a6 5 (some q5)) q7 100 200) a8 6 (some q7)) q9 100 201) a10 7 (some q9)) a10 0 (p0)) a10 = 11 := q_KsR ka10
  refine q_aload_n X 0 rfl dX10_init_51 ?_
  refine q_aload_n X 2 rfl dX10_init_52 ?_
  refine q_putF X 1 ea10 ma10 ka10 rfl tW_X10 (by decide) (by decide) tF_X10_33 tyX10 tyX10_ok nmX10 rfl hin rfl (tyX10_ok 1 (by decide)) (q_nR _ _) (q_fR _ _) rfl dX10_init_53 ?_
  have ma10 : a10 ∈ q_L (q_sR (q_sR (q_sR (q_nw (q_sR (q_nw (q_sR (q_nw (q_sR (S3) a4 3 (some q1)) q5 100 24) a6 5 (some q5)) q7 100 200) a8 6 (some q7)) q9 100 201) a10 7 (some q9)) a10 0 (p0)) a10 1 (p1)) := q_LsR ma10
  have ka10 : q_K (q_sR (q_sR (q_sR (q_nw (q_sR (q_nw (q_sR (q_nw (q_sR (S3) a4 3 (some q1)) q5 100 24) a6 5 (some q5)) q7 100 200) a8 6 (some q7)) q9 100 201) a10 7 (some q9)) a10 0 (p0)) a10 1 (p1)) a10 = 11 := q_KsR ka10
  refine q_aload_n X 0 rfl dX10_init_56 ?_
  refine q_aload_n X 3 rfl dX10_init_57 ?_
  refine q_putF X 2 ea10 ma10 ka10 rfl tW_X10 (by decide) (by decide) tF_X10_37 tyX10 tyX10_ok nmX10 rfl hin rfl (tyX10_ok 2 (by decide)) (q_nR _ _) (q_fR _ _) rfl dX10_init_58 ?_
  have ma10 : a10 ∈ q_L (q_sR (q_sR (q_sR (q_sR (q_nw (q_sR (q_nw (q_sR (q_nw (q_sR (S3) a4 3 (some q1)) q5 100 24) a6 5 (some q5)) q7 100 200) a8 6 (some q7)) q9 100 201) a10 7 (some q9)) a10 0 (p0)) a10 1 (p1)) a10 2 (p2)) := q_LsR ma10
  have ka10 : q_K (q_sR (q_sR (q_sR (q_sR (q_nw (q_sR (q_nw (q_sR (q_nw (q_sR (S3) a4 3 (some q1)) q5 100 24) a6 5 (some q5)) q7 100 200) a8 6 (some q7)) q9 100 201) a10 7 (some q9)) a10 0 (p0)) a10 1 (p1)) a10 2 (p2)) a10 = 11 := q_KsR ka10
  refine q_aload_n X 0 rfl dX10_init_61 ?_
  refine q_rnew X tyX7 tyX7_ok rfl (by decide) tW_X7 tL_X10_41 tJ_X7 tN_X7 q_df_X7 (Nat.le_of_ble_eq_true rfl) (Nat.le_of_ble_eq_true rfl) dX10_init_62 (fun q11 fq11 => ?_)
  have h := h q11 fq11
  refine q_dup X (q_catR _) dX10_init_65 ?_
  refine q_aload_n X 0 rfl dX10_init_66 ?_
  obtain ⟨a12, ea12, ma12, ka12, h⟩ := h
  refine q_getR X 3 ea12 ma12 ka12 rfl tW_X10 (by decide) (by decide) tF_X10_14 rfl dX10_init_67 ?_
  refine q_cI X (As := [va_rf (q_R (q_nw (q_sR (q_sR (q_sR (q_sR (q_nw (q_sR (q_nw (q_sR (q_nw (q_sR (S3) a4 3 (some q1)) q5 100 24) a6 5 (some q5)) q7 100 200) a8 6 (some q7)) q9 100 201) a10 7 (some q9)) a10 0 (p0)) a10 1 (p1)) a10 2 (p2)) q11 8 0) a12 3)]) rfl (ci_X7_init h) tK_X7_init tM_X10_43 tI_X7_init tN_X7 rfl rfl rfl tD_X7_init ⟨Nat.le_of_ble_eq_true rfl, Nat.le_of_ble_eq_true rfl⟩ rfl rfl (by first | exact Nat.le_of_ble_eq_true rfl | (simp only [List.map, q_catR]; exact Nat.le_of_ble_eq_true rfl)) ⟨Nat.le_of_ble_eq_true rfl, Nat.le_of_ble_eq_true rfl⟩ dX10_init_70 (fun S13 h => ?_)
  obtain ⟨a14, ea14, ma14, ka14, h⟩ := h
  refine q_putF X 4 ea14 ma14 ka14 rfl tW_X10 (by decide) (by decide) tF_X10_46 tyX10 tyX10_ok nmX10 rfl hin rfl (tyX10_ok 4 (by decide)) (q_nR _ _) (q_fR _ _) rfl dX10_init_73 ?_
  have ma14 : a14 ∈ q_L (q_sR (S13) a14 4 (some q11)) := q_LsR ma14
  have ka14 : q_K (q_sR (S13) a14 4 (some q11)) a14 = 11 := q_KsR ka14
  exact q_vretC X hr hl h (Nat.le_of_ble_eq_true rfl) (Nat.le_of_ble_eq_true rfl) dX10_init_76
theorem tD_X10_init : yX10_init.cls ≠ "java/lang/invoke/MethodHandle" ∧ yX10_init.cls ≠ "java/lang/invoke/VarHandle" ∧ (parseMethodDescriptor yX10_init.desc).map (fun d => d.parameters.length) = some 3 := by decide +kernel
theorem ci_X10_init {l : Launch} {D : va_G} {cy : Nat → ClassId} {S : q_S} {o : Nat} {p0 : Option Nat} {p1 : Option Nat} {p2 : Option Nat} {Post : q_S → Prop} (h : i_X10_init S o p0 p1 p2 Post) : q_MC l yX10_init (q_ws yX10_init cX10_init 4 none) ({ frames := 2, cells := 6, slots := 2832, locals := 41 } : Room) D cy [.ref o, va_rf (p0), va_rf (p1), va_rf (p2)] S Post 6 2832 := by
  cases p0 <;> cases p1 <;> cases p2 <;> exact q_MC_of (by decide +kernel) (Nat.le_of_ble_eq_true rfl) (fun p e s m args below meth c A X hr hl hin => wi_X10_init X hr hl hin h)
def i_X11_init (S : q_S) (o : Nat)  (Post : q_S → Prop) : Prop := ∀ q1 : Nat, q1 ∉ q_L (S) → (∀ q2 : Nat, q2 ∉ q_L (q_nw (S) q1 5 0) → (i_X4_init (q_nw (q_nw (S) q1 5 0) q2 100 1600) (q1) (some q2) (fun S3 => q_aP (S3) (some o) 12 (fun a4 => ∀ q5 : Nat, q5 ∉ q_L (q_sR (S3) a4 0 (some q1)) → (i_X9_init (q_nw (q_sR (S3) a4 0 (some q1)) q5 10 0) (q5) (fun S6 => q_aP (S6) (some o) 12 (fun a7 => ∀ q8 : Nat, q8 ∉ q_L (q_sR (S6) a7 1 (some q5)) → (q_aP (q_nw (q_sR (S6) a7 1 (some q5)) q8 9 0) (some o) 12 (fun a9 => i_X8_init (q_nw (q_sR (S6) a7 1 (some q5)) q8 9 0) (q8) (q_R (q_nw (q_sR (S6) a7 1 (some q5)) q8 9 0) a9 0) (fun S10 => q_aP (S10) (some o) 12 (fun a11 => ∀ q12 : Nat, q12 ∉ q_L (q_sR (S10) a11 2 (some q8)) → (q_aP (q_nw (q_sR (S10) a11 2 (some q8)) q12 7 0) (some o) 12 (fun a13 => i_X6_init (q_nw (q_sR (S10) a11 2 (some q8)) q12 7 0) (q12) (q_R (q_nw (q_sR (S10) a11 2 (some q8)) q12 7 0) a13 0) (q_R (q_nw (q_sR (S10) a11 2 (some q8)) q12 7 0) a13 2) (fun S14 => q_aP (S14) (some o) 12 (fun a15 => ∀ q16 : Nat, q16 ∉ q_L (q_sR (S14) a15 3 (some q12)) → (q_aP (q_nw (q_sR (S14) a15 3 (some q12)) q16 1 0) (some o) 12 (fun a17 => i_X0_init (q_nw (q_sR (S14) a15 3 (some q12)) q16 1 0) (q16) (q_R (q_nw (q_sR (S14) a15 3 (some q12)) q16 1 0) a17 2) (fun S18 => q_aP (S18) (some o) 12 (fun a19 => ∀ q20 : Nat, q20 ∉ q_L (q_sR (S18) a19 4 (some q16)) → (q_aP (q_nw (q_sR (S18) a19 4 (some q16)) q20 6 0) (some o) 12 (fun a21 => i_X5_init (q_nw (q_sR (S18) a19 4 (some q16)) q20 6 0) (q20) (q_R (q_nw (q_sR (S18) a19 4 (some q16)) q20 6 0) a21 0) (q_R (q_nw (q_sR (S18) a19 4 (some q16)) q20 6 0) a21 3) (q_R (q_nw (q_sR (S18) a19 4 (some q16)) q20 6 0) a21 1) (fun S22 => q_aP (S22) (some o) 12 (fun a23 => ∀ q24 : Nat, q24 ∉ q_L (q_sR (S22) a23 5 (some q20)) → (i_X2_init (q_nw (q_sR (S22) a23 5 (some q20)) q24 3 0) (q24) (fun S25 => q_aP (S25) (some o) 12 (fun a26 => ∀ q27 : Nat, q27 ∉ q_L (q_sR (S25) a26 6 (some q24)) → (q_aP (q_nw (q_sR (S25) a26 6 (some q24)) q27 11 0) (some o) 12 (fun a28 => i_X10_init (q_nw (q_sR (S25) a26 6 (some q24)) q27 11 0) (q27) (q_R (q_nw (q_sR (S25) a26 6 (some q24)) q27 11 0) a28 0) (q_R (q_nw (q_sR (S25) a26 6 (some q24)) q27 11 0) a28 2) (q_R (q_nw (q_sR (S25) a26 6 (some q24)) q27 11 0) a28 3) (fun S29 => q_aP (S29) (some o) 12 (fun a30 => Post (q_sR (S29) a30 7 (some q27))))))))))))))))))))))))))))))))
set_option maxHeartbeats 4000000 in
set_option maxRecDepth 100000 in
theorem wi_X11_init (X : q_X p s m args c cX11_init 1 RX11 q_T D cy A) (hr : meth.sig.returnType = none) (hl : meth.locks = false) (hin : meth.name = "<init>") {S : q_S} {o : Nat}  {Post : q_S → Prop} (h : i_X11_init S o Post) : q_W p l e ({ frames := 3, cells := 68, slots := 9674, locals := 65 } : Room) s m args below meth c (MQ below (va_Qv Post (q_B D cy A) A) args s 68 9674 A) A D cy 1 0 0 S 0 [(0, va_rf (some o))] [] := by
  unfold i_X11_init at h
  refine q_aload_n X 0 rfl dX11_init_0 ?_
  refine q_objI X rfl tO_X11_1 tO_i tO_c (Nat.le_of_ble_eq_true rfl) (Nat.le_of_ble_eq_true rfl) dX11_init_1 ?_
  refine q_aload_n X 0 rfl dX11_init_4 ?_
  refine q_rnew X tyX4 tyX4_ok rfl (by decide) tW_X4 tL_X11_7 tJ_X4 tN_X4 q_df_X4 (Nat.le_of_ble_eq_true rfl) (Nat.le_of_ble_eq_true rfl) dX11_init_5 (fun q1 fq1 => ?_)
  have h := h q1 fq1
  refine q_dup X (q_catR _) dX11_init_8 ?_
  refine q_sipush X (1600) (by decide) dX11_init_9 ?_
  refine q_rnewa100 X 1600 tA_int (by decide) (by decide) (Nat.le_of_ble_eq_true rfl) (Nat.le_of_ble_eq_true rfl) (Nat.le_of_ble_eq_true rfl) dX11_init_12 (fun q2 fq2 => ?_)
  have h := h q2 fq2
  refine q_cI X (As := [va_rf (some q2)]) rfl (ci_X4_init h) tK_X4_init tM_X11_11 tI_X4_init tN_X4 rfl rfl rfl tD_X4_init ⟨Nat.le_of_ble_eq_true rfl, Nat.le_of_ble_eq_true rfl⟩ rfl rfl (by first | exact Nat.le_of_ble_eq_true rfl | (simp only [List.map, q_catR]; exact Nat.le_of_ble_eq_true rfl)) ⟨Nat.le_of_ble_eq_true rfl, Nat.le_of_ble_eq_true rfl⟩ dX11_init_14 (fun S3 h => ?_)
  obtain ⟨a4, ea4, ma4, ka4, h⟩ := h
  refine q_putF X 0 ea4 ma4 ka4 rfl tW_X11 (by decide) (by decide) tF_X11_14 tyX11 tyX11_ok nmX11 rfl hin rfl (tyX11_ok 0 (by decide)) (q_nR _ _) (q_fR _ _) rfl dX11_init_17 ?_
  have ma4 : a4 ∈ q_L (q_sR (S3) a4 0 (some q1)) := q_LsR ma4
  have ka4 : q_K (q_sR (S3) a4 0 (some q1)) a4 = 12 := q_KsR ka4
  refine q_aload_n X 0 rfl dX11_init_20 ?_
  refine q_rnew X tyX9 tyX9_ok rfl (by decide) tW_X9 tL_X11_18 tJ_X9 tN_X9 q_df_X9 (Nat.le_of_ble_eq_true rfl) (Nat.le_of_ble_eq_true rfl) dX11_init_21 (fun q5 fq5 => ?_)
  have h := h q5 fq5
  refine q_dup X (q_catR _) dX11_init_24 ?_
  refine q_cIN X (As := []) rfl (ci_X9_init h) tK_X9_init tM_X11_20 tI_X9_init tN_X9 rfl rfl rfl tD_X9_init ⟨Nat.le_of_ble_eq_true rfl, Nat.le_of_ble_eq_true rfl⟩ rfl rfl (by first | exact Nat.le_of_ble_eq_true rfl | (simp only [List.map, q_catR]; exact Nat.le_of_ble_eq_true rfl)) ⟨Nat.le_of_ble_eq_true rfl, Nat.le_of_ble_eq_true rfl⟩ dX11_init_25 (fun S6 h => ?_)
  obtain ⟨a7, ea7, ma7, ka7, h⟩ := h
  refine q_putF X 1 ea7 ma7 ka7 rfl tW_X11 (by decide) (by decide) tF_X11_21 tyX11 tyX11_ok nmX11 rfl hin rfl (tyX11_ok 1 (by decide)) (q_nR _ _) (q_fR _ _) rfl dX11_init_28 ?_
  have ma7 : a7 ∈ q_L (q_sR (S6) a7 1 (some q5)) := q_LsR ma7
  have ka7 : q_K (q_sR (S6) a7 1 (some q5)) a7 = 12 := q_KsR ka7
  refine q_aload_n X 0 rfl dX11_init_31 ?_
  refine q_rnew X tyX8 tyX8_ok rfl (by decide) tW_X8 tL_X11_25 tJ_X8 tN_X8 q_df_X8 (Nat.le_of_ble_eq_true rfl) (Nat.le_of_ble_eq_true rfl) dX11_init_32 (fun q8 fq8 => ?_)
  have h := h q8 fq8
  refine q_dup X (q_catR _) dX11_init_35 ?_
  refine q_aload_n X 0 rfl dX11_init_36 ?_
  obtain ⟨a9, ea9, ma9, ka9, h⟩ := h
  refine q_getR X 0 ea9 ma9 ka9 rfl tW_X11 (by decide) (by decide) tF_X11_14 rfl dX11_init_37 ?_
  refine q_cI X (As := [va_rf (q_R (q_nw (q_sR (S6) a7 1 (some q5)) q8 9 0) a9 0)]) rfl (ci_X8_init h) tK_X8_init tM_X11_27 tI_X8_init tN_X8 rfl rfl rfl tD_X8_init ⟨Nat.le_of_ble_eq_true rfl, Nat.le_of_ble_eq_true rfl⟩ rfl rfl (by first | exact Nat.le_of_ble_eq_true rfl | (simp only [List.map, q_catR]; exact Nat.le_of_ble_eq_true rfl)) ⟨Nat.le_of_ble_eq_true rfl, Nat.le_of_ble_eq_true rfl⟩ dX11_init_40 (fun S10 h => ?_)
  obtain ⟨a11, ea11, ma11, ka11, h⟩ := h
  refine q_putF X 2 ea11 ma11 ka11 rfl tW_X11 (by decide) (by decide) tF_X11_30 tyX11 tyX11_ok nmX11 rfl hin rfl (tyX11_ok 2 (by decide)) (q_nR _ _) (q_fR _ _) rfl dX11_init_43 ?_
  have ma11 : a11 ∈ q_L (q_sR (S10) a11 2 (some q8)) := q_LsR ma11
  have ka11 : q_K (q_sR (S10) a11 2 (some q8)) a11 = 12 := q_KsR ka11
  refine q_aload_n X 0 rfl dX11_init_46 ?_
  refine q_rnew X tyX6 tyX6_ok rfl (by decide) tW_X6 tL_X11_34 tJ_X6 tN_X6 q_df_X6 (Nat.le_of_ble_eq_true rfl) (Nat.le_of_ble_eq_true rfl) dX11_init_47 (fun q12 fq12 => ?_)
  have h := h q12 fq12
  refine q_dup X (q_catR _) dX11_init_50 ?_
  refine q_aload_n X 0 rfl dX11_init_51 ?_
  obtain ⟨a13, ea13, ma13, ka13, h⟩ := h
  refine q_getR X 0 ea13 ma13 ka13 rfl tW_X11 (by decide) (by decide) tF_X11_14 rfl dX11_init_52 ?_
  refine q_aload_n X 0 rfl dX11_init_55 ?_
  refine q_getR X 2 ea13 ma13 ka13 rfl tW_X11 (by decide) (by decide) tF_X11_30 rfl dX11_init_56 ?_
  refine q_cI X (As := [va_rf (q_R (q_nw (q_sR (S10) a11 2 (some q8)) q12 7 0) a13 0), va_rf (q_R (q_nw (q_sR (S10) a11 2 (some q8)) q12 7 0) a13 2)]) rfl (ci_X6_init h) tK_X6_init tM_X11_36 tI_X6_init tN_X6 rfl rfl rfl tD_X6_init ⟨Nat.le_of_ble_eq_true rfl, Nat.le_of_ble_eq_true rfl⟩ rfl rfl (by first | exact Nat.le_of_ble_eq_true rfl | (simp only [List.map, q_catR]; exact Nat.le_of_ble_eq_true rfl)) ⟨Nat.le_of_ble_eq_true rfl, Nat.le_of_ble_eq_true rfl⟩ dX11_init_59 (fun S14 h => ?_)
  obtain ⟨a15, ea15, ma15, ka15, h⟩ := h
  refine q_putF X 3 ea15 ma15 ka15 rfl tW_X11 (by decide) (by decide) tF_X11_39 tyX11 tyX11_ok nmX11 rfl hin rfl (tyX11_ok 3 (by decide)) (q_nR _ _) (q_fR _ _) rfl dX11_init_62 ?_
  have ma15 : a15 ∈ q_L (q_sR (S14) a15 3 (some q12)) := q_LsR ma15
  have ka15 : q_K (q_sR (S14) a15 3 (some q12)) a15 = 12 := q_KsR ka15
  refine q_aload_n X 0 rfl dX11_init_65 ?_
  refine q_rnew X tyX0 tyX0_ok rfl (by decide) tW_X0 tL_X11_43 tJ_X0 tN_X0 q_df_X0 (Nat.le_of_ble_eq_true rfl) (Nat.le_of_ble_eq_true rfl) dX11_init_66 (fun q16 fq16 => ?_)
  have h := h q16 fq16
  refine q_dup X (q_catR _) dX11_init_69 ?_
  refine q_aload_n X 0 rfl dX11_init_70 ?_
  obtain ⟨a17, ea17, ma17, ka17, h⟩ := h
  refine q_getR X 2 ea17 ma17 ka17 rfl tW_X11 (by decide) (by decide) tF_X11_30 rfl dX11_init_71 ?_
  refine q_cI X (As := [va_rf (q_R (q_nw (q_sR (S14) a15 3 (some q12)) q16 1 0) a17 2)]) rfl (ci_X0_init h) tK_X0_init tM_X11_45 tI_X0_init tN_X0 rfl rfl rfl tD_X0_init ⟨Nat.le_of_ble_eq_true rfl, Nat.le_of_ble_eq_true rfl⟩ rfl rfl (by first | exact Nat.le_of_ble_eq_true rfl | (simp only [List.map, q_catR]; exact Nat.le_of_ble_eq_true rfl)) ⟨Nat.le_of_ble_eq_true rfl, Nat.le_of_ble_eq_true rfl⟩ dX11_init_74 (fun S18 h => ?_)
  obtain ⟨a19, ea19, ma19, ka19, h⟩ := h
  refine q_putF X 4 ea19 ma19 ka19 rfl tW_X11 (by decide) (by decide) tF_X11_48 tyX11 tyX11_ok nmX11 rfl hin rfl (tyX11_ok 4 (by decide)) (q_nR _ _) (q_fR _ _) rfl dX11_init_77 ?_
  have ma19 : a19 ∈ q_L (q_sR (S18) a19 4 (some q16)) := q_LsR ma19
  have ka19 : q_K (q_sR (S18) a19 4 (some q16)) a19 = 12 := q_KsR ka19
  refine q_aload_n X 0 rfl dX11_init_80 ?_
  refine q_rnew X tyX5 tyX5_ok rfl (by decide) tW_X5 tL_X11_52 tJ_X5 tN_X5 q_df_X5 (Nat.le_of_ble_eq_true rfl) (Nat.le_of_ble_eq_true rfl) dX11_init_81 (fun q20 fq20 => ?_)
  have h := h q20 fq20
  refine q_dup X (q_catR _) dX11_init_84 ?_
  refine q_aload_n X 0 rfl dX11_init_85 ?_
  obtain ⟨a21, ea21, ma21, ka21, h⟩ := h
  refine q_getR X 0 ea21 ma21 ka21 rfl tW_X11 (by decide) (by decide) tF_X11_14 rfl dX11_init_86 ?_
  refine q_aload_n X 0 rfl dX11_init_89 ?_
  refine q_getR X 3 ea21 ma21 ka21 rfl tW_X11 (by decide) (by decide) tF_X11_39 rfl dX11_init_90 ?_
  refine q_aload_n X 0 rfl dX11_init_93 ?_
  refine q_getR X 1 ea21 ma21 ka21 rfl tW_X11 (by decide) (by decide) tF_X11_21 rfl dX11_init_94 ?_
  refine q_cI X (As := [va_rf (q_R (q_nw (q_sR (S18) a19 4 (some q16)) q20 6 0) a21 0), va_rf (q_R (q_nw (q_sR (S18) a19 4 (some q16)) q20 6 0) a21 3), va_rf (q_R (q_nw (q_sR (S18) a19 4 (some q16)) q20 6 0) a21 1)]) rfl (ci_X5_init h) tK_X5_init tM_X11_54 tI_X5_init tN_X5 rfl rfl rfl tD_X5_init ⟨Nat.le_of_ble_eq_true rfl, Nat.le_of_ble_eq_true rfl⟩ rfl rfl (by first | exact Nat.le_of_ble_eq_true rfl | (simp only [List.map, q_catR]; exact Nat.le_of_ble_eq_true rfl)) ⟨Nat.le_of_ble_eq_true rfl, Nat.le_of_ble_eq_true rfl⟩ dX11_init_97 (fun S22 h => ?_)
  obtain ⟨a23, ea23, ma23, ka23, h⟩ := h
  refine q_putF X 5 ea23 ma23 ka23 rfl tW_X11 (by decide) (by decide) tF_X11_57 tyX11 tyX11_ok nmX11 rfl hin rfl (tyX11_ok 5 (by decide)) (q_nR _ _) (q_fR _ _) rfl dX11_init_100 ?_
  have ma23 : a23 ∈ q_L (q_sR (S22) a23 5 (some q20)) := q_LsR ma23
  have ka23 : q_K (q_sR (S22) a23 5 (some q20)) a23 = 12 := q_KsR ka23
  refine q_aload_n X 0 rfl dX11_init_103 ?_
  refine q_rnew X tyX2 tyX2_ok rfl (by decide) tW_X2 tL_X11_61 tJ_X2 tN_X2 q_df_X2 (Nat.le_of_ble_eq_true rfl) (Nat.le_of_ble_eq_true rfl) dX11_init_104 (fun q24 fq24 => ?_)
  have h := h q24 fq24
  refine q_dup X (q_catR _) dX11_init_107 ?_
  refine q_cIN X (As := []) rfl (ci_X2_init h) tK_X2_init tM_X11_63 tI_X2_init tN_X2 rfl rfl rfl tD_X2_init ⟨Nat.le_of_ble_eq_true rfl, Nat.le_of_ble_eq_true rfl⟩ rfl rfl (by first | exact Nat.le_of_ble_eq_true rfl | (simp only [List.map, q_catR]; exact Nat.le_of_ble_eq_true rfl)) ⟨Nat.le_of_ble_eq_true rfl, Nat.le_of_ble_eq_true rfl⟩ dX11_init_108 (fun S25 h => ?_)
  obtain ⟨a26, ea26, ma26, ka26, h⟩ := h
  refine q_putF X 6 ea26 ma26 ka26 rfl tW_X11 (by decide) (by decide) tF_X11_64 tyX11 tyX11_ok nmX11 rfl hin rfl (tyX11_ok 6 (by decide)) (q_nR _ _) (q_fR _ _) rfl dX11_init_111 ?_
  have ma26 : a26 ∈ q_L (q_sR (S25) a26 6 (some q24)) := q_LsR ma26
  have ka26 : q_K (q_sR (S25) a26 6 (some q24)) a26 = 12 := q_KsR ka26
  refine q_aload_n X 0 rfl dX11_init_114 ?_
  refine q_rnew X tyX10 tyX10_ok rfl (by decide) tW_X10 tL_X11_68 tJ_X10 tN_X10 q_df_X10 (Nat.le_of_ble_eq_true rfl) (Nat.le_of_ble_eq_true rfl) dX11_init_115 (fun q27 fq27 => ?_)
  have h := h q27 fq27
  refine q_dup X (q_catR _) dX11_init_118 ?_
  refine q_aload_n X 0 rfl dX11_init_119 ?_
  obtain ⟨a28, ea28, ma28, ka28, h⟩ := h
  refine q_getR X 0 ea28 ma28 ka28 rfl tW_X11 (by decide) (by decide) tF_X11_14 rfl dX11_init_120 ?_
  refine q_aload_n X 0 rfl dX11_init_123 ?_
  refine q_getR X 2 ea28 ma28 ka28 rfl tW_X11 (by decide) (by decide) tF_X11_30 rfl dX11_init_124 ?_
  refine q_aload_n X 0 rfl dX11_init_127 ?_
  refine q_getR X 3 ea28 ma28 ka28 rfl tW_X11 (by decide) (by decide) tF_X11_39 rfl dX11_init_128 ?_
  refine q_cI X (As := [va_rf (q_R (q_nw (q_sR (S25) a26 6 (some q24)) q27 11 0) a28 0), va_rf (q_R (q_nw (q_sR (S25) a26 6 (some q24)) q27 11 0) a28 2), va_rf (q_R (q_nw (q_sR (S25) a26 6 (some q24)) q27 11 0) a28 3)]) rfl (ci_X10_init h) tK_X10_init tM_X11_70 tI_X10_init tN_X10 rfl rfl rfl tD_X10_init ⟨Nat.le_of_ble_eq_true rfl, Nat.le_of_ble_eq_true rfl⟩ rfl rfl (by first | exact Nat.le_of_ble_eq_true rfl | (simp only [List.map, q_catR]; exact Nat.le_of_ble_eq_true rfl)) ⟨Nat.le_of_ble_eq_true rfl, Nat.le_of_ble_eq_true rfl⟩ dX11_init_131 (fun S29 h => ?_)
  obtain ⟨a30, ea30, ma30, ka30, h⟩ := h
  refine q_putF X 7 ea30 ma30 ka30 rfl tW_X11 (by decide) (by decide) tF_X11_73 tyX11 tyX11_ok nmX11 rfl hin rfl (tyX11_ok 7 (by decide)) (q_nR _ _) (q_fR _ _) rfl dX11_init_134 ?_
  have ma30 : a30 ∈ q_L (q_sR (S29) a30 7 (some q27)) := q_LsR ma30
  have ka30 : q_K (q_sR (S29) a30 7 (some q27)) a30 = 12 := q_KsR ka30
  exact q_vretC X hr hl h (Nat.le_of_ble_eq_true rfl) (Nat.le_of_ble_eq_true rfl) dX11_init_137
theorem tD_X11_init : yX11_init.cls ≠ "java/lang/invoke/MethodHandle" ∧ yX11_init.cls ≠ "java/lang/invoke/VarHandle" ∧ (parseMethodDescriptor yX11_init.desc).map (fun d => d.parameters.length) = some 0 := by decide +kernel
theorem ci_X11_init {l : Launch} {D : va_G} {cy : Nat → ClassId} {S : q_S} {o : Nat}  {Post : q_S → Prop} (h : i_X11_init S o Post) : q_MC l yX11_init (q_ws yX11_init cX11_init 1 none) ({ frames := 3, cells := 68, slots := 9674, locals := 65 } : Room) D cy [.ref o] S Post 68 9674 := by
  exact q_MC_of (by decide +kernel) (Nat.le_of_ble_eq_true rfl) (fun p e s m args below meth c A X hr hl hin => wi_X11_init X hr hl hin h)
def i_X12_init (S : q_S) (o : Nat)  (Post : q_S → Prop) : Prop := ∀ q1 : Nat, q1 ∉ q_L (S) → (q_aP (q_nw (S) q1 100 1600) (some o) 13 (fun a2 => ∀ q3 : Nat, q3 ∉ q_L (q_sR (q_nw (S) q1 100 1600) a2 1 (some q1)) → (q_aP (q_nw (q_sR (q_nw (S) q1 100 1600) a2 1 (some q1)) q3 101 24) (some o) 13 (fun a4 => ∀ q5 : Nat, q5 ∉ q_L (q_sR (q_nw (q_sR (q_nw (S) q1 100 1600) a2 1 (some q1)) q3 101 24) a4 4 (some q3)) → (q_aP (q_nw (q_sR (q_nw (q_sR (q_nw (S) q1 100 1600) a2 1 (some q1)) q3 101 24) a4 4 (some q3)) q5 101 24) (some o) 13 (fun a6 => ∀ q7 : Nat, q7 ∉ q_L (q_sR (q_nw (q_sR (q_nw (q_sR (q_nw (S) q1 100 1600) a2 1 (some q1)) q3 101 24) a4 4 (some q3)) q5 101 24) a6 5 (some q5)) → (q_aP (q_nw (q_sR (q_nw (q_sR (q_nw (q_sR (q_nw (S) q1 100 1600) a2 1 (some q1)) q3 101 24) a4 4 (some q3)) q5 101 24) a6 5 (some q5)) q7 100 24) (some o) 13 (fun a8 => ∀ q9 : Nat, q9 ∉ q_L (q_sR (q_nw (q_sR (q_nw (q_sR (q_nw (q_sR (q_nw (S) q1 100 1600) a2 1 (some q1)) q3 101 24) a4 4 (some q3)) q5 101 24) a6 5 (some q5)) q7 100 24) a8 6 (some q7)) → (q_aP (q_nw (q_sR (q_nw (q_sR (q_nw (q_sR (q_nw (q_sR (q_nw (S) q1 100 1600) a2 1 (some q1)) q3 101 24) a4 4 (some q3)) q5 101 24) a6 5 (some q5)) q7 100 24) a8 6 (some q7)) q9 100 24) (some o) 13 (fun a10 => ∀ q11 : Nat, q11 ∉ q_L (q_sR (q_nw (q_sR (q_nw (q_sR (q_nw (q_sR (q_nw (q_sR (q_nw (S) q1 100 1600) a2 1 (some q1)) q3 101 24) a4 4 (some q3)) q5 101 24) a6 5 (some q5)) q7 100 24) a8 6 (some q7)) q9 100 24) a10 7 (some q9)) → (q_aP (q_nw (q_sR (q_nw (q_sR (q_nw (q_sR (q_nw (q_sR (q_nw (q_sR (q_nw (S) q1 100 1600) a2 1 (some q1)) q3 101 24) a4 4 (some q3)) q5 101 24) a6 5 (some q5)) q7 100 24) a8 6 (some q7)) q9 100 24) a10 7 (some q9)) q11 102 200) (some o) 13 (fun a12 => ∀ q13 : Nat, q13 ∉ q_L (q_sR (q_nw (q_sR (q_nw (q_sR (q_nw (q_sR (q_nw (q_sR (q_nw (q_sR (q_nw (S) q1 100 1600) a2 1 (some q1)) q3 101 24) a4 4 (some q3)) q5 101 24) a6 5 (some q5)) q7 100 24) a8 6 (some q7)) q9 100 24) a10 7 (some q9)) q11 102 200) a12 9 (some q11)) → (q_aP (q_nw (q_sR (q_nw (q_sR (q_nw (q_sR (q_nw (q_sR (q_nw (q_sR (q_nw (q_sR (q_nw (S) q1 100 1600) a2 1 (some q1)) q3 101 24) a4 4 (some q3)) q5 101 24) a6 5 (some q5)) q7 100 24) a8 6 (some q7)) q9 100 24) a10 7 (some q9)) q11 102 200) a12 9 (some q11)) q13 102 200) (some o) 13 (fun a14 => ∀ q15 : Nat, q15 ∉ q_L (q_sR (q_nw (q_sR (q_nw (q_sR (q_nw (q_sR (q_nw (q_sR (q_nw (q_sR (q_nw (q_sR (q_nw (S) q1 100 1600) a2 1 (some q1)) q3 101 24) a4 4 (some q3)) q5 101 24) a6 5 (some q5)) q7 100 24) a8 6 (some q7)) q9 100 24) a10 7 (some q9)) q11 102 200) a12 9 (some q11)) q13 102 200) a14 10 (some q13)) → (q_aP (q_nw (q_sR (q_nw (q_sR (q_nw (q_sR (q_nw (q_sR (q_nw (q_sR (q_nw (q_sR (q_nw (q_sR (q_nw (S) q1 100 1600) a2 1 (some q1)) q3 101 24) a4 4 (some q3)) q5 101 24) a6 5 (some q5)) q7 100 24) a8 6 (some q7)) q9 100 24) a10 7 (some q9)) q11 102 200) a12 9 (some q11)) q13 102 200) a14 10 (some q13)) q15 100 100) (some o) 13 (fun a16 => ∀ q17 : Nat, q17 ∉ q_L (q_sR (q_nw (q_sR (q_nw (q_sR (q_nw (q_sR (q_nw (q_sR (q_nw (q_sR (q_nw (q_sR (q_nw (q_sR (q_nw (S) q1 100 1600) a2 1 (some q1)) q3 101 24) a4 4 (some q3)) q5 101 24) a6 5 (some q5)) q7 100 24) a8 6 (some q7)) q9 100 24) a10 7 (some q9)) q11 102 200) a12 9 (some q11)) q13 102 200) a14 10 (some q13)) q15 100 100) a16 12 (some q15)) → (q_aP (q_nw (q_sR (q_nw (q_sR (q_nw (q_sR (q_nw (q_sR (q_nw (q_sR (q_nw (q_sR (q_nw (q_sR (q_nw (q_sR (q_nw (S) q1 100 1600) a2 1 (some q1)) q3 101 24) a4 4 (some q3)) q5 101 24) a6 5 (some q5)) q7 100 24) a8 6 (some q7)) q9 100 24) a10 7 (some q9)) q11 102 200) a12 9 (some q11)) q13 102 200) a14 10 (some q13)) q15 100 100) a16 12 (some q15)) q17 100 100) (some o) 13 (fun a18 => ∀ q19 : Nat, q19 ∉ q_L (q_sR (q_nw (q_sR (q_nw (q_sR (q_nw (q_sR (q_nw (q_sR (q_nw (q_sR (q_nw (q_sR (q_nw (q_sR (q_nw (q_sR (q_nw (S) q1 100 1600) a2 1 (some q1)) q3 101 24) a4 4 (some q3)) q5 101 24) a6 5 (some q5)) q7 100 24) a8 6 (some q7)) q9 100 24) a10 7 (some q9)) q11 102 200) a12 9 (some q11)) q13 102 200) a14 10 (some q13)) q15 100 100) a16 12 (some q15)) q17 100 100) a18 13 (some q17)) → (q_aP (q_nw (q_sR (q_nw (q_sR (q_nw (q_sR (q_nw (q_sR (q_nw (q_sR (q_nw (q_sR (q_nw (q_sR (q_nw (q_sR (q_nw (q_sR (q_nw (S) q1 100 1600) a2 1 (some q1)) q3 101 24) a4 4 (some q3)) q5 101 24) a6 5 (some q5)) q7 100 24) a8 6 (some q7)) q9 100 24) a10 7 (some q9)) q11 102 200) a12 9 (some q11)) q13 102 200) a14 10 (some q13)) q15 100 100) a16 12 (some q15)) q17 100 100) a18 13 (some q17)) q19 100 120) (some o) 13 (fun a20 => ∀ q21 : Nat, q21 ∉ q_L (q_sR (q_nw (q_sR (q_nw (q_sR (q_nw (q_sR (q_nw (q_sR (q_nw (q_sR (q_nw (q_sR (q_nw (q_sR (q_nw (q_sR (q_nw (q_sR (q_nw (S) q1 100 1600) a2 1 (some q1)) q3 101 24) a4 4 (some q3)) q5 101 24) a6 5 (some q5)) q7 100 24) a8 6 (some q7)) q9 100 24) a10 7 (some q9)) q11 102 200) a12 9 (some q11)) q13 102 200) a14 10 (some q13)) q15 100 100) a16 12 (some q15)) q17 100 100) a18 13 (some q17)) q19 100 120) a20 15 (some q19)) → (q_aP (q_nw (q_sR (q_nw (q_sR (q_nw (q_sR (q_nw (q_sR (q_nw (q_sR (q_nw (q_sR (q_nw (q_sR (q_nw (q_sR (q_nw (q_sR (q_nw (q_sR (q_nw (S) q1 100 1600) a2 1 (some q1)) q3 101 24) a4 4 (some q3)) q5 101 24) a6 5 (some q5)) q7 100 24) a8 6 (some q7)) q9 100 24) a10 7 (some q9)) q11 102 200) a12 9 (some q11)) q13 102 200) a14 10 (some q13)) q15 100 100) a16 12 (some q15)) q17 100 100) a18 13 (some q17)) q19 100 120) a20 15 (some q19)) q21 100 120) (some o) 13 (fun a22 => ∀ q23 : Nat, q23 ∉ q_L (q_sR (q_nw (q_sR (q_nw (q_sR (q_nw (q_sR (q_nw (q_sR (q_nw (q_sR (q_nw (q_sR (q_nw (q_sR (q_nw (q_sR (q_nw (q_sR (q_nw (q_sR (q_nw (S) q1 100 1600) a2 1 (some q1)) q3 101 24) a4 4 (some q3)) q5 101 24) a6 5 (some q5)) q7 100 24) a8 6 (some q7)) q9 100 24) a10 7 (some q9)) q11 102 200) a12 9 (some q11)) q13 102 200) a14 10 (some q13)) q15 100 100) a16 12 (some q15)) q17 100 100) a18 13 (some q17)) q19 100 120) a20 15 (some q19)) q21 100 120) a22 16 (some q21)) → (q_aP (q_nw (q_sR (q_nw (q_sR (q_nw (q_sR (q_nw (q_sR (q_nw (q_sR (q_nw (q_sR (q_nw (q_sR (q_nw (q_sR (q_nw (q_sR (q_nw (q_sR (q_nw (q_sR (q_nw (S) q1 100 1600) a2 1 (some q1)) q3 101 24) a4 4 (some q3)) q5 101 24) a6 5 (some q5)) q7 100 24) a8 6 (some q7)) q9 100 24) a10 7 (some q9)) q11 102 200) a12 9 (some q11)) q13 102 200) a14 10 (some q13)) q15 100 100) a16 12 (some q15)) q17 100 100) a18 13 (some q17)) q19 100 120) a20 15 (some q19)) q21 100 120) a22 16 (some q21)) q23 102 120) (some o) 13 (fun a24 => ∀ q25 : Nat, q25 ∉ q_L (q_sR (q_nw (q_sR (q_nw (q_sR (q_nw (q_sR (q_nw (q_sR (q_nw (q_sR (q_nw (q_sR (q_nw (q_sR (q_nw (q_sR (q_nw (q_sR (q_nw (q_sR (q_nw (q_sR (q_nw (S) q1 100 1600) a2 1 (some q1)) q3 101 24) a4 4 (some q3)) q5 101 24) a6 5 (some q5)) q7 100 24) a8 6 (some q7)) q9 100 24) a10 7 (some q9)) q11 102 200) a12 9 (some q11)) q13 102 200) a14 10 (some q13)) q15 100 100) a16 12 (some q15)) q17 100 100) a18 13 (some q17)) q19 100 120) a20 15 (some q19)) q21 100 120) a22 16 (some q21)) q23 102 120) a24 17 (some q23)) → (q_aP (q_nw (q_sR (q_nw (q_sR (q_nw (q_sR (q_nw (q_sR (q_nw (q_sR (q_nw (q_sR (q_nw (q_sR (q_nw (q_sR (q_nw (q_sR (q_nw (q_sR (q_nw (q_sR (q_nw (q_sR (q_nw (S) q1 100 1600) a2 1 (some q1)) q3 101 24) a4 4 (some q3)) q5 101 24) a6 5 (some q5)) q7 100 24) a8 6 (some q7)) q9 100 24) a10 7 (some q9)) q11 102 200) a12 9 (some q11)) q13 102 200) a14 10 (some q13)) q15 100 100) a16 12 (some q15)) q17 100 100) a18 13 (some q17)) q19 100 120) a20 15 (some q19)) q21 100 120) a22 16 (some q21)) q23 102 120) a24 17 (some q23)) q25 100 400) (some o) 13 (fun a26 => ∀ q27 : Nat, q27 ∉ q_L (q_sR (q_nw (q_sR (q_nw (q_sR (q_nw (q_sR (q_nw (q_sR (q_nw (q_sR (q_nw (q_sR (q_nw (q_sR (q_nw (q_sR (q_nw (q_sR (q_nw (q_sR (q_nw (q_sR (q_nw (q_sR (q_nw (S) q1 100 1600) a2 1 (some q1)) q3 101 24) a4 4 (some q3)) q5 101 24) a6 5 (some q5)) q7 100 24) a8 6 (some q7)) q9 100 24) a10 7 (some q9)) q11 102 200) a12 9 (some q11)) q13 102 200) a14 10 (some q13)) q15 100 100) a16 12 (some q15)) q17 100 100) a18 13 (some q17)) q19 100 120) a20 15 (some q19)) q21 100 120) a22 16 (some q21)) q23 102 120) a24 17 (some q23)) q25 100 400) a26 19 (some q25)) → (q_aP (q_nw (q_sR (q_nw (q_sR (q_nw (q_sR (q_nw (q_sR (q_nw (q_sR (q_nw (q_sR (q_nw (q_sR (q_nw (q_sR (q_nw (q_sR (q_nw (q_sR (q_nw (q_sR (q_nw (q_sR (q_nw (q_sR (q_nw (S) q1 100 1600) a2 1 (some q1)) q3 101 24) a4 4 (some q3)) q5 101 24) a6 5 (some q5)) q7 100 24) a8 6 (some q7)) q9 100 24) a10 7 (some q9)) q11 102 200) a12 9 (some q11)) q13 102 200) a14 10 (some q13)) q15 100 100) a16 12 (some q15)) q17 100 100) a18 13 (some q17)) q19 100 120) a20 15 (some q19)) q21 100 120) a22 16 (some q21)) q23 102 120) a24 17 (some q23)) q25 100 400) a26 19 (some q25)) q27 100 120) (some o) 13 (fun a28 => ∀ q29 : Nat, q29 ∉ q_L (q_sR (q_nw (q_sR (q_nw (q_sR (q_nw (q_sR (q_nw (q_sR (q_nw (q_sR (q_nw (q_sR (q_nw (q_sR (q_nw (q_sR (q_nw (q_sR (q_nw (q_sR (q_nw (q_sR (q_nw (q_sR (q_nw (q_sR (q_nw (S) q1 100 1600) a2 1 (some q1)) q3 101 24) a4 4 (some q3)) q5 101 24) a6 5 (some q5)) q7 100 24) a8 6 (some q7)) q9 100 24) a10 7 (some q9)) q11 102 200) a12 9 (some q11)) q13 102 200) a14 10 (some q13)) q15 100 100) a16 12 (some q15)) q17 100 100) a18 13 (some q17)) q19 100 120) a20 15 (some q19)) q21 100 120) a22 16 (some q21)) q23 102 120) a24 17 (some q23)) q25 100 400) a26 19 (some q25)) q27 100 120) a28 20 (some q27)) → (q_aP (q_nw (q_sR (q_nw (q_sR (q_nw (q_sR (q_nw (q_sR (q_nw (q_sR (q_nw (q_sR (q_nw (q_sR (q_nw (q_sR (q_nw (q_sR (q_nw (q_sR (q_nw (q_sR (q_nw (q_sR (q_nw (q_sR (q_nw (q_sR (q_nw (S) q1 100 1600) a2 1 (some q1)) q3 101 24) a4 4 (some q3)) q5 101 24) a6 5 (some q5)) q7 100 24) a8 6 (some q7)) q9 100 24) a10 7 (some q9)) q11 102 200) a12 9 (some q11)) q13 102 200) a14 10 (some q13)) q15 100 100) a16 12 (some q15)) q17 100 100) a18 13 (some q17)) q19 100 120) a20 15 (some q19)) q21 100 120) a22 16 (some q21)) q23 102 120) a24 17 (some q23)) q25 100 400) a26 19 (some q25)) q27 100 120) a28 20 (some q27)) q29 100 8) (some o) 13 (fun a30 => ∀ q31 : Nat, q31 ∉ q_L (q_sR (q_nw (q_sR (q_nw (q_sR (q_nw (q_sR (q_nw (q_sR (q_nw (q_sR (q_nw (q_sR (q_nw (q_sR (q_nw (q_sR (q_nw (q_sR (q_nw (q_sR (q_nw (q_sR (q_nw (q_sR (q_nw (q_sR (q_nw (q_sR (q_nw (S) q1 100 1600) a2 1 (some q1)) q3 101 24) a4 4 (some q3)) q5 101 24) a6 5 (some q5)) q7 100 24) a8 6 (some q7)) q9 100 24) a10 7 (some q9)) q11 102 200) a12 9 (some q11)) q13 102 200) a14 10 (some q13)) q15 100 100) a16 12 (some q15)) q17 100 100) a18 13 (some q17)) q19 100 120) a20 15 (some q19)) q21 100 120) a22 16 (some q21)) q23 102 120) a24 17 (some q23)) q25 100 400) a26 19 (some q25)) q27 100 120) a28 20 (some q27)) q29 100 8) a30 25 (some q29)) → (q_aP (q_nw (q_sR (q_nw (q_sR (q_nw (q_sR (q_nw (q_sR (q_nw (q_sR (q_nw (q_sR (q_nw (q_sR (q_nw (q_sR (q_nw (q_sR (q_nw (q_sR (q_nw (q_sR (q_nw (q_sR (q_nw (q_sR (q_nw (q_sR (q_nw (q_sR (q_nw (S) q1 100 1600) a2 1 (some q1)) q3 101 24) a4 4 (some q3)) q5 101 24) a6 5 (some q5)) q7 100 24) a8 6 (some q7)) q9 100 24) a10 7 (some q9)) q11 102 200) a12 9 (some q11)) q13 102 200) a14 10 (some q13)) q15 100 100) a16 12 (some q15)) q17 100 100) a18 13 (some q17)) q19 100 120) a20 15 (some q19)) q21 100 120) a22 16 (some q21)) q23 102 120) a24 17 (some q23)) q25 100 400) a26 19 (some q25)) q27 100 120) a28 20 (some q27)) q29 100 8) a30 25 (some q29)) q31 100 8) (some o) 13 (fun a32 => ∀ q33 : Nat, q33 ∉ q_L (q_sR (q_nw (q_sR (q_nw (q_sR (q_nw (q_sR (q_nw (q_sR (q_nw (q_sR (q_nw (q_sR (q_nw (q_sR (q_nw (q_sR (q_nw (q_sR (q_nw (q_sR (q_nw (q_sR (q_nw (q_sR (q_nw (q_sR (q_nw (q_sR (q_nw (q_sR (q_nw (S) q1 100 1600) a2 1 (some q1)) q3 101 24) a4 4 (some q3)) q5 101 24) a6 5 (some q5)) q7 100 24) a8 6 (some q7)) q9 100 24) a10 7 (some q9)) q11 102 200) a12 9 (some q11)) q13 102 200) a14 10 (some q13)) q15 100 100) a16 12 (some q15)) q17 100 100) a18 13 (some q17)) q19 100 120) a20 15 (some q19)) q21 100 120) a22 16 (some q21)) q23 102 120) a24 17 (some q23)) q25 100 400) a26 19 (some q25)) q27 100 120) a28 20 (some q27)) q29 100 8) a30 25 (some q29)) q31 100 8) a32 26 (some q31)) → (q_aP (q_nw (q_sR (q_nw (q_sR (q_nw (q_sR (q_nw (q_sR (q_nw (q_sR (q_nw (q_sR (q_nw (q_sR (q_nw (q_sR (q_nw (q_sR (q_nw (q_sR (q_nw (q_sR (q_nw (q_sR (q_nw (q_sR (q_nw (q_sR (q_nw (q_sR (q_nw (q_sR (q_nw (S) q1 100 1600) a2 1 (some q1)) q3 101 24) a4 4 (some q3)) q5 101 24) a6 5 (some q5)) q7 100 24) a8 6 (some q7)) q9 100 24) a10 7 (some q9)) q11 102 200) a12 9 (some q11)) q13 102 200) a14 10 (some q13)) q15 100 100) a16 12 (some q15)) q17 100 100) a18 13 (some q17)) q19 100 120) a20 15 (some q19)) q21 100 120) a22 16 (some q21)) q23 102 120) a24 17 (some q23)) q25 100 400) a26 19 (some q25)) q27 100 120) a28 20 (some q27)) q29 100 8) a30 25 (some q29)) q31 100 8) a32 26 (some q31)) q33 100 8) (some o) 13 (fun a34 => ∀ q35 : Nat, q35 ∉ q_L (q_sR (q_nw (q_sR (q_nw (q_sR (q_nw (q_sR (q_nw (q_sR (q_nw (q_sR (q_nw (q_sR (q_nw (q_sR (q_nw (q_sR (q_nw (q_sR (q_nw (q_sR (q_nw (q_sR (q_nw (q_sR (q_nw (q_sR (q_nw (q_sR (q_nw (q_sR (q_nw (q_sR (q_nw (S) q1 100 1600) a2 1 (some q1)) q3 101 24) a4 4 (some q3)) q5 101 24) a6 5 (some q5)) q7 100 24) a8 6 (some q7)) q9 100 24) a10 7 (some q9)) q11 102 200) a12 9 (some q11)) q13 102 200) a14 10 (some q13)) q15 100 100) a16 12 (some q15)) q17 100 100) a18 13 (some q17)) q19 100 120) a20 15 (some q19)) q21 100 120) a22 16 (some q21)) q23 102 120) a24 17 (some q23)) q25 100 400) a26 19 (some q25)) q27 100 120) a28 20 (some q27)) q29 100 8) a30 25 (some q29)) q31 100 8) a32 26 (some q31)) q33 100 8) a34 27 (some q33)) → (q_aP (q_nw (q_sR (q_nw (q_sR (q_nw (q_sR (q_nw (q_sR (q_nw (q_sR (q_nw (q_sR (q_nw (q_sR (q_nw (q_sR (q_nw (q_sR (q_nw (q_sR (q_nw (q_sR (q_nw (q_sR (q_nw (q_sR (q_nw (q_sR (q_nw (q_sR (q_nw (q_sR (q_nw (q_sR (q_nw (S) q1 100 1600) a2 1 (some q1)) q3 101 24) a4 4 (some q3)) q5 101 24) a6 5 (some q5)) q7 100 24) a8 6 (some q7)) q9 100 24) a10 7 (some q9)) q11 102 200) a12 9 (some q11)) q13 102 200) a14 10 (some q13)) q15 100 100) a16 12 (some q15)) q17 100 100) a18 13 (some q17)) q19 100 120) a20 15 (some q19)) q21 100 120) a22 16 (some q21)) q23 102 120) a24 17 (some q23)) q25 100 400) a26 19 (some q25)) q27 100 120) a28 20 (some q27)) q29 100 8) a30 25 (some q29)) q31 100 8) a32 26 (some q31)) q33 100 8) a34 27 (some q33)) q35 100 8) (some o) 13 (fun a36 => ∀ q37 : Nat, q37 ∉ q_L (q_sR (q_nw (q_sR (q_nw (q_sR (q_nw (q_sR (q_nw (q_sR (q_nw (q_sR (q_nw (q_sR (q_nw (q_sR (q_nw (q_sR (q_nw (q_sR (q_nw (q_sR (q_nw (q_sR (q_nw (q_sR (q_nw (q_sR (q_nw (q_sR (q_nw (q_sR (q_nw (q_sR (q_nw (q_sR (q_nw (S) q1 100 1600) a2 1 (some q1)) q3 101 24) a4 4 (some q3)) q5 101 24) a6 5 (some q5)) q7 100 24) a8 6 (some q7)) q9 100 24) a10 7 (some q9)) q11 102 200) a12 9 (some q11)) q13 102 200) a14 10 (some q13)) q15 100 100) a16 12 (some q15)) q17 100 100) a18 13 (some q17)) q19 100 120) a20 15 (some q19)) q21 100 120) a22 16 (some q21)) q23 102 120) a24 17 (some q23)) q25 100 400) a26 19 (some q25)) q27 100 120) a28 20 (some q27)) q29 100 8) a30 25 (some q29)) q31 100 8) a32 26 (some q31)) q33 100 8) a34 27 (some q33)) q35 100 8) a36 28 (some q35)) → (q_aP (q_nw (q_sR (q_nw (q_sR (q_nw (q_sR (q_nw (q_sR (q_nw (q_sR (q_nw (q_sR (q_nw (q_sR (q_nw (q_sR (q_nw (q_sR (q_nw (q_sR (q_nw (q_sR (q_nw (q_sR (q_nw (q_sR (q_nw (q_sR (q_nw (q_sR (q_nw (q_sR (q_nw (q_sR (q_nw (q_sR (q_nw (S) q1 100 1600) a2 1 (some q1)) q3 101 24) a4 4 (some q3)) q5 101 24) a6 5 (some q5)) q7 100 24) a8 6 (some q7)) q9 100 24) a10 7 (some q9)) q11 102 200) a12 9 (some q11)) q13 102 200) a14 10 (some q13)) q15 100 100) a16 12 (some q15)) q17 100 100) a18 13 (some q17)) q19 100 120) a20 15 (some q19)) q21 100 120) a22 16 (some q21)) q23 102 120) a24 17 (some q23)) q25 100 400) a26 19 (some q25)) q27 100 120) a28 20 (some q27)) q29 100 8) a30 25 (some q29)) q31 100 8) a32 26 (some q31)) q33 100 8) a34 27 (some q33)) q35 100 8) a36 28 (some q35)) q37 102 8) (some o) 13 (fun a38 => ∀ q39 : Nat, q39 ∉ q_L (q_sR (q_nw (q_sR (q_nw (q_sR (q_nw (q_sR (q_nw (q_sR (q_nw (q_sR (q_nw (q_sR (q_nw (q_sR (q_nw (q_sR (q_nw (q_sR (q_nw (q_sR (q_nw (q_sR (q_nw (q_sR (q_nw (q_sR (q_nw (q_sR (q_nw (q_sR (q_nw (q_sR (q_nw (q_sR (q_nw (q_sR (q_nw (S) q1 100 1600) a2 1 (some q1)) q3 101 24) a4 4 (some q3)) q5 101 24) a6 5 (some q5)) q7 100 24) a8 6 (some q7)) q9 100 24) a10 7 (some q9)) q11 102 200) a12 9 (some q11)) q13 102 200) a14 10 (some q13)) q15 100 100) a16 12 (some q15)) q17 100 100) a18 13 (some q17)) q19 100 120) a20 15 (some q19)) q21 100 120) a22 16 (some q21)) q23 102 120) a24 17 (some q23)) q25 100 400) a26 19 (some q25)) q27 100 120) a28 20 (some q27)) q29 100 8) a30 25 (some q29)) q31 100 8) a32 26 (some q31)) q33 100 8) a34 27 (some q33)) q35 100 8) a36 28 (some q35)) q37 102 8) a38 29 (some q37)) → (q_aP (q_nw (q_sR (q_nw (q_sR (q_nw (q_sR (q_nw (q_sR (q_nw (q_sR (q_nw (q_sR (q_nw (q_sR (q_nw (q_sR (q_nw (q_sR (q_nw (q_sR (q_nw (q_sR (q_nw (q_sR (q_nw (q_sR (q_nw (q_sR (q_nw (q_sR (q_nw (q_sR (q_nw (q_sR (q_nw (q_sR (q_nw (q_sR (q_nw (S) q1 100 1600) a2 1 (some q1)) q3 101 24) a4 4 (some q3)) q5 101 24) a6 5 (some q5)) q7 100 24) a8 6 (some q7)) q9 100 24) a10 7 (some q9)) q11 102 200) a12 9 (some q11)) q13 102 200) a14 10 (some q13)) q15 100 100) a16 12 (some q15)) q17 100 100) a18 13 (some q17)) q19 100 120) a20 15 (some q19)) q21 100 120) a22 16 (some q21)) q23 102 120) a24 17 (some q23)) q25 100 400) a26 19 (some q25)) q27 100 120) a28 20 (some q27)) q29 100 8) a30 25 (some q29)) q31 100 8) a32 26 (some q31)) q33 100 8) a34 27 (some q33)) q35 100 8) a36 28 (some q35)) q37 102 8) a38 29 (some q37)) q39 100 8) (some o) 13 (fun a40 => ∀ q41 : Nat, q41 ∉ q_L (q_sR (q_nw (q_sR (q_nw (q_sR (q_nw (q_sR (q_nw (q_sR (q_nw (q_sR (q_nw (q_sR (q_nw (q_sR (q_nw (q_sR (q_nw (q_sR (q_nw (q_sR (q_nw (q_sR (q_nw (q_sR (q_nw (q_sR (q_nw (q_sR (q_nw (q_sR (q_nw (q_sR (q_nw (q_sR (q_nw (q_sR (q_nw (q_sR (q_nw (S) q1 100 1600) a2 1 (some q1)) q3 101 24) a4 4 (some q3)) q5 101 24) a6 5 (some q5)) q7 100 24) a8 6 (some q7)) q9 100 24) a10 7 (some q9)) q11 102 200) a12 9 (some q11)) q13 102 200) a14 10 (some q13)) q15 100 100) a16 12 (some q15)) q17 100 100) a18 13 (some q17)) q19 100 120) a20 15 (some q19)) q21 100 120) a22 16 (some q21)) q23 102 120) a24 17 (some q23)) q25 100 400) a26 19 (some q25)) q27 100 120) a28 20 (some q27)) q29 100 8) a30 25 (some q29)) q31 100 8) a32 26 (some q31)) q33 100 8) a34 27 (some q33)) q35 100 8) a36 28 (some q35)) q37 102 8) a38 29 (some q37)) q39 100 8) a40 30 (some q39)) → (q_aP (q_nw (q_sR (q_nw (q_sR (q_nw (q_sR (q_nw (q_sR (q_nw (q_sR (q_nw (q_sR (q_nw (q_sR (q_nw (q_sR (q_nw (q_sR (q_nw (q_sR (q_nw (q_sR (q_nw (q_sR (q_nw (q_sR (q_nw (q_sR (q_nw (q_sR (q_nw (q_sR (q_nw (q_sR (q_nw (q_sR (q_nw (q_sR (q_nw (q_sR (q_nw (S) q1 100 1600) a2 1 (some q1)) q3 101 24) a4 4 (some q3)) q5 101 24) a6 5 (some q5)) q7 100 24) a8 6 (some q7)) q9 100 24) a10 7 (some q9)) q11 102 200) a12 9 (some q11)) q13 102 200) a14 10 (some q13)) q15 100 100) a16 12 (some q15)) q17 100 100) a18 13 (some q17)) q19 100 120) a20 15 (some q19)) q21 100 120) a22 16 (some q21)) q23 102 120) a24 17 (some q23)) q25 100 400) a26 19 (some q25)) q27 100 120) a28 20 (some q27)) q29 100 8) a30 25 (some q29)) q31 100 8) a32 26 (some q31)) q33 100 8) a34 27 (some q33)) q35 100 8) a36 28 (some q35)) q37 102 8) a38 29 (some q37)) q39 100 8) a40 30 (some q39)) q41 100 8) (some o) 13 (fun a42 => ∀ q43 : Nat, q43 ∉ q_L (q_sR (q_nw (q_sR (q_nw (q_sR (q_nw (q_sR (q_nw (q_sR (q_nw (q_sR (q_nw (q_sR (q_nw (q_sR (q_nw (q_sR (q_nw (q_sR (q_nw (q_sR (q_nw (q_sR (q_nw (q_sR (q_nw (q_sR (q_nw (q_sR (q_nw (q_sR (q_nw (q_sR (q_nw (q_sR (q_nw (q_sR (q_nw (q_sR (q_nw (q_sR (q_nw (S) q1 100 1600) a2 1 (some q1)) q3 101 24) a4 4 (some q3)) q5 101 24) a6 5 (some q5)) q7 100 24) a8 6 (some q7)) q9 100 24) a10 7 (some q9)) q11 102 200) a12 9 (some q11)) q13 102 200) a14 10 (some q13)) q15 100 100) a16 12 (some q15)) q17 100 100) a18 13 (some q17)) q19 100 120) a20 15 (some q19)) q21 100 120) a22 16 (some q21)) q23 102 120) a24 17 (some q23)) q25 100 400) a26 19 (some q25)) q27 100 120) a28 20 (some q27)) q29 100 8) a30 25 (some q29)) q31 100 8) a32 26 (some q31)) q33 100 8) a34 27 (some q33)) q35 100 8) a36 28 (some q35)) q37 102 8) a38 29 (some q37)) q39 100 8) a40 30 (some q39)) q41 100 8) a42 31 (some q41)) → (q_aP (q_nw (q_sR (q_nw (q_sR (q_nw (q_sR (q_nw (q_sR (q_nw (q_sR (q_nw (q_sR (q_nw (q_sR (q_nw (q_sR (q_nw (q_sR (q_nw (q_sR (q_nw (q_sR (q_nw (q_sR (q_nw (q_sR (q_nw (q_sR (q_nw (q_sR (q_nw (q_sR (q_nw (q_sR (q_nw (q_sR (q_nw (q_sR (q_nw (q_sR (q_nw (q_sR (q_nw (S) q1 100 1600) a2 1 (some q1)) q3 101 24) a4 4 (some q3)) q5 101 24) a6 5 (some q5)) q7 100 24) a8 6 (some q7)) q9 100 24) a10 7 (some q9)) q11 102 200) a12 9 (some q11)) q13 102 200) a14 10 (some q13)) q15 100 100) a16 12 (some q15)) q17 100 100) a18 13 (some q17)) q19 100 120) a20 15 (some q19)) q21 100 120) a22 16 (some q21)) q23 102 120) a24 17 (some q23)) q25 100 400) a26 19 (some q25)) q27 100 120) a28 20 (some q27)) q29 100 8) a30 25 (some q29)) q31 100 8) a32 26 (some q31)) q33 100 8) a34 27 (some q33)) q35 100 8) a36 28 (some q35)) q37 102 8) a38 29 (some q37)) q39 100 8) a40 30 (some q39)) q41 100 8) a42 31 (some q41)) q43 100 8) (some o) 13 (fun a44 => ∀ q45 : Nat, q45 ∉ q_L (q_sR (q_nw (q_sR (q_nw (q_sR (q_nw (q_sR (q_nw (q_sR (q_nw (q_sR (q_nw (q_sR (q_nw (q_sR (q_nw (q_sR (q_nw (q_sR (q_nw (q_sR (q_nw (q_sR (q_nw (q_sR (q_nw (q_sR (q_nw (q_sR (q_nw (q_sR (q_nw (q_sR (q_nw (q_sR (q_nw (q_sR (q_nw (q_sR (q_nw (q_sR (q_nw (q_sR (q_nw (S) q1 100 1600) a2 1 (some q1)) q3 101 24) a4 4 (some q3)) q5 101 24) a6 5 (some q5)) q7 100 24) a8 6 (some q7)) q9 100 24) a10 7 (some q9)) q11 102 200) a12 9 (some q11)) q13 102 200) a14 10 (some q13)) q15 100 100) a16 12 (some q15)) q17 100 100) a18 13 (some q17)) q19 100 120) a20 15 (some q19)) q21 100 120) a22 16 (some q21)) q23 102 120) a24 17 (some q23)) q25 100 400) a26 19 (some q25)) q27 100 120) a28 20 (some q27)) q29 100 8) a30 25 (some q29)) q31 100 8) a32 26 (some q31)) q33 100 8) a34 27 (some q33)) q35 100 8) a36 28 (some q35)) q37 102 8) a38 29 (some q37)) q39 100 8) a40 30 (some q39)) q41 100 8) a42 31 (some q41)) q43 100 8) a44 32 (some q43)) → (q_aP (q_nw (q_sR (q_nw (q_sR (q_nw (q_sR (q_nw (q_sR (q_nw (q_sR (q_nw (q_sR (q_nw (q_sR (q_nw (q_sR (q_nw (q_sR (q_nw (q_sR (q_nw (q_sR (q_nw (q_sR (q_nw (q_sR (q_nw (q_sR (q_nw (q_sR (q_nw (q_sR (q_nw (q_sR (q_nw (q_sR (q_nw (q_sR (q_nw (q_sR (q_nw (q_sR (q_nw (q_sR (q_nw (S) q1 100 1600) a2 1 (some q1)) q3 101 24) a4 4 (some q3)) q5 101 24) a6 5 (some q5)) q7 100 24) a8 6 (some q7)) q9 100 24) a10 7 (some q9)) q11 102 200) a12 9 (some q11)) q13 102 200) a14 10 (some q13)) q15 100 100) a16 12 (some q15)) q17 100 100) a18 13 (some q17)) q19 100 120) a20 15 (some q19)) q21 100 120) a22 16 (some q21)) q23 102 120) a24 17 (some q23)) q25 100 400) a26 19 (some q25)) q27 100 120) a28 20 (some q27)) q29 100 8) a30 25 (some q29)) q31 100 8) a32 26 (some q31)) q33 100 8) a34 27 (some q33)) q35 100 8) a36 28 (some q35)) q37 102 8) a38 29 (some q37)) q39 100 8) a40 30 (some q39)) q41 100 8) a42 31 (some q41)) q43 100 8) a44 32 (some q43)) q45 100 8) (some o) 13 (fun a46 => ∀ q47 : Nat, q47 ∉ q_L (q_sR (q_nw (q_sR (q_nw (q_sR (q_nw (q_sR (q_nw (q_sR (q_nw (q_sR (q_nw (q_sR (q_nw (q_sR (q_nw (q_sR (q_nw (q_sR (q_nw (q_sR (q_nw (q_sR (q_nw (q_sR (q_nw (q_sR (q_nw (q_sR (q_nw (q_sR (q_nw (q_sR (q_nw (q_sR (q_nw (q_sR (q_nw (q_sR (q_nw (q_sR (q_nw (q_sR (q_nw (q_sR (q_nw (S) q1 100 1600) a2 1 (some q1)) q3 101 24) a4 4 (some q3)) q5 101 24) a6 5 (some q5)) q7 100 24) a8 6 (some q7)) q9 100 24) a10 7 (some q9)) q11 102 200) a12 9 (some q11)) q13 102 200) a14 10 (some q13)) q15 100 100) a16 12 (some q15)) q17 100 100) a18 13 (some q17)) q19 100 120) a20 15 (some q19)) q21 100 120) a22 16 (some q21)) q23 102 120) a24 17 (some q23)) q25 100 400) a26 19 (some q25)) q27 100 120) a28 20 (some q27)) q29 100 8) a30 25 (some q29)) q31 100 8) a32 26 (some q31)) q33 100 8) a34 27 (some q33)) q35 100 8) a36 28 (some q35)) q37 102 8) a38 29 (some q37)) q39 100 8) a40 30 (some q39)) q41 100 8) a42 31 (some q41)) q43 100 8) a44 32 (some q43)) q45 100 8) a46 33 (some q45)) → (q_aP (q_nw (q_sR (q_nw (q_sR (q_nw (q_sR (q_nw (q_sR (q_nw (q_sR (q_nw (q_sR (q_nw (q_sR (q_nw (q_sR (q_nw (q_sR (q_nw (q_sR (q_nw (q_sR (q_nw (q_sR (q_nw (q_sR (q_nw (q_sR (q_nw (q_sR (q_nw (q_sR (q_nw (q_sR (q_nw (q_sR (q_nw (q_sR (q_nw (q_sR (q_nw (q_sR (q_nw (q_sR (q_nw (q_sR (q_nw (S) q1 100 1600) a2 1 (some q1)) q3 101 24) a4 4 (some q3)) q5 101 24) a6 5 (some q5)) q7 100 24) a8 6 (some q7)) q9 100 24) a10 7 (some q9)) q11 102 200) a12 9 (some q11)) q13 102 200) a14 10 (some q13)) q15 100 100) a16 12 (some q15)) q17 100 100) a18 13 (some q17)) q19 100 120) a20 15 (some q19)) q21 100 120) a22 16 (some q21)) q23 102 120) a24 17 (some q23)) q25 100 400) a26 19 (some q25)) q27 100 120) a28 20 (some q27)) q29 100 8) a30 25 (some q29)) q31 100 8) a32 26 (some q31)) q33 100 8) a34 27 (some q33)) q35 100 8) a36 28 (some q35)) q37 102 8) a38 29 (some q37)) q39 100 8) a40 30 (some q39)) q41 100 8) a42 31 (some q41)) q43 100 8) a44 32 (some q43)) q45 100 8) a46 33 (some q45)) q47 100 8) (some o) 13 (fun a48 => ∀ q49 : Nat, q49 ∉ q_L (q_sR (q_nw (q_sR (q_nw (q_sR (q_nw (q_sR (q_nw (q_sR (q_nw (q_sR (q_nw (q_sR (q_nw (q_sR (q_nw (q_sR (q_nw (q_sR (q_nw (q_sR (q_nw (q_sR (q_nw (q_sR (q_nw (q_sR (q_nw (q_sR (q_nw (q_sR (q_nw (q_sR (q_nw (q_sR (q_nw (q_sR (q_nw (q_sR (q_nw (q_sR (q_nw (q_sR (q_nw (q_sR (q_nw (q_sR (q_nw (S) q1 100 1600) a2 1 (some q1)) q3 101 24) a4 4 (some q3)) q5 101 24) a6 5 (some q5)) q7 100 24) a8 6 (some q7)) q9 100 24) a10 7 (some q9)) q11 102 200) a12 9 (some q11)) q13 102 200) a14 10 (some q13)) q15 100 100) a16 12 (some q15)) q17 100 100) a18 13 (some q17)) q19 100 120) a20 15 (some q19)) q21 100 120) a22 16 (some q21)) q23 102 120) a24 17 (some q23)) q25 100 400) a26 19 (some q25)) q27 100 120) a28 20 (some q27)) q29 100 8) a30 25 (some q29)) q31 100 8) a32 26 (some q31)) q33 100 8) a34 27 (some q33)) q35 100 8) a36 28 (some q35)) q37 102 8) a38 29 (some q37)) q39 100 8) a40 30 (some q39)) q41 100 8) a42 31 (some q41)) q43 100 8) a44 32 (some q43)) q45 100 8) a46 33 (some q45)) q47 100 8) a48 34 (some q47)) → (q_aP (q_nw (q_sR (q_nw (q_sR (q_nw (q_sR (q_nw (q_sR (q_nw (q_sR (q_nw (q_sR (q_nw (q_sR (q_nw (q_sR (q_nw (q_sR (q_nw (q_sR (q_nw (q_sR (q_nw (q_sR (q_nw (q_sR (q_nw (q_sR (q_nw (q_sR (q_nw (q_sR (q_nw (q_sR (q_nw (q_sR (q_nw (q_sR (q_nw (q_sR (q_nw (q_sR (q_nw (q_sR (q_nw (q_sR (q_nw (q_sR (q_nw (S) q1 100 1600) a2 1 (some q1)) q3 101 24) a4 4 (some q3)) q5 101 24) a6 5 (some q5)) q7 100 24) a8 6 (some q7)) q9 100 24) a10 7 (some q9)) q11 102 200) a12 9 (some q11)) q13 102 200) a14 10 (some q13)) q15 100 100) a16 12 (some q15)) q17 100 100) a18 13 (some q17)) q19 100 120) a20 15 (some q19)) q21 100 120) a22 16 (some q21)) q23 102 120) a24 17 (some q23)) q25 100 400) a26 19 (some q25)) q27 100 120) a28 20 (some q27)) q29 100 8) a30 25 (some q29)) q31 100 8) a32 26 (some q31)) q33 100 8) a34 27 (some q33)) q35 100 8) a36 28 (some q35)) q37 102 8) a38 29 (some q37)) q39 100 8) a40 30 (some q39)) q41 100 8) a42 31 (some q41)) q43 100 8) a44 32 (some q43)) q45 100 8) a46 33 (some q45)) q47 100 8) a48 34 (some q47)) q49 100 32) (some o) 13 (fun a50 => ∀ q51 : Nat, q51 ∉ q_L (q_sR (q_nw (q_sR (q_nw (q_sR (q_nw (q_sR (q_nw (q_sR (q_nw (q_sR (q_nw (q_sR (q_nw (q_sR (q_nw (q_sR (q_nw (q_sR (q_nw (q_sR (q_nw (q_sR (q_nw (q_sR (q_nw (q_sR (q_nw (q_sR (q_nw (q_sR (q_nw (q_sR (q_nw (q_sR (q_nw (q_sR (q_nw (q_sR (q_nw (q_sR (q_nw (q_sR (q_nw (q_sR (q_nw (q_sR (q_nw (q_sR (q_nw (S) q1 100 1600) a2 1 (some q1)) q3 101 24) a4 4 (some q3)) q5 101 24) a6 5 (some q5)) q7 100 24) a8 6 (some q7)) q9 100 24) a10 7 (some q9)) q11 102 200) a12 9 (some q11)) q13 102 200) a14 10 (some q13)) q15 100 100) a16 12 (some q15)) q17 100 100) a18 13 (some q17)) q19 100 120) a20 15 (some q19)) q21 100 120) a22 16 (some q21)) q23 102 120) a24 17 (some q23)) q25 100 400) a26 19 (some q25)) q27 100 120) a28 20 (some q27)) q29 100 8) a30 25 (some q29)) q31 100 8) a32 26 (some q31)) q33 100 8) a34 27 (some q33)) q35 100 8) a36 28 (some q35)) q37 102 8) a38 29 (some q37)) q39 100 8) a40 30 (some q39)) q41 100 8) a42 31 (some q41)) q43 100 8) a44 32 (some q43)) q45 100 8) a46 33 (some q45)) q47 100 8) a48 34 (some q47)) q49 100 32) a50 35 (some q49)) → (q_aP (q_nw (q_sR (q_nw (q_sR (q_nw (q_sR (q_nw (q_sR (q_nw (q_sR (q_nw (q_sR (q_nw (q_sR (q_nw (q_sR (q_nw (q_sR (q_nw (q_sR (q_nw (q_sR (q_nw (q_sR (q_nw (q_sR (q_nw (q_sR (q_nw (q_sR (q_nw (q_sR (q_nw (q_sR (q_nw (q_sR (q_nw (q_sR (q_nw (q_sR (q_nw (q_sR (q_nw (q_sR (q_nw (q_sR (q_nw (q_sR (q_nw (q_sR (q_nw (S) q1 100 1600) a2 1 (some q1)) q3 101 24) a4 4 (some q3)) q5 101 24) a6 5 (some q5)) q7 100 24) a8 6 (some q7)) q9 100 24) a10 7 (some q9)) q11 102 200) a12 9 (some q11)) q13 102 200) a14 10 (some q13)) q15 100 100) a16 12 (some q15)) q17 100 100) a18 13 (some q17)) q19 100 120) a20 15 (some q19)) q21 100 120) a22 16 (some q21)) q23 102 120) a24 17 (some q23)) q25 100 400) a26 19 (some q25)) q27 100 120) a28 20 (some q27)) q29 100 8) a30 25 (some q29)) q31 100 8) a32 26 (some q31)) q33 100 8) a34 27 (some q33)) q35 100 8) a36 28 (some q35)) q37 102 8) a38 29 (some q37)) q39 100 8) a40 30 (some q39)) q41 100 8) a42 31 (some q41)) q43 100 8) a44 32 (some q43)) q45 100 8) a46 33 (some q45)) q47 100 8) a48 34 (some q47)) q49 100 32) a50 35 (some q49)) q51 100 2000) (some o) 13 (fun a52 => ∀ q53 : Nat, q53 ∉ q_L (q_sR (q_nw (q_sR (q_nw (q_sR (q_nw (q_sR (q_nw (q_sR (q_nw (q_sR (q_nw (q_sR (q_nw (q_sR (q_nw (q_sR (q_nw (q_sR (q_nw (q_sR (q_nw (q_sR (q_nw (q_sR (q_nw (q_sR (q_nw (q_sR (q_nw (q_sR (q_nw (q_sR (q_nw (q_sR (q_nw (q_sR (q_nw (q_sR (q_nw (q_sR (q_nw (q_sR (q_nw (q_sR (q_nw (q_sR (q_nw (q_sR (q_nw (q_sR (q_nw (S) q1 100 1600) a2 1 (some q1)) q3 101 24) a4 4 (some q3)) q5 101 24) a6 5 (some q5)) q7 100 24) a8 6 (some q7)) q9 100 24) a10 7 (some q9)) q11 102 200) a12 9 (some q11)) q13 102 200) a14 10 (some q13)) q15 100 100) a16 12 (some q15)) q17 100 100) a18 13 (some q17)) q19 100 120) a20 15 (some q19)) q21 100 120) a22 16 (some q21)) q23 102 120) a24 17 (some q23)) q25 100 400) a26 19 (some q25)) q27 100 120) a28 20 (some q27)) q29 100 8) a30 25 (some q29)) q31 100 8) a32 26 (some q31)) q33 100 8) a34 27 (some q33)) q35 100 8) a36 28 (some q35)) q37 102 8) a38 29 (some q37)) q39 100 8) a40 30 (some q39)) q41 100 8) a42 31 (some q41)) q43 100 8) a44 32 (some q43)) q45 100 8) a46 33 (some q45)) q47 100 8) a48 34 (some q47)) q49 100 32) a50 35 (some q49)) q51 100 2000) a52 37 (some q51)) → (q_aP (q_nw (q_sR (q_nw (q_sR (q_nw (q_sR (q_nw (q_sR (q_nw (q_sR (q_nw (q_sR (q_nw (q_sR (q_nw (q_sR (q_nw (q_sR (q_nw (q_sR (q_nw (q_sR (q_nw (q_sR (q_nw (q_sR (q_nw (q_sR (q_nw (q_sR (q_nw (q_sR (q_nw (q_sR (q_nw (q_sR (q_nw (q_sR (q_nw (q_sR (q_nw (q_sR (q_nw (q_sR (q_nw (q_sR (q_nw (q_sR (q_nw (q_sR (q_nw (q_sR (q_nw (S) q1 100 1600) a2 1 (some q1)) q3 101 24) a4 4 (some q3)) q5 101 24) a6 5 (some q5)) q7 100 24) a8 6 (some q7)) q9 100 24) a10 7 (some q9)) q11 102 200) a12 9 (some q11)) q13 102 200) a14 10 (some q13)) q15 100 100) a16 12 (some q15)) q17 100 100) a18 13 (some q17)) q19 100 120) a20 15 (some q19)) q21 100 120) a22 16 (some q21)) q23 102 120) a24 17 (some q23)) q25 100 400) a26 19 (some q25)) q27 100 120) a28 20 (some q27)) q29 100 8) a30 25 (some q29)) q31 100 8) a32 26 (some q31)) q33 100 8) a34 27 (some q33)) q35 100 8) a36 28 (some q35)) q37 102 8) a38 29 (some q37)) q39 100 8) a40 30 (some q39)) q41 100 8) a42 31 (some q41)) q43 100 8) a44 32 (some q43)) q45 100 8) a46 33 (some q45)) q47 100 8) a48 34 (some q47)) q49 100 32) a50 35 (some q49)) q51 100 2000) a52 37 (some q51)) q53 100 2400) (some o) 13 (fun a54 => ∀ q55 : Nat, q55 ∉ q_L (q_sR (q_nw (q_sR (q_nw (q_sR (q_nw (q_sR (q_nw (q_sR (q_nw (q_sR (q_nw (q_sR (q_nw (q_sR (q_nw (q_sR (q_nw (q_sR (q_nw (q_sR (q_nw (q_sR (q_nw (q_sR (q_nw (q_sR (q_nw (q_sR (q_nw (q_sR (q_nw (q_sR (q_nw (q_sR (q_nw (q_sR (q_nw (q_sR (q_nw (q_sR (q_nw (q_sR (q_nw (q_sR (q_nw (q_sR (q_nw (q_sR (q_nw (q_sR (q_nw (q_sR (q_nw (S) q1 100 1600) a2 1 (some q1)) q3 101 24) a4 4 (some q3)) q5 101 24) a6 5 (some q5)) q7 100 24) a8 6 (some q7)) q9 100 24) a10 7 (some q9)) q11 102 200) a12 9 (some q11)) q13 102 200) a14 10 (some q13)) q15 100 100) a16 12 (some q15)) q17 100 100) a18 13 (some q17)) q19 100 120) a20 15 (some q19)) q21 100 120) a22 16 (some q21)) q23 102 120) a24 17 (some q23)) q25 100 400) a26 19 (some q25)) q27 100 120) a28 20 (some q27)) q29 100 8) a30 25 (some q29)) q31 100 8) a32 26 (some q31)) q33 100 8) a34 27 (some q33)) q35 100 8) a36 28 (some q35)) q37 102 8) a38 29 (some q37)) q39 100 8) a40 30 (some q39)) q41 100 8) a42 31 (some q41)) q43 100 8) a44 32 (some q43)) q45 100 8) a46 33 (some q45)) q47 100 8) a48 34 (some q47)) q49 100 32) a50 35 (some q49)) q51 100 2000) a52 37 (some q51)) q53 100 2400) a54 39 (some q53)) → (q_aP (q_nw (q_sR (q_nw (q_sR (q_nw (q_sR (q_nw (q_sR (q_nw (q_sR (q_nw (q_sR (q_nw (q_sR (q_nw (q_sR (q_nw (q_sR (q_nw (q_sR (q_nw (q_sR (q_nw (q_sR (q_nw (q_sR (q_nw (q_sR (q_nw (q_sR (q_nw (q_sR (q_nw (q_sR (q_nw (q_sR (q_nw (q_sR (q_nw (q_sR (q_nw (q_sR (q_nw (q_sR (q_nw (q_sR (q_nw (q_sR (q_nw (q_sR (q_nw (q_sR (q_nw (q_sR (q_nw (S) q1 100 1600) a2 1 (some q1)) q3 101 24) a4 4 (some q3)) q5 101 24) a6 5 (some q5)) q7 100 24) a8 6 (some q7)) q9 100 24) a10 7 (some q9)) q11 102 200) a12 9 (some q11)) q13 102 200) a14 10 (some q13)) q15 100 100) a16 12 (some q15)) q17 100 100) a18 13 (some q17)) q19 100 120) a20 15 (some q19)) q21 100 120) a22 16 (some q21)) q23 102 120) a24 17 (some q23)) q25 100 400) a26 19 (some q25)) q27 100 120) a28 20 (some q27)) q29 100 8) a30 25 (some q29)) q31 100 8) a32 26 (some q31)) q33 100 8) a34 27 (some q33)) q35 100 8) a36 28 (some q35)) q37 102 8) a38 29 (some q37)) q39 100 8) a40 30 (some q39)) q41 100 8) a42 31 (some q41)) q43 100 8) a44 32 (some q43)) q45 100 8) a46 33 (some q45)) q47 100 8) a48 34 (some q47)) q49 100 32) a50 35 (some q49)) q51 100 2000) a52 37 (some q51)) q53 100 2400) a54 39 (some q53)) q55 100 24) (some o) 13 (fun a56 => Post (q_sR (q_nw (q_sR (q_nw (q_sR (q_nw (q_sR (q_nw (q_sR (q_nw (q_sR (q_nw (q_sR (q_nw (q_sR (q_nw (q_sR (q_nw (q_sR (q_nw (q_sR (q_nw (q_sR (q_nw (q_sR (q_nw (q_sR (q_nw (q_sR (q_nw (q_sR (q_nw (q_sR (q_nw (q_sR (q_nw (q_sR (q_nw (q_sR (q_nw (q_sR (q_nw (q_sR (q_nw (q_sR (q_nw (q_sR (q_nw (q_sR (q_nw (q_sR (q_nw (q_sR (q_nw (q_sR (q_nw (S) q1 100 1600) a2 1 (some q1)) q3 101 24) a4 4 (some q3)) q5 101 24) a6 5 (some q5)) q7 100 24) a8 6 (some q7)) q9 100 24) a10 7 (some q9)) q11 102 200) a12 9 (some q11)) q13 102 200) a14 10 (some q13)) q15 100 100) a16 12 (some q15)) q17 100 100) a18 13 (some q17)) q19 100 120) a20 15 (some q19)) q21 100 120) a22 16 (some q21)) q23 102 120) a24 17 (some q23)) q25 100 400) a26 19 (some q25)) q27 100 120) a28 20 (some q27)) q29 100 8) a30 25 (some q29)) q31 100 8) a32 26 (some q31)) q33 100 8) a34 27 (some q33)) q35 100 8) a36 28 (some q35)) q37 102 8) a38 29 (some q37)) q39 100 8) a40 30 (some q39)) q41 100 8) a42 31 (some q41)) q43 100 8) a44 32 (some q43)) q45 100 8) a46 33 (some q45)) q47 100 8) a48 34 (some q47)) q49 100 32) a50 35 (some q49)) q51 100 2000) a52 37 (some q51)) q53 100 2400) a54 39 (some q53)) q55 100 24) a56 40 (some q55))))))))))))))))))))))))))))))))))))))))))))))))))))))))))
set_option maxHeartbeats 4000000 in
set_option maxRecDepth 100000 in
theorem wi_X12_init (X : q_X p s m args c cX12_init 1 RX12 q_T D cy A) (hr : meth.sig.returnType = none) (hl : meth.locks = false) (hin : meth.name = "<init>") {S : q_S} {o : Nat}  {Post : q_S → Prop} (h : i_X12_init S o Post) : q_W p l e ({ frames := 1, cells := 28, slots := 7712, locals := 20 } : Room) s m args below meth c (MQ below (va_Qv Post (q_B D cy A) A) args s 28 7712 A) A D cy 1 0 0 S 0 [(0, va_rf (some o))] [] := by
  unfold i_X12_init at h
  refine q_aload_n X 0 rfl dX12_init_0 ?_
  refine q_objI X rfl tO_X12_1 tO_i tO_c (Nat.le_of_ble_eq_true rfl) (Nat.le_of_ble_eq_true rfl) dX12_init_1 ?_
  refine q_aload_n X 0 rfl dX12_init_4 ?_
  refine q_sipush X (1600) (by decide) dX12_init_5 ?_
  refine q_rnewa100 X 1600 tA_int (by decide) (by decide) (Nat.le_of_ble_eq_true rfl) (Nat.le_of_ble_eq_true rfl) (Nat.le_of_ble_eq_true rfl) dX12_init_8 (fun q1 fq1 => ?_)
  have h := h q1 fq1
  obtain ⟨a2, ea2, ma2, ka2, h⟩ := h
  refine q_putF X 1 ea2 ma2 ka2 rfl tW_X12 (by decide) (by decide) tF_X12_7 tyX12 tyX12_ok nmX12 rfl hin rfl (tyX12_ok 1 (by decide)) (q_nRa _ _) (q_fRa _ _) rfl dX12_init_10 ?_
  have ma2 : a2 ∈ q_L (q_sR (q_nw (S) q1 100 1600) a2 1 (some q1)) := q_LsR ma2
  have ka2 : q_K (q_sR (q_nw (S) q1 100 1600) a2 1 (some q1)) a2 = 13 := q_KsR ka2
  refine q_aload_n X 0 rfl dX12_init_13 ?_
  refine q_bipush X (24) (by decide) dX12_init_14 ?_
  refine q_rnewa101 X 24 tA_long (by decide) (by decide) (Nat.le_of_ble_eq_true rfl) (Nat.le_of_ble_eq_true rfl) (Nat.le_of_ble_eq_true rfl) dX12_init_16 (fun q3 fq3 => ?_)
  have h := h q3 fq3
  obtain ⟨a4, ea4, ma4, ka4, h⟩ := h
  refine q_putF X 4 ea4 ma4 ka4 rfl tW_X12 (by decide) (by decide) tF_X12_13 tyX12 tyX12_ok nmX12 rfl hin rfl (tyX12_ok 4 (by decide)) (q_nRa _ _) (q_fRa _ _) rfl dX12_init_18 ?_
  have ma4 : a4 ∈ q_L (q_sR (q_nw (q_sR (q_nw (S) q1 100 1600) a2 1 (some q1)) q3 101 24) a4 4 (some q3)) := q_LsR ma4
  have ka4 : q_K (q_sR (q_nw (q_sR (q_nw (S) q1 100 1600) a2 1 (some q1)) q3 101 24) a4 4 (some q3)) a4 = 13 := q_KsR ka4
  refine q_aload_n X 0 rfl dX12_init_21 ?_
  refine q_bipush X (24) (by decide) dX12_init_22 ?_
  refine q_rnewa101 X 24 tA_long (by decide) (by decide) (Nat.le_of_ble_eq_true rfl) (Nat.le_of_ble_eq_true rfl) (Nat.le_of_ble_eq_true rfl) dX12_init_24 (fun q5 fq5 => ?_)
  have h := h q5 fq5
  obtain ⟨a6, ea6, ma6, ka6, h⟩ := h
  refine q_putF X 5 ea6 ma6 ka6 rfl tW_X12 (by decide) (by decide) tF_X12_17 tyX12 tyX12_ok nmX12 rfl hin rfl (tyX12_ok 5 (by decide)) (q_nRa _ _) (q_fRa _ _) rfl dX12_init_26 ?_
  have ma6 : a6 ∈ q_L (q_sR (q_nw (q_sR (q_nw (q_sR (q_nw (S) q1 100 1600) a2 1 (some q1)) q3 101 24) a4 4 (some q3)) q5 101 24) a6 5 (some q5)) := q_LsR ma6
  have ka6 : q_K (q_sR (q_nw (q_sR (q_nw (q_sR (q_nw (S) q1 100 1600) a2 1 (some q1)) q3 101 24) a4 4 (some q3)) q5 101 24) a6 5 (some q5)) a6 = 13 := q_KsR ka6
  refine q_aload_n X 0 rfl dX12_init_29 ?_
  refine q_bipush X (24) (by decide) dX12_init_30 ?_
  refine q_rnewa100 X 24 tA_int (by decide) (by decide) (Nat.le_of_ble_eq_true rfl) (Nat.le_of_ble_eq_true rfl) (Nat.le_of_ble_eq_true rfl) dX12_init_32 (fun q7 fq7 => ?_)
  have h := h q7 fq7
  obtain ⟨a8, ea8, ma8, ka8, h⟩ := h
  refine q_putF X 6 ea8 ma8 ka8 rfl tW_X12 (by decide) (by decide) tF_X12_20 tyX12 tyX12_ok nmX12 rfl hin rfl (tyX12_ok 6 (by decide)) (q_nRa _ _) (q_fRa _ _) rfl dX12_init_34 ?_
  have ma8 : a8 ∈ q_L (q_sR (q_nw (q_sR (q_nw (q_sR (q_nw (q_sR (q_nw (S) q1 100 1600) a2 1 (some q1)) q3 101 24) a4 4 (some q3)) q5 101 24) a6 5 (some q5)) q7 100 24) a8 6 (some q7)) := q_LsR ma8
  have ka8 : q_K (q_sR (q_nw (q_sR (q_nw (q_sR (q_nw (q_sR (q_nw (S) q1 100 1600) a2 1 (some q1)) q3 101 24) a4 4 (some q3)) q5 101 24) a6 5 (some q5)) q7 100 24) a8 6 (some q7)) a8 = 13 := q_KsR ka8
  refine q_aload_n X 0 rfl dX12_init_37 ?_
  refine q_bipush X (24) (by decide) dX12_init_38 ?_
  refine q_rnewa100 X 24 tA_int (by decide) (by decide) (Nat.le_of_ble_eq_true rfl) (Nat.le_of_ble_eq_true rfl) (Nat.le_of_ble_eq_true rfl) dX12_init_40 (fun q9 fq9 => ?_)
  have h := h q9 fq9
  obtain ⟨a10, ea10, ma10, ka10, h⟩ := h
  refine q_putF X 7 ea10 ma10 ka10 rfl tW_X12 (by decide) (by decide) tF_X12_23 tyX12 tyX12_ok nmX12 rfl hin rfl (tyX12_ok 7 (by decide)) (q_nRa _ _) (q_fRa _ _) rfl dX12_init_42 ?_
  have ma10 : a10 ∈ q_L (q_sR (q_nw (q_sR (q_nw (q_sR (q_nw (q_sR (q_nw (q_sR (q_nw (S) q1 100 1600) a2 1 (some q1)) q3 101 24) a4 4 (some q3)) q5 101 24) a6 5 (some q5)) q7 100 24) a8 6 (some q7)) q9 100 24) a10 7 (some q9)) := q_LsR ma10
  have ka10 : q_K (q_sR (q_nw (q_sR (q_nw (q_sR (q_nw (q_sR (q_nw (q_sR (q_nw (S) q1 100 1600) a2 1 (some q1)) q3 101 24) a4 4 (some q3)) q5 101 24) a6 5 (some q5)) q7 100 24) a8 6 (some q7)) q9 100 24) a10 7 (some q9)) a10 = 13 := q_KsR ka10
  refine q_aload_n X 0 rfl dX12_init_45 ?_
  refine q_sipush X (200) (by decide) dX12_init_46 ?_
  refine q_rnewa102 X 200 tA_boolean (by decide) (by decide) (Nat.le_of_ble_eq_true rfl) (Nat.le_of_ble_eq_true rfl) (Nat.le_of_ble_eq_true rfl) dX12_init_49 (fun q11 fq11 => ?_)
  have h := h q11 fq11
  obtain ⟨a12, ea12, ma12, ka12, h⟩ := h
  refine q_putF X 9 ea12 ma12 ka12 rfl tW_X12 (by decide) (by decide) tF_X12_26 tyX12 tyX12_ok nmX12 rfl hin rfl (tyX12_ok 9 (by decide)) (q_nRa _ _) (q_fRa _ _) rfl dX12_init_51 ?_
  have ma12 : a12 ∈ q_L (q_sR (q_nw (q_sR (q_nw (q_sR (q_nw (q_sR (q_nw (q_sR (q_nw (q_sR (q_nw (S) q1 100 1600) a2 1 (some q1)) q3 101 24) a4 4 (some q3)) q5 101 24) a6 5 (some q5)) q7 100 24) a8 6 (some q7)) q9 100 24) a10 7 (some q9)) q11 102 200) a12 9 (some q11)) := q_LsR ma12
  have ka12 : q_K (q_sR (q_nw (q_sR (q_nw (q_sR (q_nw (q_sR (q_nw (q_sR (q_nw (q_sR (q_nw (S) q1 100 1600) a2 1 (some q1)) q3 101 24) a4 4 (some q3)) q5 101 24) a6 5 (some q5)) q7 100 24) a8 6 (some q7)) q9 100 24) a10 7 (some q9)) q11 102 200) a12 9 (some q11)) a12 = 13 := q_KsR ka12
  refine q_aload_n X 0 rfl dX12_init_54 ?_
  refine q_sipush X (200) (by decide) dX12_init_55 ?_
  refine q_rnewa102 X 200 tA_boolean (by decide) (by decide) (Nat.le_of_ble_eq_true rfl) (Nat.le_of_ble_eq_true rfl) (Nat.le_of_ble_eq_true rfl) dX12_init_58 (fun q13 fq13 => ?_)
  have h := h q13 fq13
  obtain ⟨a14, ea14, ma14, ka14, h⟩ := h
  refine q_putF X 10 ea14 ma14 ka14 rfl tW_X12 (by decide) (by decide) tF_X12_30 tyX12 tyX12_ok nmX12 rfl hin rfl (tyX12_ok 10 (by decide)) (q_nRa _ _) (q_fRa _ _) rfl dX12_init_60 ?_
  have ma14 : a14 ∈ q_L (q_sR (q_nw (q_sR (q_nw (q_sR (q_nw (q_sR (q_nw (q_sR (q_nw (q_sR (q_nw (q_sR (q_nw (S) q1 100 1600) a2 1 (some q1)) q3 101 24) a4 4 (some q3)) q5 101 24) a6 5 (some q5)) q7 100 24) a8 6 (some q7)) q9 100 24) a10 7 (some q9)) q11 102 200) a12 9 (some q11)) q13 102 200) a14 10 (some q13)) := q_LsR ma14
  have ka14 : q_K (q_sR (q_nw (q_sR (q_nw (q_sR (q_nw (q_sR (q_nw (q_sR (q_nw (q_sR (q_nw (q_sR (q_nw (S) q1 100 1600) a2 1 (some q1)) q3 101 24) a4 4 (some q3)) q5 101 24) a6 5 (some q5)) q7 100 24) a8 6 (some q7)) q9 100 24) a10 7 (some q9)) q11 102 200) a12 9 (some q11)) q13 102 200) a14 10 (some q13)) a14 = 13 := q_KsR ka14
  refine q_aload_n X 0 rfl dX12_init_63 ?_
  refine q_bipush X (100) (by decide) dX12_init_64 ?_
  refine q_rnewa100 X 100 tA_int (by decide) (by decide) (Nat.le_of_ble_eq_true rfl) (Nat.le_of_ble_eq_true rfl) (Nat.le_of_ble_eq_true rfl) dX12_init_66 (fun q15 fq15 => ?_)
  have h := h q15 fq15
  obtain ⟨a16, ea16, ma16, ka16, h⟩ := h
  refine q_putF X 12 ea16 ma16 ka16 rfl tW_X12 (by decide) (by decide) tF_X12_33 tyX12 tyX12_ok nmX12 rfl hin rfl (tyX12_ok 12 (by decide)) (q_nRa _ _) (q_fRa _ _) rfl dX12_init_68 ?_
  have ma16 : a16 ∈ q_L (q_sR (q_nw (q_sR (q_nw (q_sR (q_nw (q_sR (q_nw (q_sR (q_nw (q_sR (q_nw (q_sR (q_nw (q_sR (q_nw (S) q1 100 1600) a2 1 (some q1)) q3 101 24) a4 4 (some q3)) q5 101 24) a6 5 (some q5)) q7 100 24) a8 6 (some q7)) q9 100 24) a10 7 (some q9)) q11 102 200) a12 9 (some q11)) q13 102 200) a14 10 (some q13)) q15 100 100) a16 12 (some q15)) := q_LsR ma16
  have ka16 : q_K (q_sR (q_nw (q_sR (q_nw (q_sR (q_nw (q_sR (q_nw (q_sR (q_nw (q_sR (q_nw (q_sR (q_nw (q_sR (q_nw (S) q1 100 1600) a2 1 (some q1)) q3 101 24) a4 4 (some q3)) q5 101 24) a6 5 (some q5)) q7 100 24) a8 6 (some q7)) q9 100 24) a10 7 (some q9)) q11 102 200) a12 9 (some q11)) q13 102 200) a14 10 (some q13)) q15 100 100) a16 12 (some q15)) a16 = 13 := q_KsR ka16
  refine q_aload_n X 0 rfl dX12_init_71 ?_
  refine q_bipush X (100) (by decide) dX12_init_72 ?_
  refine q_rnewa100 X 100 tA_int (by decide) (by decide) (Nat.le_of_ble_eq_true rfl) (Nat.le_of_ble_eq_true rfl) (Nat.le_of_ble_eq_true rfl) dX12_init_74 (fun q17 fq17 => ?_)
  have h := h q17 fq17
  obtain ⟨a18, ea18, ma18, ka18, h⟩ := h
  refine q_putF X 13 ea18 ma18 ka18 rfl tW_X12 (by decide) (by decide) tF_X12_36 tyX12 tyX12_ok nmX12 rfl hin rfl (tyX12_ok 13 (by decide)) (q_nRa _ _) (q_fRa _ _) rfl dX12_init_76 ?_
  have ma18 : a18 ∈ q_L (q_sR (q_nw (q_sR (q_nw (q_sR (q_nw (q_sR (q_nw (q_sR (q_nw (q_sR (q_nw (q_sR (q_nw (q_sR (q_nw (q_sR (q_nw (S) q1 100 1600) a2 1 (some q1)) q3 101 24) a4 4 (some q3)) q5 101 24) a6 5 (some q5)) q7 100 24) a8 6 (some q7)) q9 100 24) a10 7 (some q9)) q11 102 200) a12 9 (some q11)) q13 102 200) a14 10 (some q13)) q15 100 100) a16 12 (some q15)) q17 100 100) a18 13 (some q17)) := q_LsR ma18
  have ka18 : q_K (q_sR (q_nw (q_sR (q_nw (q_sR (q_nw (q_sR (q_nw (q_sR (q_nw (q_sR (q_nw (q_sR (q_nw (q_sR (q_nw (q_sR (q_nw (S) q1 100 1600) a2 1 (some q1)) q3 101 24) a4 4 (some q3)) q5 101 24) a6 5 (some q5)) q7 100 24) a8 6 (some q7)) q9 100 24) a10 7 (some q9)) q11 102 200) a12 9 (some q11)) q13 102 200) a14 10 (some q13)) q15 100 100) a16 12 (some q15)) q17 100 100) a18 13 (some q17)) a18 = 13 := q_KsR ka18
  refine q_aload_n X 0 rfl dX12_init_79 ?_
  refine q_bipush X (120) (by decide) dX12_init_80 ?_
  refine q_rnewa100 X 120 tA_int (by decide) (by decide) (Nat.le_of_ble_eq_true rfl) (Nat.le_of_ble_eq_true rfl) (Nat.le_of_ble_eq_true rfl) dX12_init_82 (fun q19 fq19 => ?_)
  have h := h q19 fq19
  obtain ⟨a20, ea20, ma20, ka20, h⟩ := h
  refine q_putF X 15 ea20 ma20 ka20 rfl tW_X12 (by decide) (by decide) tF_X12_39 tyX12 tyX12_ok nmX12 rfl hin rfl (tyX12_ok 15 (by decide)) (q_nRa _ _) (q_fRa _ _) rfl dX12_init_84 ?_
  have ma20 : a20 ∈ q_L (q_sR (q_nw (q_sR (q_nw (q_sR (q_nw (q_sR (q_nw (q_sR (q_nw (q_sR (q_nw (q_sR (q_nw (q_sR (q_nw (q_sR (q_nw (q_sR (q_nw (S) q1 100 1600) a2 1 (some q1)) q3 101 24) a4 4 (some q3)) q5 101 24) a6 5 (some q5)) q7 100 24) a8 6 (some q7)) q9 100 24) a10 7 (some q9)) q11 102 200) a12 9 (some q11)) q13 102 200) a14 10 (some q13)) q15 100 100) a16 12 (some q15)) q17 100 100) a18 13 (some q17)) q19 100 120) a20 15 (some q19)) := q_LsR ma20
  have ka20 : q_K (q_sR (q_nw (q_sR (q_nw (q_sR (q_nw (q_sR (q_nw (q_sR (q_nw (q_sR (q_nw (q_sR (q_nw (q_sR (q_nw (q_sR (q_nw (q_sR (q_nw (S) q1 100 1600) a2 1 (some q1)) q3 101 24) a4 4 (some q3)) q5 101 24) a6 5 (some q5)) q7 100 24) a8 6 (some q7)) q9 100 24) a10 7 (some q9)) q11 102 200) a12 9 (some q11)) q13 102 200) a14 10 (some q13)) q15 100 100) a16 12 (some q15)) q17 100 100) a18 13 (some q17)) q19 100 120) a20 15 (some q19)) a20 = 13 := q_KsR ka20
  refine q_aload_n X 0 rfl dX12_init_87 ?_
  refine q_bipush X (120) (by decide) dX12_init_88 ?_
  refine q_rnewa100 X 120 tA_int (by decide) (by decide) (Nat.le_of_ble_eq_true rfl) (Nat.le_of_ble_eq_true rfl) (Nat.le_of_ble_eq_true rfl) dX12_init_90 (fun q21 fq21 => ?_)
  have h := h q21 fq21
  obtain ⟨a22, ea22, ma22, ka22, h⟩ := h
  refine q_putF X 16 ea22 ma22 ka22 rfl tW_X12 (by decide) (by decide) tF_X12_42 tyX12 tyX12_ok nmX12 rfl hin rfl (tyX12_ok 16 (by decide)) (q_nRa _ _) (q_fRa _ _) rfl dX12_init_92 ?_
  have ma22 : a22 ∈ q_L (q_sR (q_nw (q_sR (q_nw (q_sR (q_nw (q_sR (q_nw (q_sR (q_nw (q_sR (q_nw (q_sR (q_nw (q_sR (q_nw (q_sR (q_nw (q_sR (q_nw (q_sR (q_nw (S) q1 100 1600) a2 1 (some q1)) q3 101 24) a4 4 (some q3)) q5 101 24) a6 5 (some q5)) q7 100 24) a8 6 (some q7)) q9 100 24) a10 7 (some q9)) q11 102 200) a12 9 (some q11)) q13 102 200) a14 10 (some q13)) q15 100 100) a16 12 (some q15)) q17 100 100) a18 13 (some q17)) q19 100 120) a20 15 (some q19)) q21 100 120) a22 16 (some q21)) := q_LsR ma22
  have ka22 : q_K (q_sR (q_nw (q_sR (q_nw (q_sR (q_nw (q_sR (q_nw (q_sR (q_nw (q_sR (q_nw (q_sR (q_nw (q_sR (q_nw (q_sR (q_nw (q_sR (q_nw (q_sR (q_nw (S) q1 100 1600) a2 1 (some q1)) q3 101 24) a4 4 (some q3)) q5 101 24) a6 5 (some q5)) q7 100 24) a8 6 (some q7)) q9 100 24) a10 7 (some q9)) q11 102 200) a12 9 (some q11)) q13 102 200) a14 10 (some q13)) q15 100 100) a16 12 (some q15)) q17 100 100) a18 13 (some q17)) q19 100 120) a20 15 (some q19)) q21 100 120) a22 16 (some q21)) a22 = 13 := q_KsR ka22
  refine q_aload_n X 0 rfl dX12_init_95 ?_
  refine q_bipush X (120) (by decide) dX12_init_96 ?_
  refine q_rnewa102 X 120 tA_boolean (by decide) (by decide) (Nat.le_of_ble_eq_true rfl) (Nat.le_of_ble_eq_true rfl) (Nat.le_of_ble_eq_true rfl) dX12_init_98 (fun q23 fq23 => ?_)
  have h := h q23 fq23
  obtain ⟨a24, ea24, ma24, ka24, h⟩ := h
  refine q_putF X 17 ea24 ma24 ka24 rfl tW_X12 (by decide) (by decide) tF_X12_45 tyX12 tyX12_ok nmX12 rfl hin rfl (tyX12_ok 17 (by decide)) (q_nRa _ _) (q_fRa _ _) rfl dX12_init_100 ?_
  have ma24 : a24 ∈ q_L (q_sR (q_nw (q_sR (q_nw (q_sR (q_nw (q_sR (q_nw (q_sR (q_nw (q_sR (q_nw (q_sR (q_nw (q_sR (q_nw (q_sR (q_nw (q_sR (q_nw (q_sR (q_nw (q_sR (q_nw (S) q1 100 1600) a2 1 (some q1)) q3 101 24) a4 4 (some q3)) q5 101 24) a6 5 (some q5)) q7 100 24) a8 6 (some q7)) q9 100 24) a10 7 (some q9)) q11 102 200) a12 9 (some q11)) q13 102 200) a14 10 (some q13)) q15 100 100) a16 12 (some q15)) q17 100 100) a18 13 (some q17)) q19 100 120) a20 15 (some q19)) q21 100 120) a22 16 (some q21)) q23 102 120) a24 17 (some q23)) := q_LsR ma24
  have ka24 : q_K (q_sR (q_nw (q_sR (q_nw (q_sR (q_nw (q_sR (q_nw (q_sR (q_nw (q_sR (q_nw (q_sR (q_nw (q_sR (q_nw (q_sR (q_nw (q_sR (q_nw (q_sR (q_nw (q_sR (q_nw (S) q1 100 1600) a2 1 (some q1)) q3 101 24) a4 4 (some q3)) q5 101 24) a6 5 (some q5)) q7 100 24) a8 6 (some q7)) q9 100 24) a10 7 (some q9)) q11 102 200) a12 9 (some q11)) q13 102 200) a14 10 (some q13)) q15 100 100) a16 12 (some q15)) q17 100 100) a18 13 (some q17)) q19 100 120) a20 15 (some q19)) q21 100 120) a22 16 (some q21)) q23 102 120) a24 17 (some q23)) a24 = 13 := q_KsR ka24
  refine q_aload_n X 0 rfl dX12_init_103 ?_
  refine q_sipush X (400) (by decide) dX12_init_104 ?_
  refine q_rnewa100 X 400 tA_int (by decide) (by decide) (Nat.le_of_ble_eq_true rfl) (Nat.le_of_ble_eq_true rfl) (Nat.le_of_ble_eq_true rfl) dX12_init_107 (fun q25 fq25 => ?_)
  have h := h q25 fq25
  obtain ⟨a26, ea26, ma26, ka26, h⟩ := h
  refine q_putF X 19 ea26 ma26 ka26 rfl tW_X12 (by decide) (by decide) tF_X12_48 tyX12 tyX12_ok nmX12 rfl hin rfl (tyX12_ok 19 (by decide)) (q_nRa _ _) (q_fRa _ _) rfl dX12_init_109 ?_
  have ma26 : a26 ∈ q_L (q_sR (q_nw (q_sR (q_nw (q_sR (q_nw (q_sR (q_nw (q_sR (q_nw (q_sR (q_nw (q_sR (q_nw (q_sR (q_nw (q_sR (q_nw (q_sR (q_nw (q_sR (q_nw (q_sR (q_nw (q_sR (q_nw (S) q1 100 1600) a2 1 (some q1)) q3 101 24) a4 4 (some q3)) q5 101 24) a6 5 (some q5)) q7 100 24) a8 6 (some q7)) q9 100 24) a10 7 (some q9)) q11 102 200) a12 9 (some q11)) q13 102 200) a14 10 (some q13)) q15 100 100) a16 12 (some q15)) q17 100 100) a18 13 (some q17)) q19 100 120) a20 15 (some q19)) q21 100 120) a22 16 (some q21)) q23 102 120) a24 17 (some q23)) q25 100 400) a26 19 (some q25)) := q_LsR ma26
  have ka26 : q_K (q_sR (q_nw (q_sR (q_nw (q_sR (q_nw (q_sR (q_nw (q_sR (q_nw (q_sR (q_nw (q_sR (q_nw (q_sR (q_nw (q_sR (q_nw (q_sR (q_nw (q_sR (q_nw (q_sR (q_nw (q_sR (q_nw (S) q1 100 1600) a2 1 (some q1)) q3 101 24) a4 4 (some q3)) q5 101 24) a6 5 (some q5)) q7 100 24) a8 6 (some q7)) q9 100 24) a10 7 (some q9)) q11 102 200) a12 9 (some q11)) q13 102 200) a14 10 (some q13)) q15 100 100) a16 12 (some q15)) q17 100 100) a18 13 (some q17)) q19 100 120) a20 15 (some q19)) q21 100 120) a22 16 (some q21)) q23 102 120) a24 17 (some q23)) q25 100 400) a26 19 (some q25)) a26 = 13 := q_KsR ka26
  refine q_aload_n X 0 rfl dX12_init_112 ?_
  refine q_bipush X (120) (by decide) dX12_init_113 ?_
  refine q_rnewa100 X 120 tA_int (by decide) (by decide) (Nat.le_of_ble_eq_true rfl) (Nat.le_of_ble_eq_true rfl) (Nat.le_of_ble_eq_true rfl) dX12_init_115 (fun q27 fq27 => ?_)
  have h := h q27 fq27
  obtain ⟨a28, ea28, ma28, ka28, h⟩ := h
  refine q_putF X 20 ea28 ma28 ka28 rfl tW_X12 (by decide) (by decide) tF_X12_51 tyX12 tyX12_ok nmX12 rfl hin rfl (tyX12_ok 20 (by decide)) (q_nRa _ _) (q_fRa _ _) rfl dX12_init_117 ?_
  have ma28 : a28 ∈ q_L (q_sR (q_nw (q_sR (q_nw (q_sR (q_nw (q_sR (q_nw (q_sR (q_nw (q_sR (q_nw (q_sR (q_nw (q_sR (q_nw (q_sR (q_nw (q_sR (q_nw (q_sR (q_nw (q_sR (q_nw (q_sR (q_nw (q_sR (q_nw (S) q1 100 1600) a2 1 (some q1)) q3 101 24) a4 4 (some q3)) q5 101 24) a6 5 (some q5)) q7 100 24) a8 6 (some q7)) q9 100 24) a10 7 (some q9)) q11 102 200) a12 9 (some q11)) q13 102 200) a14 10 (some q13)) q15 100 100) a16 12 (some q15)) q17 100 100) a18 13 (some q17)) q19 100 120) a20 15 (some q19)) q21 100 120) a22 16 (some q21)) q23 102 120) a24 17 (some q23)) q25 100 400) a26 19 (some q25)) q27 100 120) a28 20 (some q27)) := q_LsR ma28
  have ka28 : q_K (q_sR (q_nw (q_sR (q_nw (q_sR (q_nw (q_sR (q_nw (q_sR (q_nw (q_sR (q_nw (q_sR (q_nw (q_sR (q_nw (q_sR (q_nw (q_sR (q_nw (q_sR (q_nw (q_sR (q_nw (q_sR (q_nw (q_sR (q_nw (S) q1 100 1600) a2 1 (some q1)) q3 101 24) a4 4 (some q3)) q5 101 24) a6 5 (some q5)) q7 100 24) a8 6 (some q7)) q9 100 24) a10 7 (some q9)) q11 102 200) a12 9 (some q11)) q13 102 200) a14 10 (some q13)) q15 100 100) a16 12 (some q15)) q17 100 100) a18 13 (some q17)) q19 100 120) a20 15 (some q19)) q21 100 120) a22 16 (some q21)) q23 102 120) a24 17 (some q23)) q25 100 400) a26 19 (some q25)) q27 100 120) a28 20 (some q27)) a28 = 13 := q_KsR ka28
  refine q_aload_n X 0 rfl dX12_init_120 ?_
  refine q_bipush X (8) (by decide) dX12_init_121 ?_
  refine q_rnewa100 X 8 tA_int (by decide) (by decide) (Nat.le_of_ble_eq_true rfl) (Nat.le_of_ble_eq_true rfl) (Nat.le_of_ble_eq_true rfl) dX12_init_123 (fun q29 fq29 => ?_)
  have h := h q29 fq29
  obtain ⟨a30, ea30, ma30, ka30, h⟩ := h
  refine q_putF X 25 ea30 ma30 ka30 rfl tW_X12 (by decide) (by decide) tF_X12_54 tyX12 tyX12_ok nmX12 rfl hin rfl (tyX12_ok 25 (by decide)) (q_nRa _ _) (q_fRa _ _) rfl dX12_init_125 ?_
  have ma30 : a30 ∈ q_L (q_sR (q_nw (q_sR (q_nw (q_sR (q_nw (q_sR (q_nw (q_sR (q_nw (q_sR (q_nw (q_sR (q_nw (q_sR (q_nw (q_sR (q_nw (q_sR (q_nw (q_sR (q_nw (q_sR (q_nw (q_sR (q_nw (q_sR (q_nw (q_sR (q_nw (S) q1 100 1600) a2 1 (some q1)) q3 101 24) a4 4 (some q3)) q5 101 24) a6 5 (some q5)) q7 100 24) a8 6 (some q7)) q9 100 24) a10 7 (some q9)) q11 102 200) a12 9 (some q11)) q13 102 200) a14 10 (some q13)) q15 100 100) a16 12 (some q15)) q17 100 100) a18 13 (some q17)) q19 100 120) a20 15 (some q19)) q21 100 120) a22 16 (some q21)) q23 102 120) a24 17 (some q23)) q25 100 400) a26 19 (some q25)) q27 100 120) a28 20 (some q27)) q29 100 8) a30 25 (some q29)) := q_LsR ma30
  have ka30 : q_K (q_sR (q_nw (q_sR (q_nw (q_sR (q_nw (q_sR (q_nw (q_sR (q_nw (q_sR (q_nw (q_sR (q_nw (q_sR (q_nw (q_sR (q_nw (q_sR (q_nw (q_sR (q_nw (q_sR (q_nw (q_sR (q_nw (q_sR (q_nw (q_sR (q_nw (S) q1 100 1600) a2 1 (some q1)) q3 101 24) a4 4 (some q3)) q5 101 24) a6 5 (some q5)) q7 100 24) a8 6 (some q7)) q9 100 24) a10 7 (some q9)) q11 102 200) a12 9 (some q11)) q13 102 200) a14 10 (some q13)) q15 100 100) a16 12 (some q15)) q17 100 100) a18 13 (some q17)) q19 100 120) a20 15 (some q19)) q21 100 120) a22 16 (some q21)) q23 102 120) a24 17 (some q23)) q25 100 400) a26 19 (some q25)) q27 100 120) a28 20 (some q27)) q29 100 8) a30 25 (some q29)) a30 = 13 := q_KsR ka30
  refine q_aload_n X 0 rfl dX12_init_128 ?_
  refine q_bipush X (8) (by decide) dX12_init_129 ?_
  refine q_rnewa100 X 8 tA_int (by decide) (by decide) (Nat.le_of_ble_eq_true rfl) (Nat.le_of_ble_eq_true rfl) (Nat.le_of_ble_eq_true rfl) dX12_init_131 (fun q31 fq31 => ?_)
  have h := h q31 fq31
  obtain ⟨a32, ea32, ma32, ka32, h⟩ := h
  refine q_putF X 26 ea32 ma32 ka32 rfl tW_X12 (by decide) (by decide) tF_X12_57 tyX12 tyX12_ok nmX12 rfl hin rfl (tyX12_ok 26 (by decide)) (q_nRa _ _) (q_fRa _ _) rfl dX12_init_133 ?_
  have ma32 : a32 ∈ q_L (q_sR (q_nw (q_sR (q_nw (q_sR (q_nw (q_sR (q_nw (q_sR (q_nw (q_sR (q_nw (q_sR (q_nw (q_sR (q_nw (q_sR (q_nw (q_sR (q_nw (q_sR (q_nw (q_sR (q_nw (q_sR (q_nw (q_sR (q_nw (q_sR (q_nw (q_sR (q_nw (S) q1 100 1600) a2 1 (some q1)) q3 101 24) a4 4 (some q3)) q5 101 24) a6 5 (some q5)) q7 100 24) a8 6 (some q7)) q9 100 24) a10 7 (some q9)) q11 102 200) a12 9 (some q11)) q13 102 200) a14 10 (some q13)) q15 100 100) a16 12 (some q15)) q17 100 100) a18 13 (some q17)) q19 100 120) a20 15 (some q19)) q21 100 120) a22 16 (some q21)) q23 102 120) a24 17 (some q23)) q25 100 400) a26 19 (some q25)) q27 100 120) a28 20 (some q27)) q29 100 8) a30 25 (some q29)) q31 100 8) a32 26 (some q31)) := q_LsR ma32
  have ka32 : q_K (q_sR (q_nw (q_sR (q_nw (q_sR (q_nw (q_sR (q_nw (q_sR (q_nw (q_sR (q_nw (q_sR (q_nw (q_sR (q_nw (q_sR (q_nw (q_sR (q_nw (q_sR (q_nw (q_sR (q_nw (q_sR (q_nw (q_sR (q_nw (q_sR (q_nw (q_sR (q_nw (S) q1 100 1600) a2 1 (some q1)) q3 101 24) a4 4 (some q3)) q5 101 24) a6 5 (some q5)) q7 100 24) a8 6 (some q7)) q9 100 24) a10 7 (some q9)) q11 102 200) a12 9 (some q11)) q13 102 200) a14 10 (some q13)) q15 100 100) a16 12 (some q15)) q17 100 100) a18 13 (some q17)) q19 100 120) a20 15 (some q19)) q21 100 120) a22 16 (some q21)) q23 102 120) a24 17 (some q23)) q25 100 400) a26 19 (some q25)) q27 100 120) a28 20 (some q27)) q29 100 8) a30 25 (some q29)) q31 100 8) a32 26 (some q31)) a32 = 13 := q_KsR ka32
  refine q_aload_n X 0 rfl dX12_init_136 ?_
  refine q_bipush X (8) (by decide) dX12_init_137 ?_
  refine q_rnewa100 X 8 tA_int (by decide) (by decide) (Nat.le_of_ble_eq_true rfl) (Nat.le_of_ble_eq_true rfl) (Nat.le_of_ble_eq_true rfl) dX12_init_139 (fun q33 fq33 => ?_)
  have h := h q33 fq33
  obtain ⟨a34, ea34, ma34, ka34, h⟩ := h
  refine q_putF X 27 ea34 ma34 ka34 rfl tW_X12 (by decide) (by decide) tF_X12_60 tyX12 tyX12_ok nmX12 rfl hin rfl (tyX12_ok 27 (by decide)) (q_nRa _ _) (q_fRa _ _) rfl dX12_init_141 ?_
  have ma34 : a34 ∈ q_L (q_sR (q_nw (q_sR (q_nw (q_sR (q_nw (q_sR (q_nw (q_sR (q_nw (q_sR (q_nw (q_sR (q_nw (q_sR (q_nw (q_sR (q_nw (q_sR (q_nw (q_sR (q_nw (q_sR (q_nw (q_sR (q_nw (q_sR (q_nw (q_sR (q_nw (q_sR (q_nw (q_sR (q_nw (S) q1 100 1600) a2 1 (some q1)) q3 101 24) a4 4 (some q3)) q5 101 24) a6 5 (some q5)) q7 100 24) a8 6 (some q7)) q9 100 24) a10 7 (some q9)) q11 102 200) a12 9 (some q11)) q13 102 200) a14 10 (some q13)) q15 100 100) a16 12 (some q15)) q17 100 100) a18 13 (some q17)) q19 100 120) a20 15 (some q19)) q21 100 120) a22 16 (some q21)) q23 102 120) a24 17 (some q23)) q25 100 400) a26 19 (some q25)) q27 100 120) a28 20 (some q27)) q29 100 8) a30 25 (some q29)) q31 100 8) a32 26 (some q31)) q33 100 8) a34 27 (some q33)) := q_LsR ma34
  have ka34 : q_K (q_sR (q_nw (q_sR (q_nw (q_sR (q_nw (q_sR (q_nw (q_sR (q_nw (q_sR (q_nw (q_sR (q_nw (q_sR (q_nw (q_sR (q_nw (q_sR (q_nw (q_sR (q_nw (q_sR (q_nw (q_sR (q_nw (q_sR (q_nw (q_sR (q_nw (q_sR (q_nw (q_sR (q_nw (S) q1 100 1600) a2 1 (some q1)) q3 101 24) a4 4 (some q3)) q5 101 24) a6 5 (some q5)) q7 100 24) a8 6 (some q7)) q9 100 24) a10 7 (some q9)) q11 102 200) a12 9 (some q11)) q13 102 200) a14 10 (some q13)) q15 100 100) a16 12 (some q15)) q17 100 100) a18 13 (some q17)) q19 100 120) a20 15 (some q19)) q21 100 120) a22 16 (some q21)) q23 102 120) a24 17 (some q23)) q25 100 400) a26 19 (some q25)) q27 100 120) a28 20 (some q27)) q29 100 8) a30 25 (some q29)) q31 100 8) a32 26 (some q31)) q33 100 8) a34 27 (some q33)) a34 = 13 := q_KsR ka34
  refine q_aload_n X 0 rfl dX12_init_144 ?_
  refine q_bipush X (8) (by decide) dX12_init_145 ?_
  refine q_rnewa100 X 8 tA_int (by decide) (by decide) (Nat.le_of_ble_eq_true rfl) (Nat.le_of_ble_eq_true rfl) (Nat.le_of_ble_eq_true rfl) dX12_init_147 (fun q35 fq35 => ?_)
  have h := h q35 fq35
  obtain ⟨a36, ea36, ma36, ka36, h⟩ := h
  refine q_putF X 28 ea36 ma36 ka36 rfl tW_X12 (by decide) (by decide) tF_X12_63 tyX12 tyX12_ok nmX12 rfl hin rfl (tyX12_ok 28 (by decide)) (q_nRa _ _) (q_fRa _ _) rfl dX12_init_149 ?_
  have ma36 : a36 ∈ q_L (q_sR (q_nw (q_sR (q_nw (q_sR (q_nw (q_sR (q_nw (q_sR (q_nw (q_sR (q_nw (q_sR (q_nw (q_sR (q_nw (q_sR (q_nw (q_sR (q_nw (q_sR (q_nw (q_sR (q_nw (q_sR (q_nw (q_sR (q_nw (q_sR (q_nw (q_sR (q_nw (q_sR (q_nw (q_sR (q_nw (S) q1 100 1600) a2 1 (some q1)) q3 101 24) a4 4 (some q3)) q5 101 24) a6 5 (some q5)) q7 100 24) a8 6 (some q7)) q9 100 24) a10 7 (some q9)) q11 102 200) a12 9 (some q11)) q13 102 200) a14 10 (some q13)) q15 100 100) a16 12 (some q15)) q17 100 100) a18 13 (some q17)) q19 100 120) a20 15 (some q19)) q21 100 120) a22 16 (some q21)) q23 102 120) a24 17 (some q23)) q25 100 400) a26 19 (some q25)) q27 100 120) a28 20 (some q27)) q29 100 8) a30 25 (some q29)) q31 100 8) a32 26 (some q31)) q33 100 8) a34 27 (some q33)) q35 100 8) a36 28 (some q35)) := q_LsR ma36
  have ka36 : q_K (q_sR (q_nw (q_sR (q_nw (q_sR (q_nw (q_sR (q_nw (q_sR (q_nw (q_sR (q_nw (q_sR (q_nw (q_sR (q_nw (q_sR (q_nw (q_sR (q_nw (q_sR (q_nw (q_sR (q_nw (q_sR (q_nw (q_sR (q_nw (q_sR (q_nw (q_sR (q_nw (q_sR (q_nw (q_sR (q_nw (S) q1 100 1600) a2 1 (some q1)) q3 101 24) a4 4 (some q3)) q5 101 24) a6 5 (some q5)) q7 100 24) a8 6 (some q7)) q9 100 24) a10 7 (some q9)) q11 102 200) a12 9 (some q11)) q13 102 200) a14 10 (some q13)) q15 100 100) a16 12 (some q15)) q17 100 100) a18 13 (some q17)) q19 100 120) a20 15 (some q19)) q21 100 120) a22 16 (some q21)) q23 102 120) a24 17 (some q23)) q25 100 400) a26 19 (some q25)) q27 100 120) a28 20 (some q27)) q29 100 8) a30 25 (some q29)) q31 100 8) a32 26 (some q31)) q33 100 8) a34 27 (some q33)) q35 100 8) a36 28 (some q35)) a36 = 13 := q_KsR ka36
  refine q_aload_n X 0 rfl dX12_init_152 ?_
  refine q_bipush X (8) (by decide) dX12_init_153 ?_
  refine q_rnewa102 X 8 tA_boolean (by decide) (by decide) (Nat.le_of_ble_eq_true rfl) (Nat.le_of_ble_eq_true rfl) (Nat.le_of_ble_eq_true rfl) dX12_init_155 (fun q37 fq37 => ?_)
  have h := h q37 fq37
  obtain ⟨a38, ea38, ma38, ka38, h⟩ := h
  refine q_putF X 29 ea38 ma38 ka38 rfl tW_X12 (by decide) (by decide) tF_X12_66 tyX12 tyX12_ok nmX12 rfl hin rfl (tyX12_ok 29 (by decide)) (q_nRa _ _) (q_fRa _ _) rfl dX12_init_157 ?_
  have ma38 : a38 ∈ q_L (q_sR (q_nw (q_sR (q_nw (q_sR (q_nw (q_sR (q_nw (q_sR (q_nw (q_sR (q_nw (q_sR (q_nw (q_sR (q_nw (q_sR (q_nw (q_sR (q_nw (q_sR (q_nw (q_sR (q_nw (q_sR (q_nw (q_sR (q_nw (q_sR (q_nw (q_sR (q_nw (q_sR (q_nw (q_sR (q_nw (q_sR (q_nw (S) q1 100 1600) a2 1 (some q1)) q3 101 24) a4 4 (some q3)) q5 101 24) a6 5 (some q5)) q7 100 24) a8 6 (some q7)) q9 100 24) a10 7 (some q9)) q11 102 200) a12 9 (some q11)) q13 102 200) a14 10 (some q13)) q15 100 100) a16 12 (some q15)) q17 100 100) a18 13 (some q17)) q19 100 120) a20 15 (some q19)) q21 100 120) a22 16 (some q21)) q23 102 120) a24 17 (some q23)) q25 100 400) a26 19 (some q25)) q27 100 120) a28 20 (some q27)) q29 100 8) a30 25 (some q29)) q31 100 8) a32 26 (some q31)) q33 100 8) a34 27 (some q33)) q35 100 8) a36 28 (some q35)) q37 102 8) a38 29 (some q37)) := q_LsR ma38
  have ka38 : q_K (q_sR (q_nw (q_sR (q_nw (q_sR (q_nw (q_sR (q_nw (q_sR (q_nw (q_sR (q_nw (q_sR (q_nw (q_sR (q_nw (q_sR (q_nw (q_sR (q_nw (q_sR (q_nw (q_sR (q_nw (q_sR (q_nw (q_sR (q_nw (q_sR (q_nw (q_sR (q_nw (q_sR (q_nw (q_sR (q_nw (q_sR (q_nw (S) q1 100 1600) a2 1 (some q1)) q3 101 24) a4 4 (some q3)) q5 101 24) a6 5 (some q5)) q7 100 24) a8 6 (some q7)) q9 100 24) a10 7 (some q9)) q11 102 200) a12 9 (some q11)) q13 102 200) a14 10 (some q13)) q15 100 100) a16 12 (some q15)) q17 100 100) a18 13 (some q17)) q19 100 120) a20 15 (some q19)) q21 100 120) a22 16 (some q21)) q23 102 120) a24 17 (some q23)) q25 100 400) a26 19 (some q25)) q27 100 120) a28 20 (some q27)) q29 100 8) a30 25 (some q29)) q31 100 8) a32 26 (some q31)) q33 100 8) a34 27 (some q33)) q35 100 8) a36 28 (some q35)) q37 102 8) a38 29 (some q37)) a38 = 13 := q_KsR ka38
  refine q_aload_n X 0 rfl dX12_init_160 ?_
  refine q_bipush X (8) (by decide) dX12_init_161 ?_
  refine q_rnewa100 X 8 tA_int (by decide) (by decide) (Nat.le_of_ble_eq_true rfl) (Nat.le_of_ble_eq_true rfl) (Nat.le_of_ble_eq_true rfl) dX12_init_163 (fun q39 fq39 => ?_)
  have h := h q39 fq39
  obtain ⟨a40, ea40, ma40, ka40, h⟩ := h
  refine q_putF X 30 ea40 ma40 ka40 rfl tW_X12 (by decide) (by decide) tF_X12_69 tyX12 tyX12_ok nmX12 rfl hin rfl (tyX12_ok 30 (by decide)) (q_nRa _ _) (q_fRa _ _) rfl dX12_init_165 ?_
  have ma40 : a40 ∈ q_L (q_sR (q_nw (q_sR (q_nw (q_sR (q_nw (q_sR (q_nw (q_sR (q_nw (q_sR (q_nw (q_sR (q_nw (q_sR (q_nw (q_sR (q_nw (q_sR (q_nw (q_sR (q_nw (q_sR (q_nw (q_sR (q_nw (q_sR (q_nw (q_sR (q_nw (q_sR (q_nw (q_sR (q_nw (q_sR (q_nw (q_sR (q_nw (q_sR (q_nw (S) q1 100 1600) a2 1 (some q1)) q3 101 24) a4 4 (some q3)) q5 101 24) a6 5 (some q5)) q7 100 24) a8 6 (some q7)) q9 100 24) a10 7 (some q9)) q11 102 200) a12 9 (some q11)) q13 102 200) a14 10 (some q13)) q15 100 100) a16 12 (some q15)) q17 100 100) a18 13 (some q17)) q19 100 120) a20 15 (some q19)) q21 100 120) a22 16 (some q21)) q23 102 120) a24 17 (some q23)) q25 100 400) a26 19 (some q25)) q27 100 120) a28 20 (some q27)) q29 100 8) a30 25 (some q29)) q31 100 8) a32 26 (some q31)) q33 100 8) a34 27 (some q33)) q35 100 8) a36 28 (some q35)) q37 102 8) a38 29 (some q37)) q39 100 8) a40 30 (some q39)) := q_LsR ma40
  have ka40 : q_K (q_sR (q_nw (q_sR (q_nw (q_sR (q_nw (q_sR (q_nw (q_sR (q_nw (q_sR (q_nw (q_sR (q_nw (q_sR (q_nw (q_sR (q_nw (q_sR (q_nw (q_sR (q_nw (q_sR (q_nw (q_sR (q_nw (q_sR (q_nw (q_sR (q_nw (q_sR (q_nw (q_sR (q_nw (q_sR (q_nw (q_sR (q_nw (q_sR (q_nw (S) q1 100 1600) a2 1 (some q1)) q3 101 24) a4 4 (some q3)) q5 101 24) a6 5 (some q5)) q7 100 24) a8 6 (some q7)) q9 100 24) a10 7 (some q9)) q11 102 200) a12 9 (some q11)) q13 102 200) a14 10 (some q13)) q15 100 100) a16 12 (some q15)) q17 100 100) a18 13 (some q17)) q19 100 120) a20 15 (some q19)) q21 100 120) a22 16 (some q21)) q23 102 120) a24 17 (some q23)) q25 100 400) a26 19 (some q25)) q27 100 120) a28 20 (some q27)) q29 100 8) a30 25 (some q29)) q31 100 8) a32 26 (some q31)) q33 100 8) a34 27 (some q33)) q35 100 8) a36 28 (some q35)) q37 102 8) a38 29 (some q37)) q39 100 8) a40 30 (some q39)) a40 = 13 := q_KsR ka40
  refine q_aload_n X 0 rfl dX12_init_168 ?_
  refine q_bipush X (8) (by decide) dX12_init_169 ?_
  refine q_rnewa100 X 8 tA_int (by decide) (by decide) (Nat.le_of_ble_eq_true rfl) (Nat.le_of_ble_eq_true rfl) (Nat.le_of_ble_eq_true rfl) dX12_init_171 (fun q41 fq41 => ?_)
  have h := h q41 fq41
  obtain ⟨a42, ea42, ma42, ka42, h⟩ := h
  refine q_putF X 31 ea42 ma42 ka42 rfl tW_X12 (by decide) (by decide) tF_X12_72 tyX12 tyX12_ok nmX12 rfl hin rfl (tyX12_ok 31 (by decide)) (q_nRa _ _) (q_fRa _ _) rfl dX12_init_173 ?_
  have ma42 : a42 ∈ q_L (q_sR (q_nw (q_sR (q_nw (q_sR (q_nw (q_sR (q_nw (q_sR (q_nw (q_sR (q_nw (q_sR (q_nw (q_sR (q_nw (q_sR (q_nw (q_sR (q_nw (q_sR (q_nw (q_sR (q_nw (q_sR (q_nw (q_sR (q_nw (q_sR (q_nw (q_sR (q_nw (q_sR (q_nw (q_sR (q_nw (q_sR (q_nw (q_sR (q_nw (q_sR (q_nw (S) q1 100 1600) a2 1 (some q1)) q3 101 24) a4 4 (some q3)) q5 101 24) a6 5 (some q5)) q7 100 24) a8 6 (some q7)) q9 100 24) a10 7 (some q9)) q11 102 200) a12 9 (some q11)) q13 102 200) a14 10 (some q13)) q15 100 100) a16 12 (some q15)) q17 100 100) a18 13 (some q17)) q19 100 120) a20 15 (some q19)) q21 100 120) a22 16 (some q21)) q23 102 120) a24 17 (some q23)) q25 100 400) a26 19 (some q25)) q27 100 120) a28 20 (some q27)) q29 100 8) a30 25 (some q29)) q31 100 8) a32 26 (some q31)) q33 100 8) a34 27 (some q33)) q35 100 8) a36 28 (some q35)) q37 102 8) a38 29 (some q37)) q39 100 8) a40 30 (some q39)) q41 100 8) a42 31 (some q41)) := q_LsR ma42
  have ka42 : q_K (q_sR (q_nw (q_sR (q_nw (q_sR (q_nw (q_sR (q_nw (q_sR (q_nw (q_sR (q_nw (q_sR (q_nw (q_sR (q_nw (q_sR (q_nw (q_sR (q_nw (q_sR (q_nw (q_sR (q_nw (q_sR (q_nw (q_sR (q_nw (q_sR (q_nw (q_sR (q_nw (q_sR (q_nw (q_sR (q_nw (q_sR (q_nw (q_sR (q_nw (q_sR (q_nw (S) q1 100 1600) a2 1 (some q1)) q3 101 24) a4 4 (some q3)) q5 101 24) a6 5 (some q5)) q7 100 24) a8 6 (some q7)) q9 100 24) a10 7 (some q9)) q11 102 200) a12 9 (some q11)) q13 102 200) a14 10 (some q13)) q15 100 100) a16 12 (some q15)) q17 100 100) a18 13 (some q17)) q19 100 120) a20 15 (some q19)) q21 100 120) a22 16 (some q21)) q23 102 120) a24 17 (some q23)) q25 100 400) a26 19 (some q25)) q27 100 120) a28 20 (some q27)) q29 100 8) a30 25 (some q29)) q31 100 8) a32 26 (some q31)) q33 100 8) a34 27 (some q33)) q35 100 8) a36 28 (some q35)) q37 102 8) a38 29 (some q37)) q39 100 8) a40 30 (some q39)) q41 100 8) a42 31 (some q41)) a42 = 13 := q_KsR ka42
  refine q_aload_n X 0 rfl dX12_init_176 ?_
  refine q_bipush X (8) (by decide) dX12_init_177 ?_
  refine q_rnewa100 X 8 tA_int (by decide) (by decide) (Nat.le_of_ble_eq_true rfl) (Nat.le_of_ble_eq_true rfl) (Nat.le_of_ble_eq_true rfl) dX12_init_179 (fun q43 fq43 => ?_)
  have h := h q43 fq43
  obtain ⟨a44, ea44, ma44, ka44, h⟩ := h
  refine q_putF X 32 ea44 ma44 ka44 rfl tW_X12 (by decide) (by decide) tF_X12_75 tyX12 tyX12_ok nmX12 rfl hin rfl (tyX12_ok 32 (by decide)) (q_nRa _ _) (q_fRa _ _) rfl dX12_init_181 ?_
  have ma44 : a44 ∈ q_L (q_sR (q_nw (q_sR (q_nw (q_sR (q_nw (q_sR (q_nw (q_sR (q_nw (q_sR (q_nw (q_sR (q_nw (q_sR (q_nw (q_sR (q_nw (q_sR (q_nw (q_sR (q_nw (q_sR (q_nw (q_sR (q_nw (q_sR (q_nw (q_sR (q_nw (q_sR (q_nw (q_sR (q_nw (q_sR (q_nw (q_sR (q_nw (q_sR (q_nw (q_sR (q_nw (q_sR (q_nw (S) q1 100 1600) a2 1 (some q1)) q3 101 24) a4 4 (some q3)) q5 101 24) a6 5 (some q5)) q7 100 24) a8 6 (some q7)) q9 100 24) a10 7 (some q9)) q11 102 200) a12 9 (some q11)) q13 102 200) a14 10 (some q13)) q15 100 100) a16 12 (some q15)) q17 100 100) a18 13 (some q17)) q19 100 120) a20 15 (some q19)) q21 100 120) a22 16 (some q21)) q23 102 120) a24 17 (some q23)) q25 100 400) a26 19 (some q25)) q27 100 120) a28 20 (some q27)) q29 100 8) a30 25 (some q29)) q31 100 8) a32 26 (some q31)) q33 100 8) a34 27 (some q33)) q35 100 8) a36 28 (some q35)) q37 102 8) a38 29 (some q37)) q39 100 8) a40 30 (some q39)) q41 100 8) a42 31 (some q41)) q43 100 8) a44 32 (some q43)) := q_LsR ma44
  have ka44 : q_K (q_sR (q_nw (q_sR (q_nw (q_sR (q_nw (q_sR (q_nw (q_sR (q_nw (q_sR (q_nw (q_sR (q_nw (q_sR (q_nw (q_sR (q_nw (q_sR (q_nw (q_sR (q_nw (q_sR (q_nw (q_sR (q_nw (q_sR (q_nw (q_sR (q_nw (q_sR (q_nw (q_sR (q_nw (q_sR (q_nw (q_sR (q_nw (q_sR (q_nw (q_sR (q_nw (q_sR (q_nw (S) q1 100 1600) a2 1 (some q1)) q3 101 24) a4 4 (some q3)) q5 101 24) a6 5 (some q5)) q7 100 24) a8 6 (some q7)) q9 100 24) a10 7 (some q9)) q11 102 200) a12 9 (some q11)) q13 102 200) a14 10 (some q13)) q15 100 100) a16 12 (some q15)) q17 100 100) a18 13 (some q17)) q19 100 120) a20 15 (some q19)) q21 100 120) a22 16 (some q21)) q23 102 120) a24 17 (some q23)) q25 100 400) a26 19 (some q25)) q27 100 120) a28 20 (some q27)) q29 100 8) a30 25 (some q29)) q31 100 8) a32 26 (some q31)) q33 100 8) a34 27 (some q33)) q35 100 8) a36 28 (some q35)) q37 102 8) a38 29 (some q37)) q39 100 8) a40 30 (some q39)) q41 100 8) a42 31 (some q41)) q43 100 8) a44 32 (some q43)) a44 = 13 := q_KsR ka44
  refine q_aload_n X 0 rfl dX12_init_184 ?_
  refine q_bipush X (8) (by decide) dX12_init_185 ?_
  refine q_rnewa100 X 8 tA_int (by decide) (by decide) (Nat.le_of_ble_eq_true rfl) (Nat.le_of_ble_eq_true rfl) (Nat.le_of_ble_eq_true rfl) dX12_init_187 (fun q45 fq45 => ?_)
  have h := h q45 fq45
  obtain ⟨a46, ea46, ma46, ka46, h⟩ := h
  refine q_putF X 33 ea46 ma46 ka46 rfl tW_X12 (by decide) (by decide) tF_X12_78 tyX12 tyX12_ok nmX12 rfl hin rfl (tyX12_ok 33 (by decide)) (q_nRa _ _) (q_fRa _ _) rfl dX12_init_189 ?_
  have ma46 : a46 ∈ q_L (q_sR (q_nw (q_sR (q_nw (q_sR (q_nw (q_sR (q_nw (q_sR (q_nw (q_sR (q_nw (q_sR (q_nw (q_sR (q_nw (q_sR (q_nw (q_sR (q_nw (q_sR (q_nw (q_sR (q_nw (q_sR (q_nw (q_sR (q_nw (q_sR (q_nw (q_sR (q_nw (q_sR (q_nw (q_sR (q_nw (q_sR (q_nw (q_sR (q_nw (q_sR (q_nw (q_sR (q_nw (q_sR (q_nw (S) q1 100 1600) a2 1 (some q1)) q3 101 24) a4 4 (some q3)) q5 101 24) a6 5 (some q5)) q7 100 24) a8 6 (some q7)) q9 100 24) a10 7 (some q9)) q11 102 200) a12 9 (some q11)) q13 102 200) a14 10 (some q13)) q15 100 100) a16 12 (some q15)) q17 100 100) a18 13 (some q17)) q19 100 120) a20 15 (some q19)) q21 100 120) a22 16 (some q21)) q23 102 120) a24 17 (some q23)) q25 100 400) a26 19 (some q25)) q27 100 120) a28 20 (some q27)) q29 100 8) a30 25 (some q29)) q31 100 8) a32 26 (some q31)) q33 100 8) a34 27 (some q33)) q35 100 8) a36 28 (some q35)) q37 102 8) a38 29 (some q37)) q39 100 8) a40 30 (some q39)) q41 100 8) a42 31 (some q41)) q43 100 8) a44 32 (some q43)) q45 100 8) a46 33 (some q45)) := q_LsR ma46
  have ka46 : q_K (q_sR (q_nw (q_sR (q_nw (q_sR (q_nw (q_sR (q_nw (q_sR (q_nw (q_sR (q_nw (q_sR (q_nw (q_sR (q_nw (q_sR (q_nw (q_sR (q_nw (q_sR (q_nw (q_sR (q_nw (q_sR (q_nw (q_sR (q_nw (q_sR (q_nw (q_sR (q_nw (q_sR (q_nw (q_sR (q_nw (q_sR (q_nw (q_sR (q_nw (q_sR (q_nw (q_sR (q_nw (q_sR (q_nw (S) q1 100 1600) a2 1 (some q1)) q3 101 24) a4 4 (some q3)) q5 101 24) a6 5 (some q5)) q7 100 24) a8 6 (some q7)) q9 100 24) a10 7 (some q9)) q11 102 200) a12 9 (some q11)) q13 102 200) a14 10 (some q13)) q15 100 100) a16 12 (some q15)) q17 100 100) a18 13 (some q17)) q19 100 120) a20 15 (some q19)) q21 100 120) a22 16 (some q21)) q23 102 120) a24 17 (some q23)) q25 100 400) a26 19 (some q25)) q27 100 120) a28 20 (some q27)) q29 100 8) a30 25 (some q29)) q31 100 8) a32 26 (some q31)) q33 100 8) a34 27 (some q33)) q35 100 8) a36 28 (some q35)) q37 102 8) a38 29 (some q37)) q39 100 8) a40 30 (some q39)) q41 100 8) a42 31 (some q41)) q43 100 8) a44 32 (some q43)) q45 100 8) a46 33 (some q45)) a46 = 13 := q_KsR ka46
  refine q_aload_n X 0 rfl dX12_init_192 ?_
  refine q_bipush X (8) (by decide) dX12_init_193 ?_
  refine q_rnewa100 X 8 tA_int (by decide) (by decide) (Nat.le_of_ble_eq_true rfl) (Nat.le_of_ble_eq_true rfl) (Nat.le_of_ble_eq_true rfl) dX12_init_195 (fun q47 fq47 => ?_)
  have h := h q47 fq47
  obtain ⟨a48, ea48, ma48, ka48, h⟩ := h
  refine q_putF X 34 ea48 ma48 ka48 rfl tW_X12 (by decide) (by decide) tF_X12_81 tyX12 tyX12_ok nmX12 rfl hin rfl (tyX12_ok 34 (by decide)) (q_nRa _ _) (q_fRa _ _) rfl dX12_init_197 ?_
  have ma48 : a48 ∈ q_L (q_sR (q_nw (q_sR (q_nw (q_sR (q_nw (q_sR (q_nw (q_sR (q_nw (q_sR (q_nw (q_sR (q_nw (q_sR (q_nw (q_sR (q_nw (q_sR (q_nw (q_sR (q_nw (q_sR (q_nw (q_sR (q_nw (q_sR (q_nw (q_sR (q_nw (q_sR (q_nw (q_sR (q_nw (q_sR (q_nw (q_sR (q_nw (q_sR (q_nw (q_sR (q_nw (q_sR (q_nw (q_sR (q_nw (q_sR (q_nw (S) q1 100 1600) a2 1 (some q1)) q3 101 24) a4 4 (some q3)) q5 101 24) a6 5 (some q5)) q7 100 24) a8 6 (some q7)) q9 100 24) a10 7 (some q9)) q11 102 200) a12 9 (some q11)) q13 102 200) a14 10 (some q13)) q15 100 100) a16 12 (some q15)) q17 100 100) a18 13 (some q17)) q19 100 120) a20 15 (some q19)) q21 100 120) a22 16 (some q21)) q23 102 120) a24 17 (some q23)) q25 100 400) a26 19 (some q25)) q27 100 120) a28 20 (some q27)) q29 100 8) a30 25 (some q29)) q31 100 8) a32 26 (some q31)) q33 100 8) a34 27 (some q33)) q35 100 8) a36 28 (some q35)) q37 102 8) a38 29 (some q37)) q39 100 8) a40 30 (some q39)) q41 100 8) a42 31 (some q41)) q43 100 8) a44 32 (some q43)) q45 100 8) a46 33 (some q45)) q47 100 8) a48 34 (some q47)) := q_LsR ma48
  have ka48 : q_K (q_sR (q_nw (q_sR (q_nw (q_sR (q_nw (q_sR (q_nw (q_sR (q_nw (q_sR (q_nw (q_sR (q_nw (q_sR (q_nw (q_sR (q_nw (q_sR (q_nw (q_sR (q_nw (q_sR (q_nw (q_sR (q_nw (q_sR (q_nw (q_sR (q_nw (q_sR (q_nw (q_sR (q_nw (q_sR (q_nw (q_sR (q_nw (q_sR (q_nw (q_sR (q_nw (q_sR (q_nw (q_sR (q_nw (q_sR (q_nw (S) q1 100 1600) a2 1 (some q1)) q3 101 24) a4 4 (some q3)) q5 101 24) a6 5 (some q5)) q7 100 24) a8 6 (some q7)) q9 100 24) a10 7 (some q9)) q11 102 200) a12 9 (some q11)) q13 102 200) a14 10 (some q13)) q15 100 100) a16 12 (some q15)) q17 100 100) a18 13 (some q17)) q19 100 120) a20 15 (some q19)) q21 100 120) a22 16 (some q21)) q23 102 120) a24 17 (some q23)) q25 100 400) a26 19 (some q25)) q27 100 120) a28 20 (some q27)) q29 100 8) a30 25 (some q29)) q31 100 8) a32 26 (some q31)) q33 100 8) a34 27 (some q33)) q35 100 8) a36 28 (some q35)) q37 102 8) a38 29 (some q37)) q39 100 8) a40 30 (some q39)) q41 100 8) a42 31 (some q41)) q43 100 8) a44 32 (some q43)) q45 100 8) a46 33 (some q45)) q47 100 8) a48 34 (some q47)) a48 = 13 := q_KsR ka48
  refine q_aload_n X 0 rfl dX12_init_200 ?_
  refine q_bipush X (32) (by decide) dX12_init_201 ?_
  refine q_rnewa100 X 32 tA_int (by decide) (by decide) (Nat.le_of_ble_eq_true rfl) (Nat.le_of_ble_eq_true rfl) (Nat.le_of_ble_eq_true rfl) dX12_init_203 (fun q49 fq49 => ?_)
  have h := h q49 fq49
  obtain ⟨a50, ea50, ma50, ka50, h⟩ := h
  refine q_putF X 35 ea50 ma50 ka50 rfl tW_X12 (by decide) (by decide) tF_X12_84 tyX12 tyX12_ok nmX12 rfl hin rfl (tyX12_ok 35 (by decide)) (q_nRa _ _) (q_fRa _ _) rfl dX12_init_205 ?_
  have ma50 : a50 ∈ q_L (q_sR (q_nw (q_sR (q_nw (q_sR (q_nw (q_sR (q_nw (q_sR (q_nw (q_sR (q_nw (q_sR (q_nw (q_sR (q_nw (q_sR (q_nw (q_sR (q_nw (q_sR (q_nw (q_sR (q_nw (q_sR (q_nw (q_sR (q_nw (q_sR (q_nw (q_sR (q_nw (q_sR (q_nw (q_sR (q_nw (q_sR (q_nw (q_sR (q_nw (q_sR (q_nw (q_sR (q_nw (q_sR (q_nw (q_sR (q_nw (q_sR (q_nw (S) q1 100 1600) a2 1 (some q1)) q3 101 24) a4 4 (some q3)) q5 101 24) a6 5 (some q5)) q7 100 24) a8 6 (some q7)) q9 100 24) a10 7 (some q9)) q11 102 200) a12 9 (some q11)) q13 102 200) a14 10 (some q13)) q15 100 100) a16 12 (some q15)) q17 100 100) a18 13 (some q17)) q19 100 120) a20 15 (some q19)) q21 100 120) a22 16 (some q21)) q23 102 120) a24 17 (some q23)) q25 100 400) a26 19 (some q25)) q27 100 120) a28 20 (some q27)) q29 100 8) a30 25 (some q29)) q31 100 8) a32 26 (some q31)) q33 100 8) a34 27 (some q33)) q35 100 8) a36 28 (some q35)) q37 102 8) a38 29 (some q37)) q39 100 8) a40 30 (some q39)) q41 100 8) a42 31 (some q41)) q43 100 8) a44 32 (some q43)) q45 100 8) a46 33 (some q45)) q47 100 8) a48 34 (some q47)) q49 100 32) a50 35 (some q49)) := q_LsR ma50
  have ka50 : q_K (q_sR (q_nw (q_sR (q_nw (q_sR (q_nw (q_sR (q_nw (q_sR (q_nw (q_sR (q_nw (q_sR (q_nw (q_sR (q_nw (q_sR (q_nw (q_sR (q_nw (q_sR (q_nw (q_sR (q_nw (q_sR (q_nw (q_sR (q_nw (q_sR (q_nw (q_sR (q_nw (q_sR (q_nw (q_sR (q_nw (q_sR (q_nw (q_sR (q_nw (q_sR (q_nw (q_sR (q_nw (q_sR (q_nw (q_sR (q_nw (q_sR (q_nw (S) q1 100 1600) a2 1 (some q1)) q3 101 24) a4 4 (some q3)) q5 101 24) a6 5 (some q5)) q7 100 24) a8 6 (some q7)) q9 100 24) a10 7 (some q9)) q11 102 200) a12 9 (some q11)) q13 102 200) a14 10 (some q13)) q15 100 100) a16 12 (some q15)) q17 100 100) a18 13 (some q17)) q19 100 120) a20 15 (some q19)) q21 100 120) a22 16 (some q21)) q23 102 120) a24 17 (some q23)) q25 100 400) a26 19 (some q25)) q27 100 120) a28 20 (some q27)) q29 100 8) a30 25 (some q29)) q31 100 8) a32 26 (some q31)) q33 100 8) a34 27 (some q33)) q35 100 8) a36 28 (some q35)) q37 102 8) a38 29 (some q37)) q39 100 8) a40 30 (some q39)) q41 100 8) a42 31 (some q41)) q43 100 8) a44 32 (some q43)) q45 100 8) a46 33 (some q45)) q47 100 8) a48 34 (some q47)) q49 100 32) a50 35 (some q49)) a50 = 13 := q_KsR ka50
  refine q_aload_n X 0 rfl dX12_init_208 ?_
  refine q_sipush X (2000) (by decide) dX12_init_209 ?_
  refine q_rnewa100 X 2000 tA_int (by decide) (by decide) (Nat.le_of_ble_eq_true rfl) (Nat.le_of_ble_eq_true rfl) (Nat.le_of_ble_eq_true rfl) dX12_init_212 (fun q51 fq51 => ?_)
  have h := h q51 fq51
  obtain ⟨a52, ea52, ma52, ka52, h⟩ := h
  refine q_putF X 37 ea52 ma52 ka52 rfl tW_X12 (by decide) (by decide) tF_X12_87 tyX12 tyX12_ok nmX12 rfl hin rfl (tyX12_ok 37 (by decide)) (q_nRa _ _) (q_fRa _ _) rfl dX12_init_214 ?_
  have ma52 : a52 ∈ q_L (q_sR (q_nw (q_sR (q_nw (q_sR (q_nw (q_sR (q_nw (q_sR (q_nw (q_sR (q_nw (q_sR (q_nw (q_sR (q_nw (q_sR (q_nw (q_sR (q_nw (q_sR (q_nw (q_sR (q_nw (q_sR (q_nw (q_sR (q_nw (q_sR (q_nw (q_sR (q_nw (q_sR (q_nw (q_sR (q_nw (q_sR (q_nw (q_sR (q_nw (q_sR (q_nw (q_sR (q_nw (q_sR (q_nw (q_sR (q_nw (q_sR (q_nw (q_sR (q_nw (S) q1 100 1600) a2 1 (some q1)) q3 101 24) a4 4 (some q3)) q5 101 24) a6 5 (some q5)) q7 100 24) a8 6 (some q7)) q9 100 24) a10 7 (some q9)) q11 102 200) a12 9 (some q11)) q13 102 200) a14 10 (some q13)) q15 100 100) a16 12 (some q15)) q17 100 100) a18 13 (some q17)) q19 100 120) a20 15 (some q19)) q21 100 120) a22 16 (some q21)) q23 102 120) a24 17 (some q23)) q25 100 400) a26 19 (some q25)) q27 100 120) a28 20 (some q27)) q29 100 8) a30 25 (some q29)) q31 100 8) a32 26 (some q31)) q33 100 8) a34 27 (some q33)) q35 100 8) a36 28 (some q35)) q37 102 8) a38 29 (some q37)) q39 100 8) a40 30 (some q39)) q41 100 8) a42 31 (some q41)) q43 100 8) a44 32 (some q43)) q45 100 8) a46 33 (some q45)) q47 100 8) a48 34 (some q47)) q49 100 32) a50 35 (some q49)) q51 100 2000) a52 37 (some q51)) := q_LsR ma52
  have ka52 : q_K (q_sR (q_nw (q_sR (q_nw (q_sR (q_nw (q_sR (q_nw (q_sR (q_nw (q_sR (q_nw (q_sR (q_nw (q_sR (q_nw (q_sR (q_nw (q_sR (q_nw (q_sR (q_nw (q_sR (q_nw (q_sR (q_nw (q_sR (q_nw (q_sR (q_nw (q_sR (q_nw (q_sR (q_nw (q_sR (q_nw (q_sR (q_nw (q_sR (q_nw (q_sR (q_nw (q_sR (q_nw (q_sR (q_nw (q_sR (q_nw (q_sR (q_nw (q_sR (q_nw (S) q1 100 1600) a2 1 (some q1)) q3 101 24) a4 4 (some q3)) q5 101 24) a6 5 (some q5)) q7 100 24) a8 6 (some q7)) q9 100 24) a10 7 (some q9)) q11 102 200) a12 9 (some q11)) q13 102 200) a14 10 (some q13)) q15 100 100) a16 12 (some q15)) q17 100 100) a18 13 (some q17)) q19 100 120) a20 15 (some q19)) q21 100 120) a22 16 (some q21)) q23 102 120) a24 17 (some q23)) q25 100 400) a26 19 (some q25)) q27 100 120) a28 20 (some q27)) q29 100 8) a30 25 (some q29)) q31 100 8) a32 26 (some q31)) q33 100 8) a34 27 (some q33)) q35 100 8) a36 28 (some q35)) q37 102 8) a38 29 (some q37)) q39 100 8) a40 30 (some q39)) q41 100 8) a42 31 (some q41)) q43 100 8) a44 32 (some q43)) q45 100 8) a46 33 (some q45)) q47 100 8) a48 34 (some q47)) q49 100 32) a50 35 (some q49)) q51 100 2000) a52 37 (some q51)) a52 = 13 := q_KsR ka52
  refine q_aload_n X 0 rfl dX12_init_217 ?_
  refine q_sipush X (2400) (by decide) dX12_init_218 ?_
  refine q_rnewa100 X 2400 tA_int (by decide) (by decide) (Nat.le_of_ble_eq_true rfl) (Nat.le_of_ble_eq_true rfl) (Nat.le_of_ble_eq_true rfl) dX12_init_221 (fun q53 fq53 => ?_)
  have h := h q53 fq53
  obtain ⟨a54, ea54, ma54, ka54, h⟩ := h
  refine q_putF X 39 ea54 ma54 ka54 rfl tW_X12 (by decide) (by decide) tF_X12_90 tyX12 tyX12_ok nmX12 rfl hin rfl (tyX12_ok 39 (by decide)) (q_nRa _ _) (q_fRa _ _) rfl dX12_init_223 ?_
  have ma54 : a54 ∈ q_L (q_sR (q_nw (q_sR (q_nw (q_sR (q_nw (q_sR (q_nw (q_sR (q_nw (q_sR (q_nw (q_sR (q_nw (q_sR (q_nw (q_sR (q_nw (q_sR (q_nw (q_sR (q_nw (q_sR (q_nw (q_sR (q_nw (q_sR (q_nw (q_sR (q_nw (q_sR (q_nw (q_sR (q_nw (q_sR (q_nw (q_sR (q_nw (q_sR (q_nw (q_sR (q_nw (q_sR (q_nw (q_sR (q_nw (q_sR (q_nw (q_sR (q_nw (q_sR (q_nw (q_sR (q_nw (S) q1 100 1600) a2 1 (some q1)) q3 101 24) a4 4 (some q3)) q5 101 24) a6 5 (some q5)) q7 100 24) a8 6 (some q7)) q9 100 24) a10 7 (some q9)) q11 102 200) a12 9 (some q11)) q13 102 200) a14 10 (some q13)) q15 100 100) a16 12 (some q15)) q17 100 100) a18 13 (some q17)) q19 100 120) a20 15 (some q19)) q21 100 120) a22 16 (some q21)) q23 102 120) a24 17 (some q23)) q25 100 400) a26 19 (some q25)) q27 100 120) a28 20 (some q27)) q29 100 8) a30 25 (some q29)) q31 100 8) a32 26 (some q31)) q33 100 8) a34 27 (some q33)) q35 100 8) a36 28 (some q35)) q37 102 8) a38 29 (some q37)) q39 100 8) a40 30 (some q39)) q41 100 8) a42 31 (some q41)) q43 100 8) a44 32 (some q43)) q45 100 8) a46 33 (some q45)) q47 100 8) a48 34 (some q47)) q49 100 32) a50 35 (some q49)) q51 100 2000) a52 37 (some q51)) q53 100 2400) a54 39 (some q53)) := q_LsR ma54
  have ka54 : q_K (q_sR (q_nw (q_sR (q_nw (q_sR (q_nw (q_sR (q_nw (q_sR (q_nw (q_sR (q_nw (q_sR (q_nw (q_sR (q_nw (q_sR (q_nw (q_sR (q_nw (q_sR (q_nw (q_sR (q_nw (q_sR (q_nw (q_sR (q_nw (q_sR (q_nw (q_sR (q_nw (q_sR (q_nw (q_sR (q_nw (q_sR (q_nw (q_sR (q_nw (q_sR (q_nw (q_sR (q_nw (q_sR (q_nw (q_sR (q_nw (q_sR (q_nw (q_sR (q_nw (q_sR (q_nw (S) q1 100 1600) a2 1 (some q1)) q3 101 24) a4 4 (some q3)) q5 101 24) a6 5 (some q5)) q7 100 24) a8 6 (some q7)) q9 100 24) a10 7 (some q9)) q11 102 200) a12 9 (some q11)) q13 102 200) a14 10 (some q13)) q15 100 100) a16 12 (some q15)) q17 100 100) a18 13 (some q17)) q19 100 120) a20 15 (some q19)) q21 100 120) a22 16 (some q21)) q23 102 120) a24 17 (some q23)) q25 100 400) a26 19 (some q25)) q27 100 120) a28 20 (some q27)) q29 100 8) a30 25 (some q29)) q31 100 8) a32 26 (some q31)) q33 100 8) a34 27 (some q33)) q35 100 8) a36 28 (some q35)) q37 102 8) a38 29 (some q37)) q39 100 8) a40 30 (some q39)) q41 100 8) a42 31 (some q41)) q43 100 8) a44 32 (some q43)) q45 100 8) a46 33 (some q45)) q47 100 8) a48 34 (some q47)) q49 100 32) a50 35 (some q49)) q51 100 2000) a52 37 (some q51)) q53 100 2400) a54 39 (some q53)) a54 = 13 := q_KsR ka54
  refine q_aload_n X 0 rfl dX12_init_226 ?_
  refine q_bipush X (24) (by decide) dX12_init_227 ?_
  refine q_rnewa100 X 24 tA_int (by decide) (by decide) (Nat.le_of_ble_eq_true rfl) (Nat.le_of_ble_eq_true rfl) (Nat.le_of_ble_eq_true rfl) dX12_init_229 (fun q55 fq55 => ?_)
  have h := h q55 fq55
  obtain ⟨a56, ea56, ma56, ka56, h⟩ := h
  refine q_putF X 40 ea56 ma56 ka56 rfl tW_X12 (by decide) (by decide) tF_X12_93 tyX12 tyX12_ok nmX12 rfl hin rfl (tyX12_ok 40 (by decide)) (q_nRa _ _) (q_fRa _ _) rfl dX12_init_231 ?_
  have ma56 : a56 ∈ q_L (q_sR (q_nw (q_sR (q_nw (q_sR (q_nw (q_sR (q_nw (q_sR (q_nw (q_sR (q_nw (q_sR (q_nw (q_sR (q_nw (q_sR (q_nw (q_sR (q_nw (q_sR (q_nw (q_sR (q_nw (q_sR (q_nw (q_sR (q_nw (q_sR (q_nw (q_sR (q_nw (q_sR (q_nw (q_sR (q_nw (q_sR (q_nw (q_sR (q_nw (q_sR (q_nw (q_sR (q_nw (q_sR (q_nw (q_sR (q_nw (q_sR (q_nw (q_sR (q_nw (q_sR (q_nw (q_sR (q_nw (S) q1 100 1600) a2 1 (some q1)) q3 101 24) a4 4 (some q3)) q5 101 24) a6 5 (some q5)) q7 100 24) a8 6 (some q7)) q9 100 24) a10 7 (some q9)) q11 102 200) a12 9 (some q11)) q13 102 200) a14 10 (some q13)) q15 100 100) a16 12 (some q15)) q17 100 100) a18 13 (some q17)) q19 100 120) a20 15 (some q19)) q21 100 120) a22 16 (some q21)) q23 102 120) a24 17 (some q23)) q25 100 400) a26 19 (some q25)) q27 100 120) a28 20 (some q27)) q29 100 8) a30 25 (some q29)) q31 100 8) a32 26 (some q31)) q33 100 8) a34 27 (some q33)) q35 100 8) a36 28 (some q35)) q37 102 8) a38 29 (some q37)) q39 100 8) a40 30 (some q39)) q41 100 8) a42 31 (some q41)) q43 100 8) a44 32 (some q43)) q45 100 8) a46 33 (some q45)) q47 100 8) a48 34 (some q47)) q49 100 32) a50 35 (some q49)) q51 100 2000) a52 37 (some q51)) q53 100 2400) a54 39 (some q53)) q55 100 24) a56 40 (some q55)) := q_LsR ma56
  have ka56 : q_K (q_sR (q_nw (q_sR (q_nw (q_sR (q_nw (q_sR (q_nw (q_sR (q_nw (q_sR (q_nw (q_sR (q_nw (q_sR (q_nw (q_sR (q_nw (q_sR (q_nw (q_sR (q_nw (q_sR (q_nw (q_sR (q_nw (q_sR (q_nw (q_sR (q_nw (q_sR (q_nw (q_sR (q_nw (q_sR (q_nw (q_sR (q_nw (q_sR (q_nw (q_sR (q_nw (q_sR (q_nw (q_sR (q_nw (q_sR (q_nw (q_sR (q_nw (q_sR (q_nw (q_sR (q_nw (q_sR (q_nw (S) q1 100 1600) a2 1 (some q1)) q3 101 24) a4 4 (some q3)) q5 101 24) a6 5 (some q5)) q7 100 24) a8 6 (some q7)) q9 100 24) a10 7 (some q9)) q11 102 200) a12 9 (some q11)) q13 102 200) a14 10 (some q13)) q15 100 100) a16 12 (some q15)) q17 100 100) a18 13 (some q17)) q19 100 120) a20 15 (some q19)) q21 100 120) a22 16 (some q21)) q23 102 120) a24 17 (some q23)) q25 100 400) a26 19 (some q25)) q27 100 120) a28 20 (some q27)) q29 100 8) a30 25 (some q29)) q31 100 8) a32 26 (some q31)) q33 100 8) a34 27 (some q33)) q35 100 8) a36 28 (some q35)) q37 102 8) a38 29 (some q37)) q39 100 8) a40 30 (some q39)) q41 100 8) a42 31 (some q41)) q43 100 8) a44 32 (some q43)) q45 100 8) a46 33 (some q45)) q47 100 8) a48 34 (some q47)) q49 100 32) a50 35 (some q49)) q51 100 2000) a52 37 (some q51)) q53 100 2400) a54 39 (some q53)) q55 100 24) a56 40 (some q55)) a56 = 13 := q_KsR ka56
  exact q_vretC X hr hl h (Nat.le_of_ble_eq_true rfl) (Nat.le_of_ble_eq_true rfl) dX12_init_234
theorem tD_X12_init : yX12_init.cls ≠ "java/lang/invoke/MethodHandle" ∧ yX12_init.cls ≠ "java/lang/invoke/VarHandle" ∧ (parseMethodDescriptor yX12_init.desc).map (fun d => d.parameters.length) = some 0 := by decide +kernel
theorem ci_X12_init {l : Launch} {D : va_G} {cy : Nat → ClassId} {S : q_S} {o : Nat}  {Post : q_S → Prop} (h : i_X12_init S o Post) : q_MC l yX12_init (q_ws yX12_init cX12_init 1 none) ({ frames := 1, cells := 28, slots := 7712, locals := 20 } : Room) D cy [.ref o] S Post 28 7712 := by
  exact q_MC_of (by decide +kernel) (Nat.le_of_ble_eq_true rfl) (fun p e s m args below meth c A X hr hl hin => wi_X12_init X hr hl hin h)
end MI
