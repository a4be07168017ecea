theorem tD_X5_shape : yX5_shape.cls ≠ "java/lang/invoke/MethodHandle" ∧ yX5_shape.cls ≠ "java/lang/invoke/VarHandle" ∧ (parseMethodDescriptor yX5_shape.desc).map (fun d => d.parameters.length) = some 2 := by decide +kernel
section MM
variable {p : Program} {l : Launch} {e : Env} {s : State} {m : MethodId} {args : Array Value} {below : List Frame} {meth : Method} {c : Code} {A : Nat → Prop} {D : va_G} {cy : Nat → ClassId}
/-! TrueOutlines$Shaper.shapePart(ILTrueOutlines$Data;I)V -/
def m_X5_shapePart_31 (sh : q_S → Nat → Int32 → Int32 → Option (Unit × q_S)) (n : Nat) (S : q_S) (l0 : Option Nat) (l2 : Option Nat) : Option (Unit × q_S) := q_at (S) (l0) 6 (fun a1 => q_at (S) (l2) 2 (fun a2 => q_at (S) (q_R (S) a1 1) 10 (fun a3 => q_b (m_X9_tell n (S) a3 ((4 : Int32)) (q_I (S) a2 7)) (fun _ S4 => some ((), S4)))))
set_option maxHeartbeats 4000000 in
set_option maxRecDepth 100000 in
theorem w_X5_shapePart_31 (X : q_X p s m args c cX5_shapePart 6 RX5 q_T D cy A) (hr : meth.sig.returnType = none) (hl : meth.locks = false) {sh : q_S → Nat → Int32 → Int32 → Option (Unit × q_S)} {F G : Nat} (hsh : ∀ (S Sv : q_S) (a : Nat) (x y : Int32), sh S a x y = some ((), Sv) → q_MV l yX5_shape (q_ws yX5_shape cX5_shape 7 none) ({ frames := F, cells := 0, slots := 0, locals := G } : Room) D cy [.ref a, .int (x), .int (y)] S Sv)  {n : Nat} {Sv : q_S}  (S : q_S) (l0 : Option Nat) (l2 : Option Nat) (h : m_X5_shapePart_31 sh n S l0 l2 = some ((), Sv)) : q_W p l e ({ frames := F + 3, cells := 0, slots := 0, locals := G + 73 } : Room) s m args below meth c (MQ below (va_Qv (fun (u : q_S) => u = Sv) (q_B D cy A) A) args s 0 0 A) A D cy 6 0 0 S 31 [(0, va_rf (l0)), (2, va_rf (l2))] [] := by
  unfold m_X5_shapePart_31 at h
  refine q_aload_n X 0 rfl dX5_shapePart_31 ?_
  obtain ⟨a1, ea1, ma1, ka1, h⟩ := q_atE h
  refine q_getR X 1 ea1 ma1 ka1 rfl tW_X5 (by decide) (by decide) tF_X5_44 rfl dX5_shapePart_32 ?_
  refine q_iconst X (4) (by decide) dX5_shapePart_35 ?_
  refine q_aload_n X 1 rfl dX5_shapePart_36 ?_
  obtain ⟨a2, ea2, ma2, ka2, h⟩ := q_atE h
  refine q_getIN X 7 ea2 ma2 ka2 rfl tW_X1 (by decide) (by decide) "TrueOutlines" tF_X5_109 rfl dX5_shapePart_37 ?_
  obtain ⟨a3, ea3, ma3, ka3, h⟩ := q_atE h
  obtain ⟨u6, S4, c5, h⟩ := q_bE h
  refine q_cVV X (As := [.int ((4 : Int32)), .int (q_I (S) a2 7)]) ea3 ma3 ka3 rfl (by decide) (c_X9_tell c5) (q_cwV X tK_X9_tell tM_X5_94 tI_X9_tell tV_X9_tell tN_X9 rfl rfl tD_X9_tell ⟨by dsimp only; omega, by dsimp only; omega⟩) rfl rfl (by first | exact Nat.le_of_ble_eq_true rfl | (simp only [List.map, q_catR]; exact Nat.le_of_ble_eq_true rfl)) ⟨Nat.zero_le _, Nat.zero_le _⟩ dX5_shapePart_40 ?_
  obtain ⟨ev, eS⟩ := q_end h
  exact q_vret X hr hl eS dX5_shapePart_43
def m_X5_shapePart_165 (sh : q_S → Nat → Int32 → Int32 → Option (Unit × q_S)) (n : Nat) (S : q_S) : Option (Unit × q_S) := some ((), S)
set_option maxHeartbeats 4000000 in
set_option maxRecDepth 100000 in
theorem w_X5_shapePart_165 (X : q_X p s m args c cX5_shapePart 6 RX5 q_T D cy A) (hr : meth.sig.returnType = none) (hl : meth.locks = false) {sh : q_S → Nat → Int32 → Int32 → Option (Unit × q_S)} {F G : Nat} (hsh : ∀ (S Sv : q_S) (a : Nat) (x y : Int32), sh S a x y = some ((), Sv) → q_MV l yX5_shape (q_ws yX5_shape cX5_shape 7 none) ({ frames := F, cells := 0, slots := 0, locals := G } : Room) D cy [.ref a, .int (x), .int (y)] S Sv)  {n : Nat} {Sv : q_S}  (S : q_S) (h : m_X5_shapePart_165 sh n S = some ((), Sv)) : q_W p l e ({ frames := F + 3, cells := 0, slots := 0, locals := G + 73 } : Room) s m args below meth c (MQ below (va_Qv (fun (u : q_S) => u = Sv) (q_B D cy A) A) args s 0 0 A) A D cy 6 0 0 S 165 [] [] := by
  unfold m_X5_shapePart_165 at h
  obtain ⟨ev, eS⟩ := q_end h
  exact q_vret X hr hl eS dX5_shapePart_165
def m_X5_shapePart_120 (sh : q_S → Nat → Int32 → Int32 → Option (Unit × q_S)) (n : Nat) (S : q_S) (l0 : Option Nat) (l2 : Option Nat) (l3 : Int32) (l4 : Int32) : Option (Unit × q_S) := q_at (S) (l0) 6 (fun a1 => q_at (S) (q_R (S) a1 2) 4 (fun a2 => q_b (m_X3_scale n (S) a2 (l4) (l2)) (fun _ S3 => q_at (S3) (l2) 2 (fun a6 => q_b (m_X1_isMoved n (S3) a6) (fun r7 S8 => (if r7 = 0 then q_at (S8) (l0) 6 (fun a11 => q_b (m_X5_join n (S8) a11 (l2) (l3) (l4)) (fun _ S12 => m_X5_shapePart_165 sh n (S12))) else q_at (S8) (l0) 6 (fun a15 => q_at (S8) (l2) 2 (fun a16 => q_at (S8) (q_R (S8) a15 2) 4 (fun a17 => q_b (m_X3_move n (S8) a17 (l4) (q_I (S8) a16 8) (q_I (S8) a16 9)) (fun _ S18 => m_X5_shapePart_165 sh n (S18)))))))))))
set_option maxHeartbeats 4000000 in
set_option maxRecDepth 100000 in
theorem w_X5_shapePart_120 (X : q_X p s m args c cX5_shapePart 6 RX5 q_T D cy A) (hr : meth.sig.returnType = none) (hl : meth.locks = false) {sh : q_S → Nat → Int32 → Int32 → Option (Unit × q_S)} {F G : Nat} (hsh : ∀ (S Sv : q_S) (a : Nat) (x y : Int32), sh S a x y = some ((), Sv) → q_MV l yX5_shape (q_ws yX5_shape cX5_shape 7 none) ({ frames := F, cells := 0, slots := 0, locals := G } : Room) D cy [.ref a, .int (x), .int (y)] S Sv)  {n : Nat} {Sv : q_S}  (S : q_S) (l0 : Option Nat) (l2 : Option Nat) (l3 : Int32) (l4 : Int32) (h : m_X5_shapePart_120 sh n S l0 l2 l3 l4 = some ((), Sv)) : q_W p l e ({ frames := F + 3, cells := 0, slots := 0, locals := G + 73 } : Room) s m args below meth c (MQ below (va_Qv (fun (u : q_S) => u = Sv) (q_B D cy A) A) args s 0 0 A) A D cy 6 0 0 S 120 [(0, va_rf (l0)), (2, va_rf (l2)), (3, .int (l3)), (4, .int (l4))] [] := by
  unfold m_X5_shapePart_120 at h
  refine q_aload_n X 0 rfl dX5_shapePart_120 ?_
  obtain ⟨a1, ea1, ma1, ka1, h⟩ := q_atE h
  refine q_getR X 2 ea1 ma1 ka1 rfl tW_X5 (by decide) (by decide) tF_X5_12 rfl dX5_shapePart_121 ?_
  refine q_iload X 3 rfl dX5_shapePart_124 ?_
  refine q_aload_n X 1 rfl dX5_shapePart_126 ?_
  obtain ⟨a2, ea2, ma2, ka2, h⟩ := q_atE h
  obtain ⟨u5, S3, c4, h⟩ := q_bE h
  refine q_cVV X (As := [.int (l4), va_rf (l2)]) ea2 ma2 ka2 rfl (by decide) (c_X3_scale c4) (q_cwV X tK_X3_scale tM_X5_126 tI_X3_scale tV_X3_scale tN_X3 rfl rfl tD_X3_scale ⟨by dsimp only; omega, by dsimp only; omega⟩) rfl rfl (by first | exact Nat.le_of_ble_eq_true rfl | (simp only [List.map, q_catR]; exact Nat.le_of_ble_eq_true rfl)) ⟨Nat.zero_le _, Nat.zero_le _⟩ dX5_shapePart_127 ?_
  refine q_aload_n X 1 rfl dX5_shapePart_130 ?_
  obtain ⟨a6, ea6, ma6, ka6, h⟩ := q_atE h
  obtain ⟨r7, S8, c9, h⟩ := q_bE h
  refine q_cVI X (As := []) ea6 ma6 ka6 rfl (by decide) (c_X1_isMoved c9) (q_cwV X tK_X1_isMoved tM_X5_129 tI_X1_isMoved tV_X1_isMoved tN_X1 rfl rfl tD_X1_isMoved ⟨by dsimp only; omega, by dsimp only; omega⟩) rfl rfl (by first | exact Nat.le_of_ble_eq_true rfl | (simp only [List.map, q_catR]; exact Nat.le_of_ble_eq_true rfl)) ⟨Nat.zero_le _, Nat.zero_le _⟩ dX5_shapePart_131 ?_
  refine q_if_eq X 157 (by decide) dX5_shapePart_134 (fun g10 => ?_) (fun g10 => ?_)
  · rw [if_pos g10] at h
    refine q_aload_n X 0 rfl dX5_shapePart_157 ?_
    refine q_aload_n X 1 rfl dX5_shapePart_158 ?_
    refine q_iload_n X 2 rfl dX5_shapePart_159 ?_
    refine q_iload X 3 rfl dX5_shapePart_160 ?_
    obtain ⟨a11, ea11, ma11, ka11, h⟩ := q_atE h
    obtain ⟨u14, S12, c13, h⟩ := q_bE h
    refine q_cVV X (As := [va_rf (l2), .int (l3), .int (l4)]) ea11 ma11 ka11 rfl (by decide) (c_X5_join c13) (q_cwV X tK_X5_join tM_X5_142 tI_X5_join tV_X5_join tN_X5 rfl rfl tD_X5_join ⟨by dsimp only; omega, by dsimp only; omega⟩) rfl rfl (by first | exact Nat.le_of_ble_eq_true rfl | (simp only [List.map, q_catR]; exact Nat.le_of_ble_eq_true rfl)) ⟨Nat.zero_le _, Nat.zero_le _⟩ dX5_shapePart_162 ?_
    refine q_lv [] rfl ?_
    exact w_X5_shapePart_165 X hr hl hsh _ h
  · rw [if_neg g10] at h
    refine q_aload_n X 0 rfl dX5_shapePart_137 ?_
    obtain ⟨a15, ea15, ma15, ka15, h⟩ := q_atE h
    refine q_getR X 2 ea15 ma15 ka15 rfl tW_X5 (by decide) (by decide) tF_X5_12 rfl dX5_shapePart_138 ?_
    refine q_iload X 3 rfl dX5_shapePart_141 ?_
    refine q_aload_n X 1 rfl dX5_shapePart_143 ?_
    obtain ⟨a16, ea16, ma16, ka16, h⟩ := q_atE h
    refine q_getIN X 8 ea16 ma16 ka16 rfl tW_X1 (by decide) (by decide) "TrueOutlines" tF_X5_132 rfl dX5_shapePart_144 ?_
    refine q_aload_n X 1 rfl dX5_shapePart_147 ?_
    refine q_getIN X 9 ea16 ma16 ka16 rfl tW_X1 (by decide) (by decide) "TrueOutlines" tF_X5_135 rfl dX5_shapePart_148 ?_
    obtain ⟨a17, ea17, ma17, ka17, h⟩ := q_atE h
    obtain ⟨u20, S18, c19, h⟩ := q_bE h
    refine q_cVV X (As := [.int (l4), .int (q_I (S8) a16 8), .int (q_I (S8) a16 9)]) ea17 ma17 ka17 rfl (by decide) (c_X3_move c19) (q_cwV X tK_X3_move tM_X5_138 tI_X3_move tV_X3_move tN_X3 rfl rfl tD_X3_move ⟨by dsimp only; omega, by dsimp only; omega⟩) rfl rfl (by first | exact Nat.le_of_ble_eq_true rfl | (simp only [List.map, q_catR]; exact Nat.le_of_ble_eq_true rfl)) ⟨Nat.zero_le _, Nat.zero_le _⟩ dX5_shapePart_151 ?_
    refine q_goto X 165 (by decide) dX5_shapePart_154 ?_
    refine q_lv [] rfl ?_
    exact w_X5_shapePart_165 X hr hl hsh _ h
def m_X5_shapePart_117 (sh : q_S → Nat → Int32 → Int32 → Option (Unit × q_S)) (n : Nat) (S : q_S) (l0 : Option Nat) (l2 : Option Nat) (l3 : Int32) (l4 : Int32) (s0 : Int32) (s1 : Int32) (s2 : Int32) (s3 : Option Nat) : Option (Unit × q_S) := q_at (S) (s3) 6 (fun a1 => q_b (m_X5_keepIfBarren n (S) a1 (s2) (s1) (s0)) (fun _ S2 => m_X5_shapePart_120 sh n (S2) (l0) (l2) (l3) (l4)))
set_option maxHeartbeats 4000000 in
set_option maxRecDepth 100000 in
theorem w_X5_shapePart_117 (X : q_X p s m args c cX5_shapePart 6 RX5 q_T D cy A) (hr : meth.sig.returnType = none) (hl : meth.locks = false) {sh : q_S → Nat → Int32 → Int32 → Option (Unit × q_S)} {F G : Nat} (hsh : ∀ (S Sv : q_S) (a : Nat) (x y : Int32), sh S a x y = some ((), Sv) → q_MV l yX5_shape (q_ws yX5_shape cX5_shape 7 none) ({ frames := F, cells := 0, slots := 0, locals := G } : Room) D cy [.ref a, .int (x), .int (y)] S Sv)  {n : Nat} {Sv : q_S}  (S : q_S) (l0 : Option Nat) (l2 : Option Nat) (l3 : Int32) (l4 : Int32) (s0 : Int32) (s1 : Int32) (s2 : Int32) (s3 : Option Nat) (h : m_X5_shapePart_117 sh n S l0 l2 l3 l4 s0 s1 s2 s3 = some ((), Sv)) : q_W p l e ({ frames := F + 3, cells := 0, slots := 0, locals := G + 73 } : Room) s m args below meth c (MQ below (va_Qv (fun (u : q_S) => u = Sv) (q_B D cy A) A) args s 0 0 A) A D cy 6 0 0 S 117 [(0, va_rf (l0)), (2, va_rf (l2)), (3, .int (l3)), (4, .int (l4))] [.int (s0), .int (s1), .int (s2), va_rf (s3)] := by
  unfold m_X5_shapePart_117 at h
  obtain ⟨a1, ea1, ma1, ka1, h⟩ := q_atE h
  obtain ⟨u4, S2, c3, h⟩ := q_bE h
  refine q_cVV X (As := [.int (s2), .int (s1), .int (s0)]) ea1 ma1 ka1 rfl (by decide) (c_X5_keepIfBarren c3) (q_cwV X tK_X5_keepIfBarren tM_X5_122 tI_X5_keepIfBarren tV_X5_keepIfBarren tN_X5 rfl rfl tD_X5_keepIfBarren ⟨by dsimp only; omega, by dsimp only; omega⟩) rfl rfl (by first | exact Nat.le_of_ble_eq_true rfl | (simp only [List.map, q_catR]; exact Nat.le_of_ble_eq_true rfl)) ⟨Nat.zero_le _, Nat.zero_le _⟩ dX5_shapePart_117 ?_
  exact w_X5_shapePart_120 X hr hl hsh _ _ _ _ _ h
def m_X5_shapePart_116 (sh : q_S → Nat → Int32 → Int32 → Option (Unit × q_S)) (n : Nat) (S : q_S) (l0 : Option Nat) (l2 : Option Nat) (l3 : Int32) (l4 : Int32) (s0 : Int32) (s1 : Int32) (s2 : Option Nat) : Option (Unit × q_S) := m_X5_shapePart_117 sh n (S) (l0) (l2) (l3) (l4) ((0 : Int32)) (s0) (s1) (s2)
set_option maxHeartbeats 4000000 in
set_option maxRecDepth 100000 in
theorem w_X5_shapePart_116 (X : q_X p s m args c cX5_shapePart 6 RX5 q_T D cy A) (hr : meth.sig.returnType = none) (hl : meth.locks = false) {sh : q_S → Nat → Int32 → Int32 → Option (Unit × q_S)} {F G : Nat} (hsh : ∀ (S Sv : q_S) (a : Nat) (x y : Int32), sh S a x y = some ((), Sv) → q_MV l yX5_shape (q_ws yX5_shape cX5_shape 7 none) ({ frames := F, cells := 0, slots := 0, locals := G } : Room) D cy [.ref a, .int (x), .int (y)] S Sv)  {n : Nat} {Sv : q_S}  (S : q_S) (l0 : Option Nat) (l2 : Option Nat) (l3 : Int32) (l4 : Int32) (s0 : Int32) (s1 : Int32) (s2 : Option Nat) (h : m_X5_shapePart_116 sh n S l0 l2 l3 l4 s0 s1 s2 = some ((), Sv)) : q_W p l e ({ frames := F + 3, cells := 0, slots := 0, locals := G + 73 } : Room) s m args below meth c (MQ below (va_Qv (fun (u : q_S) => u = Sv) (q_B D cy A) A) args s 0 0 A) A D cy 6 0 0 S 116 [(0, va_rf (l0)), (2, va_rf (l2)), (3, .int (l3)), (4, .int (l4))] [.int (s0), .int (s1), va_rf (s2)] := by
  unfold m_X5_shapePart_116 at h
  refine q_iconst X (0) (by decide) dX5_shapePart_116 ?_
  exact w_X5_shapePart_117 X hr hl hsh _ _ _ _ _ _ _ _ _ h
def m_X5_shapePart (sh : q_S → Nat → Int32 → Int32 → Option (Unit × q_S)) (n : Nat) (S : q_S) (o : Nat) (p0 : Int32) (p1 : Option Nat) (p2 : Int32) : Option (Unit × q_S) := (if (5 : Int32) ≤ p0 then m_X5_shapePart_31 sh n (S) (some o) (p1) else q_at (S) (some o) 6 (fun a2 => q_at (S) (p1) 2 (fun a3 => q_at (S) (q_R (S) a2 0) 7 (fun a4 => q_b (m_X6_has n (S) a4 (q_I (S) a3 7)) (fun r5 S6 => (if r5 = 0 then m_X5_shapePart_31 sh n (S6) (some o) (p1) else q_at (S6) (p1) 2 (fun a9 => q_at (S6) (some o) 6 (fun a10 => q_b (m_X5_isOpened n (S6) a10 (p0) (q_I (S6) a9 7)) (fun r11 S12 => (if r11 = 0 then q_at (S12) (some o) 6 (fun a15 => q_at (S12) (q_R (S12) a15 2) 4 (fun a16 => q_b (m_X3_size n (S12) a16) (fun r17 S18 => q_at (S18) (some o) 6 (fun a20 => q_at (S18) (q_R (S18) a20 1) 10 (fun a21 => q_b (m_X9_isFull n (S18) a21) (fun r22 S23 => q_at (S23) (p1) 2 (fun a25 => q_at (S23) (some o) 6 (fun a26 => q_b (m_X5_matters n (S23) a26 (p0 + (1 : Int32)) (q_I (S23) a25 7)) (fun r27 S28 => (if r27 = 0 then m_X5_shapePart_120 sh n (S28) (some o) (p1) (p2) (r17) else q_at (S28) (p1) 2 (fun a31 => q_at (S28) (some o) 6 (fun a32 => q_b (sh (S28) a32 (p0 + (1 : Int32)) (q_I (S28) a31 7)) (fun _ S33 => q_at (S33) (p1) 2 (fun a36 => (if r22 = 0 then m_X5_shapePart_116 sh n (S33) (some o) (p1) (p2) (r17) (q_I (S33) a36 7) (p0 + (1 : Int32)) (some o) else q_at (S33) (some o) 6 (fun a38 => q_at (S33) (q_R (S33) a38 2) 4 (fun a39 => q_b (m_X3_size n (S33) a39) (fun r40 S41 => (if r40 = r17 then m_X5_shapePart_117 sh n (S41) (some o) (p1) (p2) (r17) ((1 : Int32)) (q_I (S33) a36 7) (p0 + (1 : Int32)) (some o) else m_X5_shapePart_116 sh n (S41) (some o) (p1) (p2) (r17) (q_I (S33) a36 7) (p0 + (1 : Int32)) (some o)))))))))))))))))))) else m_X5_shapePart_31 sh n (S12) (some o) (p1)))))))))))
set_option maxHeartbeats 4000000 in
set_option maxRecDepth 100000 in
theorem w_X5_shapePart (X : q_X p s m args c cX5_shapePart 6 RX5 q_T D cy A) (hr : meth.sig.returnType = none) (hl : meth.locks = false) {sh : q_S → Nat → Int32 → Int32 → Option (Unit × q_S)} {F G : Nat} (hsh : ∀ (S Sv : q_S) (a : Nat) (x y : Int32), sh S a x y = some ((), Sv) → q_MV l yX5_shape (q_ws yX5_shape cX5_shape 7 none) ({ frames := F, cells := 0, slots := 0, locals := G } : Room) D cy [.ref a, .int (x), .int (y)] S Sv)  {n : Nat} {S Sv : q_S} {o : Nat} {p0 : Int32} {p1 : Option Nat} {p2 : Int32} (h : m_X5_shapePart sh n S o p0 p1 p2 = some ((), Sv)) : q_W p l e ({ frames := F + 3, cells := 0, slots := 0, locals := G + 73 } : Room) s m args below meth c (MQ below (va_Qv (fun (u : q_S) => u = Sv) (q_B D cy A) A) args s 0 0 A) A D cy 6 0 0 S 0 [(0, va_rf (some o)), (1, .int (p0)), (2, va_rf (p1)), (3, .int (p2))] [] := by
  unfold m_X5_shapePart at h
  refine q_iload_n X 1 rfl dX5_shapePart_0 ?_
  refine q_iconst X (5) (by decide) dX5_shapePart_1 ?_
  refine q_icmp_ge X 31 (by decide) dX5_shapePart_2 (fun g1 => ?_) (fun g1 => ?_)
  · rw [if_pos g1] at h
    refine q_lv [0, 2] rfl ?_
    exact w_X5_shapePart_31 X hr hl hsh _ _ _ h
  · rw [if_neg g1] at h
    refine q_aload_n X 0 rfl dX5_shapePart_5 ?_
    obtain ⟨a2, ea2, ma2, ka2, h⟩ := q_atE h
    refine q_getR X 0 ea2 ma2 ka2 rfl tW_X5 (by decide) (by decide) tF_X5_40 rfl dX5_shapePart_6 ?_
    refine q_aload_n X 2 rfl dX5_shapePart_9 ?_
    obtain ⟨a3, ea3, ma3, ka3, h⟩ := q_atE h
    refine q_getIN X 7 ea3 ma3 ka3 rfl tW_X1 (by decide) (by decide) "TrueOutlines" tF_X5_109 rfl dX5_shapePart_10 ?_
    obtain ⟨a4, ea4, ma4, ka4, h⟩ := q_atE h
    obtain ⟨r5, S6, c7, h⟩ := q_bE h
    refine q_cVI X (As := [.int (q_I (S) a3 7)]) ea4 ma4 ka4 rfl (by decide) (c_X6_has c7) (q_cwV X tK_X6_has tM_X5_55 tI_X6_has tV_X6_has tN_X6 rfl rfl tD_X6_has ⟨by dsimp only; omega, by dsimp only; omega⟩) rfl rfl (by first | exact Nat.le_of_ble_eq_true rfl | (simp only [List.map, q_catR]; exact Nat.le_of_ble_eq_true rfl)) ⟨Nat.zero_le _, Nat.zero_le _⟩ dX5_shapePart_13 ?_
    refine q_if_eq X 31 (by decide) dX5_shapePart_16 (fun g8 => ?_) (fun g8 => ?_)
    · rw [if_pos g8] at h
      refine q_lv [0, 2] rfl ?_
      exact w_X5_shapePart_31 X hr hl hsh _ _ _ h
    · rw [if_neg g8] at h
      refine q_aload_n X 0 rfl dX5_shapePart_19 ?_
      refine q_iload_n X 1 rfl dX5_shapePart_20 ?_
      refine q_aload_n X 2 rfl dX5_shapePart_21 ?_
      obtain ⟨a9, ea9, ma9, ka9, h⟩ := q_atE h
      refine q_getIN X 7 ea9 ma9 ka9 rfl tW_X1 (by decide) (by decide) "TrueOutlines" tF_X5_109 rfl dX5_shapePart_22 ?_
      obtain ⟨a10, ea10, ma10, ka10, h⟩ := q_atE h
      obtain ⟨r11, S12, c13, h⟩ := q_bE h
      refine q_cVI X (As := [.int (p0), .int (q_I (S6) a9 7)]) ea10 ma10 ka10 rfl (by decide) (c_X5_isOpened c13) (q_cwV X tK_X5_isOpened tM_X5_112 tI_X5_isOpened tV_X5_isOpened tN_X5 rfl rfl tD_X5_isOpened ⟨by dsimp only; omega, by dsimp only; omega⟩) rfl rfl (by first | exact Nat.le_of_ble_eq_true rfl | (simp only [List.map, q_catR]; exact Nat.le_of_ble_eq_true rfl)) ⟨Nat.zero_le _, Nat.zero_le _⟩ dX5_shapePart_25 ?_
      refine q_if_eq X 44 (by decide) dX5_shapePart_28 (fun g14 => ?_) (fun g14 => ?_)
      · rw [if_pos g14] at h
        refine q_aload_n X 0 rfl dX5_shapePart_44 ?_
        obtain ⟨a15, ea15, ma15, ka15, h⟩ := q_atE h
        refine q_getR X 2 ea15 ma15 ka15 rfl tW_X5 (by decide) (by decide) tF_X5_12 rfl dX5_shapePart_45 ?_
        obtain ⟨a16, ea16, ma16, ka16, h⟩ := q_atE h
        obtain ⟨r17, S18, c19, h⟩ := q_bE h
        refine q_cVI X (As := []) ea16 ma16 ka16 rfl (by decide) (c_X3_size c19) (q_cwV X tK_X3_size tM_X5_76 tI_X3_size tV_X3_size tN_X3 rfl rfl tD_X3_size ⟨by dsimp only; omega, by dsimp only; omega⟩) rfl rfl (by first | exact Nat.le_of_ble_eq_true rfl | (simp only [List.map, q_catR]; exact Nat.le_of_ble_eq_true rfl)) ⟨Nat.zero_le _, Nat.zero_le _⟩ dX5_shapePart_48 ?_
        refine q_istore X 4 [(4, .int (r17)), (0, va_rf (some o)), (1, .int (p0)), (2, va_rf (p1)), (3, .int (p2))] (by decide) (by first | rfl | simp [List.filter, q_catR]) dX5_shapePart_51 ?_
        refine q_aload_n X 1 rfl dX5_shapePart_53 ?_
        obtain ⟨a20, ea20, ma20, ka20, h⟩ := q_atE h
        refine q_getR X 1 ea20 ma20 ka20 rfl tW_X5 (by decide) (by decide) tF_X5_44 rfl dX5_shapePart_54 ?_
        obtain ⟨a21, ea21, ma21, ka21, h⟩ := q_atE h
        obtain ⟨r22, S23, c24, h⟩ := q_bE h
        refine q_cVI X (As := []) ea21 ma21 ka21 rfl (by decide) (c_X9_isFull c24) (q_cwV X tK_X9_isFull tM_X5_116 tI_X9_isFull tV_X9_isFull tN_X9 rfl rfl tD_X9_isFull ⟨by dsimp only; omega, by dsimp only; omega⟩) rfl rfl (by first | exact Nat.le_of_ble_eq_true rfl | (simp only [List.map, q_catR]; exact Nat.le_of_ble_eq_true rfl)) ⟨Nat.zero_le _, Nat.zero_le _⟩ dX5_shapePart_57 ?_
        refine q_istore X 5 [(5, .int (r22)), (4, .int (r17)), (0, va_rf (some o)), (1, .int (p0)), (2, va_rf (p1)), (3, .int (p2))] (by decide) (by first | rfl | simp [List.filter, q_catR]) dX5_shapePart_60 ?_
        refine q_aload_n X 2 rfl dX5_shapePart_62 ?_
        refine q_iload_n X 3 rfl dX5_shapePart_63 ?_
        refine q_iconst X (1) (by decide) dX5_shapePart_64 ?_
        refine q_iadd X dX5_shapePart_65 ?_
        refine q_aload_n X 4 rfl dX5_shapePart_66 ?_
        obtain ⟨a25, ea25, ma25, ka25, h⟩ := q_atE h
        refine q_getIN X 7 ea25 ma25 ka25 rfl tW_X1 (by decide) (by decide) "TrueOutlines" tF_X5_109 rfl dX5_shapePart_67 ?_
        obtain ⟨a26, ea26, ma26, ka26, h⟩ := q_atE h
        obtain ⟨r27, S28, c29, h⟩ := q_bE h
        refine q_cVI X (As := [.int (p0 + (1 : Int32)), .int (q_I (S23) a25 7)]) ea26 ma26 ka26 rfl (by decide) (c_X5_matters c29) (q_cwV X tK_X5_matters tM_X5_119 tI_X5_matters tV_X5_matters tN_X5 rfl rfl tD_X5_matters ⟨by dsimp only; omega, by dsimp only; omega⟩) rfl rfl (by first | exact Nat.le_of_ble_eq_true rfl | (simp only [List.map, q_catR]; exact Nat.le_of_ble_eq_true rfl)) ⟨Nat.zero_le _, Nat.zero_le _⟩ dX5_shapePart_70 ?_
        refine q_if_eq X 120 (by decide) dX5_shapePart_73 (fun g30 => ?_) (fun g30 => ?_)
        · rw [if_pos g30] at h
          refine q_lv [2, 4, 5, 1] rfl ?_
          exact w_X5_shapePart_120 X hr hl hsh _ _ _ _ _ h
        · rw [if_neg g30] at h
          refine q_aload_n X 2 rfl dX5_shapePart_76 ?_
          refine q_iload_n X 3 rfl dX5_shapePart_77 ?_
          refine q_iconst X (1) (by decide) dX5_shapePart_78 ?_
          refine q_iadd X dX5_shapePart_79 ?_
          refine q_aload_n X 4 rfl dX5_shapePart_80 ?_
          obtain ⟨a31, ea31, ma31, ka31, h⟩ := q_atE h
          refine q_getIN X 7 ea31 ma31 ka31 rfl tW_X1 (by decide) (by decide) "TrueOutlines" tF_X5_109 rfl dX5_shapePart_81 ?_
          obtain ⟨a32, ea32, ma32, ka32, h⟩ := q_atE h
          obtain ⟨u35, S33, c34, h⟩ := q_bE h
          refine q_cVV X (As := [.int (p0 + (1 : Int32)), .int (q_I (S28) a31 7)]) ea32 ma32 ka32 rfl (by decide) (hsh _ _ _ _ _ c34) (q_cwV X tK_X5_shape tM_X5_61 tI_X5_shape tV_X5_shape tN_X5 rfl rfl tD_X5_shape ⟨by dsimp only; omega, by dsimp only; omega⟩) rfl rfl (by first | exact Nat.le_of_ble_eq_true rfl | (simp only [List.map, q_catR]; exact Nat.le_of_ble_eq_true rfl)) ⟨Nat.zero_le _, Nat.zero_le _⟩ dX5_shapePart_84 ?_
          refine q_aload_n X 2 rfl dX5_shapePart_87 ?_
          refine q_iload_n X 3 rfl dX5_shapePart_88 ?_
          refine q_iconst X (1) (by decide) dX5_shapePart_89 ?_
          refine q_iadd X dX5_shapePart_90 ?_
          refine q_aload_n X 4 rfl dX5_shapePart_91 ?_
          obtain ⟨a36, ea36, ma36, ka36, h⟩ := q_atE h
          refine q_getIN X 7 ea36 ma36 ka36 rfl tW_X1 (by decide) (by decide) "TrueOutlines" tF_X5_109 rfl dX5_shapePart_92 ?_
          refine q_iload X 0 rfl dX5_shapePart_95 ?_
          refine q_if_eq X 116 (by decide) dX5_shapePart_97 (fun g37 => ?_) (fun g37 => ?_)
          · rw [if_pos g37] at h
            refine q_lv [2, 4, 5, 1] rfl ?_
            exact w_X5_shapePart_116 X hr hl hsh _ _ _ _ _ _ _ _ h
          · rw [if_neg g37] at h
            refine q_aload_n X 2 rfl dX5_shapePart_100 ?_
            obtain ⟨a38, ea38, ma38, ka38, h⟩ := q_atE h
            refine q_getR X 2 ea38 ma38 ka38 rfl tW_X5 (by decide) (by decide) tF_X5_12 rfl dX5_shapePart_101 ?_
            obtain ⟨a39, ea39, ma39, ka39, h⟩ := q_atE h
            obtain ⟨r40, S41, c42, h⟩ := q_bE h
            refine q_cVI X (As := []) ea39 ma39 ka39 rfl (by decide) (c_X3_size c42) (q_cwV X tK_X3_size tM_X5_76 tI_X3_size tV_X3_size tN_X3 rfl rfl tD_X3_size ⟨by dsimp only; omega, by dsimp only; omega⟩) rfl rfl (by first | exact Nat.le_of_ble_eq_true rfl | (simp only [List.map, q_catR]; exact Nat.le_of_ble_eq_true rfl)) ⟨Nat.zero_le _, Nat.zero_le _⟩ dX5_shapePart_104 ?_
            refine q_iload X 1 rfl dX5_shapePart_107 ?_
            refine q_icmp_ne X 116 (by decide) dX5_shapePart_109 (fun g43 => ?_) (fun g43 => ?_)
            · rw [if_neg g43] at h
              refine q_lv [2, 4, 5, 1] rfl ?_
              exact w_X5_shapePart_116 X hr hl hsh _ _ _ _ _ _ _ _ h
            · rw [if_pos g43] at h
              refine q_iconst X (1) (by decide) dX5_shapePart_112 ?_
              refine q_goto X 117 (by decide) dX5_shapePart_113 ?_
              refine q_lv [2, 4, 5, 1] rfl ?_
              exact w_X5_shapePart_117 X hr hl hsh _ _ _ _ _ _ _ _ _ h
      · rw [if_neg g14] at h
        refine q_lv [0, 2] rfl ?_
        exact w_X5_shapePart_31 X hr hl hsh _ _ _ h
theorem tD_X5_shapePart : yX5_shapePart.cls ≠ "java/lang/invoke/MethodHandle" ∧ yX5_shapePart.cls ≠ "java/lang/invoke/VarHandle" ∧ (parseMethodDescriptor yX5_shapePart.desc).map (fun d => d.parameters.length) = some 3 := by decide +kernel
theorem c_X5_shapePart {l : Launch} {D : va_G} {cy : Nat → ClassId} {sh : q_S → Nat → Int32 → Int32 → Option (Unit × q_S)} {F G : Nat} (hsh : ∀ (S Sv : q_S) (a : Nat) (x y : Int32), sh S a x y = some ((), Sv) → q_MV l yX5_shape (q_ws yX5_shape cX5_shape 7 none) ({ frames := F, cells := 0, slots := 0, locals := G } : Room) D cy [.ref a, .int (x), .int (y)] S Sv) {n : Nat} {S Sv : q_S} {o : Nat} {p0 : Int32} {p1 : Option Nat} {p2 : Int32} (h : m_X5_shapePart sh n S o p0 p1 p2 = some ((), Sv)) : q_MV l yX5_shapePart (q_ws yX5_shapePart cX5_shapePart 6 (none)) ({ frames := F + 3, cells := 0, slots := 0, locals := G + 73 } : Room) D cy [.ref o, .int (p0), va_rf (p1), .int (p2)] S Sv := by
  cases p1 <;> exact q_MV_of (by decide +kernel) (Nat.le_of_ble_eq_true rfl) (fun p e s m args below meth c A X hr hl => w_X5_shapePart X hr hl hsh h)
/-! TrueOutlines$Shaper.shapeParts(ILTrueOutlines$Data;)Z -/
def m_X5_shapeParts_55 (sh : q_S → Nat → Int32 → Int32 → Option (Unit × q_S)) (n : Nat) (S : q_S) : Option (Int32 × q_S) := q_if ((1 : Int32) = 0 ∨ (1 : Int32) = 1) (some ((1 : Int32), S))
set_option maxHeartbeats 4000000 in
set_option maxRecDepth 100000 in
theorem w_X5_shapeParts_55 (X : q_X p s m args c cX5_shapeParts 6 RX5 q_T D cy A) (hr : meth.sig.returnType = (some .boolean)) (hl : meth.locks = false) {sh : q_S → Nat → Int32 → Int32 → Option (Unit × q_S)} {F G : Nat} (hsh : ∀ (S Sv : q_S) (a : Nat) (x y : Int32), sh S a x y = some ((), Sv) → q_MV l yX5_shape (q_ws yX5_shape cX5_shape 7 none) ({ frames := F, cells := 0, slots := 0, locals := G } : Room) D cy [.ref a, .int (x), .int (y)] S Sv)  {n : Nat} {Sv : q_S} {rv : Int32}  (S : q_S) (h : m_X5_shapeParts_55 sh n S = some (rv, Sv)) : q_W p l e ({ frames := F + 4, cells := 0, slots := 0, locals := G + 98 } : Room) s m args below meth c (MQ below (va_Qi (fun (r : Int32) (u : q_S) => r = rv ∧ u = Sv) (q_B D cy A) A) args s 0 0 A) A D cy 6 0 0 S 55 [] [] := by
  unfold m_X5_shapeParts_55 at h
  refine q_iconst X (1) (by decide) dX5_shapeParts_55 ?_
  obtain ⟨g1, h⟩ := q_ifE h
  obtain ⟨ev, eS⟩ := q_end h
  exact q_iret X hr hl (q_bool g1) ev eS dX5_shapeParts_56
def m_X5_shapeParts_14 (sh : q_S → Nat → Int32 → Int32 → Option (Unit × q_S)) (n : Nat) : Nat → q_S → Option Nat → Int32 → Option Nat → Int32 → Int32 → Int32 → Option (Int32 × q_S)
  | 0, _, _, _, _, _, _, _ => none
  | k + 1, S, l0, l1, l2, l3, l4, l5 => (if (1600 : Int32) ≤ l5 then m_X5_shapeParts_55 sh n (S) else (if l4 = 0 then m_X5_shapeParts_55 sh n (S) else q_at (S) (l2) 2 (fun a3 => q_b (m_X1_nextPart n (S) a3) (fun r4 S5 => (if r4 = 0 then q_if ((0 : Int32) = 0 ∨ (0 : Int32) = 1) (some ((0 : Int32), S5)) else q_at (S5) (l0) 6 (fun a8 => q_b (m_X5_shapePart sh n (S5) a8 (l1) (l2) (l3)) (fun _ S9 => q_at (S9) (l2) 2 (fun a12 => q_b (m_X1_hasMore n (S9) a12) (fun r13 S14 => m_X5_shapeParts_14 sh n k (S14) (l0) (l1) (l2) (l3) (r13) (l5 + (1)))))))))))
set_option maxHeartbeats 4000000 in
set_option maxRecDepth 100000 in
theorem w_X5_shapeParts_14 (X : q_X p s m args c cX5_shapeParts 6 RX5 q_T D cy A) (hr : meth.sig.returnType = (some .boolean)) (hl : meth.locks = false) {sh : q_S → Nat → Int32 → Int32 → Option (Unit × q_S)} {F G : Nat} (hsh : ∀ (S Sv : q_S) (a : Nat) (x y : Int32), sh S a x y = some ((), Sv) → q_MV l yX5_shape (q_ws yX5_shape cX5_shape 7 none) ({ frames := F, cells := 0, slots := 0, locals := G } : Room) D cy [.ref a, .int (x), .int (y)] S Sv)  {n : Nat} {Sv : q_S} {rv : Int32}  : ∀ (k : Nat) (S : q_S) (l0 : Option Nat) (l1 : Int32) (l2 : Option Nat) (l3 : Int32) (l4 : Int32) (l5 : Int32), m_X5_shapeParts_14 sh n k S l0 l1 l2 l3 l4 l5 = some (rv, Sv) → q_W p l e ({ frames := F + 4, cells := 0, slots := 0, locals := G + 98 } : Room) s m args below meth c (MQ below (va_Qi (fun (r : Int32) (u : q_S) => r = rv ∧ u = Sv) (q_B D cy A) A) args s 0 0 A) A D cy 6 0 0 S 14 [(0, va_rf (l0)), (1, .int (l1)), (2, va_rf (l2)), (3, .int (l3)), (4, .int (l4)), (5, .int (l5))] [] := by
  intro k
  induction k with
  | zero => intro S l0 l1 l2 l3 l4 l5 h; rw [m_X5_shapeParts_14] at h; cases h
  | succ k ih =>
    intro S l0 l1 l2 l3 l4 l5 h
    rw [m_X5_shapeParts_14] at h
    refine q_iload X 5 rfl dX5_shapeParts_14 ?_
    refine q_sipush X (1600) (by decide) dX5_shapeParts_16 ?_
    refine q_icmp_ge X 55 (by decide) dX5_shapeParts_19 (fun g1 => ?_) (fun g1 => ?_)
    · rw [if_pos g1] at h
      refine q_lv [] rfl ?_
      exact w_X5_shapeParts_55 X hr hl hsh _ h
    · rw [if_neg g1] at h
      refine q_iload X 4 rfl dX5_shapeParts_22 ?_
      refine q_if_eq X 55 (by decide) dX5_shapeParts_24 (fun g2 => ?_) (fun g2 => ?_)
      · rw [if_pos g2] at h
        refine q_lv [] rfl ?_
        exact w_X5_shapeParts_55 X hr hl hsh _ h
      · rw [if_neg g2] at h
        refine q_aload_n X 2 rfl dX5_shapeParts_27 ?_
        obtain ⟨a3, ea3, ma3, ka3, h⟩ := q_atE h
        obtain ⟨r4, S5, c6, h⟩ := q_bE h
        refine q_cVI X (As := []) ea3 ma3 ka3 rfl (by decide) (c_X1_nextPart c6) (q_cwV X tK_X1_nextPart tM_X5_99 tI_X1_nextPart tV_X1_nextPart tN_X1 rfl rfl tD_X1_nextPart ⟨by dsimp only; omega, by dsimp only; omega⟩) rfl rfl (by first | exact Nat.le_of_ble_eq_true rfl | (simp only [List.map, q_catR]; exact Nat.le_of_ble_eq_true rfl)) ⟨Nat.zero_le _, Nat.zero_le _⟩ dX5_shapeParts_28 ?_
        refine q_if_ne X 36 (by decide) dX5_shapeParts_31 (fun g7 => ?_) (fun g7 => ?_)
        · rw [if_neg g7] at h
          refine q_aload_n X 0 rfl dX5_shapeParts_36 ?_
          refine q_iload_n X 1 rfl dX5_shapeParts_37 ?_
          refine q_aload_n X 2 rfl dX5_shapeParts_38 ?_
          refine q_iload_n X 3 rfl dX5_shapeParts_39 ?_
          obtain ⟨a8, ea8, ma8, ka8, h⟩ := q_atE h
          obtain ⟨u11, S9, c10, h⟩ := q_bE h
          refine q_cVV X (As := [.int (l1), va_rf (l2), .int (l3)]) ea8 ma8 ka8 rfl (by decide) (c_X5_shapePart hsh c10) (q_cwV X tK_X5_shapePart tM_X5_102 tI_X5_shapePart tV_X5_shapePart tN_X5 rfl rfl tD_X5_shapePart ⟨by dsimp only; omega, by dsimp only; omega⟩) rfl rfl (by first | exact Nat.le_of_ble_eq_true rfl | (simp only [List.map, q_catR]; exact Nat.le_of_ble_eq_true rfl)) ⟨Nat.zero_le _, Nat.zero_le _⟩ dX5_shapeParts_40 ?_
          refine q_aload_n X 2 rfl dX5_shapeParts_43 ?_
          obtain ⟨a12, ea12, ma12, ka12, h⟩ := q_atE h
          obtain ⟨r13, S14, c15, h⟩ := q_bE h
          refine q_cVI X (As := []) ea12 ma12 ka12 rfl (by decide) (c_X1_hasMore c15) (q_cwV X tK_X1_hasMore tM_X5_106 tI_X1_hasMore tV_X1_hasMore tN_X1 rfl rfl tD_X1_hasMore ⟨by dsimp only; omega, by dsimp only; omega⟩) rfl rfl (by first | exact Nat.le_of_ble_eq_true rfl | (simp only [List.map, q_catR]; exact Nat.le_of_ble_eq_true rfl)) ⟨Nat.zero_le _, Nat.zero_le _⟩ dX5_shapeParts_44 ?_
          refine q_istore X 4 [(4, .int (r13)), (0, va_rf (l0)), (1, .int (l1)), (2, va_rf (l2)), (3, .int (l3)), (5, .int (l5))] (by decide) (by first | rfl | simp [List.filter, q_catR]) dX5_shapeParts_47 ?_
          refine q_iinc X 5 5 (l5 + (1)) [(5, .int (l5 + (1))), (4, .int (r13)), (0, va_rf (l0)), (1, .int (l1)), (2, va_rf (l2)), (3, .int (l3))] rfl (congrArg (fun z => l5 + z) (show Int32.ofInt (1) = (1) by decide)) (by decide) (by first | rfl | simp [List.filter, q_catR]) dX5_shapeParts_49 ?_
          refine q_goto X 14 (by decide) dX5_shapeParts_52 ?_
          refine q_lv [2, 3, 4, 5, 1, 0] rfl ?_
          exact ih _ _ _ _ _ _ _ h
        · rw [if_pos g7] at h
          refine q_iconst X (0) (by decide) dX5_shapeParts_34 ?_
          obtain ⟨g16, h⟩ := q_ifE h
          obtain ⟨ev, eS⟩ := q_end h
          exact q_iret X hr hl (q_bool g16) ev eS dX5_shapeParts_35
def m_X5_shapeParts (sh : q_S → Nat → Int32 → Int32 → Option (Unit × q_S)) (n : Nat) (S : q_S) (o : Nat) (p0 : Int32) (p1 : Option Nat) : Option (Int32 × q_S) := q_at (S) (some o) 6 (fun a1 => q_at (S) (q_R (S) a1 2) 4 (fun a2 => q_b (m_X3_size n (S) a2) (fun r3 S4 => m_X5_shapeParts_14 sh n n (S4) (some o) (p0) (p1) (r3) ((1 : Int32)) ((0 : Int32)))))
set_option maxHeartbeats 4000000 in
set_option maxRecDepth 100000 in
theorem w_X5_shapeParts (X : q_X p s m args c cX5_shapeParts 6 RX5 q_T D cy A) (hr : meth.sig.returnType = (some .boolean)) (hl : meth.locks = false) {sh : q_S → Nat → Int32 → Int32 → Option (Unit × q_S)} {F G : Nat} (hsh : ∀ (S Sv : q_S) (a : Nat) (x y : Int32), sh S a x y = some ((), Sv) → q_MV l yX5_shape (q_ws yX5_shape cX5_shape 7 none) ({ frames := F, cells := 0, slots := 0, locals := G } : Room) D cy [.ref a, .int (x), .int (y)] S Sv)  {n : Nat} {S Sv : q_S} {rv : Int32} {o : Nat} {p0 : Int32} {p1 : Option Nat} (h : m_X5_shapeParts sh n S o p0 p1 = some (rv, Sv)) : q_W p l e ({ frames := F + 4, cells := 0, slots := 0, locals := G + 98 } : Room) s m args below meth c (MQ below (va_Qi (fun (r : Int32) (u : q_S) => r = rv ∧ u = Sv) (q_B D cy A) A) args s 0 0 A) A D cy 6 0 0 S 0 [(0, va_rf (some o)), (1, .int (p0)), (2, va_rf (p1))] [] := by
  unfold m_X5_shapeParts at h
  refine q_aload_n X 0 rfl dX5_shapeParts_0 ?_
  obtain ⟨a1, ea1, ma1, ka1, h⟩ := q_atE h
  refine q_getR X 2 ea1 ma1 ka1 rfl tW_X5 (by decide) (by decide) tF_X5_12 rfl dX5_shapeParts_1 ?_
  obtain ⟨a2, ea2, ma2, ka2, h⟩ := q_atE h
  obtain ⟨r3, S4, c5, h⟩ := q_bE h
  refine q_cVI X (As := []) ea2 ma2 ka2 rfl (by decide) (c_X3_size c5) (q_cwV X tK_X3_size tM_X5_76 tI_X3_size tV_X3_size tN_X3 rfl rfl tD_X3_size ⟨by dsimp only; omega, by dsimp only; omega⟩) rfl rfl (by first | exact Nat.le_of_ble_eq_true rfl | (simp only [List.map, q_catR]; exact Nat.le_of_ble_eq_true rfl)) ⟨Nat.zero_le _, Nat.zero_le _⟩ dX5_shapeParts_4 ?_
  refine q_istore_n X 3 [(3, .int (r3)), (0, va_rf (some o)), (1, .int (p0)), (2, va_rf (p1))] rfl (by decide) (by first | rfl | simp [List.filter, q_catR]) dX5_shapeParts_7 ?_
  refine q_iconst X (1) (by decide) dX5_shapeParts_8 ?_
  refine q_istore X 4 [(4, .int ((1 : Int32))), (3, .int (r3)), (0, va_rf (some o)), (1, .int (p0)), (2, va_rf (p1))] (by decide) (by first | rfl | simp [List.filter, q_catR]) dX5_shapeParts_9 ?_
  refine q_iconst X (0) (by decide) dX5_shapeParts_11 ?_
  refine q_istore X 5 [(5, .int ((0 : Int32))), (4, .int ((1 : Int32))), (3, .int (r3)), (0, va_rf (some o)), (1, .int (p0)), (2, va_rf (p1))] (by decide) (by first | rfl | simp [List.filter, q_catR]) dX5_shapeParts_12 ?_
  refine q_lv [3, 4, 5, 2, 1, 0] rfl ?_
  exact w_X5_shapeParts_14 X hr hl hsh n _ _ _ _ _ _ _ h
theorem tD_X5_shapeParts : yX5_shapeParts.cls ≠ "java/lang/invoke/MethodHandle" ∧ yX5_shapeParts.cls ≠ "java/lang/invoke/VarHandle" ∧ (parseMethodDescriptor yX5_shapeParts.desc).map (fun d => d.parameters.length) = some 2 := by decide +kernel
theorem c_X5_shapeParts {l : Launch} {D : va_G} {cy : Nat → ClassId} {sh : q_S → Nat → Int32 → Int32 → Option (Unit × q_S)} {F G : Nat} (hsh : ∀ (S Sv : q_S) (a : Nat) (x y : Int32), sh S a x y = some ((), Sv) → q_MV l yX5_shape (q_ws yX5_shape cX5_shape 7 none) ({ frames := F, cells := 0, slots := 0, locals := G } : Room) D cy [.ref a, .int (x), .int (y)] S Sv) {n : Nat} {S Sv : q_S} {rv : Int32} {o : Nat} {p0 : Int32} {p1 : Option Nat} (h : m_X5_shapeParts sh n S o p0 p1 = some (rv, Sv)) : q_MI l yX5_shapeParts (q_ws yX5_shapeParts cX5_shapeParts 6 ((some .boolean))) ({ frames := F + 4, cells := 0, slots := 0, locals := G + 98 } : Room) D cy [.ref o, .int (p0), va_rf (p1)] S rv Sv := by
  cases p1 <;> exact q_MI_of (by decide +kernel) (Nat.le_of_ble_eq_true rfl) (fun p e s m args below meth c A X hr hl => w_X5_shapeParts X hr hl hsh h)
/-! TrueOutlines$Shaper.shape(II)V -/
def m_X5_shapeR_9 (sh : q_S → Nat → Int32 → Int32 → Option (Unit × q_S)) (n : Nat) (S : q_S) : Option (Unit × q_S) := some ((), S)
set_option maxHeartbeats 4000000 in
set_option maxRecDepth 100000 in
theorem w_X5_shapeR_9 (X : q_X p s m args c cX5_shape 7 RX5 q_T D cy A) (hr : meth.sig.returnType = none) (hl : meth.locks = false) {sh : q_S → Nat → Int32 → Int32 → Option (Unit × q_S)} {F G : Nat} (hsh : ∀ (S Sv : q_S) (a : Nat) (x y : Int32), sh S a x y = some ((), Sv) → q_MV l yX5_shape (q_ws yX5_shape cX5_shape 7 none) ({ frames := F, cells := 0, slots := 0, locals := G } : Room) D cy [.ref a, .int (x), .int (y)] S Sv)  {n : Nat} {Sv : q_S}  (S : q_S) (h : m_X5_shapeR_9 sh n S = some ((), Sv)) : q_W p l e ({ frames := F + 5, cells := 0, slots := 0, locals := G + 123 } : Room) s m args below meth c (MQ below (va_Qv (fun (u : q_S) => u = Sv) (q_B D cy A) A) args s 0 0 A) A D cy 7 0 0 S 9 [] [] := by
  unfold m_X5_shapeR_9 at h
  obtain ⟨ev, eS⟩ := q_end h
  exact q_vret X hr hl eS dX5_shape_9
def m_X5_shapeR_130 (sh : q_S → Nat → Int32 → Int32 → Option (Unit × q_S)) (n : Nat) (S : q_S) : Option (Unit × q_S) := some ((), S)
set_option maxHeartbeats 4000000 in
set_option maxRecDepth 100000 in
theorem w_X5_shapeR_130 (X : q_X p s m args c cX5_shape 7 RX5 q_T D cy A) (hr : meth.sig.returnType = none) (hl : meth.locks = false) {sh : q_S → Nat → Int32 → Int32 → Option (Unit × q_S)} {F G : Nat} (hsh : ∀ (S Sv : q_S) (a : Nat) (x y : Int32), sh S a x y = some ((), Sv) → q_MV l yX5_shape (q_ws yX5_shape cX5_shape 7 none) ({ frames := F, cells := 0, slots := 0, locals := G } : Room) D cy [.ref a, .int (x), .int (y)] S Sv)  {n : Nat} {Sv : q_S}  (S : q_S) (h : m_X5_shapeR_130 sh n S = some ((), Sv)) : q_W p l e ({ frames := F + 5, cells := 0, slots := 0, locals := G + 123 } : Room) s m args below meth c (MQ below (va_Qv (fun (u : q_S) => u = Sv) (q_B D cy A) A) args s 0 0 A) A D cy 7 0 0 S 130 [] [] := by
  unfold m_X5_shapeR_130 at h
  obtain ⟨ev, eS⟩ := q_end h
  exact q_vret X hr hl eS dX5_shape_130
def m_X5_shapeR_103 (sh : q_S → Nat → Int32 → Int32 → Option (Unit × q_S)) (n : Nat) (S : q_S) (l0 : Option Nat) (l2 : Int32) (l4 : Int32) (l5 : Int32) (s0 : Int32) : Option (Unit × q_S) := (if s0 = 0 then q_at (S) (l0) 6 (fun a2 => q_at (S) (q_R (S) a2 2) 4 (fun a3 => q_b (m_X3_keep n (S) a3 (l4) (l5)) (fun _ S4 => q_at (S4) (l0) 6 (fun a7 => q_at (S4) (q_R (S4) a7 1) 10 (fun a8 => q_b (m_X9_tell n (S4) a8 ((1 : Int32)) (l2)) (fun _ S9 => m_X5_shapeR_130 sh n (S9))))))) else m_X5_shapeR_130 sh n (S))
set_option maxHeartbeats 4000000 in
set_option maxRecDepth 100000 in
theorem w_X5_shapeR_103 (X : q_X p s m args c cX5_shape 7 RX5 q_T D cy A) (hr : meth.sig.returnType = none) (hl : meth.locks = false) {sh : q_S → Nat → Int32 → Int32 → Option (Unit × q_S)} {F G : Nat} (hsh : ∀ (S Sv : q_S) (a : Nat) (x y : Int32), sh S a x y = some ((), Sv) → q_MV l yX5_shape (q_ws yX5_shape cX5_shape 7 none) ({ frames := F, cells := 0, slots := 0, locals := G } : Room) D cy [.ref a, .int (x), .int (y)] S Sv)  {n : Nat} {Sv : q_S}  (S : q_S) (l0 : Option Nat) (l2 : Int32) (l4 : Int32) (l5 : Int32) (s0 : Int32) (h : m_X5_shapeR_103 sh n S l0 l2 l4 l5 s0 = some ((), Sv)) : q_W p l e ({ frames := F + 5, cells := 0, slots := 0, locals := G + 123 } : Room) s m args below meth c (MQ below (va_Qv (fun (u : q_S) => u = Sv) (q_B D cy A) A) args s 0 0 A) A D cy 7 0 0 S 103 [(0, va_rf (l0)), (2, .int (l2)), (4, .int (l4)), (5, .int (l5))] [.int (s0)] := by
  unfold m_X5_shapeR_103 at h
  refine q_istore X 6 [(6, .int (s0)), (0, va_rf (l0)), (2, .int (l2)), (4, .int (l4)), (5, .int (l5))] (by decide) (by first | rfl | simp [List.filter, q_catR]) dX5_shape_103 ?_
  refine q_iload X 0 rfl dX5_shape_105 ?_
  refine q_if_ne X 130 (by decide) dX5_shape_107 (fun g1 => ?_) (fun g1 => ?_)
  · rw [if_neg g1] at h
    refine q_lv [] rfl ?_
    exact w_X5_shapeR_130 X hr hl hsh _ h
  · rw [if_pos g1] at h
    refine q_aload_n X 1 rfl dX5_shape_110 ?_
    obtain ⟨a2, ea2, ma2, ka2, h⟩ := q_atE h
    refine q_getR X 2 ea2 ma2 ka2 rfl tW_X5 (by decide) (by decide) tF_X5_12 rfl dX5_shape_111 ?_
    refine q_iload X 3 rfl dX5_shape_114 ?_
    refine q_iload X 4 rfl dX5_shape_116 ?_
    obtain ⟨a3, ea3, ma3, ka3, h⟩ := q_atE h
    obtain ⟨u6, S4, c5, h⟩ := q_bE h
    refine q_cVV X (As := [.int (l4), .int (l5)]) ea3 ma3 ka3 rfl (by decide) (c_X3_keep c5) (q_cwV X tK_X3_keep tM_X5_51 tI_X3_keep tV_X3_keep tN_X3 rfl rfl tD_X3_keep ⟨by dsimp only; omega, by dsimp only; omega⟩) rfl rfl (by first | exact Nat.le_of_ble_eq_true rfl | (simp only [List.map, q_catR]; exact Nat.le_of_ble_eq_true rfl)) ⟨Nat.zero_le _, Nat.zero_le _⟩ dX5_shape_118 ?_
    refine q_aload_n X 1 rfl dX5_shape_121 ?_
    obtain ⟨a7, ea7, ma7, ka7, h⟩ := q_atE h
    refine q_getR X 1 ea7 ma7 ka7 rfl tW_X5 (by decide) (by decide) tF_X5_44 rfl dX5_shape_122 ?_
    refine q_iconst X (1) (by decide) dX5_shape_125 ?_
    refine q_iload_n X 2 rfl dX5_shape_126 ?_
    obtain ⟨a8, ea8, ma8, ka8, h⟩ := q_atE h
    obtain ⟨u11, S9, c10, h⟩ := q_bE h
    refine q_cVV X (As := [.int ((1 : Int32)), .int (l2)]) ea8 ma8 ka8 rfl (by decide) (c_X9_tell c10) (q_cwV X tK_X9_tell tM_X5_94 tI_X9_tell tV_X9_tell tN_X9 rfl rfl tD_X9_tell ⟨by dsimp only; omega, by dsimp only; omega⟩) rfl rfl (by first | exact Nat.le_of_ble_eq_true rfl | (simp only [List.map, q_catR]; exact Nat.le_of_ble_eq_true rfl)) ⟨Nat.zero_le _, Nat.zero_le _⟩ dX5_shape_127 ?_
    refine q_lv [] rfl ?_
    exact w_X5_shapeR_130 X hr hl hsh _ h
def m_X5_shapeR (sh : q_S → Nat → Int32 → Int32 → Option (Unit × q_S)) (n : Nat) (S : q_S) (o : Nat) (p0 : Int32) (p1 : Int32) : Option (Unit × q_S) := (if p0 < 0 then m_X5_shapeR_9 sh n (S) else (if p0 ≤ (5 : Int32) then q_at (S) (some o) 6 (fun a3 => q_at (S) (q_R (S) a3 4) 103 (fun a4 => q_if (q_in (p0) (q_N (S) a4) = true) (q_at (S) (q_R (S) a3 0) 7 (fun a6 => q_b (m_X6_open n (S) a6 (p1) (q_R (S) a4 (p0).toNatClampNeg)) (fun _ S7 => q_at (S7) (q_R (S) a4 (p0).toNatClampNeg) 2 (fun a10 => q_b (m_X1_isEmpty n (S7) a10) (fun r11 S12 => (if r11 = 0 then q_at (S12) (some o) 6 (fun a15 => q_at (S12) (q_R (S12) a15 5) 100 (fun a16 => q_if (q_in (p0) (q_N (S12) a16) = true) (q_let (q_sI (q_sI (S12) a16 (p0).toNatClampNeg (p1)) a15 9 ((q_I (q_sI (S12) a16 (p0).toNatClampNeg (p1)) a15 9) + (1 : Int32))) (fun S18 => q_at (S18) (q_R (S18) a15 6) 100 (fun a19 => q_if (q_in (p0) (q_N (S18) a19) = true) (q_at (q_sI (S18) a19 (p0).toNatClampNeg (q_I (S18) a15 9)) (q_R (q_sI (S18) a19 (p0).toNatClampNeg (q_I (S18) a15 9)) a15 2) 4 (fun a21 => q_b (m_X3_size n (q_sI (S18) a19 (p0).toNatClampNeg (q_I (S18) a15 9)) a21) (fun r22 S23 => q_at (S23) (some o) 6 (fun a25 => q_at (S23) (q_R (S23) a25 2) 4 (fun a26 => q_b (m_X3_contours n (S23) a26) (fun r27 S28 => q_at (S28) (q_R (S) a4 (p0).toNatClampNeg) 2 (fun a30 => q_b (m_X1_hasParts n (S28) a30) (fun r31 S32 => (if r31 = 0 then q_at (S32) (some o) 6 (fun a35 => q_at (S32) (q_R (S32) a35 2) 4 (fun a36 => q_b (m_X3_take n (S32) a36 (q_R (S) a4 (p0).toNatClampNeg)) (fun r37 S38 => m_X5_shapeR_103 sh n (S38) (some o) (p1) (r22) (r27) (r37)))) else q_at (S32) (some o) 6 (fun a40 => q_b (m_X5_shapeParts sh n (S32) a40 (p0) (q_R (S) a4 (p0).toNatClampNeg)) (fun r41 S42 => m_X5_shapeR_103 sh n (S42) (some o) (p1) (r22) (r27) (r41))))))))))))))))) else some ((), S12))))))))) else m_X5_shapeR_9 sh n (S)))
set_option maxHeartbeats 4000000 in
set_option maxRecDepth 100000 in
theorem w_X5_shapeR (X : q_X p s m args c cX5_shape 7 RX5 q_T D cy A) (hr : meth.sig.returnType = none) (hl : meth.locks = false) {sh : q_S → Nat → Int32 → Int32 → Option (Unit × q_S)} {F G : Nat} (hsh : ∀ (S Sv : q_S) (a : Nat) (x y : Int32), sh S a x y = some ((), Sv) → q_MV l yX5_shape (q_ws yX5_shape cX5_shape 7 none) ({ frames := F, cells := 0, slots := 0, locals := G } : Room) D cy [.ref a, .int (x), .int (y)] S Sv)  {n : Nat} {S Sv : q_S} {o : Nat} {p0 : Int32} {p1 : Int32} (h : m_X5_shapeR sh n S o p0 p1 = some ((), Sv)) : q_W p l e ({ frames := F + 5, cells := 0, slots := 0, locals := G + 123 } : Room) s m args below meth c (MQ below (va_Qv (fun (u : q_S) => u = Sv) (q_B D cy A) A) args s 0 0 A) A D cy 7 0 0 S 0 [(0, va_rf (some o)), (1, .int (p0)), (2, .int (p1))] [] := by
  unfold m_X5_shapeR at h
  refine q_iload_n X 1 rfl dX5_shape_0 ?_
  refine q_if_lt X 9 (by decide) dX5_shape_1 (fun g1 => ?_) (fun g1 => ?_)
  · rw [if_pos g1] at h
    refine q_lv [] rfl ?_
    exact w_X5_shapeR_9 X hr hl hsh _ h
  · rw [if_neg g1] at h
    refine q_iload_n X 1 rfl dX5_shape_4 ?_
    refine q_iconst X (5) (by decide) dX5_shape_5 ?_
    refine q_icmp_le X 10 (by decide) dX5_shape_6 (fun g2 => ?_) (fun g2 => ?_)
    · rw [if_pos g2] at h
      refine q_aload_n X 0 rfl dX5_shape_10 ?_
      obtain ⟨a3, ea3, ma3, ka3, h⟩ := q_atE h
      refine q_getR X 4 ea3 ma3 ka3 rfl tW_X5 (by decide) (by decide) tF_X5_23 rfl dX5_shape_11 ?_
      refine q_iload_n X 1 rfl dX5_shape_14 ?_
      obtain ⟨a4, ea4, ma4, ka4, h⟩ := q_atE h
      obtain ⟨g5, h⟩ := q_ifE h
      refine q_daload X ea4 ma4 ka4 (q_inE g5) dX5_shape_15 ?_
      refine q_astore_n X 3 [(3, va_rf (q_R (S) a4 (p0).toNatClampNeg)), (0, va_rf (some o)), (1, .int (p0)), (2, .int (p1))] rfl (by decide) (by first | rfl | simp [List.filter, q_catR]) dX5_shape_16 ?_
      refine q_aload_n X 1 rfl dX5_shape_17 ?_
      refine q_getR X 0 ea3 ma3 ka3 rfl tW_X5 (by decide) (by decide) tF_X5_40 rfl dX5_shape_18 ?_
      refine q_iload_n X 3 rfl dX5_shape_21 ?_
      refine q_aload_n X 0 rfl dX5_shape_22 ?_
      obtain ⟨a6, ea6, ma6, ka6, h⟩ := q_atE h
      obtain ⟨u9, S7, c8, h⟩ := q_bE h
      refine q_cVV X (As := [.int (p1), va_rf (q_R (S) a4 (p0).toNatClampNeg)]) ea6 ma6 ka6 rfl (by decide) (c_X6_open c8) (q_cwV X tK_X6_open tM_X5_64 tI_X6_open tV_X6_open tN_X6 rfl rfl tD_X6_open ⟨by dsimp only; omega, by dsimp only; omega⟩) rfl rfl (by first | exact Nat.le_of_ble_eq_true rfl | (simp only [List.map, q_catR]; exact Nat.le_of_ble_eq_true rfl)) ⟨Nat.zero_le _, Nat.zero_le _⟩ dX5_shape_23 ?_
      refine q_aload_n X 0 rfl dX5_shape_26 ?_
      obtain ⟨a10, ea10, ma10, ka10, h⟩ := q_atE h
      obtain ⟨r11, S12, c13, h⟩ := q_bE h
      refine q_cVI X (As := []) ea10 ma10 ka10 rfl (by decide) (c_X1_isEmpty c13) (q_cwV X tK_X1_isEmpty tM_X5_68 tI_X1_isEmpty tV_X1_isEmpty tN_X1 rfl rfl tD_X1_isEmpty ⟨by dsimp only; omega, by dsimp only; omega⟩) rfl rfl (by first | exact Nat.le_of_ble_eq_true rfl | (simp only [List.map, q_catR]; exact Nat.le_of_ble_eq_true rfl)) ⟨Nat.zero_le _, Nat.zero_le _⟩ dX5_shape_27 ?_
      refine q_if_eq X 34 (by decide) dX5_shape_30 (fun g14 => ?_) (fun g14 => ?_)
      · rw [if_pos g14] at h
        refine q_aload_n X 1 rfl dX5_shape_34 ?_
        obtain ⟨a15, ea15, ma15, ka15, h⟩ := q_atE h
        refine q_getR X 5 ea15 ma15 ka15 rfl tW_X5 (by decide) (by decide) tF_X5_27 rfl dX5_shape_35 ?_
        refine q_iload_n X 2 rfl dX5_shape_38 ?_
        refine q_iload_n X 3 rfl dX5_shape_39 ?_
        obtain ⟨a16, ea16, ma16, ka16, h⟩ := q_atE h
        obtain ⟨g17, h⟩ := q_ifE h
        refine q_iastore X ea16 ma16 ka16 (q_inE g17) dX5_shape_40 ?_
        have ma15 : a15 ∈ q_L (q_sI (S12) a16 (p0).toNatClampNeg (p1)) := q_LsI ma15
        have ka15 : q_K (q_sI (S12) a16 (p0).toNatClampNeg (p1)) a15 = 6 := q_KsI ka15
        have ma16 : a16 ∈ q_L (q_sI (S12) a16 (p0).toNatClampNeg (p1)) := q_LsI ma16
        have ka16 : q_K (q_sI (S12) a16 (p0).toNatClampNeg (p1)) a16 = 100 := q_KsI ka16
        refine q_aload_n X 1 rfl dX5_shape_41 ?_
        refine q_dup X (q_catR _) dX5_shape_42 ?_
        refine q_getI X 9 ea15 ma15 ka15 rfl tW_X5 (by decide) (by decide) tF_X5_72 rfl dX5_shape_43 ?_
        refine q_iconst X (1) (by decide) dX5_shape_46 ?_
        refine q_iadd X dX5_shape_47 ?_
        refine q_putI X 9 ea15 ma15 ka15 rfl tW_X5 (by decide) (by decide) tF_X5_72 tyX5 tyX5_ok nmX5 rfl (tyX5_ok 9 (by decide)) rfl rfl rfl dX5_shape_48 ?_
        have ma15 : a15 ∈ q_L (q_sI (q_sI (S12) a16 (p0).toNatClampNeg (p1)) a15 9 ((q_I (q_sI (S12) a16 (p0).toNatClampNeg (p1)) a15 9) + (1 : Int32))) := q_LsI ma15
        have ka15 : q_K (q_sI (q_sI (S12) a16 (p0).toNatClampNeg (p1)) a15 9 ((q_I (q_sI (S12) a16 (p0).toNatClampNeg (p1)) a15 9) + (1 : Int32))) a15 = 6 := q_KsI ka15
        have ma16 : a16 ∈ q_L (q_sI (q_sI (S12) a16 (p0).toNatClampNeg (p1)) a15 9 ((q_I (q_sI (S12) a16 (p0).toNatClampNeg (p1)) a15 9) + (1 : Int32))) := q_LsI ma16
        have ka16 : q_K (q_sI (q_sI (S12) a16 (p0).toNatClampNeg (p1)) a15 9 ((q_I (q_sI (S12) a16 (p0).toNatClampNeg (p1)) a15 9) + (1 : Int32))) a16 = 100 := q_KsI ka16
        obtain ⟨S18, eS18, h⟩ := q_letE h
        refine q_sub eS18 ?_
        have ma15 : a15 ∈ q_L S18 := by rw [eS18]; exact ma15
        have ka15 : q_K S18 a15 = 6 := by rw [eS18]; exact ka15
        have ma16 : a16 ∈ q_L S18 := by rw [eS18]; exact ma16
        have ka16 : q_K S18 a16 = 100 := by rw [eS18]; exact ka16
        refine q_aload_n X 1 rfl dX5_shape_51 ?_
        refine q_getR X 6 ea15 ma15 ka15 rfl tW_X5 (by decide) (by decide) tF_X5_31 rfl dX5_shape_52 ?_
        refine q_iload_n X 2 rfl dX5_shape_55 ?_
        refine q_aload_n X 1 rfl dX5_shape_56 ?_
        refine q_getI X 9 ea15 ma15 ka15 rfl tW_X5 (by decide) (by decide) tF_X5_72 rfl dX5_shape_57 ?_
        obtain ⟨a19, ea19, ma19, ka19, h⟩ := q_atE h
        obtain ⟨g20, h⟩ := q_ifE h
        refine q_iastore X ea19 ma19 ka19 (q_inE g20) dX5_shape_60 ?_
        have ma15 : a15 ∈ q_L (q_sI (S18) a19 (p0).toNatClampNeg (q_I (S18) a15 9)) := q_LsI ma15
        have ka15 : q_K (q_sI (S18) a19 (p0).toNatClampNeg (q_I (S18) a15 9)) a15 = 6 := q_KsI ka15
        have ma16 : a16 ∈ q_L (q_sI (S18) a19 (p0).toNatClampNeg (q_I (S18) a15 9)) := q_LsI ma16
        have ka16 : q_K (q_sI (S18) a19 (p0).toNatClampNeg (q_I (S18) a15 9)) a16 = 100 := q_KsI ka16
        have ma19 : a19 ∈ q_L (q_sI (S18) a19 (p0).toNatClampNeg (q_I (S18) a15 9)) := q_LsI ma19
        have ka19 : q_K (q_sI (S18) a19 (p0).toNatClampNeg (q_I (S18) a15 9)) a19 = 100 := q_KsI ka19
        refine q_aload_n X 1 rfl dX5_shape_61 ?_
        refine q_getR X 2 ea15 ma15 ka15 rfl tW_X5 (by decide) (by decide) tF_X5_12 rfl dX5_shape_62 ?_
        obtain ⟨a21, ea21, ma21, ka21, h⟩ := q_atE h
        obtain ⟨r22, S23, c24, h⟩ := q_bE h
        refine q_cVI X (As := []) ea21 ma21 ka21 rfl (by decide) (c_X3_size c24) (q_cwV X tK_X3_size tM_X5_76 tI_X3_size tV_X3_size tN_X3 rfl rfl tD_X3_size ⟨by dsimp only; omega, by dsimp only; omega⟩) rfl rfl (by first | exact Nat.le_of_ble_eq_true rfl | (simp only [List.map, q_catR]; exact Nat.le_of_ble_eq_true rfl)) ⟨Nat.zero_le _, Nat.zero_le _⟩ dX5_shape_65 ?_
        refine q_istore X 4 [(4, .int (r22)), (3, va_rf (q_R (S) a4 (p0).toNatClampNeg)), (0, va_rf (some o)), (1, .int (p0)), (2, .int (p1))] (by decide) (by first | rfl | simp [List.filter, q_catR]) dX5_shape_68 ?_
        refine q_aload_n X 2 rfl dX5_shape_70 ?_
        obtain ⟨a25, ea25, ma25, ka25, h⟩ := q_atE h
        refine q_getR X 2 ea25 ma25 ka25 rfl tW_X5 (by decide) (by decide) tF_X5_12 rfl dX5_shape_71 ?_
        obtain ⟨a26, ea26, ma26, ka26, h⟩ := q_atE h
        obtain ⟨r27, S28, c29, h⟩ := q_bE h
        refine q_cVI X (As := []) ea26 ma26 ka26 rfl (by decide) (c_X3_contours c29) (q_cwV X tK_X3_contours tM_X5_80 tI_X3_contours tV_X3_contours tN_X3 rfl rfl tD_X3_contours ⟨by dsimp only; omega, by dsimp only; omega⟩) rfl rfl (by first | exact Nat.le_of_ble_eq_true rfl | (simp only [List.map, q_catR]; exact Nat.le_of_ble_eq_true rfl)) ⟨Nat.zero_le _, Nat.zero_le _⟩ dX5_shape_74 ?_
        refine q_istore X 5 [(5, .int (r27)), (4, .int (r22)), (3, va_rf (q_R (S) a4 (p0).toNatClampNeg)), (0, va_rf (some o)), (1, .int (p0)), (2, .int (p1))] (by decide) (by first | rfl | simp [List.filter, q_catR]) dX5_shape_77 ?_
        refine q_aload_n X 2 rfl dX5_shape_79 ?_
        obtain ⟨a30, ea30, ma30, ka30, h⟩ := q_atE h
        obtain ⟨r31, S32, c33, h⟩ := q_bE h
        refine q_cVI X (As := []) ea30 ma30 ka30 rfl (by decide) (c_X1_hasParts c33) (q_cwV X tK_X1_hasParts tM_X5_83 tI_X1_hasParts tV_X1_hasParts tN_X1 rfl rfl tD_X1_hasParts ⟨by dsimp only; omega, by dsimp only; omega⟩) rfl rfl (by first | exact Nat.le_of_ble_eq_true rfl | (simp only [List.map, q_catR]; exact Nat.le_of_ble_eq_true rfl)) ⟨Nat.zero_le _, Nat.zero_le _⟩ dX5_shape_80 ?_
        refine q_if_eq X 95 (by decide) dX5_shape_83 (fun g34 => ?_) (fun g34 => ?_)
        · rw [if_pos g34] at h
          refine q_aload_n X 3 rfl dX5_shape_95 ?_
          obtain ⟨a35, ea35, ma35, ka35, h⟩ := q_atE h
          refine q_getR X 2 ea35 ma35 ka35 rfl tW_X5 (by decide) (by decide) tF_X5_12 rfl dX5_shape_96 ?_
          refine q_aload_n X 2 rfl dX5_shape_99 ?_
          obtain ⟨a36, ea36, ma36, ka36, h⟩ := q_atE h
          obtain ⟨r37, S38, c39, h⟩ := q_bE h
          refine q_cVI X (As := [va_rf (q_R (S) a4 (p0).toNatClampNeg)]) ea36 ma36 ka36 rfl (by decide) (c_X3_take c39) (q_cwV X tK_X3_take tM_X5_90 tI_X3_take tV_X3_take tN_X3 rfl rfl tD_X3_take ⟨by dsimp only; omega, by dsimp only; omega⟩) rfl rfl (by first | exact Nat.le_of_ble_eq_true rfl | (simp only [List.map, q_catR]; exact Nat.le_of_ble_eq_true rfl)) ⟨Nat.zero_le _, Nat.zero_le _⟩ dX5_shape_100 ?_
          refine q_lv [3, 5, 1, 0] rfl ?_
          exact w_X5_shapeR_103 X hr hl hsh _ _ _ _ _ _ h
        · rw [if_neg g34] at h
          refine q_aload_n X 3 rfl dX5_shape_86 ?_
          refine q_iload_n X 4 rfl dX5_shape_87 ?_
          refine q_aload_n X 2 rfl dX5_shape_88 ?_
          obtain ⟨a40, ea40, ma40, ka40, h⟩ := q_atE h
          obtain ⟨r41, S42, c43, h⟩ := q_bE h
          refine q_cVI X (As := [.int (p0), va_rf (q_R (S) a4 (p0).toNatClampNeg)]) ea40 ma40 ka40 rfl (by decide) (c_X5_shapeParts hsh c43) (q_cwV X tK_X5_shapeParts tM_X5_86 tI_X5_shapeParts tV_X5_shapeParts tN_X5 rfl rfl tD_X5_shapeParts ⟨by dsimp only; omega, by dsimp only; omega⟩) rfl rfl (by first | exact Nat.le_of_ble_eq_true rfl | (simp only [List.map, q_catR]; exact Nat.le_of_ble_eq_true rfl)) ⟨Nat.zero_le _, Nat.zero_le _⟩ dX5_shape_89 ?_
          refine q_goto X 103 (by decide) dX5_shape_92 ?_
          refine q_lv [3, 5, 1, 0] rfl ?_
          exact w_X5_shapeR_103 X hr hl hsh _ _ _ _ _ _ h
      · rw [if_neg g14] at h
        obtain ⟨ev, eS⟩ := q_end h
        exact q_vret X hr hl eS dX5_shape_33
    · rw [if_neg g2] at h
      refine q_lv [] rfl ?_
      exact w_X5_shapeR_9 X hr hl hsh _ h
theorem c_X5_shapeR {l : Launch} {D : va_G} {cy : Nat → ClassId} {sh : q_S → Nat → Int32 → Int32 → Option (Unit × q_S)} {F G : Nat} (hsh : ∀ (S Sv : q_S) (a : Nat) (x y : Int32), sh S a x y = some ((), Sv) → q_MV l yX5_shape (q_ws yX5_shape cX5_shape 7 none) ({ frames := F, cells := 0, slots := 0, locals := G } : Room) D cy [.ref a, .int (x), .int (y)] S Sv) {n : Nat} {S Sv : q_S} {o : Nat} {p0 : Int32} {p1 : Int32} (h : m_X5_shapeR sh n S o p0 p1 = some ((), Sv)) : q_MV l yX5_shape (q_ws yX5_shape cX5_shape 7 (none)) ({ frames := F + 5, cells := 0, slots := 0, locals := G + 123 } : Room) D cy [.ref o, .int (p0), .int (p1)] S Sv := by
  exact q_MV_of (by decide +kernel) (Nat.le_of_ble_eq_true rfl) (fun p e s m args below meth c A X hr hl => w_X5_shapeR X hr hl hsh h)
end MM
/-! shape, by how many levels it may go down -/
def m_X5_shapeD (n : Nat) : Nat → q_S → Nat → Int32 → Int32 → Option (Unit × q_S)
  | 0, _, _, _, _ => none
  | d + 1, S, o, x, y => m_X5_shapeR (m_X5_shapeD n d) n S o x y
theorem c_X5_shapeD {l : Launch} {D : va_G} {cy : Nat → ClassId} {n : Nat} : ∀ (d : Nat) (S Sv : q_S) (a : Nat) (x y : Int32), m_X5_shapeD n d S a x y = some ((), Sv) → q_MV l yX5_shape (q_ws yX5_shape cX5_shape 7 none) ({ frames := 5 * d, cells := 0, slots := 0, locals := 123 * d } : Room) D cy [.ref a, .int (x), .int (y)] S Sv := by
  intro d
  induction d with
  | zero => intro S Sv a x y h; rw [m_X5_shapeD] at h; cases h
  | succ d ih => intro S Sv a x y h; rw [m_X5_shapeD] at h; exact c_X5_shapeR ih h
def m_X5_shape (n : Nat) (S : q_S) (o : Nat) (p0 : Int32) (p1 : Int32) : Option (Unit × q_S) := m_X5_shapeD n 7 S o p0 p1
theorem c_X5_shape {l : Launch} {D : va_G} {cy : Nat → ClassId} {n : Nat} {S Sv : q_S} {o : Nat} {p0 : Int32} {p1 : Int32} (h : m_X5_shape n S o p0 p1 = some ((), Sv)) : q_MV l yX5_shape (q_ws yX5_shape cX5_shape 7 (none)) ({ frames := 35, cells := 0, slots := 0, locals := 861 } : Room) D cy [.ref o, .int (p0), .int (p1)] S Sv := c_X5_shapeD 7 _ _ _ _ _ h
