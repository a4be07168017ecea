section LH
variable {p : Program} {l : Launch} {e : Env} {s : State} {m : MethodId} {args : Array Value} {below : List Frame} {meth : Method} {c : Code} {A : Nat → Prop} {D : va_G} {cy : Nat → ClassId}
def m_L_octet (n : Nat) (S : q_S) (x : Option Nat) (p0 p1 : Int32) (out : Option Nat) : Option (Int32 × q_S) := q_at S x 12 (fun a => q_at S out 101 (fun o => q_b (m_X11_octet n S a p0 p1) (fun r S1 => match r with
  | some v => q_at S1 (some o) 101 (fun o1 => q_if (q_in 0 (q_N S1 o1) = true) (some (0, q_sJ S1 o1 (0 : Int32).toNatClampNeg v.toInt64)))
  | none => some (1, S1))))
theorem tD_L_octet : yL_octet.cls ≠ "java/lang/invoke/MethodHandle" ∧ yL_octet.cls ≠ "java/lang/invoke/VarHandle" ∧ (parseMethodDescriptor yL_octet.desc).map (fun d => d.parameters.length) = some 4 := by decide +kernel
theorem tW_L_octet : Cond.codeWith yL_octet cL_octet 5 (some .int) [(0, 10, 13, 13)] ∈ q_T := List.mem_filter.mpr ⟨by decide +kernel, rfl⟩
theorem tE_L_octet : Cond.castable "java/lang/ArrayIndexOutOfBoundsException" "java/lang/ArrayIndexOutOfBoundsException" ∈ q_TE := by decide +kernel
set_option maxHeartbeats 4000000 in
set_option maxRecDepth 100000 in
theorem c_L_octet (hlt : l.stackTraces = false) {n : Nat} {S Sv : q_S} {x out : Option Nat} {p0 p1 rv : Int32} (h : m_L_octet n S x p0 p1 out = some (rv, Sv)) : q_MH l yL_octet (q_wsW yL_octet cL_octet 5 (some .int) [(0, 10, 13, 13)]) ({ frames := 8, cells := 1, slots := 6, locals := 126 } : Room) D cy [va_rf x, .int p0, .int p1, va_rf out] S rv Sv := by
  obtain ⟨a, rfl, ma, ka, h⟩ := q_atE h
  obtain ⟨o, rfl, mo, ko, h⟩ := q_atE h
  obtain ⟨r, S1, hc, h⟩ := q_bE h
  refine q_MH_of (by decide +kernel) (Nat.le_of_ble_eq_true rfl) (fun p e s m args below meth c A X hr hl ht hE => ?_)
  show q_W p l e _ s m args below meth c _ A D cy 5 0 0 S 0 [(0, va_rf (some a)), (1, .int (p0)), (2, .int (p1)), (3, va_rf (some o))] []
  refine q_aload_n X 3 rfl dL_octet_0 ?_
  refine q_iconst X (0) (by decide) dL_octet_1 ?_
  refine q_aload_n X 0 rfl dL_octet_2 ?_
  refine q_iload_n X 1 rfl dL_octet_3 ?_
  refine q_iload_n X 2 rfl dL_octet_4 ?_
  refine q_cVX X hE (x := ⟨0, 10, 13, 13⟩) (E := "java/lang/ArrayIndexOutOfBoundsException") (name := "java/lang/ArrayIndexOutOfBoundsException") (As := [.int (p0), .int (p1)]) rfl ma ka rfl (by decide) (c_X11_octet hlt hc) (q_cwVX X tK_X11_octet tM_L_7 tI_X11_octet tV_X11_octet tN_X11 rfl rfl tD_X11_octet ⟨Nat.le_of_ble_eq_true rfl, Nat.le_of_ble_eq_true rfl⟩) rfl rfl (by first | exact Nat.le_of_ble_eq_true rfl | (simp only [List.map, q_catR]; exact Nat.le_of_ble_eq_true rfl)) ⟨Nat.le_refl _, Nat.le_refl _⟩ dL_octet_5 ht (by decide) (by decide) tL_L_13 tE_L_octet (fun er q => ?_) (fun v er => ?_)
  · subst er
    obtain ⟨ev, eS⟩ := q_end h
    refine q_astore X 4 [(4, va_rf (some q)), (0, va_rf (some a)), (1, .int (p0)), (2, .int (p1)), (3, va_rf (some o))] (by decide) (by first | rfl | simp [List.filter, q_catR]) dL_octet_13 ?_
    refine q_iconst X (1) (by decide) dL_octet_15 ?_
    exact q_iretH X hr hl rfl ev eS dL_octet_16
  · subst er
    obtain ⟨o1, eo, mo1, ko1, h⟩ := q_atE h
    obtain ⟨g, h⟩ := q_ifE h
    obtain ⟨ev, eS⟩ := q_end h
    refine q_i2l X dL_octet_8 ?_
    refine q_lastore X eo mo1 ko1 (q_inE g) dL_octet_9 ?_
    refine q_goto X 17 (by decide) dL_octet_10 ?_
    refine q_iconst X (0) (by decide) dL_octet_17 ?_
    exact q_iretH X hr hl rfl ev eS dL_octet_18
def m_L_piece (n : Nat) (S : q_S) (x : Option Nat) (p0 p1 : Int32) (out : Option Nat) : Option (Int32 × q_S) := q_at S x 12 (fun a => q_at S out 101 (fun o => q_b (m_X11_piece n S a p0 p1) (fun r S1 => match r with
  | some v => q_at S1 (some o) 101 (fun o1 => q_if (q_in 0 (q_N S1 o1) = true) (some (0, q_sJ S1 o1 (0 : Int32).toNatClampNeg v.toInt64)))
  | none => some (1, S1))))
theorem tD_L_piece : yL_piece.cls ≠ "java/lang/invoke/MethodHandle" ∧ yL_piece.cls ≠ "java/lang/invoke/VarHandle" ∧ (parseMethodDescriptor yL_piece.desc).map (fun d => d.parameters.length) = some 4 := by decide +kernel
theorem tW_L_piece : Cond.codeWith yL_piece cL_piece 5 (some .int) [(0, 10, 13, 18)] ∈ q_T := List.mem_filter.mpr ⟨by decide +kernel, rfl⟩
theorem tE_L_piece : Cond.castable "java/lang/IndexOutOfBoundsException" "java/lang/IndexOutOfBoundsException" ∈ q_TE := by decide +kernel
set_option maxHeartbeats 4000000 in
set_option maxRecDepth 100000 in
theorem c_L_piece (hlt : l.stackTraces = false) {n : Nat} {S Sv : q_S} {x out : Option Nat} {p0 p1 rv : Int32} (h : m_L_piece n S x p0 p1 out = some (rv, Sv)) : q_MH l yL_piece (q_wsW yL_piece cL_piece 5 (some .int) [(0, 10, 13, 18)]) ({ frames := 7, cells := 1, slots := 6, locals := 112 } : Room) D cy [va_rf x, .int p0, .int p1, va_rf out] S rv Sv := by
  obtain ⟨a, rfl, ma, ka, h⟩ := q_atE h
  obtain ⟨o, rfl, mo, ko, h⟩ := q_atE h
  obtain ⟨r, S1, hc, h⟩ := q_bE h
  refine q_MH_of (by decide +kernel) (Nat.le_of_ble_eq_true rfl) (fun p e s m args below meth c A X hr hl ht hE => ?_)
  show q_W p l e _ s m args below meth c _ A D cy 5 0 0 S 0 [(0, va_rf (some a)), (1, .int (p0)), (2, .int (p1)), (3, va_rf (some o))] []
  refine q_aload_n X 3 rfl dL_piece_0 ?_
  refine q_iconst X (0) (by decide) dL_piece_1 ?_
  refine q_aload_n X 0 rfl dL_piece_2 ?_
  refine q_iload_n X 1 rfl dL_piece_3 ?_
  refine q_iload_n X 2 rfl dL_piece_4 ?_
  refine q_cVX X hE (x := ⟨0, 10, 13, 18⟩) (E := "java/lang/IndexOutOfBoundsException") (name := "java/lang/IndexOutOfBoundsException") (As := [.int (p0), .int (p1)]) rfl ma ka rfl (by decide) (c_X11_piece hlt hc) (q_cwVX X tK_X11_piece tM_L_15 tI_X11_piece tV_X11_piece tN_X11 rfl rfl tD_X11_piece ⟨Nat.le_of_ble_eq_true rfl, Nat.le_of_ble_eq_true rfl⟩) rfl rfl (by first | exact Nat.le_of_ble_eq_true rfl | (simp only [List.map, q_catR]; exact Nat.le_of_ble_eq_true rfl)) ⟨Nat.le_refl _, Nat.le_refl _⟩ dL_piece_5 ht (by decide) (by decide) tL_L_18 tE_L_piece (fun er q => ?_) (fun v er => ?_)
  · subst er
    obtain ⟨ev, eS⟩ := q_end h
    refine q_astore X 4 [(4, va_rf (some q)), (0, va_rf (some a)), (1, .int (p0)), (2, .int (p1)), (3, va_rf (some o))] (by decide) (by first | rfl | simp [List.filter, q_catR]) dL_piece_13 ?_
    refine q_iconst X (1) (by decide) dL_piece_15 ?_
    exact q_iretH X hr hl rfl ev eS dL_piece_16
  · subst er
    obtain ⟨o1, eo, mo1, ko1, h⟩ := q_atE h
    obtain ⟨g, h⟩ := q_ifE h
    obtain ⟨ev, eS⟩ := q_end h
    refine q_i2l X dL_piece_8 ?_
    refine q_lastore X eo mo1 ko1 (q_inE g) dL_piece_9 ?_
    refine q_goto X 17 (by decide) dL_piece_10 ?_
    refine q_iconst X (0) (by decide) dL_piece_17 ?_
    exact q_iretH X hr hl rfl ev eS dL_piece_18
def m_L_told (n : Nat) (S : q_S) (x : Option Nat) (p0 p1 : Int32) (out : Option Nat) : Option (Int32 × q_S) := q_at S x 12 (fun a => q_at S out 101 (fun o => q_b (m_X11_told n S a p0 p1) (fun r S1 => match r with
  | some v => q_at S1 (some o) 101 (fun o1 => q_if (q_in 0 (q_N S1 o1) = true) (some (0, q_sJ S1 o1 (0 : Int32).toNatClampNeg v.toInt64)))
  | none => some (1, S1))))
theorem tD_L_told : yL_told.cls ≠ "java/lang/invoke/MethodHandle" ∧ yL_told.cls ≠ "java/lang/invoke/VarHandle" ∧ (parseMethodDescriptor yL_told.desc).map (fun d => d.parameters.length) = some 4 := by decide +kernel
theorem tW_L_told : Cond.codeWith yL_told cL_told 5 (some .int) [(0, 10, 13, 18)] ∈ q_T := List.mem_filter.mpr ⟨by decide +kernel, rfl⟩
theorem tE_L_told : Cond.castable "java/lang/IndexOutOfBoundsException" "java/lang/IndexOutOfBoundsException" ∈ q_TE := by decide +kernel
set_option maxHeartbeats 4000000 in
set_option maxRecDepth 100000 in
theorem c_L_told (hlt : l.stackTraces = false) {n : Nat} {S Sv : q_S} {x out : Option Nat} {p0 p1 rv : Int32} (h : m_L_told n S x p0 p1 out = some (rv, Sv)) : q_MH l yL_told (q_wsW yL_told cL_told 5 (some .int) [(0, 10, 13, 18)]) ({ frames := 7, cells := 1, slots := 6, locals := 112 } : Room) D cy [va_rf x, .int p0, .int p1, va_rf out] S rv Sv := by
  obtain ⟨a, rfl, ma, ka, h⟩ := q_atE h
  obtain ⟨o, rfl, mo, ko, h⟩ := q_atE h
  obtain ⟨r, S1, hc, h⟩ := q_bE h
  refine q_MH_of (by decide +kernel) (Nat.le_of_ble_eq_true rfl) (fun p e s m args below meth c A X hr hl ht hE => ?_)
  show q_W p l e _ s m args below meth c _ A D cy 5 0 0 S 0 [(0, va_rf (some a)), (1, .int (p0)), (2, .int (p1)), (3, va_rf (some o))] []
  refine q_aload_n X 3 rfl dL_told_0 ?_
  refine q_iconst X (0) (by decide) dL_told_1 ?_
  refine q_aload_n X 0 rfl dL_told_2 ?_
  refine q_iload_n X 1 rfl dL_told_3 ?_
  refine q_iload_n X 2 rfl dL_told_4 ?_
  refine q_cVX X hE (x := ⟨0, 10, 13, 18⟩) (E := "java/lang/IndexOutOfBoundsException") (name := "java/lang/IndexOutOfBoundsException") (As := [.int (p0), .int (p1)]) rfl ma ka rfl (by decide) (c_X11_told hlt hc) (q_cwVX X tK_X11_told tM_L_20 tI_X11_told tV_X11_told tN_X11 rfl rfl tD_X11_told ⟨Nat.le_of_ble_eq_true rfl, Nat.le_of_ble_eq_true rfl⟩) rfl rfl (by first | exact Nat.le_of_ble_eq_true rfl | (simp only [List.map, q_catR]; exact Nat.le_of_ble_eq_true rfl)) ⟨Nat.le_refl _, Nat.le_refl _⟩ dL_told_5 ht (by decide) (by decide) tL_L_18 tE_L_told (fun er q => ?_) (fun v er => ?_)
  · subst er
    obtain ⟨ev, eS⟩ := q_end h
    refine q_astore X 4 [(4, va_rf (some q)), (0, va_rf (some a)), (1, .int (p0)), (2, .int (p1)), (3, va_rf (some o))] (by decide) (by first | rfl | simp [List.filter, q_catR]) dL_told_13 ?_
    refine q_iconst X (1) (by decide) dL_told_15 ?_
    exact q_iretH X hr hl rfl ev eS dL_told_16
  · subst er
    obtain ⟨o1, eo, mo1, ko1, h⟩ := q_atE h
    obtain ⟨g, h⟩ := q_ifE h
    obtain ⟨ev, eS⟩ := q_end h
    refine q_i2l X dL_told_8 ?_
    refine q_lastore X eo mo1 ko1 (q_inE g) dL_told_9 ?_
    refine q_goto X 17 (by decide) dL_told_10 ?_
    refine q_iconst X (0) (by decide) dL_told_17 ?_
    exact q_iretH X hr hl rfl ev eS dL_told_18
end LH
