section MM
variable {p : Program} {l : Launch} {e : Env} {s : State} {m : MethodId} {args : Array Value} {below : List Frame} {meth : Method} {c : Code} {A : Nat → Prop} {D : va_G} {cy : Nat → ClassId}
/-! TrueOutlinesModel.cut(I)I -/
def m_X12_cut_65 (n : Nat) (k24 : q_S → Option Nat → Int32 → Option (Int32 × q_S)) (k32 : q_S → Option Nat → Int32 → Int32 → Option (Int32 × q_S)) (S : q_S) (l0 : Option Nat) (l3 : Int32) (s0 : Int32) : Option (Int32 × q_S) := k32 (S) (l0) (s0) (l3 + (1))
set_option maxHeartbeats 4000000 in
set_option maxRecDepth 100000 in
theorem w_X12_cut_65 (X : q_X p s m args c cX12_cut 4 RX12 q_T D cy A) (hr : meth.sig.returnType = (some .int)) (hl : meth.locks = false)  {n : Nat} {Sv : q_S} {rv : Int32}  {k24 : q_S → Option Nat → Int32 → Option (Int32 × q_S)} {k32 : q_S → Option Nat → Int32 → Int32 → Option (Int32 × q_S)} (hk24 : ∀ (S : q_S) (z0 : Option Nat) (z1 : Int32), k24 S z0 z1 = some (rv, Sv) → q_W p l e ({ frames := 5, cells := 0, slots := 0, locals := 125 } : Room) s m args below meth c (MQ below (va_Qi (fun (r : Int32) (u : q_S) => r = rv ∧ u = Sv) (q_B D cy A) A) args s 0 0 A) A D cy 4 0 0 S 24 [(0, va_rf (z0)), (2, .int (z1))] []) (hk32 : ∀ (S : q_S) (z0 : Option Nat) (z1 : Int32) (z2 : Int32), k32 S z0 z1 z2 = some (rv, Sv) → q_W p l e ({ frames := 5, cells := 0, slots := 0, locals := 125 } : Room) s m args below meth c (MQ below (va_Qi (fun (r : Int32) (u : q_S) => r = rv ∧ u = Sv) (q_B D cy A) A) args s 0 0 A) A D cy 4 0 0 S 32 [(0, va_rf (z0)), (2, .int (z1)), (3, .int (z2))] []) (S : q_S) (l0 : Option Nat) (l3 : Int32) (s0 : Int32) (h : m_X12_cut_65 n k24 k32 S l0 l3 s0 = some (rv, Sv)) : q_W p l e ({ frames := 5, cells := 0, slots := 0, locals := 125 } : Room) s m args below meth c (MQ below (va_Qi (fun (r : Int32) (u : q_S) => r = rv ∧ u = Sv) (q_B D cy A) A) args s 0 0 A) A D cy 4 0 0 S 65 [(0, va_rf (l0)), (3, .int (l3))] [.int (s0)] := by
  unfold m_X12_cut_65 at h
  refine q_istore_n X 2 [(2, .int (s0)), (0, va_rf (l0)), (3, .int (l3))] rfl (by decide) (by first | rfl | simp [List.filter, q_catR]) dX12_cut_65 ?_
  refine q_iinc X 3 2 (l3 + (1)) [(3, .int (l3 + (1))), (2, .int (s0)), (0, va_rf (l0))] rfl (congrArg (fun z => l3 + z) (show Int32.ofInt (1) = (1) by decide)) (by decide) (by first | rfl | simp [List.filter, q_catR]) dX12_cut_66 ?_
  refine q_goto X 32 (by decide) dX12_cut_69 ?_
  refine q_lv [2, 1, 0] rfl ?_
  exact hk32 _ _ _ _ h
def m_X12_cut_60 (n : Nat) (k24 : q_S → Option Nat → Int32 → Option (Int32 × q_S)) (k32 : q_S → Option Nat → Int32 → Int32 → Option (Int32 × q_S)) (S : q_S) (l0 : Option Nat) (l3 : Int32) : Option (Int32 × q_S) := m_X12_cut_65 n k24 k32 (S) (l0) (l3) ((1 : Int32))
set_option maxHeartbeats 4000000 in
set_option maxRecDepth 100000 in
theorem w_X12_cut_60 (X : q_X p s m args c cX12_cut 4 RX12 q_T D cy A) (hr : meth.sig.returnType = (some .int)) (hl : meth.locks = false)  {n : Nat} {Sv : q_S} {rv : Int32}  {k24 : q_S → Option Nat → Int32 → Option (Int32 × q_S)} {k32 : q_S → Option Nat → Int32 → Int32 → Option (Int32 × q_S)} (hk24 : ∀ (S : q_S) (z0 : Option Nat) (z1 : Int32), k24 S z0 z1 = some (rv, Sv) → q_W p l e ({ frames := 5, cells := 0, slots := 0, locals := 125 } : Room) s m args below meth c (MQ below (va_Qi (fun (r : Int32) (u : q_S) => r = rv ∧ u = Sv) (q_B D cy A) A) args s 0 0 A) A D cy 4 0 0 S 24 [(0, va_rf (z0)), (2, .int (z1))] []) (hk32 : ∀ (S : q_S) (z0 : Option Nat) (z1 : Int32) (z2 : Int32), k32 S z0 z1 z2 = some (rv, Sv) → q_W p l e ({ frames := 5, cells := 0, slots := 0, locals := 125 } : Room) s m args below meth c (MQ below (va_Qi (fun (r : Int32) (u : q_S) => r = rv ∧ u = Sv) (q_B D cy A) A) args s 0 0 A) A D cy 4 0 0 S 32 [(0, va_rf (z0)), (2, .int (z1)), (3, .int (z2))] []) (S : q_S) (l0 : Option Nat) (l3 : Int32) (h : m_X12_cut_60 n k24 k32 S l0 l3 = some (rv, Sv)) : q_W p l e ({ frames := 5, cells := 0, slots := 0, locals := 125 } : Room) s m args below meth c (MQ below (va_Qi (fun (r : Int32) (u : q_S) => r = rv ∧ u = Sv) (q_B D cy A) A) args s 0 0 A) A D cy 4 0 0 S 60 [(0, va_rf (l0)), (3, .int (l3))] [] := by
  unfold m_X12_cut_60 at h
  refine q_iconst X (1) (by decide) dX12_cut_60 ?_
  refine q_goto X 65 (by decide) dX12_cut_61 ?_
  exact w_X12_cut_65 X hr hl hk24 hk32 _ _ _ _ h
def m_X12_cut_56 (n : Nat) (k24 : q_S → Option Nat → Int32 → Option (Int32 × q_S)) (k32 : q_S → Option Nat → Int32 → Int32 → Option (Int32 × q_S)) (S : q_S) (l0 : Option Nat) (l2 : Int32) (l3 : Int32) : Option (Int32 × q_S) := (if l2 = 0 then m_X12_cut_65 n k24 k32 (S) (l0) (l3) ((0 : Int32)) else m_X12_cut_60 n k24 k32 (S) (l0) (l3))
set_option maxHeartbeats 4000000 in
set_option maxRecDepth 100000 in
theorem w_X12_cut_56 (X : q_X p s m args c cX12_cut 4 RX12 q_T D cy A) (hr : meth.sig.returnType = (some .int)) (hl : meth.locks = false)  {n : Nat} {Sv : q_S} {rv : Int32}  {k24 : q_S → Option Nat → Int32 → Option (Int32 × q_S)} {k32 : q_S → Option Nat → Int32 → Int32 → Option (Int32 × q_S)} (hk24 : ∀ (S : q_S) (z0 : Option Nat) (z1 : Int32), k24 S z0 z1 = some (rv, Sv) → q_W p l e ({ frames := 5, cells := 0, slots := 0, locals := 125 } : Room) s m args below meth c (MQ below (va_Qi (fun (r : Int32) (u : q_S) => r = rv ∧ u = Sv) (q_B D cy A) A) args s 0 0 A) A D cy 4 0 0 S 24 [(0, va_rf (z0)), (2, .int (z1))] []) (hk32 : ∀ (S : q_S) (z0 : Option Nat) (z1 : Int32) (z2 : Int32), k32 S z0 z1 z2 = some (rv, Sv) → q_W p l e ({ frames := 5, cells := 0, slots := 0, locals := 125 } : Room) s m args below meth c (MQ below (va_Qi (fun (r : Int32) (u : q_S) => r = rv ∧ u = Sv) (q_B D cy A) A) args s 0 0 A) A D cy 4 0 0 S 32 [(0, va_rf (z0)), (2, .int (z1)), (3, .int (z2))] []) (S : q_S) (l0 : Option Nat) (l2 : Int32) (l3 : Int32) (h : m_X12_cut_56 n k24 k32 S l0 l2 l3 = some (rv, Sv)) : q_W p l e ({ frames := 5, cells := 0, slots := 0, locals := 125 } : Room) s m args below meth c (MQ below (va_Qi (fun (r : Int32) (u : q_S) => r = rv ∧ u = Sv) (q_B D cy A) A) args s 0 0 A) A D cy 4 0 0 S 56 [(0, va_rf (l0)), (2, .int (l2)), (3, .int (l3))] [] := by
  unfold m_X12_cut_56 at h
  refine q_iload_n X 1 rfl dX12_cut_56 ?_
  refine q_if_eq X 64 (by decide) dX12_cut_57 (fun g1 => ?_) (fun g1 => ?_)
  · rw [if_pos g1] at h
    refine q_iconst X (0) (by decide) dX12_cut_64 ?_
    refine q_lv [0, 2] rfl ?_
    exact w_X12_cut_65 X hr hl hk24 hk32 _ _ _ _ h
  · rw [if_neg g1] at h
    refine q_lv [0, 2] rfl ?_
    exact w_X12_cut_60 X hr hl hk24 hk32 _ _ _ h
def m_X12_cut_32 (n : Nat) (k24 : q_S → Option Nat → Int32 → Option (Int32 × q_S)) : Nat → q_S → Option Nat → Int32 → Int32 → Option (Int32 × q_S)
  | 0, _, _, _, _ => none
  | k + 1, S, l0, l2, l3 => (if (200 : Int32) ≤ l3 then k24 (S) (l0) (l2) else q_at (S) (l0) 13 (fun a2 => q_at (S) (q_R (S) a2 9) 102 (fun a3 => q_if (q_in (l3) (q_N (S) a3) = true) ((if (q_I (S) a3 (l3).toNatClampNeg) = 0 then m_X12_cut_56 n k24 (m_X12_cut_32 n k24 k) (S) (l0) (l2) (l3) else q_b (m_X12_useParts n (S) a2 (l3)) (fun r6 S7 => (if r6 = 0 then m_X12_cut_56 n k24 (m_X12_cut_32 n k24 k) (S7) (l0) (l2) (l3) else m_X12_cut_60 n k24 (m_X12_cut_32 n k24 k) (S7) (l0) (l3))))))))
set_option maxHeartbeats 4000000 in
set_option maxRecDepth 100000 in
theorem w_X12_cut_32 (X : q_X p s m args c cX12_cut 4 RX12 q_T D cy A) (hr : meth.sig.returnType = (some .int)) (hl : meth.locks = false)  {n : Nat} {Sv : q_S} {rv : Int32}  {k24 : q_S → Option Nat → Int32 → Option (Int32 × q_S)} (hk24 : ∀ (S : q_S) (z0 : Option Nat) (z1 : Int32), k24 S z0 z1 = some (rv, Sv) → q_W p l e ({ frames := 5, cells := 0, slots := 0, locals := 125 } : Room) s m args below meth c (MQ below (va_Qi (fun (r : Int32) (u : q_S) => r = rv ∧ u = Sv) (q_B D cy A) A) args s 0 0 A) A D cy 4 0 0 S 24 [(0, va_rf (z0)), (2, .int (z1))] []) : ∀ (k : Nat) (S : q_S) (l0 : Option Nat) (l2 : Int32) (l3 : Int32), m_X12_cut_32 n k24 k S l0 l2 l3 = some (rv, Sv) → q_W p l e ({ frames := 5, cells := 0, slots := 0, locals := 125 } : Room) s m args below meth c (MQ below (va_Qi (fun (r : Int32) (u : q_S) => r = rv ∧ u = Sv) (q_B D cy A) A) args s 0 0 A) A D cy 4 0 0 S 32 [(0, va_rf (l0)), (2, .int (l2)), (3, .int (l3))] [] := by
  intro k
  induction k with
  | zero => intro S l0 l2 l3 h; rw [m_X12_cut_32] at h; cases h
  | succ k ih =>
    intro S l0 l2 l3 h
    rw [m_X12_cut_32] at h
    refine q_iload_n X 2 rfl dX12_cut_32 ?_
    refine q_sipush X (200) (by decide) dX12_cut_33 ?_
    refine q_icmp_ge X 72 (by decide) dX12_cut_36 (fun g1 => ?_) (fun g1 => ?_)
    · rw [if_pos g1] at h
      refine q_goto X 24 (by decide) dX12_cut_72 ?_
      refine q_lv [0, 1] rfl ?_
      exact hk24 _ _ _ h
    · rw [if_neg g1] at h
      refine q_aload_n X 0 rfl dX12_cut_39 ?_
      obtain ⟨a2, ea2, ma2, ka2, h⟩ := q_atE h
      refine q_getR X 9 ea2 ma2 ka2 rfl tW_X12 (by decide) (by decide) tF_X12_26 rfl dX12_cut_40 ?_
      refine q_iload_n X 2 rfl dX12_cut_43 ?_
      obtain ⟨a3, ea3, ma3, ka3, h⟩ := q_atE h
      obtain ⟨g4, h⟩ := q_ifE h
      refine q_zaload X ea3 ma3 ka3 (q_inE g4) dX12_cut_44 ?_
      refine q_if_eq X 56 (by decide) dX12_cut_45 (fun g5 => ?_) (fun g5 => ?_)
      · rw [if_pos g5] at h
        exact w_X12_cut_56 X hr hl hk24 ih _ _ _ _ h
      · rw [if_neg g5] at h
        refine q_aload_n X 0 rfl dX12_cut_48 ?_
        refine q_iload_n X 2 rfl dX12_cut_49 ?_
        obtain ⟨r6, S7, c8, h⟩ := q_bE h
        refine q_cVI X (As := [.int (l3)]) ea2 ma2 ka2 rfl (by decide) (c_X12_useParts c8) (q_cwV X tK_X12_useParts tM_X12_300 tI_X12_useParts tV_X12_useParts tN_X12 rfl rfl tD_X12_useParts ⟨Nat.le_of_ble_eq_true rfl, Nat.le_of_ble_eq_true rfl⟩) rfl rfl (by first | exact Nat.le_of_ble_eq_true rfl | (simp only [List.map, q_catR]; exact Nat.le_of_ble_eq_true rfl)) ⟨Nat.zero_le _, Nat.zero_le _⟩ dX12_cut_50 ?_
        refine q_if_ne X 60 (by decide) dX12_cut_53 (fun g9 => ?_) (fun g9 => ?_)
        · rw [if_neg g9] at h
          refine q_lv [0, 2] rfl ?_
          exact w_X12_cut_60 X hr hl hk24 ih _ _ _ h
        · rw [if_pos g9] at h
          exact w_X12_cut_56 X hr hl hk24 ih _ _ _ _ h
def m_X12_cut_24 (n : Nat) : Nat → q_S → Option Nat → Int32 → Option (Int32 × q_S)
  | 0, _, _, _ => none
  | k + 1, S, l0, l2 => (if l2 = 0 then q_at (S) (l0) 13 (fun a2 => q_b (m_X12_count n (S) a2 ((2 : Int32))) (fun r3 S4 => some (r3, S4))) else m_X12_cut_32 n (m_X12_cut_24 n k) n (S) (l0) ((0 : Int32)) ((0 : Int32)))
set_option maxHeartbeats 4000000 in
set_option maxRecDepth 100000 in
theorem w_X12_cut_24 (X : q_X p s m args c cX12_cut 4 RX12 q_T D cy A) (hr : meth.sig.returnType = (some .int)) (hl : meth.locks = false)  {n : Nat} {Sv : q_S} {rv : Int32}  : ∀ (k : Nat) (S : q_S) (l0 : Option Nat) (l2 : Int32), m_X12_cut_24 n k S l0 l2 = some (rv, Sv) → q_W p l e ({ frames := 5, cells := 0, slots := 0, locals := 125 } : Room) s m args below meth c (MQ below (va_Qi (fun (r : Int32) (u : q_S) => r = rv ∧ u = Sv) (q_B D cy A) A) args s 0 0 A) A D cy 4 0 0 S 24 [(0, va_rf (l0)), (2, .int (l2))] [] := by
  intro k
  induction k with
  | zero => intro S l0 l2 h; rw [m_X12_cut_24] at h; cases h
  | succ k ih =>
    intro S l0 l2 h
    rw [m_X12_cut_24] at h
    refine q_iload_n X 1 rfl dX12_cut_24 ?_
    refine q_if_eq X 75 (by decide) dX12_cut_25 (fun g1 => ?_) (fun g1 => ?_)
    · rw [if_pos g1] at h
      refine q_aload_n X 0 rfl dX12_cut_75 ?_
      refine q_iconst X (2) (by decide) dX12_cut_76 ?_
      obtain ⟨a2, ea2, ma2, ka2, h⟩ := q_atE h
      obtain ⟨r3, S4, c5, h⟩ := q_bE h
      refine q_cVI X (As := [.int ((2 : Int32))]) ea2 ma2 ka2 rfl (by decide) (c_X12_count c5) (q_cwV X tK_X12_count tM_X12_303 tI_X12_count tV_X12_count tN_X12 rfl rfl tD_X12_count ⟨Nat.le_of_ble_eq_true rfl, Nat.le_of_ble_eq_true rfl⟩) rfl rfl (by first | exact Nat.le_of_ble_eq_true rfl | (simp only [List.map, q_catR]; exact Nat.le_of_ble_eq_true rfl)) ⟨Nat.zero_le _, Nat.zero_le _⟩ dX12_cut_77 ?_
      obtain ⟨ev, eS⟩ := q_end h
      exact q_iret X hr hl rfl ev eS dX12_cut_80
    · rw [if_neg g1] at h
      refine q_iconst X (0) (by decide) dX12_cut_28 ?_
      refine q_istore_n X 2 [(2, .int ((0 : Int32))), (0, va_rf (l0))] rfl (by decide) (by first | rfl | simp [List.filter, q_catR]) dX12_cut_29 ?_
      refine q_iconst X (0) (by decide) dX12_cut_30 ?_
      refine q_istore_n X 3 [(3, .int ((0 : Int32))), (2, .int ((0 : Int32))), (0, va_rf (l0))] rfl (by decide) (by first | rfl | simp [List.filter, q_catR]) dX12_cut_31 ?_
      refine q_lv [2, 1, 0] rfl ?_
      exact w_X12_cut_32 X hr hl ih n _ _ _ _ h
def m_X12_cut (n : Nat) (S : q_S) (o : Nat) (p0 : Int32) : Option (Int32 × q_S) := q_at (S) (some o) 13 (fun a1 => q_b (m_X12_isSign n (q_sI (S) a1 0 ((0 : Int32))) a1 (p0)) (fun r2 S3 => (if r2 = 0 then some ((-1 : Int32), S3) else q_at (S3) (some o) 13 (fun a6 => q_at (S3) (q_R (S3) a6 9) 102 (fun a7 => q_if (q_in (p0) (q_N (S3) a7) = true) (m_X12_cut_24 n n (q_sI (S3) a7 (p0).toNatClampNeg (vp_nar .boolean ((1 : Int32)))) (some o) ((1 : Int32))))))))
set_option maxHeartbeats 4000000 in
set_option maxRecDepth 100000 in
theorem w_X12_cut (X : q_X p s m args c cX12_cut 4 RX12 q_T D cy A) (hr : meth.sig.returnType = (some .int)) (hl : meth.locks = false)  {n : Nat} {S Sv : q_S} {rv : Int32} {o : Nat} {p0 : Int32} (h : m_X12_cut n S o p0 = some (rv, Sv)) : q_W p l e ({ frames := 5, cells := 0, slots := 0, locals := 125 } : Room) s m args below meth c (MQ below (va_Qi (fun (r : Int32) (u : q_S) => r = rv ∧ u = Sv) (q_B D cy A) A) args s 0 0 A) A D cy 4 0 0 S 0 [(0, va_rf (some o)), (1, .int (p0))] [] := by
  unfold m_X12_cut at h
  refine q_aload_n X 0 rfl dX12_cut_0 ?_
  refine q_iconst X (0) (by decide) dX12_cut_1 ?_
  obtain ⟨a1, ea1, ma1, ka1, h⟩ := q_atE h
  refine q_putI X 0 ea1 ma1 ka1 rfl tW_X12 (by decide) (by decide) tF_X12_96 tyX12 tyX12_ok nmX12 rfl (tyX12_ok 0 (by decide)) rfl rfl rfl dX12_cut_2 ?_
  have ma1 : a1 ∈ q_L (q_sI (S) a1 0 ((0 : Int32))) := q_LsI ma1
  have ka1 : q_K (q_sI (S) a1 0 ((0 : Int32))) a1 = 13 := q_KsI ka1
  refine q_aload_n X 0 rfl dX12_cut_5 ?_
  refine q_iload_n X 1 rfl dX12_cut_6 ?_
  obtain ⟨r2, S3, c4, h⟩ := q_bE h
  refine q_cVI X (As := [.int (p0)]) ea1 ma1 ka1 rfl (by decide) (c_X12_isSign c4) (q_cwV X tK_X12_isSign tM_X12_239 tI_X12_isSign tV_X12_isSign tN_X12 rfl rfl tD_X12_isSign ⟨Nat.le_of_ble_eq_true rfl, Nat.le_of_ble_eq_true rfl⟩) rfl rfl (by first | exact Nat.le_of_ble_eq_true rfl | (simp only [List.map, q_catR]; exact Nat.le_of_ble_eq_true rfl)) ⟨Nat.zero_le _, Nat.zero_le _⟩ dX12_cut_7 ?_
  refine q_if_ne X 15 (by decide) dX12_cut_10 (fun g5 => ?_) (fun g5 => ?_)
  · rw [if_neg g5] at h
    refine q_aload_n X 0 rfl dX12_cut_15 ?_
    obtain ⟨a6, ea6, ma6, ka6, h⟩ := q_atE h
    refine q_getR X 9 ea6 ma6 ka6 rfl tW_X12 (by decide) (by decide) tF_X12_26 rfl dX12_cut_16 ?_
    refine q_iload_n X 1 rfl dX12_cut_19 ?_
    refine q_iconst X (1) (by decide) dX12_cut_20 ?_
    obtain ⟨a7, ea7, ma7, ka7, h⟩ := q_atE h
    obtain ⟨g8, h⟩ := q_ifE h
    refine q_zastore X ea7 ma7 ka7 (q_inE g8) dX12_cut_21 ?_
    have ma6 : a6 ∈ q_L (q_sI (S3) a7 (p0).toNatClampNeg (vp_nar .boolean ((1 : Int32)))) := q_LsI ma6
    have ka6 : q_K (q_sI (S3) a7 (p0).toNatClampNeg (vp_nar .boolean ((1 : Int32)))) a6 = 13 := q_KsI ka6
    have ma7 : a7 ∈ q_L (q_sI (S3) a7 (p0).toNatClampNeg (vp_nar .boolean ((1 : Int32)))) := q_LsI ma7
    have ka7 : q_K (q_sI (S3) a7 (p0).toNatClampNeg (vp_nar .boolean ((1 : Int32)))) a7 = 102 := q_KsI ka7
    refine q_iconst X (1) (by decide) dX12_cut_22 ?_
    refine q_istore_n X 2 [(2, .int ((1 : Int32))), (0, va_rf (some o)), (1, .int (p0))] rfl (by decide) (by first | rfl | simp [List.filter, q_catR]) dX12_cut_23 ?_
    refine q_lv [1, 0] rfl ?_
    exact w_X12_cut_24 X hr hl n _ _ _ h
  · rw [if_pos g5] at h
    refine q_iconst X (-1) (by decide) dX12_cut_13 ?_
    obtain ⟨ev, eS⟩ := q_end h
    exact q_iret X hr hl rfl ev eS dX12_cut_14
theorem tD_X12_cut : yX12_cut.cls ≠ "java/lang/invoke/MethodHandle" ∧ yX12_cut.cls ≠ "java/lang/invoke/VarHandle" ∧ (parseMethodDescriptor yX12_cut.desc).map (fun d => d.parameters.length) = some 1 := by decide +kernel
theorem c_X12_cut {l : Launch} {D : va_G} {cy : Nat → ClassId} {n : Nat} {S Sv : q_S} {rv : Int32} {o : Nat} {p0 : Int32} (h : m_X12_cut n S o p0 = some (rv, Sv)) : q_MI l yX12_cut (q_ws yX12_cut cX12_cut 4 ((some .int))) ({ frames := 5, cells := 0, slots := 0, locals := 125 } : Room) D cy [.ref o, .int (p0)] S rv Sv := by
  exact q_MI_of (by decide +kernel) (Nat.le_of_ble_eq_true rfl) (fun p e s m args below meth c A X hr hl => w_X12_cut X hr hl h)
/-! TrueOutlinesModel.tell(II)V -/
def m_X12_tell_39 (n : Nat) (S : q_S) : Option (Unit × q_S) := some ((), S)
set_option maxHeartbeats 4000000 in
set_option maxRecDepth 100000 in
theorem w_X12_tell_39 (X : q_X p s m args c cX12_tell 3 RX12 q_T D cy A) (hr : meth.sig.returnType = none) (hl : meth.locks = false)  {n : Nat} {Sv : q_S}  (S : q_S) (h : m_X12_tell_39 n S = some ((), Sv)) : q_W p l e ({ frames := 0, cells := 0, slots := 0, locals := 0 } : Room) s m args below meth c (MQ below (va_Qv (fun (u : q_S) => u = Sv) (q_B D cy A) A) args s 0 0 A) A D cy 3 0 0 S 39 [] [] := by
  unfold m_X12_tell_39 at h
  obtain ⟨ev, eS⟩ := q_end h
  exact q_vret X hr hl eS dX12_tell_39
def m_X12_tell (n : Nat) (S : q_S) (o : Nat) (p0 : Int32) (p1 : Int32) : Option (Unit × q_S) := q_at (S) (some o) 13 (fun a1 => (if (100 : Int32) ≤ (q_I (S) a1 11) then m_X12_tell_39 n (S) else q_at (S) (q_R (S) a1 12) 100 (fun a3 => q_if (q_in (q_I (S) a1 11) (q_N (S) a3) = true) (q_at (q_sI (S) a3 (q_I (S) a1 11).toNatClampNeg (p0)) (q_R (q_sI (S) a3 (q_I (S) a1 11).toNatClampNeg (p0)) a1 13) 100 (fun a5 => q_if (q_in (q_I (q_sI (S) a3 (q_I (S) a1 11).toNatClampNeg (p0)) a1 11) (q_N (q_sI (S) a3 (q_I (S) a1 11).toNatClampNeg (p0)) a5) = true) (q_let (q_sI (q_sI (S) a3 (q_I (S) a1 11).toNatClampNeg (p0)) a5 (q_I (q_sI (S) a3 (q_I (S) a1 11).toNatClampNeg (p0)) a1 11).toNatClampNeg (p1)) (fun S7 => m_X12_tell_39 n (q_sI (S7) a1 11 ((q_I (S7) a1 11) + (1 : Int32))))))))))
set_option maxHeartbeats 4000000 in
set_option maxRecDepth 100000 in
theorem w_X12_tell (X : q_X p s m args c cX12_tell 3 RX12 q_T D cy A) (hr : meth.sig.returnType = none) (hl : meth.locks = false)  {n : Nat} {S Sv : q_S} {o : Nat} {p0 : Int32} {p1 : Int32} (h : m_X12_tell n S o p0 p1 = some ((), Sv)) : q_W p l e ({ frames := 0, cells := 0, slots := 0, locals := 0 } : Room) s m args below meth c (MQ below (va_Qv (fun (u : q_S) => u = Sv) (q_B D cy A) A) args s 0 0 A) A D cy 3 0 0 S 0 [(0, va_rf (some o)), (1, .int (p0)), (2, .int (p1))] [] := by
  unfold m_X12_tell at h
  refine q_aload_n X 0 rfl dX12_tell_0 ?_
  obtain ⟨a1, ea1, ma1, ka1, h⟩ := q_atE h
  refine q_getI X 11 ea1 ma1 ka1 rfl tW_X12 (by decide) (by decide) tF_X12_133 rfl dX12_tell_1 ?_
  refine q_bipush X (100) (by decide) dX12_tell_4 ?_
  refine q_icmp_ge X 39 (by decide) dX12_tell_6 (fun g2 => ?_) (fun g2 => ?_)
  · rw [if_pos g2] at h
    refine q_lv [] rfl ?_
    exact w_X12_tell_39 X hr hl _ h
  · rw [if_neg g2] at h
    refine q_aload_n X 0 rfl dX12_tell_9 ?_
    refine q_getR X 12 ea1 ma1 ka1 rfl tW_X12 (by decide) (by decide) tF_X12_33 rfl dX12_tell_10 ?_
    refine q_aload_n X 0 rfl dX12_tell_13 ?_
    refine q_getI X 11 ea1 ma1 ka1 rfl tW_X12 (by decide) (by decide) tF_X12_133 rfl dX12_tell_14 ?_
    refine q_iload_n X 1 rfl dX12_tell_17 ?_
    obtain ⟨a3, ea3, ma3, ka3, h⟩ := q_atE h
    obtain ⟨g4, h⟩ := q_ifE h
    refine q_iastore X ea3 ma3 ka3 (q_inE g4) dX12_tell_18 ?_
    have ma1 : a1 ∈ q_L (q_sI (S) a3 (q_I (S) a1 11).toNatClampNeg (p0)) := q_LsI ma1
    have ka1 : q_K (q_sI (S) a3 (q_I (S) a1 11).toNatClampNeg (p0)) a1 = 13 := q_KsI ka1
    have ma3 : a3 ∈ q_L (q_sI (S) a3 (q_I (S) a1 11).toNatClampNeg (p0)) := q_LsI ma3
    have ka3 : q_K (q_sI (S) a3 (q_I (S) a1 11).toNatClampNeg (p0)) a3 = 100 := q_KsI ka3
    refine q_aload_n X 0 rfl dX12_tell_19 ?_
    refine q_getR X 13 ea1 ma1 ka1 rfl tW_X12 (by decide) (by decide) tF_X12_36 rfl dX12_tell_20 ?_
    refine q_aload_n X 0 rfl dX12_tell_23 ?_
    refine q_getI X 11 ea1 ma1 ka1 rfl tW_X12 (by decide) (by decide) tF_X12_133 rfl dX12_tell_24 ?_
    refine q_iload_n X 2 rfl dX12_tell_27 ?_
    obtain ⟨a5, ea5, ma5, ka5, h⟩ := q_atE h
    obtain ⟨g6, h⟩ := q_ifE h
    refine q_iastore X ea5 ma5 ka5 (q_inE g6) dX12_tell_28 ?_
    have ma1 : a1 ∈ q_L (q_sI (q_sI (S) a3 (q_I (S) a1 11).toNatClampNeg (p0)) a5 (q_I (q_sI (S) a3 (q_I (S) a1 11).toNatClampNeg (p0)) a1 11).toNatClampNeg (p1)) := q_LsI ma1
    have ka1 : q_K (q_sI (q_sI (S) a3 (q_I (S) a1 11).toNatClampNeg (p0)) a5 (q_I (q_sI (S) a3 (q_I (S) a1 11).toNatClampNeg (p0)) a1 11).toNatClampNeg (p1)) a1 = 13 := q_KsI ka1
    have ma3 : a3 ∈ q_L (q_sI (q_sI (S) a3 (q_I (S) a1 11).toNatClampNeg (p0)) a5 (q_I (q_sI (S) a3 (q_I (S) a1 11).toNatClampNeg (p0)) a1 11).toNatClampNeg (p1)) := q_LsI ma3
    have ka3 : q_K (q_sI (q_sI (S) a3 (q_I (S) a1 11).toNatClampNeg (p0)) a5 (q_I (q_sI (S) a3 (q_I (S) a1 11).toNatClampNeg (p0)) a1 11).toNatClampNeg (p1)) a3 = 100 := q_KsI ka3
    have ma5 : a5 ∈ q_L (q_sI (q_sI (S) a3 (q_I (S) a1 11).toNatClampNeg (p0)) a5 (q_I (q_sI (S) a3 (q_I (S) a1 11).toNatClampNeg (p0)) a1 11).toNatClampNeg (p1)) := q_LsI ma5
    have ka5 : q_K (q_sI (q_sI (S) a3 (q_I (S) a1 11).toNatClampNeg (p0)) a5 (q_I (q_sI (S) a3 (q_I (S) a1 11).toNatClampNeg (p0)) a1 11).toNatClampNeg (p1)) a5 = 100 := q_KsI ka5
    obtain ⟨S7, eS7, h⟩ := q_letE h
    refine q_sub eS7 ?_
    have ma1 : a1 ∈ q_L S7 := by rw [eS7]; exact ma1
    have ka1 : q_K S7 a1 = 13 := by rw [eS7]; exact ka1
    have ma3 : a3 ∈ q_L S7 := by rw [eS7]; exact ma3
    have ka3 : q_K S7 a3 = 100 := by rw [eS7]; exact ka3
    have ma5 : a5 ∈ q_L S7 := by rw [eS7]; exact ma5
    have ka5 : q_K S7 a5 = 100 := by rw [eS7]; exact ka5
    refine q_aload_n X 0 rfl dX12_tell_29 ?_
    refine q_dup X (q_catR _) dX12_tell_30 ?_
    refine q_getI X 11 ea1 ma1 ka1 rfl tW_X12 (by decide) (by decide) tF_X12_133 rfl dX12_tell_31 ?_
    refine q_iconst X (1) (by decide) dX12_tell_34 ?_
    refine q_iadd X dX12_tell_35 ?_
    refine q_putI X 11 ea1 ma1 ka1 rfl tW_X12 (by decide) (by decide) tF_X12_133 tyX12 tyX12_ok nmX12 rfl (tyX12_ok 11 (by decide)) rfl rfl rfl dX12_tell_36 ?_
    have ma1 : a1 ∈ q_L (q_sI (S7) a1 11 ((q_I (S7) a1 11) + (1 : Int32))) := q_LsI ma1
    have ka1 : q_K (q_sI (S7) a1 11 ((q_I (S7) a1 11) + (1 : Int32))) a1 = 13 := q_KsI ka1
    have ma3 : a3 ∈ q_L (q_sI (S7) a1 11 ((q_I (S7) a1 11) + (1 : Int32))) := q_LsI ma3
    have ka3 : q_K (q_sI (S7) a1 11 ((q_I (S7) a1 11) + (1 : Int32))) a3 = 100 := q_KsI ka3
    have ma5 : a5 ∈ q_L (q_sI (S7) a1 11 ((q_I (S7) a1 11) + (1 : Int32))) := q_LsI ma5
    have ka5 : q_K (q_sI (S7) a1 11 ((q_I (S7) a1 11) + (1 : Int32))) a5 = 100 := q_KsI ka5
    refine q_lv [] rfl ?_
    exact w_X12_tell_39 X hr hl _ h
theorem tD_X12_tell : yX12_tell.cls ≠ "java/lang/invoke/MethodHandle" ∧ yX12_tell.cls ≠ "java/lang/invoke/VarHandle" ∧ (parseMethodDescriptor yX12_tell.desc).map (fun d => d.parameters.length) = some 2 := by decide +kernel
theorem c_X12_tell {l : Launch} {D : va_G} {cy : Nat → ClassId} {n : Nat} {S Sv : q_S} {o : Nat} {p0 : Int32} {p1 : Int32} (h : m_X12_tell n S o p0 p1 = some ((), Sv)) : q_MV l yX12_tell (q_ws yX12_tell cX12_tell 3 (none)) ({ frames := 0, cells := 0, slots := 0, locals := 0 } : Room) D cy [.ref o, .int (p0), .int (p1)] S Sv := by
  exact q_MV_of (by decide +kernel) (Nat.le_of_ble_eq_true rfl) (fun p e s m args below meth c A X hr hl => w_X12_tell X hr hl h)
/-! TrueOutlinesModel.enter(I)Z -/
def m_X12_enter_149 (n : Nat) (S : q_S) : Option (Int32 × q_S) := q_if ((0 : Int32) = 0 ∨ (0 : Int32) = 1) (some ((0 : Int32), S))
set_option maxHeartbeats 4000000 in
set_option maxRecDepth 100000 in
theorem w_X12_enter_149 (X : q_X p s m args c cX12_enter 4 RX12 q_T D cy A) (hr : meth.sig.returnType = (some .boolean)) (hl : meth.locks = false)  {n : Nat} {Sv : q_S} {rv : Int32}  (S : q_S) (h : m_X12_enter_149 n S = some (rv, Sv)) : q_W p l e ({ frames := 4, cells := 0, slots := 0, locals := 106 } : Room) s m args below meth c (MQ below (va_Qi (fun (r : Int32) (u : q_S) => r = rv ∧ u = Sv) (q_B D cy A) A) args s 0 0 A) A D cy 4 0 0 S 149 [] [] := by
  unfold m_X12_enter_149 at h
  refine q_iconst X (0) (by decide) dX12_enter_149 ?_
  obtain ⟨g1, h⟩ := q_ifE h
  obtain ⟨ev, eS⟩ := q_end h
  exact q_iret X hr hl (q_bool g1) ev eS dX12_enter_150
def m_X12_enter_143 (n : Nat) (S : q_S) (l0 : Option Nat) (l1 : Int32) : Option (Int32 × q_S) := q_at (S) (l0) 13 (fun a1 => q_b (m_X12_tell n (S) a1 ((1 : Int32)) (l1)) (fun _ S2 => m_X12_enter_149 n (S2)))
set_option maxHeartbeats 4000000 in
set_option maxRecDepth 100000 in
theorem w_X12_enter_143 (X : q_X p s m args c cX12_enter 4 RX12 q_T D cy A) (hr : meth.sig.returnType = (some .boolean)) (hl : meth.locks = false)  {n : Nat} {Sv : q_S} {rv : Int32}  (S : q_S) (l0 : Option Nat) (l1 : Int32) (h : m_X12_enter_143 n S l0 l1 = some (rv, Sv)) : q_W p l e ({ frames := 4, cells := 0, slots := 0, locals := 106 } : Room) s m args below meth c (MQ below (va_Qi (fun (r : Int32) (u : q_S) => r = rv ∧ u = Sv) (q_B D cy A) A) args s 0 0 A) A D cy 4 0 0 S 143 [(0, va_rf (l0)), (1, .int (l1))] [] := by
  unfold m_X12_enter_143 at h
  refine q_aload_n X 0 rfl dX12_enter_143 ?_
  refine q_iconst X (1) (by decide) dX12_enter_144 ?_
  refine q_iload_n X 1 rfl dX12_enter_145 ?_
  obtain ⟨a1, ea1, ma1, ka1, h⟩ := q_atE h
  obtain ⟨u4, S2, c3, h⟩ := q_bE h
  refine q_cVV X (As := [.int ((1 : Int32)), .int (l1)]) ea1 ma1 ka1 rfl (by decide) (c_X12_tell c3) (q_cwV X tK_X12_tell tM_X12_159 tI_X12_tell tV_X12_tell tN_X12 rfl rfl tD_X12_tell ⟨Nat.le_of_ble_eq_true rfl, Nat.le_of_ble_eq_true rfl⟩) rfl rfl (by first | exact Nat.le_of_ble_eq_true rfl | (simp only [List.map, q_catR]; exact Nat.le_of_ble_eq_true rfl)) ⟨Nat.zero_le _, Nat.zero_le _⟩ dX12_enter_146 ?_
  refine q_lv [] rfl ?_
  exact w_X12_enter_149 X hr hl _ h
def m_X12_enter_131 (n : Nat) (S : q_S) (l0 : Option Nat) (l1 : Int32) (l2 : Int32) (l3 : Int32) : Option (Int32 × q_S) := (if l2 = 0 then m_X12_enter_143 n (S) (l0) (l1) else q_at (S) (l0) 13 (fun a2 => q_b (m_X12_addSimple n (S) a2 (l3)) (fun r3 S4 => (if r3 = 0 then m_X12_enter_143 n (S4) (l0) (l1) else m_X12_enter_149 n (S4)))))
set_option maxHeartbeats 4000000 in
set_option maxRecDepth 100000 in
theorem w_X12_enter_131 (X : q_X p s m args c cX12_enter 4 RX12 q_T D cy A) (hr : meth.sig.returnType = (some .boolean)) (hl : meth.locks = false)  {n : Nat} {Sv : q_S} {rv : Int32}  (S : q_S) (l0 : Option Nat) (l1 : Int32) (l2 : Int32) (l3 : Int32) (h : m_X12_enter_131 n S l0 l1 l2 l3 = some (rv, Sv)) : q_W p l e ({ frames := 4, cells := 0, slots := 0, locals := 106 } : Room) s m args below meth c (MQ below (va_Qi (fun (r : Int32) (u : q_S) => r = rv ∧ u = Sv) (q_B D cy A) A) args s 0 0 A) A D cy 4 0 0 S 131 [(0, va_rf (l0)), (1, .int (l1)), (2, .int (l2)), (3, .int (l3))] [] := by
  unfold m_X12_enter_131 at h
  refine q_iload_n X 2 rfl dX12_enter_131 ?_
  refine q_if_eq X 143 (by decide) dX12_enter_132 (fun g1 => ?_) (fun g1 => ?_)
  · rw [if_pos g1] at h
    refine q_lv [0, 1] rfl ?_
    exact w_X12_enter_143 X hr hl _ _ _ h
  · rw [if_neg g1] at h
    refine q_aload_n X 0 rfl dX12_enter_135 ?_
    refine q_iload_n X 3 rfl dX12_enter_136 ?_
    obtain ⟨a2, ea2, ma2, ka2, h⟩ := q_atE h
    obtain ⟨r3, S4, c5, h⟩ := q_bE h
    refine q_cVI X (As := [.int (l3)]) ea2 ma2 ka2 rfl (by decide) (c_X12_addSimple c5) (q_cwV X tK_X12_addSimple tM_X12_220 tI_X12_addSimple tV_X12_addSimple tN_X12 rfl rfl tD_X12_addSimple ⟨Nat.le_of_ble_eq_true rfl, Nat.le_of_ble_eq_true rfl⟩) rfl rfl (by first | exact Nat.le_of_ble_eq_true rfl | (simp only [List.map, q_catR]; exact Nat.le_of_ble_eq_true rfl)) ⟨Nat.zero_le _, Nat.zero_le _⟩ dX12_enter_137 ?_
    refine q_if_ne X 149 (by decide) dX12_enter_140 (fun g6 => ?_) (fun g6 => ?_)
    · rw [if_neg g6] at h
      refine q_lv [] rfl ?_
      exact w_X12_enter_149 X hr hl _ h
    · rw [if_pos g6] at h
      refine q_lv [0, 1] rfl ?_
      exact w_X12_enter_143 X hr hl _ _ _ h
def m_X12_enter_53 (n : Nat) (S : q_S) (l0 : Option Nat) (l1 : Int32) (l3 : Int32) (s0 : Int32) : Option (Int32 × q_S) := (if s0 = 0 then m_X12_enter_131 n (S) (l0) (l1) (s0) (l3) else (if 0 ≤ l3 then m_X12_enter_131 n (S) (l0) (l1) (s0) (l3) else q_at (S) (l0) 13 (fun a3 => q_at (S) (q_R (S) a3 25) 100 (fun a4 => q_if (q_in (q_I (S) a3 24) (q_N (S) a4) = true) (q_at (q_sI (S) a4 (q_I (S) a3 24).toNatClampNeg (l1)) (q_R (q_sI (S) a4 (q_I (S) a3 24).toNatClampNeg (l1)) a3 26) 100 (fun a6 => q_if (q_in (q_I (q_sI (S) a4 (q_I (S) a3 24).toNatClampNeg (l1)) a3 24) (q_N (q_sI (S) a4 (q_I (S) a3 24).toNatClampNeg (l1)) a6) = true) (q_let (q_sI (q_sI (S) a4 (q_I (S) a3 24).toNatClampNeg (l1)) a6 (q_I (q_sI (S) a4 (q_I (S) a3 24).toNatClampNeg (l1)) a3 24).toNatClampNeg ((10 : Int32))) (fun S8 => q_at (S8) (q_R (S8) a3 27) 100 (fun a9 => q_if (q_in (q_I (S8) a3 24) (q_N (S8) a9) = true) (q_at (q_sI (S8) a9 (q_I (S8) a3 24).toNatClampNeg (q_I (S8) a3 14)) (q_R (q_sI (S8) a9 (q_I (S8) a3 24).toNatClampNeg (q_I (S8) a3 14)) a3 28) 100 (fun a11 => q_if (q_in (q_I (q_sI (S8) a9 (q_I (S8) a3 24).toNatClampNeg (q_I (S8) a3 14)) a3 24) (q_N (q_sI (S8) a9 (q_I (S8) a3 24).toNatClampNeg (q_I (S8) a3 14)) a11) = true) (q_let (q_sI (q_sI (S8) a9 (q_I (S8) a3 24).toNatClampNeg (q_I (S8) a3 14)) a11 (q_I (q_sI (S8) a9 (q_I (S8) a3 24).toNatClampNeg (q_I (S8) a3 14)) a3 24).toNatClampNeg (q_I (q_sI (S8) a9 (q_I (S8) a3 24).toNatClampNeg (q_I (S8) a3 14)) a3 18)) (fun S13 => q_at (S13) (q_R (S13) a3 29) 102 (fun a14 => q_if (q_in (q_I (S13) a3 24) (q_N (S13) a14) = true) (q_if ((1 : Int32) = 0 ∨ (1 : Int32) = 1) (some ((1 : Int32), q_sI (q_sI (S13) a14 (q_I (S13) a3 24).toNatClampNeg (vp_nar .boolean ((1 : Int32)))) a3 24 ((q_I (q_sI (S13) a14 (q_I (S13) a3 24).toNatClampNeg (vp_nar .boolean ((1 : Int32)))) a3 24) + (1 : Int32)))))))))))))))))))
set_option maxHeartbeats 4000000 in
set_option maxRecDepth 100000 in
theorem w_X12_enter_53 (X : q_X p s m args c cX12_enter 4 RX12 q_T D cy A) (hr : meth.sig.returnType = (some .boolean)) (hl : meth.locks = false)  {n : Nat} {Sv : q_S} {rv : Int32}  (S : q_S) (l0 : Option Nat) (l1 : Int32) (l3 : Int32) (s0 : Int32) (h : m_X12_enter_53 n S l0 l1 l3 s0 = some (rv, Sv)) : q_W p l e ({ frames := 4, cells := 0, slots := 0, locals := 106 } : Room) s m args below meth c (MQ below (va_Qi (fun (r : Int32) (u : q_S) => r = rv ∧ u = Sv) (q_B D cy A) A) args s 0 0 A) A D cy 4 0 0 S 53 [(0, va_rf (l0)), (1, .int (l1)), (3, .int (l3))] [.int (s0)] := by
  unfold m_X12_enter_53 at h
  refine q_istore_n X 2 [(2, .int (s0)), (0, va_rf (l0)), (1, .int (l1)), (3, .int (l3))] rfl (by decide) (by first | rfl | simp [List.filter, q_catR]) dX12_enter_53 ?_
  refine q_iload_n X 0 rfl dX12_enter_54 ?_
  refine q_if_eq X 131 (by decide) dX12_enter_55 (fun g1 => ?_) (fun g1 => ?_)
  · rw [if_pos g1] at h
    refine q_lv [1, 2, 0, 3] rfl ?_
    exact w_X12_enter_131 X hr hl _ _ _ _ _ h
  · rw [if_neg g1] at h
    refine q_iload_n X 3 rfl dX12_enter_58 ?_
    refine q_if_ge X 131 (by decide) dX12_enter_59 (fun g2 => ?_) (fun g2 => ?_)
    · rw [if_pos g2] at h
      refine q_lv [1, 2, 0, 3] rfl ?_
      exact w_X12_enter_131 X hr hl _ _ _ _ _ h
    · rw [if_neg g2] at h
      refine q_aload_n X 1 rfl dX12_enter_62 ?_
      obtain ⟨a3, ea3, ma3, ka3, h⟩ := q_atE h
      refine q_getR X 25 ea3 ma3 ka3 rfl tW_X12 (by decide) (by decide) tF_X12_54 rfl dX12_enter_63 ?_
      refine q_aload_n X 1 rfl dX12_enter_66 ?_
      refine q_getI X 24 ea3 ma3 ka3 rfl tW_X12 (by decide) (by decide) tF_X12_213 rfl dX12_enter_67 ?_
      refine q_iload_n X 2 rfl dX12_enter_70 ?_
      obtain ⟨a4, ea4, ma4, ka4, h⟩ := q_atE h
      obtain ⟨g5, h⟩ := q_ifE h
      refine q_iastore X ea4 ma4 ka4 (q_inE g5) dX12_enter_71 ?_
      have ma3 : a3 ∈ q_L (q_sI (S) a4 (q_I (S) a3 24).toNatClampNeg (l1)) := q_LsI ma3
      have ka3 : q_K (q_sI (S) a4 (q_I (S) a3 24).toNatClampNeg (l1)) a3 = 13 := q_KsI ka3
      have ma4 : a4 ∈ q_L (q_sI (S) a4 (q_I (S) a3 24).toNatClampNeg (l1)) := q_LsI ma4
      have ka4 : q_K (q_sI (S) a4 (q_I (S) a3 24).toNatClampNeg (l1)) a4 = 100 := q_KsI ka4
      refine q_aload_n X 1 rfl dX12_enter_72 ?_
      refine q_getR X 26 ea3 ma3 ka3 rfl tW_X12 (by decide) (by decide) tF_X12_57 rfl dX12_enter_73 ?_
      refine q_aload_n X 1 rfl dX12_enter_76 ?_
      refine q_getI X 24 ea3 ma3 ka3 rfl tW_X12 (by decide) (by decide) tF_X12_213 rfl dX12_enter_77 ?_
      refine q_bipush X (10) (by decide) dX12_enter_80 ?_
      obtain ⟨a6, ea6, ma6, ka6, h⟩ := q_atE h
      obtain ⟨g7, h⟩ := q_ifE h
      refine q_iastore X ea6 ma6 ka6 (q_inE g7) dX12_enter_82 ?_
      have ma3 : a3 ∈ q_L (q_sI (q_sI (S) a4 (q_I (S) a3 24).toNatClampNeg (l1)) a6 (q_I (q_sI (S) a4 (q_I (S) a3 24).toNatClampNeg (l1)) a3 24).toNatClampNeg ((10 : Int32))) := q_LsI ma3
      have ka3 : q_K (q_sI (q_sI (S) a4 (q_I (S) a3 24).toNatClampNeg (l1)) a6 (q_I (q_sI (S) a4 (q_I (S) a3 24).toNatClampNeg (l1)) a3 24).toNatClampNeg ((10 : Int32))) a3 = 13 := q_KsI ka3
      have ma4 : a4 ∈ q_L (q_sI (q_sI (S) a4 (q_I (S) a3 24).toNatClampNeg (l1)) a6 (q_I (q_sI (S) a4 (q_I (S) a3 24).toNatClampNeg (l1)) a3 24).toNatClampNeg ((10 : Int32))) := q_LsI ma4
      have ka4 : q_K (q_sI (q_sI (S) a4 (q_I (S) a3 24).toNatClampNeg (l1)) a6 (q_I (q_sI (S) a4 (q_I (S) a3 24).toNatClampNeg (l1)) a3 24).toNatClampNeg ((10 : Int32))) a4 = 100 := q_KsI ka4
      have ma6 : a6 ∈ q_L (q_sI (q_sI (S) a4 (q_I (S) a3 24).toNatClampNeg (l1)) a6 (q_I (q_sI (S) a4 (q_I (S) a3 24).toNatClampNeg (l1)) a3 24).toNatClampNeg ((10 : Int32))) := q_LsI ma6
      have ka6 : q_K (q_sI (q_sI (S) a4 (q_I (S) a3 24).toNatClampNeg (l1)) a6 (q_I (q_sI (S) a4 (q_I (S) a3 24).toNatClampNeg (l1)) a3 24).toNatClampNeg ((10 : Int32))) a6 = 100 := q_KsI ka6
      obtain ⟨S8, eS8, h⟩ := q_letE h
      refine q_sub eS8 ?_
      have ma3 : a3 ∈ q_L S8 := by rw [eS8]; exact ma3
      have ka3 : q_K S8 a3 = 13 := by rw [eS8]; exact ka3
      have ma4 : a4 ∈ q_L S8 := by rw [eS8]; exact ma4
      have ka4 : q_K S8 a4 = 100 := by rw [eS8]; exact ka4
      have ma6 : a6 ∈ q_L S8 := by rw [eS8]; exact ma6
      have ka6 : q_K S8 a6 = 100 := by rw [eS8]; exact ka6
      refine q_aload_n X 1 rfl dX12_enter_83 ?_
      refine q_getR X 27 ea3 ma3 ka3 rfl tW_X12 (by decide) (by decide) tF_X12_60 rfl dX12_enter_84 ?_
      refine q_aload_n X 1 rfl dX12_enter_87 ?_
      refine q_getI X 24 ea3 ma3 ka3 rfl tW_X12 (by decide) (by decide) tF_X12_213 rfl dX12_enter_88 ?_
      refine q_aload_n X 1 rfl dX12_enter_91 ?_
      refine q_getI X 14 ea3 ma3 ka3 rfl tW_X12 (by decide) (by decide) tF_X12_136 rfl dX12_enter_92 ?_
      obtain ⟨a9, ea9, ma9, ka9, h⟩ := q_atE h
      obtain ⟨g10, h⟩ := q_ifE h
      refine q_iastore X ea9 ma9 ka9 (q_inE g10) dX12_enter_95 ?_
      have ma3 : a3 ∈ q_L (q_sI (S8) a9 (q_I (S8) a3 24).toNatClampNeg (q_I (S8) a3 14)) := q_LsI ma3
      have ka3 : q_K (q_sI (S8) a9 (q_I (S8) a3 24).toNatClampNeg (q_I (S8) a3 14)) a3 = 13 := q_KsI ka3
      have ma4 : a4 ∈ q_L (q_sI (S8) a9 (q_I (S8) a3 24).toNatClampNeg (q_I (S8) a3 14)) := q_LsI ma4
      have ka4 : q_K (q_sI (S8) a9 (q_I (S8) a3 24).toNatClampNeg (q_I (S8) a3 14)) a4 = 100 := q_KsI ka4
      have ma6 : a6 ∈ q_L (q_sI (S8) a9 (q_I (S8) a3 24).toNatClampNeg (q_I (S8) a3 14)) := q_LsI ma6
      have ka6 : q_K (q_sI (S8) a9 (q_I (S8) a3 24).toNatClampNeg (q_I (S8) a3 14)) a6 = 100 := q_KsI ka6
      have ma9 : a9 ∈ q_L (q_sI (S8) a9 (q_I (S8) a3 24).toNatClampNeg (q_I (S8) a3 14)) := q_LsI ma9
      have ka9 : q_K (q_sI (S8) a9 (q_I (S8) a3 24).toNatClampNeg (q_I (S8) a3 14)) a9 = 100 := q_KsI ka9
      refine q_aload_n X 1 rfl dX12_enter_96 ?_
      refine q_getR X 28 ea3 ma3 ka3 rfl tW_X12 (by decide) (by decide) tF_X12_63 rfl dX12_enter_97 ?_
      refine q_aload_n X 1 rfl dX12_enter_100 ?_
      refine q_getI X 24 ea3 ma3 ka3 rfl tW_X12 (by decide) (by decide) tF_X12_213 rfl dX12_enter_101 ?_
      refine q_aload_n X 1 rfl dX12_enter_104 ?_
      refine q_getI X 18 ea3 ma3 ka3 rfl tW_X12 (by decide) (by decide) tF_X12_139 rfl dX12_enter_105 ?_
      obtain ⟨a11, ea11, ma11, ka11, h⟩ := q_atE h
      obtain ⟨g12, h⟩ := q_ifE h
      refine q_iastore X ea11 ma11 ka11 (q_inE g12) dX12_enter_108 ?_
      have ma3 : a3 ∈ q_L (q_sI (q_sI (S8) a9 (q_I (S8) a3 24).toNatClampNeg (q_I (S8) a3 14)) a11 (q_I (q_sI (S8) a9 (q_I (S8) a3 24).toNatClampNeg (q_I (S8) a3 14)) a3 24).toNatClampNeg (q_I (q_sI (S8) a9 (q_I (S8) a3 24).toNatClampNeg (q_I (S8) a3 14)) a3 18)) := q_LsI ma3
      have ka3 : q_K (q_sI (q_sI (S8) a9 (q_I (S8) a3 24).toNatClampNeg (q_I (S8) a3 14)) a11 (q_I (q_sI (S8) a9 (q_I (S8) a3 24).toNatClampNeg (q_I (S8) a3 14)) a3 24).toNatClampNeg (q_I (q_sI (S8) a9 (q_I (S8) a3 24).toNatClampNeg (q_I (S8) a3 14)) a3 18)) a3 = 13 := q_KsI ka3
      have ma4 : a4 ∈ q_L (q_sI (q_sI (S8) a9 (q_I (S8) a3 24).toNatClampNeg (q_I (S8) a3 14)) a11 (q_I (q_sI (S8) a9 (q_I (S8) a3 24).toNatClampNeg (q_I (S8) a3 14)) a3 24).toNatClampNeg (q_I (q_sI (S8) a9 (q_I (S8) a3 24).toNatClampNeg (q_I (S8) a3 14)) a3 18)) := q_LsI ma4
      have ka4 : q_K (q_sI (q_sI (S8) a9 (q_I (S8) a3 24).toNatClampNeg (q_I (S8) a3 14)) a11 (q_I (q_sI (S8) a9 (q_I (S8) a3 24).toNatClampNeg (q_I (S8) a3 14)) a3 24).toNatClampNeg (q_I (q_sI (S8) a9 (q_I (S8) a3 24).toNatClampNeg (q_I (S8) a3 14)) a3 18)) a4 = 100 := q_KsI ka4
      have ma6 : a6 ∈ q_L (q_sI (q_sI (S8) a9 (q_I (S8) a3 24).toNatClampNeg (q_I (S8) a3 14)) a11 (q_I (q_sI (S8) a9 (q_I (S8) a3 24).toNatClampNeg (q_I (S8) a3 14)) a3 24).toNatClampNeg (q_I (q_sI (S8) a9 (q_I (S8) a3 24).toNatClampNeg (q_I (S8) a3 14)) a3 18)) := q_LsI ma6
      have ka6 : q_K (q_sI (q_sI (S8) a9 (q_I (S8) a3 24).toNatClampNeg (q_I (S8) a3 14)) a11 (q_I (q_sI (S8) a9 (q_I (S8) a3 24).toNatClampNeg (q_I (S8) a3 14)) a3 24).toNatClampNeg (q_I (q_sI (S8) a9 (q_I (S8) a3 24).toNatClampNeg (q_I (S8) a3 14)) a3 18)) a6 = 100 := q_KsI ka6
      have ma9 : a9 ∈ q_L (q_sI (q_sI (S8) a9 (q_I (S8) a3 24).toNatClampNeg (q_I (S8) a3 14)) a11 (q_I (q_sI (S8) a9 (q_I (S8) a3 24).toNatClampNeg (q_I (S8) a3 14)) a3 24).toNatClampNeg (q_I (q_sI (S8) a9 (q_I (S8) a3 24).toNatClampNeg (q_I (S8) a3 14)) a3 18)) := q_LsI ma9
      have ka9 : q_K (q_sI (q_sI (S8) a9 (q_I (S8) a3 24).toNatClampNeg (q_I (S8) a3 14)) a11 (q_I (q_sI (S8) a9 (q_I (S8) a3 24).toNatClampNeg (q_I (S8) a3 14)) a3 24).toNatClampNeg (q_I (q_sI (S8) a9 (q_I (S8) a3 24).toNatClampNeg (q_I (S8) a3 14)) a3 18)) a9 = 100 := q_KsI ka9
      have ma11 : a11 ∈ q_L (q_sI (q_sI (S8) a9 (q_I (S8) a3 24).toNatClampNeg (q_I (S8) a3 14)) a11 (q_I (q_sI (S8) a9 (q_I (S8) a3 24).toNatClampNeg (q_I (S8) a3 14)) a3 24).toNatClampNeg (q_I (q_sI (S8) a9 (q_I (S8) a3 24).toNatClampNeg (q_I (S8) a3 14)) a3 18)) := q_LsI ma11
      have ka11 : q_K (q_sI (q_sI (S8) a9 (q_I (S8) a3 24).toNatClampNeg (q_I (S8) a3 14)) a11 (q_I (q_sI (S8) a9 (q_I (S8) a3 24).toNatClampNeg (q_I (S8) a3 14)) a3 24).toNatClampNeg (q_I (q_sI (S8) a9 (q_I (S8) a3 24).toNatClampNeg (q_I (S8) a3 14)) a3 18)) a11 = 100 := q_KsI ka11
      obtain ⟨S13, eS13, h⟩ := q_letE h
      refine q_sub eS13 ?_
      have ma3 : a3 ∈ q_L S13 := by rw [eS13]; exact ma3
      have ka3 : q_K S13 a3 = 13 := by rw [eS13]; exact ka3
      have ma4 : a4 ∈ q_L S13 := by rw [eS13]; exact ma4
      have ka4 : q_K S13 a4 = 100 := by rw [eS13]; exact ka4
      have ma6 : a6 ∈ q_L S13 := by rw [eS13]; exact ma6
      have ka6 : q_K S13 a6 = 100 := by rw [eS13]; exact ka6
      have ma9 : a9 ∈ q_L S13 := by rw [eS13]; exact ma9
      have ka9 : q_K S13 a9 = 100 := by rw [eS13]; exact ka9
      have ma11 : a11 ∈ q_L S13 := by rw [eS13]; exact ma11
      have ka11 : q_K S13 a11 = 100 := by rw [eS13]; exact ka11
      refine q_aload_n X 1 rfl dX12_enter_109 ?_
      refine q_getR X 29 ea3 ma3 ka3 rfl tW_X12 (by decide) (by decide) tF_X12_66 rfl dX12_enter_110 ?_
      refine q_aload_n X 1 rfl dX12_enter_113 ?_
      refine q_getI X 24 ea3 ma3 ka3 rfl tW_X12 (by decide) (by decide) tF_X12_213 rfl dX12_enter_114 ?_
      refine q_iconst X (1) (by decide) dX12_enter_117 ?_
      obtain ⟨a14, ea14, ma14, ka14, h⟩ := q_atE h
      obtain ⟨g15, h⟩ := q_ifE h
      refine q_zastore X ea14 ma14 ka14 (q_inE g15) dX12_enter_118 ?_
      have ma3 : a3 ∈ q_L (q_sI (S13) a14 (q_I (S13) a3 24).toNatClampNeg (vp_nar .boolean ((1 : Int32)))) := q_LsI ma3
      have ka3 : q_K (q_sI (S13) a14 (q_I (S13) a3 24).toNatClampNeg (vp_nar .boolean ((1 : Int32)))) a3 = 13 := q_KsI ka3
      have ma4 : a4 ∈ q_L (q_sI (S13) a14 (q_I (S13) a3 24).toNatClampNeg (vp_nar .boolean ((1 : Int32)))) := q_LsI ma4
      have ka4 : q_K (q_sI (S13) a14 (q_I (S13) a3 24).toNatClampNeg (vp_nar .boolean ((1 : Int32)))) a4 = 100 := q_KsI ka4
      have ma6 : a6 ∈ q_L (q_sI (S13) a14 (q_I (S13) a3 24).toNatClampNeg (vp_nar .boolean ((1 : Int32)))) := q_LsI ma6
      have ka6 : q_K (q_sI (S13) a14 (q_I (S13) a3 24).toNatClampNeg (vp_nar .boolean ((1 : Int32)))) a6 = 100 := q_KsI ka6
      have ma9 : a9 ∈ q_L (q_sI (S13) a14 (q_I (S13) a3 24).toNatClampNeg (vp_nar .boolean ((1 : Int32)))) := q_LsI ma9
      have ka9 : q_K (q_sI (S13) a14 (q_I (S13) a3 24).toNatClampNeg (vp_nar .boolean ((1 : Int32)))) a9 = 100 := q_KsI ka9
      have ma11 : a11 ∈ q_L (q_sI (S13) a14 (q_I (S13) a3 24).toNatClampNeg (vp_nar .boolean ((1 : Int32)))) := q_LsI ma11
      have ka11 : q_K (q_sI (S13) a14 (q_I (S13) a3 24).toNatClampNeg (vp_nar .boolean ((1 : Int32)))) a11 = 100 := q_KsI ka11
      have ma14 : a14 ∈ q_L (q_sI (S13) a14 (q_I (S13) a3 24).toNatClampNeg (vp_nar .boolean ((1 : Int32)))) := q_LsI ma14
      have ka14 : q_K (q_sI (S13) a14 (q_I (S13) a3 24).toNatClampNeg (vp_nar .boolean ((1 : Int32)))) a14 = 102 := q_KsI ka14
      refine q_aload_n X 1 rfl dX12_enter_119 ?_
      refine q_dup X (q_catR _) dX12_enter_120 ?_
      refine q_getI X 24 ea3 ma3 ka3 rfl tW_X12 (by decide) (by decide) tF_X12_213 rfl dX12_enter_121 ?_
      refine q_iconst X (1) (by decide) dX12_enter_124 ?_
      refine q_iadd X dX12_enter_125 ?_
      refine q_putI X 24 ea3 ma3 ka3 rfl tW_X12 (by decide) (by decide) tF_X12_213 tyX12 tyX12_ok nmX12 rfl (tyX12_ok 24 (by decide)) rfl rfl rfl dX12_enter_126 ?_
      have ma3 : a3 ∈ q_L (q_sI (q_sI (S13) a14 (q_I (S13) a3 24).toNatClampNeg (vp_nar .boolean ((1 : Int32)))) a3 24 ((q_I (q_sI (S13) a14 (q_I (S13) a3 24).toNatClampNeg (vp_nar .boolean ((1 : Int32)))) a3 24) + (1 : Int32))) := q_LsI ma3
      have ka3 : q_K (q_sI (q_sI (S13) a14 (q_I (S13) a3 24).toNatClampNeg (vp_nar .boolean ((1 : Int32)))) a3 24 ((q_I (q_sI (S13) a14 (q_I (S13) a3 24).toNatClampNeg (vp_nar .boolean ((1 : Int32)))) a3 24) + (1 : Int32))) a3 = 13 := q_KsI ka3
      have ma4 : a4 ∈ q_L (q_sI (q_sI (S13) a14 (q_I (S13) a3 24).toNatClampNeg (vp_nar .boolean ((1 : Int32)))) a3 24 ((q_I (q_sI (S13) a14 (q_I (S13) a3 24).toNatClampNeg (vp_nar .boolean ((1 : Int32)))) a3 24) + (1 : Int32))) := q_LsI ma4
      have ka4 : q_K (q_sI (q_sI (S13) a14 (q_I (S13) a3 24).toNatClampNeg (vp_nar .boolean ((1 : Int32)))) a3 24 ((q_I (q_sI (S13) a14 (q_I (S13) a3 24).toNatClampNeg (vp_nar .boolean ((1 : Int32)))) a3 24) + (1 : Int32))) a4 = 100 := q_KsI ka4
      have ma6 : a6 ∈ q_L (q_sI (q_sI (S13) a14 (q_I (S13) a3 24).toNatClampNeg (vp_nar .boolean ((1 : Int32)))) a3 24 ((q_I (q_sI (S13) a14 (q_I (S13) a3 24).toNatClampNeg (vp_nar .boolean ((1 : Int32)))) a3 24) + (1 : Int32))) := q_LsI ma6
      have ka6 : q_K (q_sI (q_sI (S13) a14 (q_I (S13) a3 24).toNatClampNeg (vp_nar .boolean ((1 : Int32)))) a3 24 ((q_I (q_sI (S13) a14 (q_I (S13) a3 24).toNatClampNeg (vp_nar .boolean ((1 : Int32)))) a3 24) + (1 : Int32))) a6 = 100 := q_KsI ka6
      have ma9 : a9 ∈ q_L (q_sI (q_sI (S13) a14 (q_I (S13) a3 24).toNatClampNeg (vp_nar .boolean ((1 : Int32)))) a3 24 ((q_I (q_sI (S13) a14 (q_I (S13) a3 24).toNatClampNeg (vp_nar .boolean ((1 : Int32)))) a3 24) + (1 : Int32))) := q_LsI ma9
      have ka9 : q_K (q_sI (q_sI (S13) a14 (q_I (S13) a3 24).toNatClampNeg (vp_nar .boolean ((1 : Int32)))) a3 24 ((q_I (q_sI (S13) a14 (q_I (S13) a3 24).toNatClampNeg (vp_nar .boolean ((1 : Int32)))) a3 24) + (1 : Int32))) a9 = 100 := q_KsI ka9
      have ma11 : a11 ∈ q_L (q_sI (q_sI (S13) a14 (q_I (S13) a3 24).toNatClampNeg (vp_nar .boolean ((1 : Int32)))) a3 24 ((q_I (q_sI (S13) a14 (q_I (S13) a3 24).toNatClampNeg (vp_nar .boolean ((1 : Int32)))) a3 24) + (1 : Int32))) := q_LsI ma11
      have ka11 : q_K (q_sI (q_sI (S13) a14 (q_I (S13) a3 24).toNatClampNeg (vp_nar .boolean ((1 : Int32)))) a3 24 ((q_I (q_sI (S13) a14 (q_I (S13) a3 24).toNatClampNeg (vp_nar .boolean ((1 : Int32)))) a3 24) + (1 : Int32))) a11 = 100 := q_KsI ka11
      have ma14 : a14 ∈ q_L (q_sI (q_sI (S13) a14 (q_I (S13) a3 24).toNatClampNeg (vp_nar .boolean ((1 : Int32)))) a3 24 ((q_I (q_sI (S13) a14 (q_I (S13) a3 24).toNatClampNeg (vp_nar .boolean ((1 : Int32)))) a3 24) + (1 : Int32))) := q_LsI ma14
      have ka14 : q_K (q_sI (q_sI (S13) a14 (q_I (S13) a3 24).toNatClampNeg (vp_nar .boolean ((1 : Int32)))) a3 24 ((q_I (q_sI (S13) a14 (q_I (S13) a3 24).toNatClampNeg (vp_nar .boolean ((1 : Int32)))) a3 24) + (1 : Int32))) a14 = 102 := q_KsI ka14
      refine q_iconst X (1) (by decide) dX12_enter_129 ?_
      obtain ⟨g16, h⟩ := q_ifE h
      obtain ⟨ev, eS⟩ := q_end h
      exact q_iret X hr hl (q_bool g16) ev eS dX12_enter_130
def m_X12_enter_52 (n : Nat) (S : q_S) (l0 : Option Nat) (l1 : Int32) (l3 : Int32) : Option (Int32 × q_S) := m_X12_enter_53 n (S) (l0) (l1) (l3) ((0 : Int32))
set_option maxHeartbeats 4000000 in
set_option maxRecDepth 100000 in
theorem w_X12_enter_52 (X : q_X p s m args c cX12_enter 4 RX12 q_T D cy A) (hr : meth.sig.returnType = (some .boolean)) (hl : meth.locks = false)  {n : Nat} {Sv : q_S} {rv : Int32}  (S : q_S) (l0 : Option Nat) (l1 : Int32) (l3 : Int32) (h : m_X12_enter_52 n S l0 l1 l3 = some (rv, Sv)) : q_W p l e ({ frames := 4, cells := 0, slots := 0, locals := 106 } : Room) s m args below meth c (MQ below (va_Qi (fun (r : Int32) (u : q_S) => r = rv ∧ u = Sv) (q_B D cy A) A) args s 0 0 A) A D cy 4 0 0 S 52 [(0, va_rf (l0)), (1, .int (l1)), (3, .int (l3))] [] := by
  unfold m_X12_enter_52 at h
  refine q_iconst X (0) (by decide) dX12_enter_52 ?_
  exact w_X12_enter_53 X hr hl _ _ _ _ _ h
def m_X12_enter_36 (n : Nat) (S : q_S) (l0 : Option Nat) (l1 : Int32) (l2 : Int32) (s0 : Int32) : Option (Int32 × q_S) := (if l2 = 0 then m_X12_enter_52 n (S) (l0) (l1) (s0) else q_at (S) (l0) 13 (fun a2 => (if (q_I (S) a2 8) = 0 then m_X12_enter_53 n (S) (l0) (l1) (s0) ((1 : Int32)) else m_X12_enter_52 n (S) (l0) (l1) (s0))))
set_option maxHeartbeats 4000000 in
set_option maxRecDepth 100000 in
theorem w_X12_enter_36 (X : q_X p s m args c cX12_enter 4 RX12 q_T D cy A) (hr : meth.sig.returnType = (some .boolean)) (hl : meth.locks = false)  {n : Nat} {Sv : q_S} {rv : Int32}  (S : q_S) (l0 : Option Nat) (l1 : Int32) (l2 : Int32) (s0 : Int32) (h : m_X12_enter_36 n S l0 l1 l2 s0 = some (rv, Sv)) : q_W p l e ({ frames := 4, cells := 0, slots := 0, locals := 106 } : Room) s m args below meth c (MQ below (va_Qi (fun (r : Int32) (u : q_S) => r = rv ∧ u = Sv) (q_B D cy A) A) args s 0 0 A) A D cy 4 0 0 S 36 [(0, va_rf (l0)), (1, .int (l1)), (2, .int (l2))] [.int (s0)] := by
  unfold m_X12_enter_36 at h
  refine q_istore_n X 3 [(3, .int (s0)), (0, va_rf (l0)), (1, .int (l1)), (2, .int (l2))] rfl (by decide) (by first | rfl | simp [List.filter, q_catR]) dX12_enter_36 ?_
  refine q_iload_n X 3 rfl dX12_enter_37 ?_
  refine q_if_eq X 52 (by decide) dX12_enter_38 (fun g1 => ?_) (fun g1 => ?_)
  · rw [if_pos g1] at h
    refine q_lv [1, 2, 0] rfl ?_
    exact w_X12_enter_52 X hr hl _ _ _ _ h
  · rw [if_neg g1] at h
    refine q_aload_n X 1 rfl dX12_enter_41 ?_
    obtain ⟨a2, ea2, ma2, ka2, h⟩ := q_atE h
    refine q_getI X 8 ea2 ma2 ka2 rfl tW_X12 (by decide) (by decide) tF_X12_114 rfl dX12_enter_42 ?_
    refine q_if_ne X 52 (by decide) dX12_enter_45 (fun g3 => ?_) (fun g3 => ?_)
    · rw [if_neg g3] at h
      refine q_lv [1, 2, 0] rfl ?_
      exact w_X12_enter_52 X hr hl _ _ _ _ h
    · rw [if_pos g3] at h
      refine q_iconst X (1) (by decide) dX12_enter_48 ?_
      refine q_goto X 53 (by decide) dX12_enter_49 ?_
      refine q_lv [1, 2, 0] rfl ?_
      exact w_X12_enter_53 X hr hl _ _ _ _ _ h
def m_X12_enter_19 (n : Nat) (S : q_S) (l0 : Option Nat) (l1 : Int32) (l2 : Int32) : Option (Int32 × q_S) := (if l2 = 0 then m_X12_enter_36 n (S) (l0) (l1) (l2) ((0 : Int32)) else q_at (S) (l0) 13 (fun a2 => q_b (m_X12_data n (S) a2 ((0 : Int32)) ((2 : Int32))) (fun r3 S4 => q_b (m_X12_signed n (S4) (r3)) (fun r6 S7 => m_X12_enter_36 n (S7) (l0) (l1) (l2) (r6)))))
set_option maxHeartbeats 4000000 in
set_option maxRecDepth 100000 in
theorem w_X12_enter_19 (X : q_X p s m args c cX12_enter 4 RX12 q_T D cy A) (hr : meth.sig.returnType = (some .boolean)) (hl : meth.locks = false)  {n : Nat} {Sv : q_S} {rv : Int32}  (S : q_S) (l0 : Option Nat) (l1 : Int32) (l2 : Int32) (h : m_X12_enter_19 n S l0 l1 l2 = some (rv, Sv)) : q_W p l e ({ frames := 4, cells := 0, slots := 0, locals := 106 } : Room) s m args below meth c (MQ below (va_Qi (fun (r : Int32) (u : q_S) => r = rv ∧ u = Sv) (q_B D cy A) A) args s 0 0 A) A D cy 4 0 0 S 19 [(0, va_rf (l0)), (1, .int (l1)), (2, .int (l2))] [] := by
  unfold m_X12_enter_19 at h
  refine q_iload_n X 2 rfl dX12_enter_19 ?_
  refine q_if_eq X 35 (by decide) dX12_enter_20 (fun g1 => ?_) (fun g1 => ?_)
  · rw [if_pos g1] at h
    refine q_iconst X (0) (by decide) dX12_enter_35 ?_
    exact w_X12_enter_36 X hr hl _ _ _ _ _ h
  · rw [if_neg g1] at h
    refine q_aload_n X 0 rfl dX12_enter_23 ?_
    refine q_iconst X (0) (by decide) dX12_enter_24 ?_
    refine q_iconst X (2) (by decide) dX12_enter_25 ?_
    obtain ⟨a2, ea2, ma2, ka2, h⟩ := q_atE h
    obtain ⟨r3, S4, c5, h⟩ := q_bE h
    refine q_cVI X (As := [.int ((0 : Int32)), .int ((2 : Int32))]) ea2 ma2 ka2 rfl (by decide) (c_X12_data c5) (q_cwV X tK_X12_data tM_X12_199 tI_X12_data tV_X12_data tN_X12 rfl rfl tD_X12_data ⟨Nat.le_of_ble_eq_true rfl, Nat.le_of_ble_eq_true rfl⟩) rfl rfl (by first | exact Nat.le_of_ble_eq_true rfl | (simp only [List.map, q_catR]; exact Nat.le_of_ble_eq_true rfl)) ⟨Nat.zero_le _, Nat.zero_le _⟩ dX12_enter_26 ?_
    obtain ⟨r6, S7, c8, h⟩ := q_bE h
    refine q_cSI X (As := [.int (r3)]) (c_X12_signed c8) (q_cwS X tK_X12_signed tM_X12_210 tS_X12_signed tN_X12 rfl rfl tD_X12_signed ⟨Nat.le_of_ble_eq_true rfl, Nat.le_of_ble_eq_true rfl⟩) rfl rfl (by first | exact Nat.le_of_ble_eq_true rfl | (simp only [List.map, q_catR]; exact Nat.le_of_ble_eq_true rfl)) ⟨Nat.zero_le _, Nat.zero_le _⟩ dX12_enter_29 ?_
    refine q_goto X 36 (by decide) dX12_enter_32 ?_
    exact w_X12_enter_36 X hr hl _ _ _ _ _ h
def m_X12_enter (n : Nat) (S : q_S) (o : Nat) (p0 : Int32) : Option (Int32 × q_S) := q_at (S) (some o) 13 (fun a1 => q_b (m_X12_lookData n (S) a1 (p0)) (fun r2 S3 => (if r2 = 0 then m_X12_enter_19 n (S3) (some o) (p0) (r2) else q_at (S3) (some o) 13 (fun a6 => (if (q_I (S3) a6 23) = 0 then m_X12_enter_19 n (S3) (some o) (p0) (r2) else q_if ((0 : Int32) = 0 ∨ (0 : Int32) = 1) (some ((0 : Int32), S3)))))))
set_option maxHeartbeats 4000000 in
set_option maxRecDepth 100000 in
theorem w_X12_enter (X : q_X p s m args c cX12_enter 4 RX12 q_T D cy A) (hr : meth.sig.returnType = (some .boolean)) (hl : meth.locks = false)  {n : Nat} {S Sv : q_S} {rv : Int32} {o : Nat} {p0 : Int32} (h : m_X12_enter n S o p0 = some (rv, Sv)) : q_W p l e ({ frames := 4, cells := 0, slots := 0, locals := 106 } : Room) s m args below meth c (MQ below (va_Qi (fun (r : Int32) (u : q_S) => r = rv ∧ u = Sv) (q_B D cy A) A) args s 0 0 A) A D cy 4 0 0 S 0 [(0, va_rf (some o)), (1, .int (p0))] [] := by
  unfold m_X12_enter at h
  refine q_aload_n X 0 rfl dX12_enter_0 ?_
  refine q_iload_n X 1 rfl dX12_enter_1 ?_
  obtain ⟨a1, ea1, ma1, ka1, h⟩ := q_atE h
  obtain ⟨r2, S3, c4, h⟩ := q_bE h
  refine q_cVI X (As := [.int (p0)]) ea1 ma1 ka1 rfl (by decide) (c_X12_lookData c4) (q_cwV X tK_X12_lookData tM_X12_216 tI_X12_lookData tV_X12_lookData tN_X12 rfl rfl tD_X12_lookData ⟨Nat.le_of_ble_eq_true rfl, Nat.le_of_ble_eq_true rfl⟩) rfl rfl (by first | exact Nat.le_of_ble_eq_true rfl | (simp only [List.map, q_catR]; exact Nat.le_of_ble_eq_true rfl)) ⟨Nat.zero_le _, Nat.zero_le _⟩ dX12_enter_2 ?_
  refine q_istore_n X 2 [(2, .int (r2)), (0, va_rf (some o)), (1, .int (p0))] rfl (by decide) (by first | rfl | simp [List.filter, q_catR]) dX12_enter_5 ?_
  refine q_iload_n X 0 rfl dX12_enter_6 ?_
  refine q_if_eq X 19 (by decide) dX12_enter_7 (fun g5 => ?_) (fun g5 => ?_)
  · rw [if_pos g5] at h
    refine q_lv [1, 2, 0] rfl ?_
    exact w_X12_enter_19 X hr hl _ _ _ _ h
  · rw [if_neg g5] at h
    refine q_aload_n X 1 rfl dX12_enter_10 ?_
    obtain ⟨a6, ea6, ma6, ka6, h⟩ := q_atE h
    refine q_getI X 23 ea6 ma6 ka6 rfl tW_X12 (by decide) (by decide) tF_X12_186 rfl dX12_enter_11 ?_
    refine q_if_eq X 19 (by decide) dX12_enter_14 (fun g7 => ?_) (fun g7 => ?_)
    · rw [if_pos g7] at h
      refine q_lv [1, 2, 0] rfl ?_
      exact w_X12_enter_19 X hr hl _ _ _ _ h
    · rw [if_neg g7] at h
      refine q_iconst X (0) (by decide) dX12_enter_17 ?_
      obtain ⟨g8, h⟩ := q_ifE h
      obtain ⟨ev, eS⟩ := q_end h
      exact q_iret X hr hl (q_bool g8) ev eS dX12_enter_18
theorem tD_X12_enter : yX12_enter.cls ≠ "java/lang/invoke/MethodHandle" ∧ yX12_enter.cls ≠ "java/lang/invoke/VarHandle" ∧ (parseMethodDescriptor yX12_enter.desc).map (fun d => d.parameters.length) = some 1 := by decide +kernel
theorem c_X12_enter {l : Launch} {D : va_G} {cy : Nat → ClassId} {n : Nat} {S Sv : q_S} {rv : Int32} {o : Nat} {p0 : Int32} (h : m_X12_enter n S o p0 = some (rv, Sv)) : q_MI l yX12_enter (q_ws yX12_enter cX12_enter 4 ((some .boolean))) ({ frames := 4, cells := 0, slots := 0, locals := 106 } : Room) D cy [.ref o, .int (p0)] S rv Sv := by
  exact q_MI_of (by decide +kernel) (Nat.le_of_ble_eq_true rfl) (fun p e s m args below meth c A X hr hl => w_X12_enter X hr hl h)
/-! TrueOutlinesModel.put(I)V -/
def m_X12_put_38 (n : Nat) (S : q_S) : Option (Unit × q_S) := some ((), S)
set_option maxHeartbeats 4000000 in
set_option maxRecDepth 100000 in
theorem w_X12_put_38 (X : q_X p s m args c cX12_put 2 RX12 q_T D cy A) (hr : meth.sig.returnType = none) (hl : meth.locks = false)  {n : Nat} {Sv : q_S}  (S : q_S) (h : m_X12_put_38 n S = some ((), Sv)) : q_W p l e ({ frames := 0, cells := 0, slots := 0, locals := 0 } : Room) s m args below meth c (MQ below (va_Qv (fun (u : q_S) => u = Sv) (q_B D cy A) A) args s 0 0 A) A D cy 2 0 0 S 38 [] [] := by
  unfold m_X12_put_38 at h
  obtain ⟨ev, eS⟩ := q_end h
  exact q_vret X hr hl eS dX12_put_38
def m_X12_put (n : Nat) (S : q_S) (o : Nat) (p0 : Int32) : Option (Unit × q_S) := q_at (S) (some o) 13 (fun a1 => (if (2400 : Int32) ≤ (q_I (S) a1 38) then q_if ((1 : Int32) = 0 ∨ (1 : Int32) = 1) (m_X12_put_38 n (q_sI (S) a1 41 ((1 : Int32)))) else q_at (S) (q_R (S) a1 39) 100 (fun a4 => q_if (q_in (q_I (S) a1 38) (q_N (S) a4) = true) (q_let (q_sI (q_sI (S) a4 (q_I (S) a1 38).toNatClampNeg (p0)) a1 38 ((q_I (q_sI (S) a4 (q_I (S) a1 38).toNatClampNeg (p0)) a1 38) + (1 : Int32))) (fun S6 => m_X12_put_38 n (S6))))))
set_option maxHeartbeats 4000000 in
set_option maxRecDepth 100000 in
theorem w_X12_put (X : q_X p s m args c cX12_put 2 RX12 q_T D cy A) (hr : meth.sig.returnType = none) (hl : meth.locks = false)  {n : Nat} {S Sv : q_S} {o : Nat} {p0 : Int32} (h : m_X12_put n S o p0 = some ((), Sv)) : q_W p l e ({ frames := 0, cells := 0, slots := 0, locals := 0 } : Room) s m args below meth c (MQ below (va_Qv (fun (u : q_S) => u = Sv) (q_B D cy A) A) args s 0 0 A) A D cy 2 0 0 S 0 [(0, va_rf (some o)), (1, .int (p0))] [] := by
  unfold m_X12_put at h
  refine q_aload_n X 0 rfl dX12_put_0 ?_
  obtain ⟨a1, ea1, ma1, ka1, h⟩ := q_atE h
  refine q_getI X 38 ea1 ma1 ka1 rfl tW_X12 (by decide) (by decide) tF_X12_306 rfl dX12_put_1 ?_
  refine q_sipush X (2400) (by decide) dX12_put_4 ?_
  refine q_icmp_ge X 33 (by decide) dX12_put_7 (fun g2 => ?_) (fun g2 => ?_)
  · rw [if_pos g2] at h
    refine q_aload_n X 0 rfl dX12_put_33 ?_
    refine q_iconst X (1) (by decide) dX12_put_34 ?_
    obtain ⟨g3, h⟩ := q_ifE h
    refine q_putI X 41 ea1 ma1 ka1 rfl tW_X12 (by decide) (by decide) tF_X12_309 tyX12 tyX12_ok nmX12 rfl (tyX12_ok 41 (by decide)) (q_bool g3) (q_boolF g3) rfl dX12_put_35 ?_
    have ma1 : a1 ∈ q_L (q_sI (S) a1 41 ((1 : Int32))) := q_LsI ma1
    have ka1 : q_K (q_sI (S) a1 41 ((1 : Int32))) a1 = 13 := q_KsI ka1
    refine q_lv [] rfl ?_
    exact w_X12_put_38 X hr hl _ h
  · rw [if_neg g2] at h
    refine q_aload_n X 0 rfl dX12_put_10 ?_
    refine q_getR X 39 ea1 ma1 ka1 rfl tW_X12 (by decide) (by decide) tF_X12_90 rfl dX12_put_11 ?_
    refine q_aload_n X 0 rfl dX12_put_14 ?_
    refine q_getI X 38 ea1 ma1 ka1 rfl tW_X12 (by decide) (by decide) tF_X12_306 rfl dX12_put_15 ?_
    refine q_iload_n X 1 rfl dX12_put_18 ?_
    obtain ⟨a4, ea4, ma4, ka4, h⟩ := q_atE h
    obtain ⟨g5, h⟩ := q_ifE h
    refine q_iastore X ea4 ma4 ka4 (q_inE g5) dX12_put_19 ?_
    have ma1 : a1 ∈ q_L (q_sI (S) a4 (q_I (S) a1 38).toNatClampNeg (p0)) := q_LsI ma1
    have ka1 : q_K (q_sI (S) a4 (q_I (S) a1 38).toNatClampNeg (p0)) a1 = 13 := q_KsI ka1
    have ma4 : a4 ∈ q_L (q_sI (S) a4 (q_I (S) a1 38).toNatClampNeg (p0)) := q_LsI ma4
    have ka4 : q_K (q_sI (S) a4 (q_I (S) a1 38).toNatClampNeg (p0)) a4 = 100 := q_KsI ka4
    refine q_aload_n X 0 rfl dX12_put_20 ?_
    refine q_dup X (q_catR _) dX12_put_21 ?_
    refine q_getI X 38 ea1 ma1 ka1 rfl tW_X12 (by decide) (by decide) tF_X12_306 rfl dX12_put_22 ?_
    refine q_iconst X (1) (by decide) dX12_put_25 ?_
    refine q_iadd X dX12_put_26 ?_
    refine q_putI X 38 ea1 ma1 ka1 rfl tW_X12 (by decide) (by decide) tF_X12_306 tyX12 tyX12_ok nmX12 rfl (tyX12_ok 38 (by decide)) rfl rfl rfl dX12_put_27 ?_
    have ma1 : a1 ∈ q_L (q_sI (q_sI (S) a4 (q_I (S) a1 38).toNatClampNeg (p0)) a1 38 ((q_I (q_sI (S) a4 (q_I (S) a1 38).toNatClampNeg (p0)) a1 38) + (1 : Int32))) := q_LsI ma1
    have ka1 : q_K (q_sI (q_sI (S) a4 (q_I (S) a1 38).toNatClampNeg (p0)) a1 38 ((q_I (q_sI (S) a4 (q_I (S) a1 38).toNatClampNeg (p0)) a1 38) + (1 : Int32))) a1 = 13 := q_KsI ka1
    have ma4 : a4 ∈ q_L (q_sI (q_sI (S) a4 (q_I (S) a1 38).toNatClampNeg (p0)) a1 38 ((q_I (q_sI (S) a4 (q_I (S) a1 38).toNatClampNeg (p0)) a1 38) + (1 : Int32))) := q_LsI ma4
    have ka4 : q_K (q_sI (q_sI (S) a4 (q_I (S) a1 38).toNatClampNeg (p0)) a1 38 ((q_I (q_sI (S) a4 (q_I (S) a1 38).toNatClampNeg (p0)) a1 38) + (1 : Int32))) a4 = 100 := q_KsI ka4
    obtain ⟨S6, eS6, h⟩ := q_letE h
    refine q_sub eS6 ?_
    have ma1 : a1 ∈ q_L S6 := by rw [eS6]; exact ma1
    have ka1 : q_K S6 a1 = 13 := by rw [eS6]; exact ka1
    have ma4 : a4 ∈ q_L S6 := by rw [eS6]; exact ma4
    have ka4 : q_K S6 a4 = 100 := by rw [eS6]; exact ka4
    refine q_goto X 38 (by decide) dX12_put_30 ?_
    refine q_lv [] rfl ?_
    exact w_X12_put_38 X hr hl _ h
theorem tD_X12_put : yX12_put.cls ≠ "java/lang/invoke/MethodHandle" ∧ yX12_put.cls ≠ "java/lang/invoke/VarHandle" ∧ (parseMethodDescriptor yX12_put.desc).map (fun d => d.parameters.length) = some 1 := by decide +kernel
theorem c_X12_put {l : Launch} {D : va_G} {cy : Nat → ClassId} {n : Nat} {S Sv : q_S} {o : Nat} {p0 : Int32} (h : m_X12_put n S o p0 = some ((), Sv)) : q_MV l yX12_put (q_ws yX12_put cX12_put 2 (none)) ({ frames := 0, cells := 0, slots := 0, locals := 0 } : Room) D cy [.ref o, .int (p0)] S Sv := by
  exact q_MV_of (by decide +kernel) (Nat.le_of_ble_eq_true rfl) (fun p e s m args below meth c A X hr hl => w_X12_put X hr hl h)
/-! TrueOutlinesModel.even()V -/
def m_X12_even_24 (n : Nat) (S : q_S) : Option (Unit × q_S) := some ((), S)
set_option maxHeartbeats 4000000 in
set_option maxRecDepth 100000 in
theorem w_X12_even_24 (X : q_X p s m args c cX12_even 1 RX12 q_T D cy A) (hr : meth.sig.returnType = none) (hl : meth.locks = false)  {n : Nat} {Sv : q_S}  (S : q_S) (h : m_X12_even_24 n S = some ((), Sv)) : q_W p l e ({ frames := 1, cells := 0, slots := 0, locals := 21 } : Room) s m args below meth c (MQ below (va_Qv (fun (u : q_S) => u = Sv) (q_B D cy A) A) args s 0 0 A) A D cy 1 0 0 S 24 [] [] := by
  unfold m_X12_even_24 at h
  obtain ⟨ev, eS⟩ := q_end h
  exact q_vret X hr hl eS dX12_even_24
def m_X12_even_0 (n : Nat) : Nat → q_S → Option Nat → Option (Unit × q_S)
  | 0, _, _ => none
  | k + 1, S, l0 => q_at (S) (l0) 13 (fun a1 => q_if (¬ (4 : Int32) = 0) ((if ((q_I (S) a1 38) - (q_I (S) a1 38) / (4 : Int32) * (4 : Int32)) = 0 then m_X12_even_24 n (S) else (if (q_I (S) a1 41) = 0 then q_b (m_X12_put n (S) a1 ((0 : Int32))) (fun _ S5 => m_X12_even_0 n k (S5) (l0)) else m_X12_even_24 n (S)))))
set_option maxHeartbeats 4000000 in
set_option maxRecDepth 100000 in
theorem w_X12_even_0 (X : q_X p s m args c cX12_even 1 RX12 q_T D cy A) (hr : meth.sig.returnType = none) (hl : meth.locks = false)  {n : Nat} {Sv : q_S}  : ∀ (k : Nat) (S : q_S) (l0 : Option Nat), m_X12_even_0 n k S l0 = some ((), Sv) → q_W p l e ({ frames := 1, cells := 0, slots := 0, locals := 21 } : Room) s m args below meth c (MQ below (va_Qv (fun (u : q_S) => u = Sv) (q_B D cy A) A) args s 0 0 A) A D cy 1 0 0 S 0 [(0, va_rf (l0))] [] := by
  intro k
  induction k with
  | zero => intro S l0 h; rw [m_X12_even_0] at h; cases h
  | succ k ih =>
    intro S l0 h
    rw [m_X12_even_0] at h
    refine q_aload_n X 0 rfl dX12_even_0 ?_
    obtain ⟨a1, ea1, ma1, ka1, h⟩ := q_atE h
    refine q_getI X 38 ea1 ma1 ka1 rfl tW_X12 (by decide) (by decide) tF_X12_306 rfl dX12_even_1 ?_
    refine q_iconst X (4) (by decide) dX12_even_4 ?_
    obtain ⟨g2, h⟩ := q_ifE h
    refine q_irem X g2 dX12_even_5 ?_
    refine q_if_eq X 24 (by decide) dX12_even_6 (fun g3 => ?_) (fun g3 => ?_)
    · rw [if_pos g3] at h
      refine q_lv [] rfl ?_
      exact w_X12_even_24 X hr hl _ h
    · rw [if_neg g3] at h
      refine q_aload_n X 0 rfl dX12_even_9 ?_
      refine q_getI X 41 ea1 ma1 ka1 rfl tW_X12 (by decide) (by decide) tF_X12_309 rfl dX12_even_10 ?_
      refine q_if_ne X 24 (by decide) dX12_even_13 (fun g4 => ?_) (fun g4 => ?_)
      · rw [if_neg g4] at h
        refine q_lv [] rfl ?_
        exact w_X12_even_24 X hr hl _ h
      · rw [if_pos g4] at h
        refine q_aload_n X 0 rfl dX12_even_16 ?_
        refine q_iconst X (0) (by decide) dX12_even_17 ?_
        obtain ⟨u7, S5, c6, h⟩ := q_bE h
        refine q_cVV X (As := [.int ((0 : Int32))]) ea1 ma1 ka1 rfl (by decide) (c_X12_put c6) (q_cwV X tK_X12_put tM_X12_312 tI_X12_put tV_X12_put tN_X12 rfl rfl tD_X12_put ⟨Nat.le_of_ble_eq_true rfl, Nat.le_of_ble_eq_true rfl⟩) rfl rfl (by first | exact Nat.le_of_ble_eq_true rfl | (simp only [List.map, q_catR]; exact Nat.le_of_ble_eq_true rfl)) ⟨Nat.zero_le _, Nat.zero_le _⟩ dX12_even_18 ?_
        refine q_goto X 0 (by decide) dX12_even_21 ?_
        exact ih _ _ h
def m_X12_even (n : Nat) (S : q_S) (o : Nat)  : Option (Unit × q_S) := m_X12_even_0 n n (S) (some o)
set_option maxHeartbeats 4000000 in
set_option maxRecDepth 100000 in
theorem w_X12_even (X : q_X p s m args c cX12_even 1 RX12 q_T D cy A) (hr : meth.sig.returnType = none) (hl : meth.locks = false)  {n : Nat} {S Sv : q_S} {o : Nat}  (h : m_X12_even n S o = some ((), Sv)) : q_W p l e ({ frames := 1, cells := 0, slots := 0, locals := 21 } : Room) s m args below meth c (MQ below (va_Qv (fun (u : q_S) => u = Sv) (q_B D cy A) A) args s 0 0 A) A D cy 1 0 0 S 0 [(0, va_rf (some o))] [] := by
  unfold m_X12_even at h
  exact w_X12_even_0 X hr hl n _ _ h
theorem tD_X12_even : yX12_even.cls ≠ "java/lang/invoke/MethodHandle" ∧ yX12_even.cls ≠ "java/lang/invoke/VarHandle" ∧ (parseMethodDescriptor yX12_even.desc).map (fun d => d.parameters.length) = some 0 := by decide +kernel
theorem c_X12_even {l : Launch} {D : va_G} {cy : Nat → ClassId} {n : Nat} {S Sv : q_S} {o : Nat}  (h : m_X12_even n S o = some ((), Sv)) : q_MV l yX12_even (q_ws yX12_even cX12_even 1 (none)) ({ frames := 1, cells := 0, slots := 0, locals := 21 } : Room) D cy [.ref o] S Sv := by
  exact q_MV_of (by decide +kernel) (Nat.le_of_ble_eq_true rfl) (fun p e s m args below meth c A X hr hl => w_X12_even X hr hl h)
/-! TrueOutlinesModel.forgetRun()V -/
def m_X12_forgetRun (n : Nat) (S : q_S) (o : Nat)  : Option (Unit × q_S) := q_at (S) (some o) 13 (fun a1 => q_let (q_sI (q_sI (S) a1 14 ((0 : Int32))) a1 18 ((0 : Int32))) (fun S2 => some ((), q_sI (q_sI (S2) a1 36 ((0 : Int32))) a1 11 ((0 : Int32)))))
set_option maxHeartbeats 4000000 in
set_option maxRecDepth 100000 in
theorem w_X12_forgetRun (X : q_X p s m args c cX12_forgetRun 1 RX12 q_T D cy A) (hr : meth.sig.returnType = none) (hl : meth.locks = false)  {n : Nat} {S Sv : q_S} {o : Nat}  (h : m_X12_forgetRun n S o = some ((), Sv)) : q_W p l e ({ frames := 0, cells := 0, slots := 0, locals := 0 } : Room) s m args below meth c (MQ below (va_Qv (fun (u : q_S) => u = Sv) (q_B D cy A) A) args s 0 0 A) A D cy 1 0 0 S 0 [(0, va_rf (some o))] [] := by
  unfold m_X12_forgetRun at h
  refine q_aload_n X 0 rfl dX12_forgetRun_0 ?_
  refine q_iconst X (0) (by decide) dX12_forgetRun_1 ?_
  obtain ⟨a1, ea1, ma1, ka1, h⟩ := q_atE h
  refine q_putI X 14 ea1 ma1 ka1 rfl tW_X12 (by decide) (by decide) tF_X12_136 tyX12 tyX12_ok nmX12 rfl (tyX12_ok 14 (by decide)) rfl rfl rfl dX12_forgetRun_2 ?_
  have ma1 : a1 ∈ q_L (q_sI (S) a1 14 ((0 : Int32))) := q_LsI ma1
  have ka1 : q_K (q_sI (S) a1 14 ((0 : Int32))) a1 = 13 := q_KsI ka1
  refine q_aload_n X 0 rfl dX12_forgetRun_5 ?_
  refine q_iconst X (0) (by decide) dX12_forgetRun_6 ?_
  refine q_putI X 18 ea1 ma1 ka1 rfl tW_X12 (by decide) (by decide) tF_X12_139 tyX12 tyX12_ok nmX12 rfl (tyX12_ok 18 (by decide)) rfl rfl rfl dX12_forgetRun_7 ?_
  have ma1 : a1 ∈ q_L (q_sI (q_sI (S) a1 14 ((0 : Int32))) a1 18 ((0 : Int32))) := q_LsI ma1
  have ka1 : q_K (q_sI (q_sI (S) a1 14 ((0 : Int32))) a1 18 ((0 : Int32))) a1 = 13 := q_KsI ka1
  obtain ⟨S2, eS2, h⟩ := q_letE h
  refine q_sub eS2 ?_
  have ma1 : a1 ∈ q_L S2 := by rw [eS2]; exact ma1
  have ka1 : q_K S2 a1 = 13 := by rw [eS2]; exact ka1
  refine q_aload_n X 0 rfl dX12_forgetRun_10 ?_
  refine q_iconst X (0) (by decide) dX12_forgetRun_11 ?_
  refine q_putI X 36 ea1 ma1 ka1 rfl tW_X12 (by decide) (by decide) tF_X12_142 tyX12 tyX12_ok nmX12 rfl (tyX12_ok 36 (by decide)) rfl rfl rfl dX12_forgetRun_12 ?_
  have ma1 : a1 ∈ q_L (q_sI (S2) a1 36 ((0 : Int32))) := q_LsI ma1
  have ka1 : q_K (q_sI (S2) a1 36 ((0 : Int32))) a1 = 13 := q_KsI ka1
  refine q_aload_n X 0 rfl dX12_forgetRun_15 ?_
  refine q_iconst X (0) (by decide) dX12_forgetRun_16 ?_
  refine q_putI X 11 ea1 ma1 ka1 rfl tW_X12 (by decide) (by decide) tF_X12_133 tyX12 tyX12_ok nmX12 rfl (tyX12_ok 11 (by decide)) rfl rfl rfl dX12_forgetRun_17 ?_
  have ma1 : a1 ∈ q_L (q_sI (q_sI (S2) a1 36 ((0 : Int32))) a1 11 ((0 : Int32))) := q_LsI ma1
  have ka1 : q_K (q_sI (q_sI (S2) a1 36 ((0 : Int32))) a1 11 ((0 : Int32))) a1 = 13 := q_KsI ka1
  obtain ⟨ev, eS⟩ := q_end h
  exact q_vret X hr hl eS dX12_forgetRun_20
theorem tD_X12_forgetRun : yX12_forgetRun.cls ≠ "java/lang/invoke/MethodHandle" ∧ yX12_forgetRun.cls ≠ "java/lang/invoke/VarHandle" ∧ (parseMethodDescriptor yX12_forgetRun.desc).map (fun d => d.parameters.length) = some 0 := by decide +kernel
theorem c_X12_forgetRun {l : Launch} {D : va_G} {cy : Nat → ClassId} {n : Nat} {S Sv : q_S} {o : Nat}  (h : m_X12_forgetRun n S o = some ((), Sv)) : q_MV l yX12_forgetRun (q_ws yX12_forgetRun cX12_forgetRun 1 (none)) ({ frames := 0, cells := 0, slots := 0, locals := 0 } : Room) D cy [.ref o] S Sv := by
  exact q_MV_of (by decide +kernel) (Nat.le_of_ble_eq_true rfl) (fun p e s m args below meth c A X hr hl => w_X12_forgetRun X hr hl h)
/-! TrueOutlinesModel.fourAt(I)J -/
def m_X12_fourAt (n : Nat) (S : q_S) (o : Nat) (p0 : Int32) : Option (Int64 × q_S) := q_at (S) (some o) 13 (fun a1 => q_at (S) (q_R (S) a1 1) 100 (fun a2 => q_if (q_in (p0) (q_N (S) a2) = true) (q_if (q_in (p0 + (1 : Int32)) (q_N (S) a2) = true) (q_if (q_in (p0 + (2 : Int32)) (q_N (S) a2) = true) (q_if (q_in (p0 + (3 : Int32)) (q_N (S) a2) = true) (some ((((((q_I (S) a2 (p0).toNatClampNeg).toInt64) <<< (((24 : Int32)).toInt64 &&& 63)) + (((q_I (S) a2 (p0 + (1 : Int32)).toNatClampNeg) <<< ((16 : Int32) &&& 31)).toInt64)) + (((q_I (S) a2 (p0 + (2 : Int32)).toNatClampNeg) <<< ((8 : Int32) &&& 31)).toInt64)) + ((q_I (S) a2 (p0 + (3 : Int32)).toNatClampNeg).toInt64), S)))))))
set_option maxHeartbeats 4000000 in
set_option maxRecDepth 100000 in
theorem w_X12_fourAt (X : q_X p s m args c cX12_fourAt 2 RX12 q_T D cy A) (hr : meth.sig.returnType = (some .long)) (hl : meth.locks = false)  {n : Nat} {S Sv : q_S} {rv : Int64} {o : Nat} {p0 : Int32} (h : m_X12_fourAt n S o p0 = some (rv, Sv)) : q_W p l e ({ frames := 0, cells := 0, slots := 0, locals := 0 } : Room) s m args below meth c (MQ below (va_Ql (fun (r : Int64) (u : q_S) => r = rv ∧ u = Sv) (q_B D cy A) A) args s 0 0 A) A D cy 2 0 0 S 0 [(0, va_rf (some o)), (1, .int (p0))] [] := by
  unfold m_X12_fourAt at h
  refine q_aload_n X 0 rfl dX12_fourAt_0 ?_
  obtain ⟨a1, ea1, ma1, ka1, h⟩ := q_atE h
  refine q_getR X 1 ea1 ma1 ka1 rfl tW_X12 (by decide) (by decide) tF_X12_7 rfl dX12_fourAt_1 ?_
  refine q_iload_n X 1 rfl dX12_fourAt_4 ?_
  obtain ⟨a2, ea2, ma2, ka2, h⟩ := q_atE h
  obtain ⟨g3, h⟩ := q_ifE h
  refine q_iaload X ea2 ma2 ka2 (q_inE g3) dX12_fourAt_5 ?_
  refine q_i2l X dX12_fourAt_6 ?_
  refine q_bipush X (24) (by decide) dX12_fourAt_7 ?_
  refine q_lshl X dX12_fourAt_9 ?_
  refine q_aload_n X 0 rfl dX12_fourAt_10 ?_
  refine q_getR X 1 ea1 ma1 ka1 rfl tW_X12 (by decide) (by decide) tF_X12_7 rfl dX12_fourAt_11 ?_
  refine q_iload_n X 1 rfl dX12_fourAt_14 ?_
  refine q_iconst X (1) (by decide) dX12_fourAt_15 ?_
  refine q_iadd X dX12_fourAt_16 ?_
  obtain ⟨g4, h⟩ := q_ifE h
  refine q_iaload X ea2 ma2 ka2 (q_inE g4) dX12_fourAt_17 ?_
  refine q_bipush X (16) (by decide) dX12_fourAt_18 ?_
  refine q_ishl X dX12_fourAt_20 ?_
  refine q_i2l X dX12_fourAt_21 ?_
  refine q_ladd X dX12_fourAt_22 ?_
  refine q_aload_n X 0 rfl dX12_fourAt_23 ?_
  refine q_getR X 1 ea1 ma1 ka1 rfl tW_X12 (by decide) (by decide) tF_X12_7 rfl dX12_fourAt_24 ?_
  refine q_iload_n X 1 rfl dX12_fourAt_27 ?_
  refine q_iconst X (2) (by decide) dX12_fourAt_28 ?_
  refine q_iadd X dX12_fourAt_29 ?_
  obtain ⟨g5, h⟩ := q_ifE h
  refine q_iaload X ea2 ma2 ka2 (q_inE g5) dX12_fourAt_30 ?_
  refine q_bipush X (8) (by decide) dX12_fourAt_31 ?_
  refine q_ishl X dX12_fourAt_33 ?_
  refine q_i2l X dX12_fourAt_34 ?_
  refine q_ladd X dX12_fourAt_35 ?_
  refine q_aload_n X 0 rfl dX12_fourAt_36 ?_
  refine q_getR X 1 ea1 ma1 ka1 rfl tW_X12 (by decide) (by decide) tF_X12_7 rfl dX12_fourAt_37 ?_
  refine q_iload_n X 1 rfl dX12_fourAt_40 ?_
  refine q_iconst X (3) (by decide) dX12_fourAt_41 ?_
  refine q_iadd X dX12_fourAt_42 ?_
  obtain ⟨g6, h⟩ := q_ifE h
  refine q_iaload X ea2 ma2 ka2 (q_inE g6) dX12_fourAt_43 ?_
  refine q_i2l X dX12_fourAt_44 ?_
  refine q_ladd X dX12_fourAt_45 ?_
  obtain ⟨ev, eS⟩ := q_end h
  exact q_lret X hr hl ev eS dX12_fourAt_46
theorem tD_X12_fourAt : yX12_fourAt.cls ≠ "java/lang/invoke/MethodHandle" ∧ yX12_fourAt.cls ≠ "java/lang/invoke/VarHandle" ∧ (parseMethodDescriptor yX12_fourAt.desc).map (fun d => d.parameters.length) = some 1 := by decide +kernel
theorem c_X12_fourAt {l : Launch} {D : va_G} {cy : Nat → ClassId} {n : Nat} {S Sv : q_S} {rv : Int64} {o : Nat} {p0 : Int32} (h : m_X12_fourAt n S o p0 = some (rv, Sv)) : q_MJ l yX12_fourAt (q_ws yX12_fourAt cX12_fourAt 2 ((some .long))) ({ frames := 0, cells := 0, slots := 0, locals := 0 } : Room) D cy [.ref o, .int (p0)] S rv Sv := by
  exact q_MJ_of (by decide +kernel) (Nat.le_of_ble_eq_true rfl) (fun p e s m args below meth c A X hr hl => w_X12_fourAt X hr hl h)
/-! TrueOutlinesModel.isOpen(I)Z -/
def m_X12_isOpen_31 (n : Nat) (k4 : q_S → Option Nat → Int32 → Int32 → Int32 → Option (Int32 × q_S)) (S : q_S) (l0 : Option Nat) (l1 : Int32) (l3 : Int32) (s0 : Int32) : Option (Int32 × q_S) := k4 (S) (l0) (l1) (s0) (l3 + (1))
set_option maxHeartbeats 4000000 in
set_option maxRecDepth 100000 in
theorem w_X12_isOpen_31 (X : q_X p s m args c cX12_isOpen 4 RX12 q_T D cy A) (hr : meth.sig.returnType = (some .boolean)) (hl : meth.locks = false)  {n : Nat} {Sv : q_S} {rv : Int32}  {k4 : q_S → Option Nat → Int32 → Int32 → Int32 → Option (Int32 × q_S)} (hk4 : ∀ (S : q_S) (z0 : Option Nat) (z1 : Int32) (z2 : Int32) (z3 : Int32), k4 S z0 z1 z2 z3 = some (rv, Sv) → q_W p l e ({ frames := 0, cells := 0, slots := 0, locals := 0 } : Room) s m args below meth c (MQ below (va_Qi (fun (r : Int32) (u : q_S) => r = rv ∧ u = Sv) (q_B D cy A) A) args s 0 0 A) A D cy 4 0 0 S 4 [(0, va_rf (z0)), (1, .int (z1)), (2, .int (z2)), (3, .int (z3))] []) (S : q_S) (l0 : Option Nat) (l1 : Int32) (l3 : Int32) (s0 : Int32) (h : m_X12_isOpen_31 n k4 S l0 l1 l3 s0 = some (rv, Sv)) : q_W p l e ({ frames := 0, cells := 0, slots := 0, locals := 0 } : Room) s m args below meth c (MQ below (va_Qi (fun (r : Int32) (u : q_S) => r = rv ∧ u = Sv) (q_B D cy A) A) args s 0 0 A) A D cy 4 0 0 S 31 [(0, va_rf (l0)), (1, .int (l1)), (3, .int (l3))] [.int (s0)] := by
  unfold m_X12_isOpen_31 at h
  refine q_istore_n X 2 [(2, .int (s0)), (0, va_rf (l0)), (1, .int (l1)), (3, .int (l3))] rfl (by decide) (by first | rfl | simp [List.filter, q_catR]) dX12_isOpen_31 ?_
  refine q_iinc X 3 3 (l3 + (1)) [(3, .int (l3 + (1))), (2, .int (s0)), (0, va_rf (l0)), (1, .int (l1))] rfl (congrArg (fun z => l3 + z) (show Int32.ofInt (1) = (1) by decide)) (by decide) (by first | rfl | simp [List.filter, q_catR]) dX12_isOpen_32 ?_
  refine q_goto X 4 (by decide) dX12_isOpen_35 ?_
  refine q_lv [2, 3, 1, 0] rfl ?_
  exact hk4 _ _ _ _ _ h
def m_X12_isOpen_26 (n : Nat) (k4 : q_S → Option Nat → Int32 → Int32 → Int32 → Option (Int32 × q_S)) (S : q_S) (l0 : Option Nat) (l1 : Int32) (l3 : Int32) : Option (Int32 × q_S) := m_X12_isOpen_31 n k4 (S) (l0) (l1) (l3) ((1 : Int32))
set_option maxHeartbeats 4000000 in
set_option maxRecDepth 100000 in
theorem w_X12_isOpen_26 (X : q_X p s m args c cX12_isOpen 4 RX12 q_T D cy A) (hr : meth.sig.returnType = (some .boolean)) (hl : meth.locks = false)  {n : Nat} {Sv : q_S} {rv : Int32}  {k4 : q_S → Option Nat → Int32 → Int32 → Int32 → Option (Int32 × q_S)} (hk4 : ∀ (S : q_S) (z0 : Option Nat) (z1 : Int32) (z2 : Int32) (z3 : Int32), k4 S z0 z1 z2 z3 = some (rv, Sv) → q_W p l e ({ frames := 0, cells := 0, slots := 0, locals := 0 } : Room) s m args below meth c (MQ below (va_Qi (fun (r : Int32) (u : q_S) => r = rv ∧ u = Sv) (q_B D cy A) A) args s 0 0 A) A D cy 4 0 0 S 4 [(0, va_rf (z0)), (1, .int (z1)), (2, .int (z2)), (3, .int (z3))] []) (S : q_S) (l0 : Option Nat) (l1 : Int32) (l3 : Int32) (h : m_X12_isOpen_26 n k4 S l0 l1 l3 = some (rv, Sv)) : q_W p l e ({ frames := 0, cells := 0, slots := 0, locals := 0 } : Room) s m args below meth c (MQ below (va_Qi (fun (r : Int32) (u : q_S) => r = rv ∧ u = Sv) (q_B D cy A) A) args s 0 0 A) A D cy 4 0 0 S 26 [(0, va_rf (l0)), (1, .int (l1)), (3, .int (l3))] [] := by
  unfold m_X12_isOpen_26 at h
  refine q_iconst X (1) (by decide) dX12_isOpen_26 ?_
  refine q_goto X 31 (by decide) dX12_isOpen_27 ?_
  exact w_X12_isOpen_31 X hr hl hk4 _ _ _ _ _ h
def m_X12_isOpen_4 (n : Nat) : Nat → q_S → Option Nat → Int32 → Int32 → Int32 → Option (Int32 × q_S)
  | 0, _, _, _, _, _ => none
  | k + 1, S, l0, l1, l2, l3 => q_at (S) (l0) 13 (fun a1 => (if (q_I (S) a1 24) ≤ l3 then q_if (l2 = 0 ∨ l2 = 1) (some (l2, S)) else (if l2 = 0 then q_at (S) (q_R (S) a1 25) 100 (fun a5 => q_if (q_in (l3) (q_N (S) a5) = true) ((if (q_I (S) a5 (l3).toNatClampNeg) = l1 then m_X12_isOpen_26 n (m_X12_isOpen_4 n k) (S) (l0) (l1) (l3) else m_X12_isOpen_31 n (m_X12_isOpen_4 n k) (S) (l0) (l1) (l3) ((0 : Int32))))) else m_X12_isOpen_26 n (m_X12_isOpen_4 n k) (S) (l0) (l1) (l3))))
set_option maxHeartbeats 4000000 in
set_option maxRecDepth 100000 in
theorem w_X12_isOpen_4 (X : q_X p s m args c cX12_isOpen 4 RX12 q_T D cy A) (hr : meth.sig.returnType = (some .boolean)) (hl : meth.locks = false)  {n : Nat} {Sv : q_S} {rv : Int32}  : ∀ (k : Nat) (S : q_S) (l0 : Option Nat) (l1 : Int32) (l2 : Int32) (l3 : Int32), m_X12_isOpen_4 n k S l0 l1 l2 l3 = some (rv, Sv) → q_W p l e ({ frames := 0, cells := 0, slots := 0, locals := 0 } : Room) s m args below meth c (MQ below (va_Qi (fun (r : Int32) (u : q_S) => r = rv ∧ u = Sv) (q_B D cy A) A) args s 0 0 A) A D cy 4 0 0 S 4 [(0, va_rf (l0)), (1, .int (l1)), (2, .int (l2)), (3, .int (l3))] [] := by
  intro k
  induction k with
  | zero => intro S l0 l1 l2 l3 h; rw [m_X12_isOpen_4] at h; cases h
  | succ k ih =>
    intro S l0 l1 l2 l3 h
    rw [m_X12_isOpen_4] at h
    refine q_iload_n X 3 rfl dX12_isOpen_4 ?_
    refine q_aload_n X 0 rfl dX12_isOpen_5 ?_
    obtain ⟨a1, ea1, ma1, ka1, h⟩ := q_atE h
    refine q_getI X 24 ea1 ma1 ka1 rfl tW_X12 (by decide) (by decide) tF_X12_213 rfl dX12_isOpen_6 ?_
    refine q_icmp_ge X 38 (by decide) dX12_isOpen_9 (fun g2 => ?_) (fun g2 => ?_)
    · rw [if_pos g2] at h
      refine q_iload_n X 2 rfl dX12_isOpen_38 ?_
      obtain ⟨g3, h⟩ := q_ifE h
      obtain ⟨ev, eS⟩ := q_end h
      exact q_iret X hr hl (q_bool g3) ev eS dX12_isOpen_39
    · rw [if_neg g2] at h
      refine q_iload_n X 2 rfl dX12_isOpen_12 ?_
      refine q_if_ne X 26 (by decide) dX12_isOpen_13 (fun g4 => ?_) (fun g4 => ?_)
      · rw [if_neg g4] at h
        refine q_lv [0, 1, 3] rfl ?_
        exact w_X12_isOpen_26 X hr hl ih _ _ _ _ h
      · rw [if_pos g4] at h
        refine q_aload_n X 0 rfl dX12_isOpen_16 ?_
        refine q_getR X 25 ea1 ma1 ka1 rfl tW_X12 (by decide) (by decide) tF_X12_54 rfl dX12_isOpen_17 ?_
        refine q_iload_n X 3 rfl dX12_isOpen_20 ?_
        obtain ⟨a5, ea5, ma5, ka5, h⟩ := q_atE h
        obtain ⟨g6, h⟩ := q_ifE h
        refine q_iaload X ea5 ma5 ka5 (q_inE g6) dX12_isOpen_21 ?_
        refine q_iload_n X 1 rfl dX12_isOpen_22 ?_
        refine q_icmp_ne X 30 (by decide) dX12_isOpen_23 (fun g7 => ?_) (fun g7 => ?_)
        · rw [if_neg g7] at h
          refine q_iconst X (0) (by decide) dX12_isOpen_30 ?_
          refine q_lv [0, 1, 3] rfl ?_
          exact w_X12_isOpen_31 X hr hl ih _ _ _ _ _ h
        · rw [if_pos g7] at h
          refine q_lv [0, 1, 3] rfl ?_
          exact w_X12_isOpen_26 X hr hl ih _ _ _ _ h
def m_X12_isOpen (n : Nat) (S : q_S) (o : Nat) (p0 : Int32) : Option (Int32 × q_S) := m_X12_isOpen_4 n n (S) (some o) (p0) ((0 : Int32)) ((0 : Int32))
set_option maxHeartbeats 4000000 in
set_option maxRecDepth 100000 in
theorem w_X12_isOpen (X : q_X p s m args c cX12_isOpen 4 RX12 q_T D cy A) (hr : meth.sig.returnType = (some .boolean)) (hl : meth.locks = false)  {n : Nat} {S Sv : q_S} {rv : Int32} {o : Nat} {p0 : Int32} (h : m_X12_isOpen n S o p0 = some (rv, Sv)) : q_W p l e ({ frames := 0, cells := 0, slots := 0, locals := 0 } : Room) s m args below meth c (MQ below (va_Qi (fun (r : Int32) (u : q_S) => r = rv ∧ u = Sv) (q_B D cy A) A) args s 0 0 A) A D cy 4 0 0 S 0 [(0, va_rf (some o)), (1, .int (p0))] [] := by
  unfold m_X12_isOpen at h
  refine q_iconst X (0) (by decide) dX12_isOpen_0 ?_
  refine q_istore_n X 2 [(2, .int ((0 : Int32))), (0, va_rf (some o)), (1, .int (p0))] rfl (by decide) (by first | rfl | simp [List.filter, q_catR]) dX12_isOpen_1 ?_
  refine q_iconst X (0) (by decide) dX12_isOpen_2 ?_
  refine q_istore_n X 3 [(3, .int ((0 : Int32))), (2, .int ((0 : Int32))), (0, va_rf (some o)), (1, .int (p0))] rfl (by decide) (by first | rfl | simp [List.filter, q_catR]) dX12_isOpen_3 ?_
  refine q_lv [2, 3, 1, 0] rfl ?_
  exact w_X12_isOpen_4 X hr hl n _ _ _ _ _ h
theorem tD_X12_isOpen : yX12_isOpen.cls ≠ "java/lang/invoke/MethodHandle" ∧ yX12_isOpen.cls ≠ "java/lang/invoke/VarHandle" ∧ (parseMethodDescriptor yX12_isOpen.desc).map (fun d => d.parameters.length) = some 1 := by decide +kernel
theorem c_X12_isOpen {l : Launch} {D : va_G} {cy : Nat → ClassId} {n : Nat} {S Sv : q_S} {rv : Int32} {o : Nat} {p0 : Int32} (h : m_X12_isOpen n S o p0 = some (rv, Sv)) : q_MI l yX12_isOpen (q_ws yX12_isOpen cX12_isOpen 4 ((some .boolean))) ({ frames := 0, cells := 0, slots := 0, locals := 0 } : Room) D cy [.ref o, .int (p0)] S rv Sv := by
  exact q_MI_of (by decide +kernel) (Nat.le_of_ble_eq_true rfl) (fun p e s m args below meth c A X hr hl => w_X12_isOpen X hr hl h)
/-! TrueOutlinesModel.scaledBy(JJJJ)I -/
def m_X12_scaledBy (n : Nat) (S : q_S) (p0 : Int64) (p1 : Int64) (p2 : Int64) (p3 : Int64) : Option (Int32 × q_S) := some (((((p0 * p1) + (p2 * p3)) + (8192 : Int64)) >>> (((14 : Int32)).toInt64 &&& 63)).toInt32, S)
set_option maxHeartbeats 4000000 in
set_option maxRecDepth 100000 in
theorem w_X12_scaledBy (X : q_X p s m args c cX12_scaledBy 8 RX12 q_T D cy A) (hr : meth.sig.returnType = (some .int)) (hl : meth.locks = false)  {n : Nat} {S Sv : q_S} {rv : Int32} {p0 : Int64} {p1 : Int64} {p2 : Int64} {p3 : Int64} (h : m_X12_scaledBy n S p0 p1 p2 p3 = some (rv, Sv)) : q_W p l e ({ frames := 0, cells := 0, slots := 0, locals := 0 } : Room) s m args below meth c (MQ below (va_Qi (fun (r : Int32) (u : q_S) => r = rv ∧ u = Sv) (q_B D cy A) A) args s 0 0 A) A D cy 8 0 0 S 0 [(0, .long (p0)), (2, .long (p1)), (4, .long (p2)), (6, .long (p3))] [] := by
  unfold m_X12_scaledBy at h
  refine q_lload_n X 0 rfl dX12_scaledBy_0 ?_
  refine q_lload_n X 1 rfl dX12_scaledBy_1 ?_
  refine q_lmul X dX12_scaledBy_2 ?_
  refine q_lload X 2 rfl dX12_scaledBy_3 ?_
  refine q_lload X 3 rfl dX12_scaledBy_5 ?_
  refine q_lmul X dX12_scaledBy_7 ?_
  refine q_ladd X dX12_scaledBy_8 ?_
  refine q_ldc2_w X (8192) tC_X12_226 dX12_scaledBy_9 ?_
  refine q_ladd X dX12_scaledBy_12 ?_
  refine q_bipush X (14) (by decide) dX12_scaledBy_13 ?_
  refine q_lshr X dX12_scaledBy_15 ?_
  refine q_l2i X dX12_scaledBy_16 ?_
  obtain ⟨ev, eS⟩ := q_end h
  exact q_iret X hr hl rfl ev eS dX12_scaledBy_17
theorem tD_X12_scaledBy : yX12_scaledBy.cls ≠ "java/lang/invoke/MethodHandle" ∧ yX12_scaledBy.cls ≠ "java/lang/invoke/VarHandle" ∧ (parseMethodDescriptor yX12_scaledBy.desc).map (fun d => d.parameters.length) = some 4 := by decide +kernel
theorem c_X12_scaledBy {l : Launch} {D : va_G} {cy : Nat → ClassId} {n : Nat} {S Sv : q_S} {rv : Int32} {p0 : Int64} {p1 : Int64} {p2 : Int64} {p3 : Int64} (h : m_X12_scaledBy n S p0 p1 p2 p3 = some (rv, Sv)) : q_MI l yX12_scaledBy (q_ws yX12_scaledBy cX12_scaledBy 8 ((some .int))) ({ frames := 0, cells := 0, slots := 0, locals := 0 } : Room) D cy [.long (p0), .long (p1), .long (p2), .long (p3)] S rv Sv := by
  exact q_MI_of (by decide +kernel) (Nat.le_of_ble_eq_true rfl) (fun p e s m args below meth c A X hr hl => w_X12_scaledBy X hr hl h)
/-! TrueOutlinesModel.place(I)V -/
def m_X12_place_233 (n : Nat) : Nat → q_S → Option Nat → Int32 → Int32 → Int32 → Option (Unit × q_S)
  | 0, _, _, _, _, _ => none
  | k + 1, S, l0, l2, l3, l4 => q_at (S) (l0) 13 (fun a1 => (if (q_I (S) a1 14) ≤ l4 then some ((), S) else q_at (S) (q_R (S) a1 15) 100 (fun a3 => q_if (q_in (l4) (q_N (S) a3) = true) (q_if (q_in (l4) (q_N (S) a3) = true) (q_at (q_sI (S) a3 (l4).toNatClampNeg ((q_I (S) a3 (l4).toNatClampNeg) + l2)) (q_R (q_sI (S) a3 (l4).toNatClampNeg ((q_I (S) a3 (l4).toNatClampNeg) + l2)) a1 16) 100 (fun a6 => q_if (q_in (l4) (q_N (q_sI (S) a3 (l4).toNatClampNeg ((q_I (S) a3 (l4).toNatClampNeg) + l2)) a6) = true) (q_if (q_in (l4) (q_N (q_sI (S) a3 (l4).toNatClampNeg ((q_I (S) a3 (l4).toNatClampNeg) + l2)) a6) = true) (q_let (q_sI (q_sI (S) a3 (l4).toNatClampNeg ((q_I (S) a3 (l4).toNatClampNeg) + l2)) a6 (l4).toNatClampNeg ((q_I (q_sI (S) a3 (l4).toNatClampNeg ((q_I (S) a3 (l4).toNatClampNeg) + l2)) a6 (l4).toNatClampNeg) + l3)) (fun S9 => m_X12_place_233 n k (S9) (l0) (l2) (l3) (l4 + (1)))))))))))
set_option maxHeartbeats 4000000 in
set_option maxRecDepth 100000 in
theorem w_X12_place_233 (X : q_X p s m args c cX12_place 6 RX12 q_T D cy A) (hr : meth.sig.returnType = none) (hl : meth.locks = false)  {n : Nat} {Sv : q_S}  : ∀ (k : Nat) (S : q_S) (l0 : Option Nat) (l2 : Int32) (l3 : Int32) (l4 : Int32), m_X12_place_233 n k S l0 l2 l3 l4 = some ((), Sv) → q_W p l e ({ frames := 1, cells := 0, slots := 0, locals := 27 } : Room) s m args below meth c (MQ below (va_Qv (fun (u : q_S) => u = Sv) (q_B D cy A) A) args s 0 0 A) A D cy 6 0 0 S 233 [(0, va_rf (l0)), (2, .int (l2)), (3, .int (l3)), (4, .int (l4))] [] := by
  intro k
  induction k with
  | zero => intro S l0 l2 l3 l4 h; rw [m_X12_place_233] at h; cases h
  | succ k ih =>
    intro S l0 l2 l3 l4 h
    rw [m_X12_place_233] at h
    refine q_iload X 3 rfl dX12_place_233 ?_
    refine q_aload_n X 0 rfl dX12_place_235 ?_
    obtain ⟨a1, ea1, ma1, ka1, h⟩ := q_atE h
    refine q_getI X 14 ea1 ma1 ka1 rfl tW_X12 (by decide) (by decide) tF_X12_136 rfl dX12_place_236 ?_
    refine q_icmp_ge X 270 (by decide) dX12_place_239 (fun g2 => ?_) (fun g2 => ?_)
    · rw [if_pos g2] at h
      obtain ⟨ev, eS⟩ := q_end h
      exact q_vret X hr hl eS dX12_place_270
    · rw [if_neg g2] at h
      refine q_aload_n X 0 rfl dX12_place_242 ?_
      refine q_getR X 15 ea1 ma1 ka1 rfl tW_X12 (by decide) (by decide) tF_X12_39 rfl dX12_place_243 ?_
      refine q_iload X 3 rfl dX12_place_246 ?_
      refine q_dup2_11 X rfl (q_catR _) dX12_place_248 ?_
      obtain ⟨a3, ea3, ma3, ka3, h⟩ := q_atE h
      obtain ⟨g4, h⟩ := q_ifE h
      refine q_iaload X ea3 ma3 ka3 (q_inE g4) dX12_place_249 ?_
      refine q_iload_n X 1 rfl dX12_place_250 ?_
      refine q_iadd X dX12_place_251 ?_
      obtain ⟨g5, h⟩ := q_ifE h
      refine q_iastore X ea3 ma3 ka3 (q_inE g5) dX12_place_252 ?_
      have ma1 : a1 ∈ q_L (q_sI (S) a3 (l4).toNatClampNeg ((q_I (S) a3 (l4).toNatClampNeg) + l2)) := q_LsI ma1
      have ka1 : q_K (q_sI (S) a3 (l4).toNatClampNeg ((q_I (S) a3 (l4).toNatClampNeg) + l2)) a1 = 13 := q_KsI ka1
      have ma3 : a3 ∈ q_L (q_sI (S) a3 (l4).toNatClampNeg ((q_I (S) a3 (l4).toNatClampNeg) + l2)) := q_LsI ma3
      have ka3 : q_K (q_sI (S) a3 (l4).toNatClampNeg ((q_I (S) a3 (l4).toNatClampNeg) + l2)) a3 = 100 := q_KsI ka3
      refine q_aload_n X 0 rfl dX12_place_253 ?_
      refine q_getR X 16 ea1 ma1 ka1 rfl tW_X12 (by decide) (by decide) tF_X12_42 rfl dX12_place_254 ?_
      refine q_iload X 3 rfl dX12_place_257 ?_
      refine q_dup2_11 X rfl (q_catR _) dX12_place_259 ?_
      obtain ⟨a6, ea6, ma6, ka6, h⟩ := q_atE h
      obtain ⟨g7, h⟩ := q_ifE h
      refine q_iaload X ea6 ma6 ka6 (q_inE g7) dX12_place_260 ?_
      refine q_iload_n X 2 rfl dX12_place_261 ?_
      refine q_iadd X dX12_place_262 ?_
      obtain ⟨g8, h⟩ := q_ifE h
      refine q_iastore X ea6 ma6 ka6 (q_inE g8) dX12_place_263 ?_
      have ma1 : a1 ∈ q_L (q_sI (q_sI (S) a3 (l4).toNatClampNeg ((q_I (S) a3 (l4).toNatClampNeg) + l2)) a6 (l4).toNatClampNeg ((q_I (q_sI (S) a3 (l4).toNatClampNeg ((q_I (S) a3 (l4).toNatClampNeg) + l2)) a6 (l4).toNatClampNeg) + l3)) := q_LsI ma1
      have ka1 : q_K (q_sI (q_sI (S) a3 (l4).toNatClampNeg ((q_I (S) a3 (l4).toNatClampNeg) + l2)) a6 (l4).toNatClampNeg ((q_I (q_sI (S) a3 (l4).toNatClampNeg ((q_I (S) a3 (l4).toNatClampNeg) + l2)) a6 (l4).toNatClampNeg) + l3)) a1 = 13 := q_KsI ka1
      have ma3 : a3 ∈ q_L (q_sI (q_sI (S) a3 (l4).toNatClampNeg ((q_I (S) a3 (l4).toNatClampNeg) + l2)) a6 (l4).toNatClampNeg ((q_I (q_sI (S) a3 (l4).toNatClampNeg ((q_I (S) a3 (l4).toNatClampNeg) + l2)) a6 (l4).toNatClampNeg) + l3)) := q_LsI ma3
      have ka3 : q_K (q_sI (q_sI (S) a3 (l4).toNatClampNeg ((q_I (S) a3 (l4).toNatClampNeg) + l2)) a6 (l4).toNatClampNeg ((q_I (q_sI (S) a3 (l4).toNatClampNeg ((q_I (S) a3 (l4).toNatClampNeg) + l2)) a6 (l4).toNatClampNeg) + l3)) a3 = 100 := q_KsI ka3
      have ma6 : a6 ∈ q_L (q_sI (q_sI (S) a3 (l4).toNatClampNeg ((q_I (S) a3 (l4).toNatClampNeg) + l2)) a6 (l4).toNatClampNeg ((q_I (q_sI (S) a3 (l4).toNatClampNeg ((q_I (S) a3 (l4).toNatClampNeg) + l2)) a6 (l4).toNatClampNeg) + l3)) := q_LsI ma6
      have ka6 : q_K (q_sI (q_sI (S) a3 (l4).toNatClampNeg ((q_I (S) a3 (l4).toNatClampNeg) + l2)) a6 (l4).toNatClampNeg ((q_I (q_sI (S) a3 (l4).toNatClampNeg ((q_I (S) a3 (l4).toNatClampNeg) + l2)) a6 (l4).toNatClampNeg) + l3)) a6 = 100 := q_KsI ka6
      refine q_iinc X 4 3 (l4 + (1)) [(4, .int (l4 + (1))), (0, va_rf (l0)), (2, .int (l2)), (3, .int (l3))] rfl (congrArg (fun z => l4 + z) (show Int32.ofInt (1) = (1) by decide)) (by decide) (by first | rfl | simp [List.filter, q_catR]) dX12_place_264 ?_
      obtain ⟨S9, eS9, h⟩ := q_letE h
      refine q_sub eS9 ?_
      have ma1 : a1 ∈ q_L S9 := by rw [eS9]; exact ma1
      have ka1 : q_K S9 a1 = 13 := by rw [eS9]; exact ka1
      have ma3 : a3 ∈ q_L S9 := by rw [eS9]; exact ma3
      have ka3 : q_K S9 a3 = 100 := by rw [eS9]; exact ka3
      have ma6 : a6 ∈ q_L S9 := by rw [eS9]; exact ma6
      have ka6 : q_K S9 a6 = 100 := by rw [eS9]; exact ka6
      refine q_goto X 233 (by decide) dX12_place_267 ?_
      refine q_lv [1, 2, 3, 0] rfl ?_
      exact ih _ _ _ _ _ h
def m_X12_place_225 (n : Nat) (S : q_S) (l0 : Option Nat) (l1 : Int32) (l2 : Int32) (l3 : Int32) : Option (Unit × q_S) := q_at (S) (l0) 13 (fun a1 => q_at (S) (q_R (S) a1 31) 100 (fun a2 => q_if (q_in (l1) (q_N (S) a2) = true) (m_X12_place_233 n n (S) (l0) (l2) (l3) (q_I (S) a2 (l1).toNatClampNeg))))
set_option maxHeartbeats 4000000 in
set_option maxRecDepth 100000 in
theorem w_X12_place_225 (X : q_X p s m args c cX12_place 6 RX12 q_T D cy A) (hr : meth.sig.returnType = none) (hl : meth.locks = false)  {n : Nat} {Sv : q_S}  (S : q_S) (l0 : Option Nat) (l1 : Int32) (l2 : Int32) (l3 : Int32) (h : m_X12_place_225 n S l0 l1 l2 l3 = some ((), Sv)) : q_W p l e ({ frames := 1, cells := 0, slots := 0, locals := 27 } : Room) s m args below meth c (MQ below (va_Qv (fun (u : q_S) => u = Sv) (q_B D cy A) A) args s 0 0 A) A D cy 6 0 0 S 225 [(0, va_rf (l0)), (1, .int (l1)), (2, .int (l2)), (3, .int (l3))] [] := by
  unfold m_X12_place_225 at h
  refine q_aload_n X 0 rfl dX12_place_225 ?_
  obtain ⟨a1, ea1, ma1, ka1, h⟩ := q_atE h
  refine q_getR X 31 ea1 ma1 ka1 rfl tW_X12 (by decide) (by decide) tF_X12_72 rfl dX12_place_226 ?_
  refine q_iload_n X 1 rfl dX12_place_229 ?_
  obtain ⟨a2, ea2, ma2, ka2, h⟩ := q_atE h
  obtain ⟨g3, h⟩ := q_ifE h
  refine q_iaload X ea2 ma2 ka2 (q_inE g3) dX12_place_230 ?_
  refine q_istore X 4 [(4, .int (q_I (S) a2 (l1).toNatClampNeg)), (0, va_rf (l0)), (1, .int (l1)), (2, .int (l2)), (3, .int (l3))] (by decide) (by first | rfl | simp [List.filter, q_catR]) dX12_place_231 ?_
  refine q_lv [1, 3, 4, 0] rfl ?_
  exact w_X12_place_233 X hr hl n _ _ _ _ _ h
def m_X12_place_181 (n : Nat) (S : q_S) (l0 : Option Nat) (l1 : Int32) : Option (Unit × q_S) := q_at (S) (l0) 13 (fun a1 => q_at (S) (q_R (S) a1 30) 100 (fun a2 => q_if (q_in (l1) (q_N (S) a2) = true) (q_b (m_X12_tell n (S) a1 ((3 : Int32)) (q_I (S) a2 (l1).toNatClampNeg)) (fun _ S4 => some ((), S4)))))
set_option maxHeartbeats 4000000 in
set_option maxRecDepth 100000 in
theorem w_X12_place_181 (X : q_X p s m args c cX12_place 6 RX12 q_T D cy A) (hr : meth.sig.returnType = none) (hl : meth.locks = false)  {n : Nat} {Sv : q_S}  (S : q_S) (l0 : Option Nat) (l1 : Int32) (h : m_X12_place_181 n S l0 l1 = some ((), Sv)) : q_W p l e ({ frames := 1, cells := 0, slots := 0, locals := 27 } : Room) s m args below meth c (MQ below (va_Qv (fun (u : q_S) => u = Sv) (q_B D cy A) A) args s 0 0 A) A D cy 6 0 0 S 181 [(0, va_rf (l0)), (1, .int (l1))] [] := by
  unfold m_X12_place_181 at h
  refine q_aload_n X 0 rfl dX12_place_181 ?_
  refine q_iconst X (3) (by decide) dX12_place_182 ?_
  refine q_aload_n X 0 rfl dX12_place_183 ?_
  obtain ⟨a1, ea1, ma1, ka1, h⟩ := q_atE h
  refine q_getR X 30 ea1 ma1 ka1 rfl tW_X12 (by decide) (by decide) tF_X12_69 rfl dX12_place_184 ?_
  refine q_iload_n X 1 rfl dX12_place_187 ?_
  obtain ⟨a2, ea2, ma2, ka2, h⟩ := q_atE h
  obtain ⟨g3, h⟩ := q_ifE h
  refine q_iaload X ea2 ma2 ka2 (q_inE g3) dX12_place_188 ?_
  obtain ⟨u6, S4, c5, h⟩ := q_bE h
  refine q_cVV X (As := [.int ((3 : Int32)), .int (q_I (S) a2 (l1).toNatClampNeg)]) ea1 ma1 ka1 rfl (by decide) (c_X12_tell c5) (q_cwV X tK_X12_tell tM_X12_159 tI_X12_tell tV_X12_tell tN_X12 rfl rfl tD_X12_tell ⟨Nat.le_of_ble_eq_true rfl, Nat.le_of_ble_eq_true rfl⟩) rfl rfl (by first | exact Nat.le_of_ble_eq_true rfl | (simp only [List.map, q_catR]; exact Nat.le_of_ble_eq_true rfl)) ⟨Nat.zero_le _, Nat.zero_le _⟩ dX12_place_189 ?_
  obtain ⟨ev, eS⟩ := q_end h
  exact q_vret X hr hl eS dX12_place_192
def m_X12_place_7 (n : Nat) : Nat → q_S → Option Nat → Int32 → Int32 → Option (Unit × q_S)
  | 0, _, _, _, _ => none
  | k + 1, S, l0, l1, l2 => q_at (S) (l0) 13 (fun a1 => (if (q_I (S) a1 14) ≤ l2 then q_at (S) (q_R (S) a1 33) 100 (fun a3 => q_if (q_in (l1) (q_N (S) a3) = true) (q_at (S) (q_R (S) a1 34) 100 (fun a5 => q_if (q_in (l1) (q_N (S) a5) = true) (q_at (S) (q_R (S) a1 32) 100 (fun a7 => q_if (q_in (l1) (q_N (S) a7) = true) ((if ((q_I (S) a7 (l1).toNatClampNeg) &&& (2 : Int32)) = 0 then q_at (S) (q_R (S) a1 27) 100 (fun a10 => q_if (q_in (l1) (q_N (S) a10) = true) (q_if (q_in (l1) (q_N (S) a3) = true) (q_at (S) (q_R (S) a1 31) 100 (fun a13 => q_if (q_in (l1) (q_N (S) a13) = true) (q_if (q_in (l1) (q_N (S) a5) = true) (q_if (q_in (l1) (q_N (S) a13) = true) ((if (q_I (S) a13 (l1).toNatClampNeg) ≤ ((q_I (S) a10 (l1).toNatClampNeg) + (q_I (S) a3 (l1).toNatClampNeg)) then m_X12_place_181 n (S) (l0) (l1) else (if ((q_I (S) a13 (l1).toNatClampNeg) + (q_I (S) a5 (l1).toNatClampNeg)) < (q_I (S) a1 14) then q_at (S) (q_R (S) a1 15) 100 (fun a19 => q_if (q_in ((q_I (S) a10 (l1).toNatClampNeg) + (q_I (S) a3 (l1).toNatClampNeg)) (q_N (S) a19) = true) (q_if (q_in ((q_I (S) a13 (l1).toNatClampNeg) + (q_I (S) a5 (l1).toNatClampNeg)) (q_N (S) a19) = true) (q_at (S) (q_R (S) a1 16) 100 (fun a22 => q_if (q_in ((q_I (S) a10 (l1).toNatClampNeg) + (q_I (S) a3 (l1).toNatClampNeg)) (q_N (S) a22) = true) (q_if (q_in ((q_I (S) a13 (l1).toNatClampNeg) + (q_I (S) a5 (l1).toNatClampNeg)) (q_N (S) a22) = true) (m_X12_place_225 n (S) (l0) (l1) ((q_I (S) a19 ((q_I (S) a10 (l1).toNatClampNeg) + (q_I (S) a3 (l1).toNatClampNeg)).toNatClampNeg) - (q_I (S) a19 ((q_I (S) a13 (l1).toNatClampNeg) + (q_I (S) a5 (l1).toNatClampNeg)).toNatClampNeg)) ((q_I (S) a22 ((q_I (S) a10 (l1).toNatClampNeg) + (q_I (S) a3 (l1).toNatClampNeg)).toNatClampNeg) - (q_I (S) a22 ((q_I (S) a13 (l1).toNatClampNeg) + (q_I (S) a5 (l1).toNatClampNeg)).toNatClampNeg)))))))) else m_X12_place_181 n (S) (l0) (l1)))))))))) else m_X12_place_225 n (S) (l0) (l1) (q_I (S) a3 (l1).toNatClampNeg) (q_I (S) a5 (l1).toNatClampNeg)))))))) else q_at (S) (q_R (S) a1 15) 100 (fun a25 => q_if (q_in (l2) (q_N (S) a25) = true) (q_at (S) (q_R (S) a1 16) 100 (fun a27 => q_if (q_in (l2) (q_N (S) a27) = true) (q_at (S) (q_R (S) a1 35) 100 (fun a29 => q_if (q_in ((4 : Int32) * l1) (q_N (S) a29) = true) (q_if (q_in (((4 : Int32) * l1) + (2 : Int32)) (q_N (S) a29) = true) (q_b (m_X12_scaledBy n (S) ((q_I (S) a29 ((4 : Int32) * l1).toNatClampNeg).toInt64) ((q_I (S) a25 (l2).toNatClampNeg).toInt64) ((q_I (S) a29 (((4 : Int32) * l1) + (2 : Int32)).toNatClampNeg).toInt64) ((q_I (S) a27 (l2).toNatClampNeg).toInt64)) (fun r32 S33 => q_at (S33) (q_R (S) a1 15) 100 (fun a35 => q_if (q_in (l2) (q_N (S33) a35) = true) (q_at (q_sI (S33) a35 (l2).toNatClampNeg (r32)) (l0) 13 (fun a37 => q_at (q_sI (S33) a35 (l2).toNatClampNeg (r32)) (q_R (q_sI (S33) a35 (l2).toNatClampNeg (r32)) a37 35) 100 (fun a38 => q_if (q_in (((4 : Int32) * l1) + (1 : Int32)) (q_N (q_sI (S33) a35 (l2).toNatClampNeg (r32)) a38) = true) (q_if (q_in (((4 : Int32) * l1) + (3 : Int32)) (q_N (q_sI (S33) a35 (l2).toNatClampNeg (r32)) a38) = true) (q_b (m_X12_scaledBy n (q_sI (S33) a35 (l2).toNatClampNeg (r32)) ((q_I (q_sI (S33) a35 (l2).toNatClampNeg (r32)) a38 (((4 : Int32) * l1) + (1 : Int32)).toNatClampNeg).toInt64) ((q_I (S) a25 (l2).toNatClampNeg).toInt64) ((q_I (q_sI (S33) a35 (l2).toNatClampNeg (r32)) a38 (((4 : Int32) * l1) + (3 : Int32)).toNatClampNeg).toInt64) ((q_I (S) a27 (l2).toNatClampNeg).toInt64)) (fun r41 S42 => q_at (S42) (q_R (q_sI (S33) a35 (l2).toNatClampNeg (r32)) a37 16) 100 (fun a44 => q_if (q_in (l2) (q_N (S42) a44) = true) (m_X12_place_7 n k (q_sI (S42) a44 (l2).toNatClampNeg (r41)) (l0) (l1) (l2 + (1)))))))))))))))))))))
set_option maxHeartbeats 4000000 in
set_option maxRecDepth 100000 in
theorem w_X12_place_7 (X : q_X p s m args c cX12_place 6 RX12 q_T D cy A) (hr : meth.sig.returnType = none) (hl : meth.locks = false)  {n : Nat} {Sv : q_S}  : ∀ (k : Nat) (S : q_S) (l0 : Option Nat) (l1 : Int32) (l2 : Int32), m_X12_place_7 n k S l0 l1 l2 = some ((), Sv) → q_W p l e ({ frames := 1, cells := 0, slots := 0, locals := 27 } : Room) s m args below meth c (MQ below (va_Qv (fun (u : q_S) => u = Sv) (q_B D cy A) A) args s 0 0 A) A D cy 6 0 0 S 7 [(0, va_rf (l0)), (1, .int (l1)), (2, .int (l2))] [] := by
  intro k
  induction k with
  | zero => intro S l0 l1 l2 h; rw [m_X12_place_7] at h; cases h
  | succ k ih =>
    intro S l0 l1 l2 h
    rw [m_X12_place_7] at h
    refine q_iload_n X 2 rfl dX12_place_7 ?_
    refine q_aload_n X 0 rfl dX12_place_8 ?_
    obtain ⟨a1, ea1, ma1, ka1, h⟩ := q_atE h
    refine q_getI X 14 ea1 ma1 ka1 rfl tW_X12 (by decide) (by decide) tF_X12_136 rfl dX12_place_9 ?_
    refine q_icmp_ge X 106 (by decide) dX12_place_12 (fun g2 => ?_) (fun g2 => ?_)
    · rw [if_pos g2] at h
      refine q_aload_n X 0 rfl dX12_place_106 ?_
      refine q_getR X 33 ea1 ma1 ka1 rfl tW_X12 (by decide) (by decide) tF_X12_78 rfl dX12_place_107 ?_
      refine q_iload_n X 1 rfl dX12_place_110 ?_
      obtain ⟨a3, ea3, ma3, ka3, h⟩ := q_atE h
      obtain ⟨g4, h⟩ := q_ifE h
      refine q_iaload X ea3 ma3 ka3 (q_inE g4) dX12_place_111 ?_
      refine q_istore_n X 2 [(2, .int (q_I (S) a3 (l1).toNatClampNeg)), (0, va_rf (l0)), (1, .int (l1))] rfl (by decide) (by first | rfl | simp [List.filter, q_catR]) dX12_place_112 ?_
      refine q_aload_n X 1 rfl dX12_place_113 ?_
      refine q_getR X 34 ea1 ma1 ka1 rfl tW_X12 (by decide) (by decide) tF_X12_81 rfl dX12_place_114 ?_
      refine q_iload_n X 2 rfl dX12_place_117 ?_
      obtain ⟨a5, ea5, ma5, ka5, h⟩ := q_atE h
      obtain ⟨g6, h⟩ := q_ifE h
      refine q_iaload X ea5 ma5 ka5 (q_inE g6) dX12_place_118 ?_
      refine q_istore_n X 3 [(3, .int (q_I (S) a5 (l1).toNatClampNeg)), (2, .int (q_I (S) a3 (l1).toNatClampNeg)), (0, va_rf (l0)), (1, .int (l1))] rfl (by decide) (by first | rfl | simp [List.filter, q_catR]) dX12_place_119 ?_
      refine q_aload_n X 2 rfl dX12_place_120 ?_
      refine q_getR X 32 ea1 ma1 ka1 rfl tW_X12 (by decide) (by decide) tF_X12_75 rfl dX12_place_121 ?_
      refine q_iload_n X 3 rfl dX12_place_124 ?_
      obtain ⟨a7, ea7, ma7, ka7, h⟩ := q_atE h
      obtain ⟨g8, h⟩ := q_ifE h
      refine q_iaload X ea7 ma7 ka7 (q_inE g8) dX12_place_125 ?_
      refine q_iconst X (2) (by decide) dX12_place_126 ?_
      refine q_iand X dX12_place_127 ?_
      refine q_if_ne X 225 (by decide) dX12_place_128 (fun g9 => ?_) (fun g9 => ?_)
      · rw [if_neg g9] at h
        refine q_lv [2, 3, 1, 0] rfl ?_
        exact w_X12_place_225 X hr hl _ _ _ _ _ h
      · rw [if_pos g9] at h
        refine q_aload_n X 2 rfl dX12_place_131 ?_
        refine q_getR X 27 ea1 ma1 ka1 rfl tW_X12 (by decide) (by decide) tF_X12_60 rfl dX12_place_132 ?_
        refine q_iload_n X 3 rfl dX12_place_135 ?_
        obtain ⟨a10, ea10, ma10, ka10, h⟩ := q_atE h
        obtain ⟨g11, h⟩ := q_ifE h
        refine q_iaload X ea10 ma10 ka10 (q_inE g11) dX12_place_136 ?_
        refine q_aload_n X 2 rfl dX12_place_137 ?_
        refine q_getR X 33 ea1 ma1 ka1 rfl tW_X12 (by decide) (by decide) tF_X12_78 rfl dX12_place_138 ?_
        refine q_iload_n X 3 rfl dX12_place_141 ?_
        obtain ⟨g12, h⟩ := q_ifE h
        refine q_iaload X ea3 ma3 ka3 (q_inE g12) dX12_place_142 ?_
        refine q_iadd X dX12_place_143 ?_
        refine q_istore X 4 [(4, .int ((q_I (S) a10 (l1).toNatClampNeg) + (q_I (S) a3 (l1).toNatClampNeg))), (3, .int (q_I (S) a5 (l1).toNatClampNeg)), (2, .int (q_I (S) a3 (l1).toNatClampNeg)), (0, va_rf (l0)), (1, .int (l1))] (by decide) (by first | rfl | simp [List.filter, q_catR]) dX12_place_144 ?_
        refine q_aload_n X 3 rfl dX12_place_146 ?_
        refine q_getR X 31 ea1 ma1 ka1 rfl tW_X12 (by decide) (by decide) tF_X12_72 rfl dX12_place_147 ?_
        refine q_iload_n X 4 rfl dX12_place_150 ?_
        obtain ⟨a13, ea13, ma13, ka13, h⟩ := q_atE h
        obtain ⟨g14, h⟩ := q_ifE h
        refine q_iaload X ea13 ma13 ka13 (q_inE g14) dX12_place_151 ?_
        refine q_aload_n X 3 rfl dX12_place_152 ?_
        refine q_getR X 34 ea1 ma1 ka1 rfl tW_X12 (by decide) (by decide) tF_X12_81 rfl dX12_place_153 ?_
        refine q_iload_n X 4 rfl dX12_place_156 ?_
        obtain ⟨g15, h⟩ := q_ifE h
        refine q_iaload X ea5 ma5 ka5 (q_inE g15) dX12_place_157 ?_
        refine q_iadd X dX12_place_158 ?_
        refine q_istore X 5 [(5, .int ((q_I (S) a13 (l1).toNatClampNeg) + (q_I (S) a5 (l1).toNatClampNeg))), (4, .int ((q_I (S) a10 (l1).toNatClampNeg) + (q_I (S) a3 (l1).toNatClampNeg))), (3, .int (q_I (S) a5 (l1).toNatClampNeg)), (2, .int (q_I (S) a3 (l1).toNatClampNeg)), (0, va_rf (l0)), (1, .int (l1))] (by decide) (by first | rfl | simp [List.filter, q_catR]) dX12_place_159 ?_
        refine q_iload X 1 rfl dX12_place_161 ?_
        refine q_aload_n X 4 rfl dX12_place_163 ?_
        refine q_getR X 31 ea1 ma1 ka1 rfl tW_X12 (by decide) (by decide) tF_X12_72 rfl dX12_place_164 ?_
        refine q_iload_n X 5 rfl dX12_place_167 ?_
        obtain ⟨g16, h⟩ := q_ifE h
        refine q_iaload X ea13 ma13 ka13 (q_inE g16) dX12_place_168 ?_
        refine q_icmp_ge X 181 (by decide) dX12_place_169 (fun g17 => ?_) (fun g17 => ?_)
        · rw [if_pos g17] at h
          refine q_lv [4, 5] rfl ?_
          exact w_X12_place_181 X hr hl _ _ _ h
        · rw [if_neg g17] at h
          refine q_iload X 0 rfl dX12_place_172 ?_
          refine q_aload_n X 4 rfl dX12_place_174 ?_
          refine q_getI X 14 ea1 ma1 ka1 rfl tW_X12 (by decide) (by decide) tF_X12_136 rfl dX12_place_175 ?_
          refine q_icmp_lt X 193 (by decide) dX12_place_178 (fun g18 => ?_) (fun g18 => ?_)
          · rw [if_pos g18] at h
            refine q_aload_n X 4 rfl dX12_place_193 ?_
            refine q_getR X 15 ea1 ma1 ka1 rfl tW_X12 (by decide) (by decide) tF_X12_39 rfl dX12_place_194 ?_
            refine q_iload X 1 rfl dX12_place_197 ?_
            obtain ⟨a19, ea19, ma19, ka19, h⟩ := q_atE h
            obtain ⟨g20, h⟩ := q_ifE h
            refine q_iaload X ea19 ma19 ka19 (q_inE g20) dX12_place_199 ?_
            refine q_aload_n X 4 rfl dX12_place_200 ?_
            refine q_getR X 15 ea1 ma1 ka1 rfl tW_X12 (by decide) (by decide) tF_X12_39 rfl dX12_place_201 ?_
            refine q_iload X 0 rfl dX12_place_204 ?_
            obtain ⟨g21, h⟩ := q_ifE h
            refine q_iaload X ea19 ma19 ka19 (q_inE g21) dX12_place_206 ?_
            refine q_isub X dX12_place_207 ?_
            refine q_istore_n X 2 [(2, .int ((q_I (S) a19 ((q_I (S) a10 (l1).toNatClampNeg) + (q_I (S) a3 (l1).toNatClampNeg)).toNatClampNeg) - (q_I (S) a19 ((q_I (S) a13 (l1).toNatClampNeg) + (q_I (S) a5 (l1).toNatClampNeg)).toNatClampNeg))), (5, .int ((q_I (S) a13 (l1).toNatClampNeg) + (q_I (S) a5 (l1).toNatClampNeg))), (4, .int ((q_I (S) a10 (l1).toNatClampNeg) + (q_I (S) a3 (l1).toNatClampNeg))), (3, .int (q_I (S) a5 (l1).toNatClampNeg)), (0, va_rf (l0)), (1, .int (l1))] rfl (by decide) (by first | rfl | simp [List.filter, q_catR]) dX12_place_208 ?_
            refine q_aload_n X 4 rfl dX12_place_209 ?_
            refine q_getR X 16 ea1 ma1 ka1 rfl tW_X12 (by decide) (by decide) tF_X12_42 rfl dX12_place_210 ?_
            refine q_iload X 2 rfl dX12_place_213 ?_
            obtain ⟨a22, ea22, ma22, ka22, h⟩ := q_atE h
            obtain ⟨g23, h⟩ := q_ifE h
            refine q_iaload X ea22 ma22 ka22 (q_inE g23) dX12_place_215 ?_
            refine q_aload_n X 4 rfl dX12_place_216 ?_
            refine q_getR X 16 ea1 ma1 ka1 rfl tW_X12 (by decide) (by decide) tF_X12_42 rfl dX12_place_217 ?_
            refine q_iload X 1 rfl dX12_place_220 ?_
            obtain ⟨g24, h⟩ := q_ifE h
            refine q_iaload X ea22 ma22 ka22 (q_inE g24) dX12_place_222 ?_
            refine q_isub X dX12_place_223 ?_
            refine q_istore_n X 3 [(3, .int ((q_I (S) a22 ((q_I (S) a10 (l1).toNatClampNeg) + (q_I (S) a3 (l1).toNatClampNeg)).toNatClampNeg) - (q_I (S) a22 ((q_I (S) a13 (l1).toNatClampNeg) + (q_I (S) a5 (l1).toNatClampNeg)).toNatClampNeg))), (2, .int ((q_I (S) a19 ((q_I (S) a10 (l1).toNatClampNeg) + (q_I (S) a3 (l1).toNatClampNeg)).toNatClampNeg) - (q_I (S) a19 ((q_I (S) a13 (l1).toNatClampNeg) + (q_I (S) a5 (l1).toNatClampNeg)).toNatClampNeg))), (5, .int ((q_I (S) a13 (l1).toNatClampNeg) + (q_I (S) a5 (l1).toNatClampNeg))), (4, .int ((q_I (S) a10 (l1).toNatClampNeg) + (q_I (S) a3 (l1).toNatClampNeg))), (0, va_rf (l0)), (1, .int (l1))] rfl (by decide) (by first | rfl | simp [List.filter, q_catR]) dX12_place_224 ?_
            refine q_lv [4, 5, 1, 0] rfl ?_
            exact w_X12_place_225 X hr hl _ _ _ _ _ h
          · rw [if_neg g18] at h
            refine q_lv [4, 5] rfl ?_
            exact w_X12_place_181 X hr hl _ _ _ h
    · rw [if_neg g2] at h
      refine q_aload_n X 0 rfl dX12_place_15 ?_
      refine q_getR X 15 ea1 ma1 ka1 rfl tW_X12 (by decide) (by decide) tF_X12_39 rfl dX12_place_16 ?_
      refine q_iload_n X 2 rfl dX12_place_19 ?_
      obtain ⟨a25, ea25, ma25, ka25, h⟩ := q_atE h
      obtain ⟨g26, h⟩ := q_ifE h
      refine q_iaload X ea25 ma25 ka25 (q_inE g26) dX12_place_20 ?_
      refine q_istore_n X 3 [(3, .int (q_I (S) a25 (l2).toNatClampNeg)), (0, va_rf (l0)), (1, .int (l1)), (2, .int (l2))] rfl (by decide) (by first | rfl | simp [List.filter, q_catR]) dX12_place_21 ?_
      refine q_aload_n X 1 rfl dX12_place_22 ?_
      refine q_getR X 16 ea1 ma1 ka1 rfl tW_X12 (by decide) (by decide) tF_X12_42 rfl dX12_place_23 ?_
      refine q_iload_n X 3 rfl dX12_place_26 ?_
      obtain ⟨a27, ea27, ma27, ka27, h⟩ := q_atE h
      obtain ⟨g28, h⟩ := q_ifE h
      refine q_iaload X ea27 ma27 ka27 (q_inE g28) dX12_place_27 ?_
      refine q_istore X 4 [(4, .int (q_I (S) a27 (l2).toNatClampNeg)), (3, .int (q_I (S) a25 (l2).toNatClampNeg)), (0, va_rf (l0)), (1, .int (l1)), (2, .int (l2))] (by decide) (by first | rfl | simp [List.filter, q_catR]) dX12_place_28 ?_
      refine q_aload_n X 2 rfl dX12_place_30 ?_
      refine q_getR X 15 ea1 ma1 ka1 rfl tW_X12 (by decide) (by decide) tF_X12_39 rfl dX12_place_31 ?_
      refine q_iload_n X 4 rfl dX12_place_34 ?_
      refine q_aload_n X 2 rfl dX12_place_35 ?_
      refine q_getR X 35 ea1 ma1 ka1 rfl tW_X12 (by decide) (by decide) tF_X12_84 rfl dX12_place_36 ?_
      refine q_iconst X (4) (by decide) dX12_place_39 ?_
      refine q_iload_n X 3 rfl dX12_place_40 ?_
      refine q_imul X dX12_place_41 ?_
      obtain ⟨a29, ea29, ma29, ka29, h⟩ := q_atE h
      obtain ⟨g30, h⟩ := q_ifE h
      refine q_iaload X ea29 ma29 ka29 (q_inE g30) dX12_place_42 ?_
      refine q_i2l X dX12_place_43 ?_
      refine q_iload_n X 1 rfl dX12_place_44 ?_
      refine q_i2l X dX12_place_45 ?_
      refine q_aload_n X 2 rfl dX12_place_46 ?_
      refine q_getR X 35 ea1 ma1 ka1 rfl tW_X12 (by decide) (by decide) tF_X12_84 rfl dX12_place_47 ?_
      refine q_iconst X (4) (by decide) dX12_place_50 ?_
      refine q_iload_n X 3 rfl dX12_place_51 ?_
      refine q_imul X dX12_place_52 ?_
      refine q_iconst X (2) (by decide) dX12_place_53 ?_
      refine q_iadd X dX12_place_54 ?_
      obtain ⟨g31, h⟩ := q_ifE h
      refine q_iaload X ea29 ma29 ka29 (q_inE g31) dX12_place_55 ?_
      refine q_i2l X dX12_place_56 ?_
      refine q_iload X 0 rfl dX12_place_57 ?_
      refine q_i2l X dX12_place_59 ?_
      obtain ⟨r32, S33, c34, h⟩ := q_bE h
      refine q_cSI X (As := [.long ((q_I (S) a29 ((4 : Int32) * l1).toNatClampNeg).toInt64), .long ((q_I (S) a25 (l2).toNatClampNeg).toInt64), .long ((q_I (S) a29 (((4 : Int32) * l1) + (2 : Int32)).toNatClampNeg).toInt64), .long ((q_I (S) a27 (l2).toNatClampNeg).toInt64)]) (c_X12_scaledBy c34) (q_cwS X tK_X12_scaledBy tM_X12_228 tS_X12_scaledBy tN_X12 rfl rfl tD_X12_scaledBy ⟨Nat.le_of_ble_eq_true rfl, Nat.le_of_ble_eq_true rfl⟩) rfl rfl (by first | exact Nat.le_of_ble_eq_true rfl | (simp only [List.map, q_catR]; exact Nat.le_of_ble_eq_true rfl)) ⟨Nat.zero_le _, Nat.zero_le _⟩ dX12_place_60 ?_
      obtain ⟨a35, ea35, ma35, ka35, h⟩ := q_atE h
      obtain ⟨g36, h⟩ := q_ifE h
      refine q_iastore X ea35 ma35 ka35 (q_inE g36) dX12_place_63 ?_
      have ma35 : a35 ∈ q_L (q_sI (S33) a35 (l2).toNatClampNeg (r32)) := q_LsI ma35
      have ka35 : q_K (q_sI (S33) a35 (l2).toNatClampNeg (r32)) a35 = 100 := q_KsI ka35
      refine q_aload_n X 2 rfl dX12_place_64 ?_
      obtain ⟨a37, ea37, ma37, ka37, h⟩ := q_atE h
      refine q_getR X 16 ea37 ma37 ka37 rfl tW_X12 (by decide) (by decide) tF_X12_42 rfl dX12_place_65 ?_
      refine q_iload_n X 4 rfl dX12_place_68 ?_
      refine q_aload_n X 2 rfl dX12_place_69 ?_
      refine q_getR X 35 ea37 ma37 ka37 rfl tW_X12 (by decide) (by decide) tF_X12_84 rfl dX12_place_70 ?_
      refine q_iconst X (4) (by decide) dX12_place_73 ?_
      refine q_iload_n X 3 rfl dX12_place_74 ?_
      refine q_imul X dX12_place_75 ?_
      refine q_iconst X (1) (by decide) dX12_place_76 ?_
      refine q_iadd X dX12_place_77 ?_
      obtain ⟨a38, ea38, ma38, ka38, h⟩ := q_atE h
      obtain ⟨g39, h⟩ := q_ifE h
      refine q_iaload X ea38 ma38 ka38 (q_inE g39) dX12_place_78 ?_
      refine q_i2l X dX12_place_79 ?_
      refine q_iload_n X 1 rfl dX12_place_80 ?_
      refine q_i2l X dX12_place_81 ?_
      refine q_aload_n X 2 rfl dX12_place_82 ?_
      refine q_getR X 35 ea37 ma37 ka37 rfl tW_X12 (by decide) (by decide) tF_X12_84 rfl dX12_place_83 ?_
      refine q_iconst X (4) (by decide) dX12_place_86 ?_
      refine q_iload_n X 3 rfl dX12_place_87 ?_
      refine q_imul X dX12_place_88 ?_
      refine q_iconst X (3) (by decide) dX12_place_89 ?_
      refine q_iadd X dX12_place_90 ?_
      obtain ⟨g40, h⟩ := q_ifE h
      refine q_iaload X ea38 ma38 ka38 (q_inE g40) dX12_place_91 ?_
      refine q_i2l X dX12_place_92 ?_
      refine q_iload X 0 rfl dX12_place_93 ?_
      refine q_i2l X dX12_place_95 ?_
      obtain ⟨r41, S42, c43, h⟩ := q_bE h
      refine q_cSI X (As := [.long ((q_I (q_sI (S33) a35 (l2).toNatClampNeg (r32)) a38 (((4 : Int32) * l1) + (1 : Int32)).toNatClampNeg).toInt64), .long ((q_I (S) a25 (l2).toNatClampNeg).toInt64), .long ((q_I (q_sI (S33) a35 (l2).toNatClampNeg (r32)) a38 (((4 : Int32) * l1) + (3 : Int32)).toNatClampNeg).toInt64), .long ((q_I (S) a27 (l2).toNatClampNeg).toInt64)]) (c_X12_scaledBy c43) (q_cwS X tK_X12_scaledBy tM_X12_228 tS_X12_scaledBy tN_X12 rfl rfl tD_X12_scaledBy ⟨Nat.le_of_ble_eq_true rfl, Nat.le_of_ble_eq_true rfl⟩) rfl rfl (by first | exact Nat.le_of_ble_eq_true rfl | (simp only [List.map, q_catR]; exact Nat.le_of_ble_eq_true rfl)) ⟨Nat.zero_le _, Nat.zero_le _⟩ dX12_place_96 ?_
      obtain ⟨a44, ea44, ma44, ka44, h⟩ := q_atE h
      obtain ⟨g45, h⟩ := q_ifE h
      refine q_iastore X ea44 ma44 ka44 (q_inE g45) dX12_place_99 ?_
      have ma44 : a44 ∈ q_L (q_sI (S42) a44 (l2).toNatClampNeg (r41)) := q_LsI ma44
      have ka44 : q_K (q_sI (S42) a44 (l2).toNatClampNeg (r41)) a44 = 100 := q_KsI ka44
      refine q_iinc X 2 4 (l2 + (1)) [(2, .int (l2 + (1))), (4, .int (q_I (S) a27 (l2).toNatClampNeg)), (3, .int (q_I (S) a25 (l2).toNatClampNeg)), (0, va_rf (l0)), (1, .int (l1))] rfl (congrArg (fun z => l2 + z) (show Int32.ofInt (1) = (1) by decide)) (by decide) (by first | rfl | simp [List.filter, q_catR]) dX12_place_100 ?_
      refine q_goto X 7 (by decide) dX12_place_103 ?_
      refine q_lv [3, 4, 0] rfl ?_
      exact ih _ _ _ _ h
def m_X12_place (n : Nat) (S : q_S) (o : Nat) (p0 : Int32) : Option (Unit × q_S) := q_at (S) (some o) 13 (fun a1 => q_at (S) (q_R (S) a1 31) 100 (fun a2 => q_if (q_in (p0) (q_N (S) a2) = true) (m_X12_place_7 n n (S) (some o) (p0) (q_I (S) a2 (p0).toNatClampNeg))))
set_option maxHeartbeats 4000000 in
set_option maxRecDepth 100000 in
theorem w_X12_place (X : q_X p s m args c cX12_place 6 RX12 q_T D cy A) (hr : meth.sig.returnType = none) (hl : meth.locks = false)  {n : Nat} {S Sv : q_S} {o : Nat} {p0 : Int32} (h : m_X12_place n S o p0 = some ((), Sv)) : q_W p l e ({ frames := 1, cells := 0, slots := 0, locals := 27 } : Room) s m args below meth c (MQ below (va_Qv (fun (u : q_S) => u = Sv) (q_B D cy A) A) args s 0 0 A) A D cy 6 0 0 S 0 [(0, va_rf (some o)), (1, .int (p0))] [] := by
  unfold m_X12_place at h
  refine q_aload_n X 0 rfl dX12_place_0 ?_
  obtain ⟨a1, ea1, ma1, ka1, h⟩ := q_atE h
  refine q_getR X 31 ea1 ma1 ka1 rfl tW_X12 (by decide) (by decide) tF_X12_72 rfl dX12_place_1 ?_
  refine q_iload_n X 1 rfl dX12_place_4 ?_
  obtain ⟨a2, ea2, ma2, ka2, h⟩ := q_atE h
  obtain ⟨g3, h⟩ := q_ifE h
  refine q_iaload X ea2 ma2 ka2 (q_inE g3) dX12_place_5 ?_
  refine q_istore_n X 2 [(2, .int (q_I (S) a2 (p0).toNatClampNeg)), (0, va_rf (some o)), (1, .int (p0))] rfl (by decide) (by first | rfl | simp [List.filter, q_catR]) dX12_place_6 ?_
  refine q_lv [1, 2, 0] rfl ?_
  exact w_X12_place_7 X hr hl n _ _ _ _ h
theorem tD_X12_place : yX12_place.cls ≠ "java/lang/invoke/MethodHandle" ∧ yX12_place.cls ≠ "java/lang/invoke/VarHandle" ∧ (parseMethodDescriptor yX12_place.desc).map (fun d => d.parameters.length) = some 1 := by decide +kernel
theorem c_X12_place {l : Launch} {D : va_G} {cy : Nat → ClassId} {n : Nat} {S Sv : q_S} {o : Nat} {p0 : Int32} (h : m_X12_place n S o p0 = some ((), Sv)) : q_MV l yX12_place (q_ws yX12_place cX12_place 6 (none)) ({ frames := 1, cells := 0, slots := 0, locals := 27 } : Room) D cy [.ref o, .int (p0)] S Sv := by
  exact q_MV_of (by decide +kernel) (Nat.le_of_ble_eq_true rfl) (fun p e s m args below meth c A X hr hl => w_X12_place X hr hl h)
end MM
