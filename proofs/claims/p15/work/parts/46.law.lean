section MM
variable {p : Program} {l : Launch} {e : Env} {s : State} {m : MethodId} {args : Array Value} {below : List Frame} {meth : Method} {c : Code} {A : Nat → Prop} {D : va_G} {cy : Nat → ClassId} {b L : Nat} {xs : Nat → Int32}
/-! TrueOutlinesLaw.law([I)Z -/
def m_L_law_576 (n L : Nat) (xs : Nat → Int32) (k23 : q_S → Option Nat → Option Nat → Option Nat → Int32 → Option (Int32 × q_S)) (S : q_S) (l1 : Option Nat) (l2 : Option Nat) (l3 : Option Nat) (l4 : Int32) : Option (Int32 × q_S) := k23 (S) (l1) (l2) (l3) (l4 + (4))
set_option maxHeartbeats 4000000 in
set_option maxRecDepth 100000 in
theorem w_L_law_576 (X : q_X p s m #[Value.ref b] c cL_law 7 RL q_T D cy A) (hr : meth.sig.returnType = ret) (hl : meth.locks = false) (hlt : l.stackTraces = false) (hE : q_E A s s.heap) (hX : va_X b L xs s s.heap) (hbl : b < s.heap.size) (hbA : ¬ A b) (hA : ∀ q, A q → s.heap.size ≤ q)  {n : Nat} {cells slots : Nat} {Sv : q_S}  {k23 : q_S → Option Nat → Option Nat → Option Nat → Int32 → Option (Int32 × q_S)} (hk23 : ∀ (S : q_S) (z0 : Option Nat) (z1 : Option Nat) (z2 : Option Nat) (z3 : Int32), k23 S z0 z1 z2 z3 = some (1, Sv) → q_W p l e room_1 s m #[Value.ref b] below meth c (lw_Z below #[Value.ref b] s) A D cy 7 cells slots S 23 [(0, va_rf (some b)), (1, va_rf (z0)), (2, va_rf (z1)), (3, va_rf (z2)), (4, .int (z3))] []) (S : q_S) (l1 : Option Nat) (l2 : Option Nat) (l3 : Option Nat) (l4 : Int32) (h : m_L_law_576 n L xs k23 S l1 l2 l3 l4 = some (1, Sv)) : q_W p l e room_1 s m #[Value.ref b] below meth c (lw_Z below #[Value.ref b] s) A D cy 7 cells slots S 576 [(0, va_rf (some b)), (1, va_rf (l1)), (2, va_rf (l2)), (3, va_rf (l3)), (4, .int (l4))] [] := by
  unfold m_L_law_576 at h
  refine q_iinc X 4 4 (l4 + (4)) [(4, .int (l4 + (4))), (0, va_rf (some b)), (1, va_rf (l1)), (2, va_rf (l2)), (3, va_rf (l3))] rfl (congrArg (fun z => l4 + z) (show Int32.ofInt (4) = (4) by decide)) (by decide) (by first | rfl | simp [List.filter, q_catR]) dL_law_576 ?_
  refine q_goto X 23 (by decide) dL_law_579 ?_
  refine q_lv [1, 2, 3, 4, 0] rfl ?_
  exact hk23 _ _ _ _ _ h
def m_L_law_23 (n L : Nat) (xs : Nat → Int32) : Nat → q_S → Option Nat → Option Nat → Option Nat → Int32 → Option (Int32 × q_S)
  | 0, _, _, _, _, _ => none
  | k + 1, S, l1, l2, l3, l4 => (if ((Int32.ofNat L) - (4 : Int32)) < l4 then some ((1 : Int32), S) else q_if (q_in (l4) L = true) ((if ((xs (l4).toNatClampNeg) &&& (15 : Int32)) = 0 then q_if (q_in (l4 + (1 : Int32)) L = true) (q_if (q_in (l4 + (2 : Int32)) L = true) (q_if (q_in (l4 + (3 : Int32)) L = true) (q_at (S) (l1) 12 (fun a7 => q_b (m_X11_add n (S) a7 ((((xs (l4 + (1 : Int32)).toNatClampNeg).toInt64) <<< (((32 : Int32)).toInt64 &&& 63)) ||| (((xs (l4 + (2 : Int32)).toNatClampNeg).toInt64) &&& (4294967295 : Int64))) (xs (l4 + (3 : Int32)).toNatClampNeg)) (fun r8 S9 => q_if (q_in (l4 + (1 : Int32)) L = true) (q_if (q_in (l4 + (2 : Int32)) L = true) (q_if (q_in (l4 + (3 : Int32)) L = true) (q_at (S9) (l2) 13 (fun a14 => q_b (m_X12_add n (S9) a14 ((((xs (l4 + (1 : Int32)).toNatClampNeg).toInt64) <<< (((32 : Int32)).toInt64 &&& 63)) ||| (((xs (l4 + (2 : Int32)).toNatClampNeg).toInt64) &&& (4294967295 : Int64))) (xs (l4 + (3 : Int32)).toNatClampNeg)) (fun r15 S16 => m_L_law_576 n L xs (m_L_law_23 n L xs k) (S16) (l1) (l2) (l3) (l4))))))))))) else (if ((xs (l4).toNatClampNeg) &&& (15 : Int32)) = 1 then q_at (S) (l1) 12 (fun a18 => q_b (m_X11_read n (S) a18) (fun r19 S20 => q_at (S20) (l2) 13 (fun a22 => q_b (m_X12_read n (S20) a22) (fun r23 S24 => m_L_law_576 n L xs (m_L_law_23 n L xs k) (S24) (l1) (l2) (l3) (l4))))) else (if ((xs (l4).toNatClampNeg) &&& (15 : Int32)) = 2 then q_if (q_in (l4 + (1 : Int32)) L = true) (q_if (q_in (l4 + (2 : Int32)) L = true) (q_b (m_L_octet n (S) (l1) (xs (l4 + (1 : Int32)).toNatClampNeg) (xs (l4 + (2 : Int32)).toNatClampNeg) (l3)) (fun r28 S29 => q_if (q_in (l4 + (1 : Int32)) L = true) (q_if (q_in (l4 + (2 : Int32)) L = true) (q_at (S29) (l2) 13 (fun a33 => q_b (m_X12_octet n (S29) a33 (xs (l4 + (1 : Int32)).toNatClampNeg) (xs (l4 + (2 : Int32)).toNatClampNeg)) (fun r34 S35 => m_L_law_576 n L xs (m_L_law_23 n L xs k) (S35) (l1) (l2) (l3) (l4)))))))) else (if ((xs (l4).toNatClampNeg) &&& (15 : Int32)) = 3 then q_if (q_in (l4 + (1 : Int32)) L = true) (q_at (S) (l1) 12 (fun a38 => q_b (m_X11_sum n (S) a38 (xs (l4 + (1 : Int32)).toNatClampNeg)) (fun r39 S40 => q_if (q_in (l4 + (1 : Int32)) L = true) (q_at (S40) (l2) 13 (fun a43 => q_b (m_X12_sum n (S40) a43 (xs (l4 + (1 : Int32)).toNatClampNeg)) (fun r44 S45 => m_L_law_576 n L xs (m_L_law_23 n L xs k) (S45) (l1) (l2) (l3) (l4))))))) else (if ((xs (l4).toNatClampNeg) &&& (15 : Int32)) = 4 then q_if (q_in (l4 + (1 : Int32)) L = true) (q_at (S) (l1) 12 (fun a48 => q_b (m_X11_count n (S) a48 (xs (l4 + (1 : Int32)).toNatClampNeg)) (fun r49 S50 => q_if (q_in (l4 + (1 : Int32)) L = true) (q_at (S50) (l2) 13 (fun a53 => q_b (m_X12_count n (S50) a53 (xs (l4 + (1 : Int32)).toNatClampNeg)) (fun r54 S55 => m_L_law_576 n L xs (m_L_law_23 n L xs k) (S55) (l1) (l2) (l3) (l4))))))) else (if ((xs (l4).toNatClampNeg) &&& (15 : Int32)) = 5 then q_if (q_in (l4 + (1 : Int32)) L = true) (q_at (S) (l1) 12 (fun a58 => q_b (m_X11_map n (S) a58 (xs (l4 + (1 : Int32)).toNatClampNeg)) (fun r59 S60 => q_if (q_in (l4 + (1 : Int32)) L = true) (q_at (S60) (l2) 13 (fun a63 => q_b (m_X12_map n (S60) a63 (xs (l4 + (1 : Int32)).toNatClampNeg)) (fun r64 S65 => m_L_law_576 n L xs (m_L_law_23 n L xs k) (S65) (l1) (l2) (l3) (l4))))))) else (if ((xs (l4).toNatClampNeg) &&& (15 : Int32)) = 6 then q_if (q_in (l4 + (1 : Int32)) L = true) (q_at (S) (l1) 12 (fun a68 => q_b (m_X11_run n (S) a68 (xs (l4 + (1 : Int32)).toNatClampNeg)) (fun r69 S70 => q_if (q_in (l4 + (1 : Int32)) L = true) (q_at (S70) (l2) 13 (fun a73 => q_b (m_X12_run n (S70) a73 (xs (l4 + (1 : Int32)).toNatClampNeg)) (fun r74 S75 => m_L_law_576 n L xs (m_L_law_23 n L xs k) (S75) (l1) (l2) (l3) (l4))))))) else (if ((xs (l4).toNatClampNeg) &&& (15 : Int32)) = 7 then q_if (q_in (l4 + (1 : Int32)) L = true) (q_if (q_in (l4 + (2 : Int32)) L = true) (q_b (m_L_piece n (S) (l1) (xs (l4 + (1 : Int32)).toNatClampNeg) (xs (l4 + (2 : Int32)).toNatClampNeg) (l3)) (fun r79 S80 => q_if (q_in (l4 + (1 : Int32)) L = true) (q_if (q_in (l4 + (2 : Int32)) L = true) (q_at (S80) (l2) 13 (fun a84 => q_b (m_X12_piece_ n (S80) a84 (xs (l4 + (1 : Int32)).toNatClampNeg) (xs (l4 + (2 : Int32)).toNatClampNeg)) (fun r85 S86 => m_L_law_576 n L xs (m_L_law_23 n L xs k) (S86) (l1) (l2) (l3) (l4)))))))) else (if ((xs (l4).toNatClampNeg) &&& (15 : Int32)) = 8 then q_if (q_in (l4 + (1 : Int32)) L = true) (q_if (q_in (l4 + (2 : Int32)) L = true) (q_b (m_L_told n (S) (l1) (xs (l4 + (1 : Int32)).toNatClampNeg) (xs (l4 + (2 : Int32)).toNatClampNeg) (l3)) (fun r90 S91 => q_if (q_in (l4 + (1 : Int32)) L = true) (q_if (q_in (l4 + (2 : Int32)) L = true) (q_at (S91) (l2) 13 (fun a95 => q_b (m_X12_told n (S91) a95 (xs (l4 + (1 : Int32)).toNatClampNeg) (xs (l4 + (2 : Int32)).toNatClampNeg)) (fun r96 S97 => m_L_law_576 n L xs (m_L_law_23 n L xs k) (S97) (l1) (l2) (l3) (l4)))))))) else (if ((xs (l4).toNatClampNeg) &&& (15 : Int32)) = 9 then q_if (q_in (l4 + (1 : Int32)) L = true) (q_at (S) (l1) 12 (fun a100 => q_b (m_X11_width n (S) a100 (xs (l4 + (1 : Int32)).toNatClampNeg)) (fun r101 S102 => q_if (q_in (l4 + (1 : Int32)) L = true) (q_at (S102) (l2) 13 (fun a105 => q_b (m_X12_width n (S102) a105 (xs (l4 + (1 : Int32)).toNatClampNeg)) (fun r106 S107 => m_L_law_576 n L xs (m_L_law_23 n L xs k) (S107) (l1) (l2) (l3) (l4))))))) else (if ((xs (l4).toNatClampNeg) &&& (15 : Int32)) = 10 then q_if (q_in (l4 + (1 : Int32)) L = true) (q_if (q_in (l4 + (2 : Int32)) L = true) (q_at (S) (l1) 12 (fun a111 => q_b (m_X11_kern n (S) a111 (xs (l4 + (1 : Int32)).toNatClampNeg) (xs (l4 + (2 : Int32)).toNatClampNeg)) (fun r112 S113 => q_if (q_in (l4 + (1 : Int32)) L = true) (q_if (q_in (l4 + (2 : Int32)) L = true) (q_at (S113) (l2) 13 (fun a117 => q_b (m_X12_kern n (S113) a117 (xs (l4 + (1 : Int32)).toNatClampNeg) (xs (l4 + (2 : Int32)).toNatClampNeg)) (fun r118 S119 => m_L_law_576 n L xs (m_L_law_23 n L xs k) (S119) (l1) (l2) (l3) (l4))))))))) else (if ((xs (l4).toNatClampNeg) &&& (15 : Int32)) = 11 then q_if (q_in (l4 + (1 : Int32)) L = true) (q_if (q_in (l4 + (2 : Int32)) L = true) (q_at (S) (l1) 12 (fun a123 => q_b (m_X11_scaled n (S) a123 (xs (l4 + (1 : Int32)).toNatClampNeg) (xs (l4 + (2 : Int32)).toNatClampNeg)) (fun r124 S125 => q_if (q_in (l4 + (1 : Int32)) L = true) (q_if (q_in (l4 + (2 : Int32)) L = true) (q_at (S125) (l2) 13 (fun a129 => q_b (m_X12_scaled n (S125) a129 (xs (l4 + (1 : Int32)).toNatClampNeg) (xs (l4 + (2 : Int32)).toNatClampNeg)) (fun r130 S131 => m_L_law_576 n L xs (m_L_law_23 n L xs k) (S131) (l1) (l2) (l3) (l4))))))))) else (if ((xs (l4).toNatClampNeg) &&& (15 : Int32)) = 12 then q_if (q_in (l4 + (1 : Int32)) L = true) (q_at (S) (l1) 12 (fun a134 => q_b (m_X11_cut n (S) a134 (xs (l4 + (1 : Int32)).toNatClampNeg)) (fun r135 S136 => q_if (q_in (l4 + (1 : Int32)) L = true) (q_at (S136) (l2) 13 (fun a139 => q_b (m_X12_cut n (S136) a139 (xs (l4 + (1 : Int32)).toNatClampNeg)) (fun r140 S141 => m_L_law_576 n L xs (m_L_law_23 n L xs k) (S141) (l1) (l2) (l3) (l4))))))) else (if ((xs (l4).toNatClampNeg) &&& (15 : Int32)) = 13 then q_at (S) (l1) 12 (fun a143 => q_b (m_X11_write n (S) a143) (fun r144 S145 => q_at (S145) (l2) 13 (fun a147 => q_b (m_X12_write n (S145) a147) (fun r148 S149 => (if r144 = r148 then m_L_law_576 n L xs (m_L_law_23 n L xs k) (S149) (l1) (l2) (l3) (l4) else some ((0 : Int32), S149)))))) else (if ((xs (l4).toNatClampNeg) &&& (15 : Int32)) = 14 then q_if (q_in (l4 + (1 : Int32)) L = true) (q_at (S) (l1) 12 (fun a153 => q_b (m_X11_at n (S) a153 (xs (l4 + (1 : Int32)).toNatClampNeg)) (fun r154 S155 => q_if (q_in (l4 + (1 : Int32)) L = true) (q_at (S155) (l2) 13 (fun a158 => q_b (m_X12_at n (S155) a158 (xs (l4 + (1 : Int32)).toNatClampNeg)) (fun r159 S160 => m_L_law_576 n L xs (m_L_law_23 n L xs k) (S160) (l1) (l2) (l3) (l4))))))) else q_if (((xs (l4).toNatClampNeg) &&& (15 : Int32)).toInt < 0 ∨ 14 < ((xs (l4).toNatClampNeg) &&& (15 : Int32)).toInt) (m_L_law_576 n L xs (m_L_law_23 n L xs k) (S) (l1) (l2) (l3) (l4)))))))))))))))))))
set_option maxHeartbeats 4000000 in
set_option maxRecDepth 100000 in
theorem w_L_law_23 (X : q_X p s m #[Value.ref b] c cL_law 7 RL q_T D cy A) (hr : meth.sig.returnType = ret) (hl : meth.locks = false) (hlt : l.stackTraces = false) (hE : q_E A s s.heap) (hX : va_X b L xs s s.heap) (hbl : b < s.heap.size) (hbA : ¬ A b) (hA : ∀ q, A q → s.heap.size ≤ q)  {n : Nat} {Sv : q_S}  : ∀ (k : Nat) (cells slots : Nat), cells + k ≤ 600000 → slots + 6 * k ≤ 7000000 → ∀ (S : q_S) (l1 : Option Nat) (l2 : Option Nat) (l3 : Option Nat) (l4 : Int32), m_L_law_23 n L xs k S l1 l2 l3 l4 = some (1, Sv) → q_W p l e room_1 s m #[Value.ref b] below meth c (lw_Z below #[Value.ref b] s) A D cy 7 cells slots S 23 [(0, va_rf (some b)), (1, va_rf (l1)), (2, va_rf (l2)), (3, va_rf (l3)), (4, .int (l4))] [] := by
  intro k
  induction k with
  | zero => intro cells slots hc hs S l1 l2 l3 l4 h; rw [m_L_law_23] at h; cases h
  | succ k ih =>
    intro cells slots hc hs S l1 l2 l3 l4 h
    rw [m_L_law_23] at h
    refine q_iload X 4 rfl dL_law_23 ?_
    refine q_aload_n X 0 rfl dL_law_25 ?_
    refine q_slen X hX hbl hbA dL_law_26 ?_
    refine q_iconst X (4) (by decide) dL_law_27 ?_
    refine q_isub X dL_law_28 ?_
    refine q_icmp_gt X 582 (by decide) dL_law_29 (fun g1 => ?_) (fun g1 => ?_)
    · rw [if_pos g1] at h
      refine q_iconst X (1) (by decide) dL_law_582 ?_
      obtain ⟨ev, eS⟩ := q_end h
      exact q_lawret X hA hr hl ev (by omega) (by omega) dL_law_583
    · rw [if_neg g1] at h
      refine q_aload_n X 0 rfl dL_law_32 ?_
      refine q_iload X 4 rfl dL_law_33 ?_
      obtain ⟨g2, h⟩ := q_ifE h
      refine q_sld X hX hbl hbA (q_inE g2) dL_law_35 ?_
      refine q_bipush X (15) (by decide) dL_law_36 ?_
      refine q_iand X dL_law_38 ?_
      by_cases g3_0 : ((xs (l4).toNatClampNeg) &&& (15 : Int32)) = 0
      · rw [if_pos g3_0] at h
        refine q_tableIn X 112 (by rw [g3_0]; decide) (by rw [g3_0]; decide) (off := 73) (by rw [g3_0]; decide) (by decide) dL_law_39 ?_
        refine q_aload_n X 1 rfl dL_law_112 ?_
        refine q_aload_n X 0 rfl dL_law_113 ?_
        refine q_iload X 4 rfl dL_law_114 ?_
        refine q_iconst X (1) (by decide) dL_law_116 ?_
        refine q_iadd X dL_law_117 ?_
        obtain ⟨g4, h⟩ := q_ifE h
        refine q_sld X hX hbl hbA (q_inE g4) dL_law_118 ?_
        refine q_i2l X dL_law_119 ?_
        refine q_bipush X (32) (by decide) dL_law_120 ?_
        refine q_lshl X dL_law_122 ?_
        refine q_aload_n X 0 rfl dL_law_123 ?_
        refine q_iload X 4 rfl dL_law_124 ?_
        refine q_iconst X (2) (by decide) dL_law_126 ?_
        refine q_iadd X dL_law_127 ?_
        obtain ⟨g5, h⟩ := q_ifE h
        refine q_sld X hX hbl hbA (q_inE g5) dL_law_128 ?_
        refine q_i2l X dL_law_129 ?_
        refine q_ldc2_w X (4294967295) tC_L_27 dL_law_130 ?_
        refine q_land X dL_law_133 ?_
        refine q_lor X dL_law_134 ?_
        refine q_aload_n X 0 rfl dL_law_135 ?_
        refine q_iload X 4 rfl dL_law_136 ?_
        refine q_iconst X (3) (by decide) dL_law_138 ?_
        refine q_iadd X dL_law_139 ?_
        obtain ⟨g6, h⟩ := q_ifE h
        refine q_sld X hX hbl hbA (q_inE g6) dL_law_140 ?_
        obtain ⟨a7, ea7, ma7, ka7, h⟩ := q_atE h
        obtain ⟨r8, S9, c10, h⟩ := q_bE h
        refine q_cVI X (As := [.long ((((xs (l4 + (1 : Int32)).toNatClampNeg).toInt64) <<< (((32 : Int32)).toInt64 &&& 63)) ||| (((xs (l4 + (2 : Int32)).toNatClampNeg).toInt64) &&& (4294967295 : Int64))), .int (xs (l4 + (3 : Int32)).toNatClampNeg)]) ea7 ma7 ka7 rfl (by decide) (c_X11_add c10) (q_cwV X tK_X11_add tM_L_29 tI_X11_add tV_X11_add tN_X11 rfl rfl tD_X11_add ⟨Nat.le_of_ble_eq_true rfl, Nat.le_of_ble_eq_true rfl⟩) rfl rfl (by first | exact Nat.le_of_ble_eq_true rfl | (simp only [List.map, q_catR]; exact Nat.le_of_ble_eq_true rfl)) ⟨by show _ ≤ 601024; omega, by show _ ≤ 7293034; omega⟩ dL_law_141 ?_
        refine q_pop X rfl dL_law_144 ?_
        refine q_aload_n X 2 rfl dL_law_145 ?_
        refine q_aload_n X 0 rfl dL_law_146 ?_
        refine q_iload X 4 rfl dL_law_147 ?_
        refine q_iconst X (1) (by decide) dL_law_149 ?_
        refine q_iadd X dL_law_150 ?_
        obtain ⟨g11, h⟩ := q_ifE h
        refine q_sld X hX hbl hbA (q_inE g11) dL_law_151 ?_
        refine q_i2l X dL_law_152 ?_
        refine q_bipush X (32) (by decide) dL_law_153 ?_
        refine q_lshl X dL_law_155 ?_
        refine q_aload_n X 0 rfl dL_law_156 ?_
        refine q_iload X 4 rfl dL_law_157 ?_
        refine q_iconst X (2) (by decide) dL_law_159 ?_
        refine q_iadd X dL_law_160 ?_
        obtain ⟨g12, h⟩ := q_ifE h
        refine q_sld X hX hbl hbA (q_inE g12) dL_law_161 ?_
        refine q_i2l X dL_law_162 ?_
        refine q_ldc2_w X (4294967295) tC_L_27 dL_law_163 ?_
        refine q_land X dL_law_166 ?_
        refine q_lor X dL_law_167 ?_
        refine q_aload_n X 0 rfl dL_law_168 ?_
        refine q_iload X 4 rfl dL_law_169 ?_
        refine q_iconst X (3) (by decide) dL_law_171 ?_
        refine q_iadd X dL_law_172 ?_
        obtain ⟨g13, h⟩ := q_ifE h
        refine q_sld X hX hbl hbA (q_inE g13) dL_law_173 ?_
        obtain ⟨a14, ea14, ma14, ka14, h⟩ := q_atE h
        obtain ⟨r15, S16, c17, h⟩ := q_bE h
        refine q_cVI X (As := [.long ((((xs (l4 + (1 : Int32)).toNatClampNeg).toInt64) <<< (((32 : Int32)).toInt64 &&& 63)) ||| (((xs (l4 + (2 : Int32)).toNatClampNeg).toInt64) &&& (4294967295 : Int64))), .int (xs (l4 + (3 : Int32)).toNatClampNeg)]) ea14 ma14 ka14 rfl (by decide) (c_X12_add c17) (q_cwV X tK_X12_add tM_L_33 tI_X12_add tV_X12_add tN_X12 rfl rfl tD_X12_add ⟨Nat.le_of_ble_eq_true rfl, Nat.le_of_ble_eq_true rfl⟩) rfl rfl (by first | exact Nat.le_of_ble_eq_true rfl | (simp only [List.map, q_catR]; exact Nat.le_of_ble_eq_true rfl)) ⟨by show _ ≤ 601024; omega, by show _ ≤ 7293034; omega⟩ dL_law_174 ?_
        refine q_pop X rfl dL_law_177 ?_
        refine q_goto X 576 (by decide) dL_law_178 ?_
        exact w_L_law_576 X hr hl hlt hE hX hbl hbA hA (ih _ _ (by omega) (by omega)) _ _ _ _ _ h
      rw [if_neg g3_0] at h
      by_cases g3_1 : ((xs (l4).toNatClampNeg) &&& (15 : Int32)) = 1
      · rw [if_pos g3_1] at h
        refine q_tableIn X 181 (by rw [g3_1]; decide) (by rw [g3_1]; decide) (off := 142) (by rw [g3_1]; decide) (by decide) dL_law_39 ?_
        refine q_aload_n X 1 rfl dL_law_181 ?_
        obtain ⟨a18, ea18, ma18, ka18, h⟩ := q_atE h
        obtain ⟨r19, S20, c21, h⟩ := q_bE h
        refine q_cVI X (As := []) ea18 ma18 ka18 rfl (by decide) (c_X11_read c21) (q_cwV X tK_X11_read tM_L_34 tI_X11_read tV_X11_read tN_X11 rfl rfl tD_X11_read ⟨Nat.le_of_ble_eq_true rfl, Nat.le_of_ble_eq_true rfl⟩) rfl rfl (by first | exact Nat.le_of_ble_eq_true rfl | (simp only [List.map, q_catR]; exact Nat.le_of_ble_eq_true rfl)) ⟨by show _ ≤ 601024; omega, by show _ ≤ 7293034; omega⟩ dL_law_182 ?_
        refine q_pop X rfl dL_law_185 ?_
        refine q_aload_n X 2 rfl dL_law_186 ?_
        obtain ⟨a22, ea22, ma22, ka22, h⟩ := q_atE h
        obtain ⟨r23, S24, c25, h⟩ := q_bE h
        refine q_cVI X (As := []) ea22 ma22 ka22 rfl (by decide) (c_X12_read c25) (q_cwV X tK_X12_read tM_L_38 tI_X12_read tV_X12_read tN_X12 rfl rfl tD_X12_read ⟨Nat.le_of_ble_eq_true rfl, Nat.le_of_ble_eq_true rfl⟩) rfl rfl (by first | exact Nat.le_of_ble_eq_true rfl | (simp only [List.map, q_catR]; exact Nat.le_of_ble_eq_true rfl)) ⟨by show _ ≤ 601024; omega, by show _ ≤ 7293034; omega⟩ dL_law_187 ?_
        refine q_pop X rfl dL_law_190 ?_
        refine q_goto X 576 (by decide) dL_law_191 ?_
        exact w_L_law_576 X hr hl hlt hE hX hbl hbA hA (ih _ _ (by omega) (by omega)) _ _ _ _ _ h
      rw [if_neg g3_1] at h
      by_cases g3_2 : ((xs (l4).toNatClampNeg) &&& (15 : Int32)) = 2
      · rw [if_pos g3_2] at h
        refine q_tableIn X 194 (by rw [g3_2]; decide) (by rw [g3_2]; decide) (off := 155) (by rw [g3_2]; decide) (by decide) dL_law_39 ?_
        refine q_aload_n X 1 rfl dL_law_194 ?_
        refine q_aload_n X 0 rfl dL_law_195 ?_
        refine q_iload X 4 rfl dL_law_196 ?_
        refine q_iconst X (1) (by decide) dL_law_198 ?_
        refine q_iadd X dL_law_199 ?_
        obtain ⟨g26, h⟩ := q_ifE h
        refine q_sld X hX hbl hbA (q_inE g26) dL_law_200 ?_
        refine q_aload_n X 0 rfl dL_law_201 ?_
        refine q_iload X 4 rfl dL_law_202 ?_
        refine q_iconst X (2) (by decide) dL_law_204 ?_
        refine q_iadd X dL_law_205 ?_
        obtain ⟨g27, h⟩ := q_ifE h
        refine q_sld X hX hbl hbA (q_inE g27) dL_law_206 ?_
        refine q_aload_n X 3 rfl dL_law_207 ?_
        obtain ⟨r28, S29, c30, h⟩ := q_bE h
        refine q_cSH X hE (As := [va_rf (l1), .int (xs (l4 + (1 : Int32)).toNatClampNeg), .int (xs (l4 + (2 : Int32)).toNatClampNeg), va_rf (l3)]) (c_L_octet hlt c30) tW_L_octet tM_L_39 tS_L_octet tN_L rfl rfl tD_L_octet ⟨Nat.le_of_ble_eq_true rfl, Nat.le_of_ble_eq_true rfl⟩ rfl rfl (by first | exact Nat.le_of_ble_eq_true rfl | (simp only [List.map, q_catR]; exact Nat.le_of_ble_eq_true rfl)) ⟨by show _ ≤ 601024; omega, by show _ ≤ 7293034; omega⟩ dL_law_208 ?_
        refine q_istore X 5 [(5, .int (r28)), (0, va_rf (some b)), (1, va_rf (l1)), (2, va_rf (l2)), (3, va_rf (l3)), (4, .int (l4))] (by decide) (by first | rfl | simp [List.filter, q_catR]) dL_law_211 ?_
        refine q_aload_n X 3 rfl dL_law_213 ?_
        refine q_aload_n X 1 rfl dL_law_214 ?_
        refine q_iload X 5 rfl dL_law_215 ?_
        refine q_iconst X (1) (by decide) dL_law_217 ?_
        refine q_iadd X dL_law_218 ?_
        obtain ⟨g31, h⟩ := q_ifE h
        refine q_sld X hX hbl hbA (q_inE g31) dL_law_219 ?_
        refine q_aload_n X 1 rfl dL_law_220 ?_
        refine q_iload X 5 rfl dL_law_221 ?_
        refine q_iconst X (2) (by decide) dL_law_223 ?_
        refine q_iadd X dL_law_224 ?_
        obtain ⟨g32, h⟩ := q_ifE h
        refine q_sld X hX hbl hbA (q_inE g32) dL_law_225 ?_
        obtain ⟨a33, ea33, ma33, ka33, h⟩ := q_atE h
        obtain ⟨r34, S35, c36, h⟩ := q_bE h
        refine q_cVI X (As := [.int (xs (l4 + (1 : Int32)).toNatClampNeg), .int (xs (l4 + (2 : Int32)).toNatClampNeg)]) ea33 ma33 ka33 rfl (by decide) (c_X12_octet c36) (q_cwV X tK_X12_octet tM_L_44 tI_X12_octet tV_X12_octet tN_X12 rfl rfl tD_X12_octet ⟨Nat.le_of_ble_eq_true rfl, Nat.le_of_ble_eq_true rfl⟩) rfl rfl (by first | exact Nat.le_of_ble_eq_true rfl | (simp only [List.map, q_catR]; exact Nat.le_of_ble_eq_true rfl)) ⟨by show _ ≤ 601024; omega, by show _ ≤ 7293034; omega⟩ dL_law_226 ?_
        refine q_istore X 6 [(6, .int (r34)), (5, .int (r28)), (0, va_rf (some b)), (1, va_rf (l1)), (2, va_rf (l2)), (3, va_rf (l3)), (4, .int (l4))] (by decide) (by first | rfl | simp [List.filter, q_catR]) dL_law_229 ?_
        refine q_goto X 576 (by decide) dL_law_231 ?_
        refine q_lv [2, 3, 4, 5, 6] rfl ?_
        exact w_L_law_576 X hr hl hlt hE hX hbl hbA hA (ih _ _ (by omega) (by omega)) _ _ _ _ _ h
      rw [if_neg g3_2] at h
      by_cases g3_3 : ((xs (l4).toNatClampNeg) &&& (15 : Int32)) = 3
      · rw [if_pos g3_3] at h
        refine q_tableIn X 234 (by rw [g3_3]; decide) (by rw [g3_3]; decide) (off := 195) (by rw [g3_3]; decide) (by decide) dL_law_39 ?_
        refine q_aload_n X 1 rfl dL_law_234 ?_
        refine q_aload_n X 0 rfl dL_law_235 ?_
        refine q_iload X 4 rfl dL_law_236 ?_
        refine q_iconst X (1) (by decide) dL_law_238 ?_
        refine q_iadd X dL_law_239 ?_
        obtain ⟨g37, h⟩ := q_ifE h
        refine q_sld X hX hbl hbA (q_inE g37) dL_law_240 ?_
        obtain ⟨a38, ea38, ma38, ka38, h⟩ := q_atE h
        obtain ⟨r39, S40, c41, h⟩ := q_bE h
        refine q_cVJ X (As := [.int (xs (l4 + (1 : Int32)).toNatClampNeg)]) ea38 ma38 ka38 rfl (by decide) (c_X11_sum c41) (q_cwV X tK_X11_sum tM_L_45 tI_X11_sum tV_X11_sum tN_X11 rfl rfl tD_X11_sum ⟨Nat.le_of_ble_eq_true rfl, Nat.le_of_ble_eq_true rfl⟩) rfl rfl (by first | exact Nat.le_of_ble_eq_true rfl | (simp only [List.map, q_catR]; exact Nat.le_of_ble_eq_true rfl)) ⟨by show _ ≤ 601024; omega, by show _ ≤ 7293034; omega⟩ dL_law_241 ?_
        refine q_pop2 X dL_law_244 ?_
        refine q_aload_n X 2 rfl dL_law_245 ?_
        refine q_aload_n X 0 rfl dL_law_246 ?_
        refine q_iload X 4 rfl dL_law_247 ?_
        refine q_iconst X (1) (by decide) dL_law_249 ?_
        refine q_iadd X dL_law_250 ?_
        obtain ⟨g42, h⟩ := q_ifE h
        refine q_sld X hX hbl hbA (q_inE g42) dL_law_251 ?_
        obtain ⟨a43, ea43, ma43, ka43, h⟩ := q_atE h
        obtain ⟨r44, S45, c46, h⟩ := q_bE h
        refine q_cVJ X (As := [.int (xs (l4 + (1 : Int32)).toNatClampNeg)]) ea43 ma43 ka43 rfl (by decide) (c_X12_sum c46) (q_cwV X tK_X12_sum tM_L_49 tI_X12_sum tV_X12_sum tN_X12 rfl rfl tD_X12_sum ⟨Nat.le_of_ble_eq_true rfl, Nat.le_of_ble_eq_true rfl⟩) rfl rfl (by first | exact Nat.le_of_ble_eq_true rfl | (simp only [List.map, q_catR]; exact Nat.le_of_ble_eq_true rfl)) ⟨by show _ ≤ 601024; omega, by show _ ≤ 7293034; omega⟩ dL_law_252 ?_
        refine q_pop2 X dL_law_255 ?_
        refine q_goto X 576 (by decide) dL_law_256 ?_
        exact w_L_law_576 X hr hl hlt hE hX hbl hbA hA (ih _ _ (by omega) (by omega)) _ _ _ _ _ h
      rw [if_neg g3_3] at h
      by_cases g3_4 : ((xs (l4).toNatClampNeg) &&& (15 : Int32)) = 4
      · rw [if_pos g3_4] at h
        refine q_tableIn X 259 (by rw [g3_4]; decide) (by rw [g3_4]; decide) (off := 220) (by rw [g3_4]; decide) (by decide) dL_law_39 ?_
        refine q_aload_n X 1 rfl dL_law_259 ?_
        refine q_aload_n X 0 rfl dL_law_260 ?_
        refine q_iload X 4 rfl dL_law_261 ?_
        refine q_iconst X (1) (by decide) dL_law_263 ?_
        refine q_iadd X dL_law_264 ?_
        obtain ⟨g47, h⟩ := q_ifE h
        refine q_sld X hX hbl hbA (q_inE g47) dL_law_265 ?_
        obtain ⟨a48, ea48, ma48, ka48, h⟩ := q_atE h
        obtain ⟨r49, S50, c51, h⟩ := q_bE h
        refine q_cVI X (As := [.int (xs (l4 + (1 : Int32)).toNatClampNeg)]) ea48 ma48 ka48 rfl (by decide) (c_X11_count c51) (q_cwV X tK_X11_count tM_L_50 tI_X11_count tV_X11_count tN_X11 rfl rfl tD_X11_count ⟨Nat.le_of_ble_eq_true rfl, Nat.le_of_ble_eq_true rfl⟩) rfl rfl (by first | exact Nat.le_of_ble_eq_true rfl | (simp only [List.map, q_catR]; exact Nat.le_of_ble_eq_true rfl)) ⟨by show _ ≤ 601024; omega, by show _ ≤ 7293034; omega⟩ dL_law_266 ?_
        refine q_pop X rfl dL_law_269 ?_
        refine q_aload_n X 2 rfl dL_law_270 ?_
        refine q_aload_n X 0 rfl dL_law_271 ?_
        refine q_iload X 4 rfl dL_law_272 ?_
        refine q_iconst X (1) (by decide) dL_law_274 ?_
        refine q_iadd X dL_law_275 ?_
        obtain ⟨g52, h⟩ := q_ifE h
        refine q_sld X hX hbl hbA (q_inE g52) dL_law_276 ?_
        obtain ⟨a53, ea53, ma53, ka53, h⟩ := q_atE h
        obtain ⟨r54, S55, c56, h⟩ := q_bE h
        refine q_cVI X (As := [.int (xs (l4 + (1 : Int32)).toNatClampNeg)]) ea53 ma53 ka53 rfl (by decide) (c_X12_count c56) (q_cwV X tK_X12_count tM_L_54 tI_X12_count tV_X12_count tN_X12 rfl rfl tD_X12_count ⟨Nat.le_of_ble_eq_true rfl, Nat.le_of_ble_eq_true rfl⟩) rfl rfl (by first | exact Nat.le_of_ble_eq_true rfl | (simp only [List.map, q_catR]; exact Nat.le_of_ble_eq_true rfl)) ⟨by show _ ≤ 601024; omega, by show _ ≤ 7293034; omega⟩ dL_law_277 ?_
        refine q_pop X rfl dL_law_280 ?_
        refine q_goto X 576 (by decide) dL_law_281 ?_
        exact w_L_law_576 X hr hl hlt hE hX hbl hbA hA (ih _ _ (by omega) (by omega)) _ _ _ _ _ h
      rw [if_neg g3_4] at h
      by_cases g3_5 : ((xs (l4).toNatClampNeg) &&& (15 : Int32)) = 5
      · rw [if_pos g3_5] at h
        refine q_tableIn X 284 (by rw [g3_5]; decide) (by rw [g3_5]; decide) (off := 245) (by rw [g3_5]; decide) (by decide) dL_law_39 ?_
        refine q_aload_n X 1 rfl dL_law_284 ?_
        refine q_aload_n X 0 rfl dL_law_285 ?_
        refine q_iload X 4 rfl dL_law_286 ?_
        refine q_iconst X (1) (by decide) dL_law_288 ?_
        refine q_iadd X dL_law_289 ?_
        obtain ⟨g57, h⟩ := q_ifE h
        refine q_sld X hX hbl hbA (q_inE g57) dL_law_290 ?_
        obtain ⟨a58, ea58, ma58, ka58, h⟩ := q_atE h
        obtain ⟨r59, S60, c61, h⟩ := q_bE h
        refine q_cVI X (As := [.int (xs (l4 + (1 : Int32)).toNatClampNeg)]) ea58 ma58 ka58 rfl (by decide) (c_X11_map c61) (q_cwV X tK_X11_map tM_L_55 tI_X11_map tV_X11_map tN_X11 rfl rfl tD_X11_map ⟨Nat.le_of_ble_eq_true rfl, Nat.le_of_ble_eq_true rfl⟩) rfl rfl (by first | exact Nat.le_of_ble_eq_true rfl | (simp only [List.map, q_catR]; exact Nat.le_of_ble_eq_true rfl)) ⟨by show _ ≤ 601024; omega, by show _ ≤ 7293034; omega⟩ dL_law_291 ?_
        refine q_pop X rfl dL_law_294 ?_
        refine q_aload_n X 2 rfl dL_law_295 ?_
        refine q_aload_n X 0 rfl dL_law_296 ?_
        refine q_iload X 4 rfl dL_law_297 ?_
        refine q_iconst X (1) (by decide) dL_law_299 ?_
        refine q_iadd X dL_law_300 ?_
        obtain ⟨g62, h⟩ := q_ifE h
        refine q_sld X hX hbl hbA (q_inE g62) dL_law_301 ?_
        obtain ⟨a63, ea63, ma63, ka63, h⟩ := q_atE h
        obtain ⟨r64, S65, c66, h⟩ := q_bE h
        refine q_cVI X (As := [.int (xs (l4 + (1 : Int32)).toNatClampNeg)]) ea63 ma63 ka63 rfl (by decide) (c_X12_map c66) (q_cwV X tK_X12_map tM_L_58 tI_X12_map tV_X12_map tN_X12 rfl rfl tD_X12_map ⟨Nat.le_of_ble_eq_true rfl, Nat.le_of_ble_eq_true rfl⟩) rfl rfl (by first | exact Nat.le_of_ble_eq_true rfl | (simp only [List.map, q_catR]; exact Nat.le_of_ble_eq_true rfl)) ⟨by show _ ≤ 601024; omega, by show _ ≤ 7293034; omega⟩ dL_law_302 ?_
        refine q_pop X rfl dL_law_305 ?_
        refine q_goto X 576 (by decide) dL_law_306 ?_
        exact w_L_law_576 X hr hl hlt hE hX hbl hbA hA (ih _ _ (by omega) (by omega)) _ _ _ _ _ h
      rw [if_neg g3_5] at h
      by_cases g3_6 : ((xs (l4).toNatClampNeg) &&& (15 : Int32)) = 6
      · rw [if_pos g3_6] at h
        refine q_tableIn X 309 (by rw [g3_6]; decide) (by rw [g3_6]; decide) (off := 270) (by rw [g3_6]; decide) (by decide) dL_law_39 ?_
        refine q_aload_n X 1 rfl dL_law_309 ?_
        refine q_aload_n X 0 rfl dL_law_310 ?_
        refine q_iload X 4 rfl dL_law_311 ?_
        refine q_iconst X (1) (by decide) dL_law_313 ?_
        refine q_iadd X dL_law_314 ?_
        obtain ⟨g67, h⟩ := q_ifE h
        refine q_sld X hX hbl hbA (q_inE g67) dL_law_315 ?_
        obtain ⟨a68, ea68, ma68, ka68, h⟩ := q_atE h
        obtain ⟨r69, S70, c71, h⟩ := q_bE h
        refine q_cVI X (As := [.int (xs (l4 + (1 : Int32)).toNatClampNeg)]) ea68 ma68 ka68 rfl (by decide) (c_X11_run c71) (q_cwV X tK_X11_run tM_L_59 tI_X11_run tV_X11_run tN_X11 rfl rfl tD_X11_run ⟨Nat.le_of_ble_eq_true rfl, Nat.le_of_ble_eq_true rfl⟩) rfl rfl (by first | exact Nat.le_of_ble_eq_true rfl | (simp only [List.map, q_catR]; exact Nat.le_of_ble_eq_true rfl)) ⟨by show _ ≤ 601024; omega, by show _ ≤ 7293034; omega⟩ dL_law_316 ?_
        refine q_pop X rfl dL_law_319 ?_
        refine q_aload_n X 2 rfl dL_law_320 ?_
        refine q_aload_n X 0 rfl dL_law_321 ?_
        refine q_iload X 4 rfl dL_law_322 ?_
        refine q_iconst X (1) (by decide) dL_law_324 ?_
        refine q_iadd X dL_law_325 ?_
        obtain ⟨g72, h⟩ := q_ifE h
        refine q_sld X hX hbl hbA (q_inE g72) dL_law_326 ?_
        obtain ⟨a73, ea73, ma73, ka73, h⟩ := q_atE h
        obtain ⟨r74, S75, c76, h⟩ := q_bE h
        refine q_cVI X (As := [.int (xs (l4 + (1 : Int32)).toNatClampNeg)]) ea73 ma73 ka73 rfl (by decide) (c_X12_run c76) (q_cwV X tK_X12_run tM_L_62 tI_X12_run tV_X12_run tN_X12 rfl rfl tD_X12_run ⟨Nat.le_of_ble_eq_true rfl, Nat.le_of_ble_eq_true rfl⟩) rfl rfl (by first | exact Nat.le_of_ble_eq_true rfl | (simp only [List.map, q_catR]; exact Nat.le_of_ble_eq_true rfl)) ⟨by show _ ≤ 601024; omega, by show _ ≤ 7293034; omega⟩ dL_law_327 ?_
        refine q_pop X rfl dL_law_330 ?_
        refine q_goto X 576 (by decide) dL_law_331 ?_
        exact w_L_law_576 X hr hl hlt hE hX hbl hbA hA (ih _ _ (by omega) (by omega)) _ _ _ _ _ h
      rw [if_neg g3_6] at h
      by_cases g3_7 : ((xs (l4).toNatClampNeg) &&& (15 : Int32)) = 7
      · rw [if_pos g3_7] at h
        refine q_tableIn X 334 (by rw [g3_7]; decide) (by rw [g3_7]; decide) (off := 295) (by rw [g3_7]; decide) (by decide) dL_law_39 ?_
        refine q_aload_n X 1 rfl dL_law_334 ?_
        refine q_aload_n X 0 rfl dL_law_335 ?_
        refine q_iload X 4 rfl dL_law_336 ?_
        refine q_iconst X (1) (by decide) dL_law_338 ?_
        refine q_iadd X dL_law_339 ?_
        obtain ⟨g77, h⟩ := q_ifE h
        refine q_sld X hX hbl hbA (q_inE g77) dL_law_340 ?_
        refine q_aload_n X 0 rfl dL_law_341 ?_
        refine q_iload X 4 rfl dL_law_342 ?_
        refine q_iconst X (2) (by decide) dL_law_344 ?_
        refine q_iadd X dL_law_345 ?_
        obtain ⟨g78, h⟩ := q_ifE h
        refine q_sld X hX hbl hbA (q_inE g78) dL_law_346 ?_
        refine q_aload_n X 3 rfl dL_law_347 ?_
        obtain ⟨r79, S80, c81, h⟩ := q_bE h
        refine q_cSH X hE (As := [va_rf (l1), .int (xs (l4 + (1 : Int32)).toNatClampNeg), .int (xs (l4 + (2 : Int32)).toNatClampNeg), va_rf (l3)]) (c_L_piece hlt c81) tW_L_piece tM_L_63 tS_L_piece tN_L rfl rfl tD_L_piece ⟨Nat.le_of_ble_eq_true rfl, Nat.le_of_ble_eq_true rfl⟩ rfl rfl (by first | exact Nat.le_of_ble_eq_true rfl | (simp only [List.map, q_catR]; exact Nat.le_of_ble_eq_true rfl)) ⟨by show _ ≤ 601024; omega, by show _ ≤ 7293034; omega⟩ dL_law_348 ?_
        refine q_istore X 5 [(5, .int (r79)), (0, va_rf (some b)), (1, va_rf (l1)), (2, va_rf (l2)), (3, va_rf (l3)), (4, .int (l4))] (by decide) (by first | rfl | simp [List.filter, q_catR]) dL_law_351 ?_
        refine q_aload_n X 3 rfl dL_law_353 ?_
        refine q_aload_n X 1 rfl dL_law_354 ?_
        refine q_iload X 5 rfl dL_law_355 ?_
        refine q_iconst X (1) (by decide) dL_law_357 ?_
        refine q_iadd X dL_law_358 ?_
        obtain ⟨g82, h⟩ := q_ifE h
        refine q_sld X hX hbl hbA (q_inE g82) dL_law_359 ?_
        refine q_aload_n X 1 rfl dL_law_360 ?_
        refine q_iload X 5 rfl dL_law_361 ?_
        refine q_iconst X (2) (by decide) dL_law_363 ?_
        refine q_iadd X dL_law_364 ?_
        obtain ⟨g83, h⟩ := q_ifE h
        refine q_sld X hX hbl hbA (q_inE g83) dL_law_365 ?_
        obtain ⟨a84, ea84, ma84, ka84, h⟩ := q_atE h
        obtain ⟨r85, S86, c87, h⟩ := q_bE h
        refine q_cVI X (As := [.int (xs (l4 + (1 : Int32)).toNatClampNeg), .int (xs (l4 + (2 : Int32)).toNatClampNeg)]) ea84 ma84 ka84 rfl (by decide) (c_X12_piece_ c87) (q_cwV X tK_X12_piece_ tM_L_65 tI_X12_piece_ tV_X12_piece_ tN_X12 rfl rfl tD_X12_piece_ ⟨Nat.le_of_ble_eq_true rfl, Nat.le_of_ble_eq_true rfl⟩) rfl rfl (by first | exact Nat.le_of_ble_eq_true rfl | (simp only [List.map, q_catR]; exact Nat.le_of_ble_eq_true rfl)) ⟨by show _ ≤ 601024; omega, by show _ ≤ 7293034; omega⟩ dL_law_366 ?_
        refine q_istore X 6 [(6, .int (r85)), (5, .int (r79)), (0, va_rf (some b)), (1, va_rf (l1)), (2, va_rf (l2)), (3, va_rf (l3)), (4, .int (l4))] (by decide) (by first | rfl | simp [List.filter, q_catR]) dL_law_369 ?_
        refine q_goto X 576 (by decide) dL_law_371 ?_
        refine q_lv [2, 3, 4, 5, 6] rfl ?_
        exact w_L_law_576 X hr hl hlt hE hX hbl hbA hA (ih _ _ (by omega) (by omega)) _ _ _ _ _ h
      rw [if_neg g3_7] at h
      by_cases g3_8 : ((xs (l4).toNatClampNeg) &&& (15 : Int32)) = 8
      · rw [if_pos g3_8] at h
        refine q_tableIn X 374 (by rw [g3_8]; decide) (by rw [g3_8]; decide) (off := 335) (by rw [g3_8]; decide) (by decide) dL_law_39 ?_
        refine q_aload_n X 1 rfl dL_law_374 ?_
        refine q_aload_n X 0 rfl dL_law_375 ?_
        refine q_iload X 4 rfl dL_law_376 ?_
        refine q_iconst X (1) (by decide) dL_law_378 ?_
        refine q_iadd X dL_law_379 ?_
        obtain ⟨g88, h⟩ := q_ifE h
        refine q_sld X hX hbl hbA (q_inE g88) dL_law_380 ?_
        refine q_aload_n X 0 rfl dL_law_381 ?_
        refine q_iload X 4 rfl dL_law_382 ?_
        refine q_iconst X (2) (by decide) dL_law_384 ?_
        refine q_iadd X dL_law_385 ?_
        obtain ⟨g89, h⟩ := q_ifE h
        refine q_sld X hX hbl hbA (q_inE g89) dL_law_386 ?_
        refine q_aload_n X 3 rfl dL_law_387 ?_
        obtain ⟨r90, S91, c92, h⟩ := q_bE h
        refine q_cSH X hE (As := [va_rf (l1), .int (xs (l4 + (1 : Int32)).toNatClampNeg), .int (xs (l4 + (2 : Int32)).toNatClampNeg), va_rf (l3)]) (c_L_told hlt c92) tW_L_told tM_L_66 tS_L_told tN_L rfl rfl tD_L_told ⟨Nat.le_of_ble_eq_true rfl, Nat.le_of_ble_eq_true rfl⟩ rfl rfl (by first | exact Nat.le_of_ble_eq_true rfl | (simp only [List.map, q_catR]; exact Nat.le_of_ble_eq_true rfl)) ⟨by show _ ≤ 601024; omega, by show _ ≤ 7293034; omega⟩ dL_law_388 ?_
        refine q_istore X 5 [(5, .int (r90)), (0, va_rf (some b)), (1, va_rf (l1)), (2, va_rf (l2)), (3, va_rf (l3)), (4, .int (l4))] (by decide) (by first | rfl | simp [List.filter, q_catR]) dL_law_391 ?_
        refine q_aload_n X 3 rfl dL_law_393 ?_
        refine q_aload_n X 1 rfl dL_law_394 ?_
        refine q_iload X 5 rfl dL_law_395 ?_
        refine q_iconst X (1) (by decide) dL_law_397 ?_
        refine q_iadd X dL_law_398 ?_
        obtain ⟨g93, h⟩ := q_ifE h
        refine q_sld X hX hbl hbA (q_inE g93) dL_law_399 ?_
        refine q_aload_n X 1 rfl dL_law_400 ?_
        refine q_iload X 5 rfl dL_law_401 ?_
        refine q_iconst X (2) (by decide) dL_law_403 ?_
        refine q_iadd X dL_law_404 ?_
        obtain ⟨g94, h⟩ := q_ifE h
        refine q_sld X hX hbl hbA (q_inE g94) dL_law_405 ?_
        obtain ⟨a95, ea95, ma95, ka95, h⟩ := q_atE h
        obtain ⟨r96, S97, c98, h⟩ := q_bE h
        refine q_cVI X (As := [.int (xs (l4 + (1 : Int32)).toNatClampNeg), .int (xs (l4 + (2 : Int32)).toNatClampNeg)]) ea95 ma95 ka95 rfl (by decide) (c_X12_told c98) (q_cwV X tK_X12_told tM_L_68 tI_X12_told tV_X12_told tN_X12 rfl rfl tD_X12_told ⟨Nat.le_of_ble_eq_true rfl, Nat.le_of_ble_eq_true rfl⟩) rfl rfl (by first | exact Nat.le_of_ble_eq_true rfl | (simp only [List.map, q_catR]; exact Nat.le_of_ble_eq_true rfl)) ⟨by show _ ≤ 601024; omega, by show _ ≤ 7293034; omega⟩ dL_law_406 ?_
        refine q_istore X 6 [(6, .int (r96)), (5, .int (r90)), (0, va_rf (some b)), (1, va_rf (l1)), (2, va_rf (l2)), (3, va_rf (l3)), (4, .int (l4))] (by decide) (by first | rfl | simp [List.filter, q_catR]) dL_law_409 ?_
        refine q_goto X 576 (by decide) dL_law_411 ?_
        refine q_lv [2, 3, 4, 5, 6] rfl ?_
        exact w_L_law_576 X hr hl hlt hE hX hbl hbA hA (ih _ _ (by omega) (by omega)) _ _ _ _ _ h
      rw [if_neg g3_8] at h
      by_cases g3_9 : ((xs (l4).toNatClampNeg) &&& (15 : Int32)) = 9
      · rw [if_pos g3_9] at h
        refine q_tableIn X 414 (by rw [g3_9]; decide) (by rw [g3_9]; decide) (off := 375) (by rw [g3_9]; decide) (by decide) dL_law_39 ?_
        refine q_aload_n X 1 rfl dL_law_414 ?_
        refine q_aload_n X 0 rfl dL_law_415 ?_
        refine q_iload X 4 rfl dL_law_416 ?_
        refine q_iconst X (1) (by decide) dL_law_418 ?_
        refine q_iadd X dL_law_419 ?_
        obtain ⟨g99, h⟩ := q_ifE h
        refine q_sld X hX hbl hbA (q_inE g99) dL_law_420 ?_
        obtain ⟨a100, ea100, ma100, ka100, h⟩ := q_atE h
        obtain ⟨r101, S102, c103, h⟩ := q_bE h
        refine q_cVI X (As := [.int (xs (l4 + (1 : Int32)).toNatClampNeg)]) ea100 ma100 ka100 rfl (by decide) (c_X11_width c103) (q_cwV X tK_X11_width tM_L_69 tI_X11_width tV_X11_width tN_X11 rfl rfl tD_X11_width ⟨Nat.le_of_ble_eq_true rfl, Nat.le_of_ble_eq_true rfl⟩) rfl rfl (by first | exact Nat.le_of_ble_eq_true rfl | (simp only [List.map, q_catR]; exact Nat.le_of_ble_eq_true rfl)) ⟨by show _ ≤ 601024; omega, by show _ ≤ 7293034; omega⟩ dL_law_421 ?_
        refine q_pop X rfl dL_law_424 ?_
        refine q_aload_n X 2 rfl dL_law_425 ?_
        refine q_aload_n X 0 rfl dL_law_426 ?_
        refine q_iload X 4 rfl dL_law_427 ?_
        refine q_iconst X (1) (by decide) dL_law_429 ?_
        refine q_iadd X dL_law_430 ?_
        obtain ⟨g104, h⟩ := q_ifE h
        refine q_sld X hX hbl hbA (q_inE g104) dL_law_431 ?_
        obtain ⟨a105, ea105, ma105, ka105, h⟩ := q_atE h
        obtain ⟨r106, S107, c108, h⟩ := q_bE h
        refine q_cVI X (As := [.int (xs (l4 + (1 : Int32)).toNatClampNeg)]) ea105 ma105 ka105 rfl (by decide) (c_X12_width c108) (q_cwV X tK_X12_width tM_L_72 tI_X12_width tV_X12_width tN_X12 rfl rfl tD_X12_width ⟨Nat.le_of_ble_eq_true rfl, Nat.le_of_ble_eq_true rfl⟩) rfl rfl (by first | exact Nat.le_of_ble_eq_true rfl | (simp only [List.map, q_catR]; exact Nat.le_of_ble_eq_true rfl)) ⟨by show _ ≤ 601024; omega, by show _ ≤ 7293034; omega⟩ dL_law_432 ?_
        refine q_pop X rfl dL_law_435 ?_
        refine q_goto X 576 (by decide) dL_law_436 ?_
        exact w_L_law_576 X hr hl hlt hE hX hbl hbA hA (ih _ _ (by omega) (by omega)) _ _ _ _ _ h
      rw [if_neg g3_9] at h
      by_cases g3_10 : ((xs (l4).toNatClampNeg) &&& (15 : Int32)) = 10
      · rw [if_pos g3_10] at h
        refine q_tableIn X 439 (by rw [g3_10]; decide) (by rw [g3_10]; decide) (off := 400) (by rw [g3_10]; decide) (by decide) dL_law_39 ?_
        refine q_aload_n X 1 rfl dL_law_439 ?_
        refine q_aload_n X 0 rfl dL_law_440 ?_
        refine q_iload X 4 rfl dL_law_441 ?_
        refine q_iconst X (1) (by decide) dL_law_443 ?_
        refine q_iadd X dL_law_444 ?_
        obtain ⟨g109, h⟩ := q_ifE h
        refine q_sld X hX hbl hbA (q_inE g109) dL_law_445 ?_
        refine q_aload_n X 0 rfl dL_law_446 ?_
        refine q_iload X 4 rfl dL_law_447 ?_
        refine q_iconst X (2) (by decide) dL_law_449 ?_
        refine q_iadd X dL_law_450 ?_
        obtain ⟨g110, h⟩ := q_ifE h
        refine q_sld X hX hbl hbA (q_inE g110) dL_law_451 ?_
        obtain ⟨a111, ea111, ma111, ka111, h⟩ := q_atE h
        obtain ⟨r112, S113, c114, h⟩ := q_bE h
        refine q_cVI X (As := [.int (xs (l4 + (1 : Int32)).toNatClampNeg), .int (xs (l4 + (2 : Int32)).toNatClampNeg)]) ea111 ma111 ka111 rfl (by decide) (c_X11_kern c114) (q_cwV X tK_X11_kern tM_L_73 tI_X11_kern tV_X11_kern tN_X11 rfl rfl tD_X11_kern ⟨Nat.le_of_ble_eq_true rfl, Nat.le_of_ble_eq_true rfl⟩) rfl rfl (by first | exact Nat.le_of_ble_eq_true rfl | (simp only [List.map, q_catR]; exact Nat.le_of_ble_eq_true rfl)) ⟨by show _ ≤ 601024; omega, by show _ ≤ 7293034; omega⟩ dL_law_452 ?_
        refine q_pop X rfl dL_law_455 ?_
        refine q_aload_n X 2 rfl dL_law_456 ?_
        refine q_aload_n X 0 rfl dL_law_457 ?_
        refine q_iload X 4 rfl dL_law_458 ?_
        refine q_iconst X (1) (by decide) dL_law_460 ?_
        refine q_iadd X dL_law_461 ?_
        obtain ⟨g115, h⟩ := q_ifE h
        refine q_sld X hX hbl hbA (q_inE g115) dL_law_462 ?_
        refine q_aload_n X 0 rfl dL_law_463 ?_
        refine q_iload X 4 rfl dL_law_464 ?_
        refine q_iconst X (2) (by decide) dL_law_466 ?_
        refine q_iadd X dL_law_467 ?_
        obtain ⟨g116, h⟩ := q_ifE h
        refine q_sld X hX hbl hbA (q_inE g116) dL_law_468 ?_
        obtain ⟨a117, ea117, ma117, ka117, h⟩ := q_atE h
        obtain ⟨r118, S119, c120, h⟩ := q_bE h
        refine q_cVI X (As := [.int (xs (l4 + (1 : Int32)).toNatClampNeg), .int (xs (l4 + (2 : Int32)).toNatClampNeg)]) ea117 ma117 ka117 rfl (by decide) (c_X12_kern c120) (q_cwV X tK_X12_kern tM_L_76 tI_X12_kern tV_X12_kern tN_X12 rfl rfl tD_X12_kern ⟨Nat.le_of_ble_eq_true rfl, Nat.le_of_ble_eq_true rfl⟩) rfl rfl (by first | exact Nat.le_of_ble_eq_true rfl | (simp only [List.map, q_catR]; exact Nat.le_of_ble_eq_true rfl)) ⟨by show _ ≤ 601024; omega, by show _ ≤ 7293034; omega⟩ dL_law_469 ?_
        refine q_pop X rfl dL_law_472 ?_
        refine q_goto X 576 (by decide) dL_law_473 ?_
        exact w_L_law_576 X hr hl hlt hE hX hbl hbA hA (ih _ _ (by omega) (by omega)) _ _ _ _ _ h
      rw [if_neg g3_10] at h
      by_cases g3_11 : ((xs (l4).toNatClampNeg) &&& (15 : Int32)) = 11
      · rw [if_pos g3_11] at h
        refine q_tableIn X 476 (by rw [g3_11]; decide) (by rw [g3_11]; decide) (off := 437) (by rw [g3_11]; decide) (by decide) dL_law_39 ?_
        refine q_aload_n X 1 rfl dL_law_476 ?_
        refine q_aload_n X 0 rfl dL_law_477 ?_
        refine q_iload X 4 rfl dL_law_478 ?_
        refine q_iconst X (1) (by decide) dL_law_480 ?_
        refine q_iadd X dL_law_481 ?_
        obtain ⟨g121, h⟩ := q_ifE h
        refine q_sld X hX hbl hbA (q_inE g121) dL_law_482 ?_
        refine q_aload_n X 0 rfl dL_law_483 ?_
        refine q_iload X 4 rfl dL_law_484 ?_
        refine q_iconst X (2) (by decide) dL_law_486 ?_
        refine q_iadd X dL_law_487 ?_
        obtain ⟨g122, h⟩ := q_ifE h
        refine q_sld X hX hbl hbA (q_inE g122) dL_law_488 ?_
        obtain ⟨a123, ea123, ma123, ka123, h⟩ := q_atE h
        obtain ⟨r124, S125, c126, h⟩ := q_bE h
        refine q_cVJ X (As := [.int (xs (l4 + (1 : Int32)).toNatClampNeg), .int (xs (l4 + (2 : Int32)).toNatClampNeg)]) ea123 ma123 ka123 rfl (by decide) (c_X11_scaled c126) (q_cwV X tK_X11_scaled tM_L_77 tI_X11_scaled tV_X11_scaled tN_X11 rfl rfl tD_X11_scaled ⟨Nat.le_of_ble_eq_true rfl, Nat.le_of_ble_eq_true rfl⟩) rfl rfl (by first | exact Nat.le_of_ble_eq_true rfl | (simp only [List.map, q_catR]; exact Nat.le_of_ble_eq_true rfl)) ⟨by show _ ≤ 601024; omega, by show _ ≤ 7293034; omega⟩ dL_law_489 ?_
        refine q_pop2 X dL_law_492 ?_
        refine q_aload_n X 2 rfl dL_law_493 ?_
        refine q_aload_n X 0 rfl dL_law_494 ?_
        refine q_iload X 4 rfl dL_law_495 ?_
        refine q_iconst X (1) (by decide) dL_law_497 ?_
        refine q_iadd X dL_law_498 ?_
        obtain ⟨g127, h⟩ := q_ifE h
        refine q_sld X hX hbl hbA (q_inE g127) dL_law_499 ?_
        refine q_aload_n X 0 rfl dL_law_500 ?_
        refine q_iload X 4 rfl dL_law_501 ?_
        refine q_iconst X (2) (by decide) dL_law_503 ?_
        refine q_iadd X dL_law_504 ?_
        obtain ⟨g128, h⟩ := q_ifE h
        refine q_sld X hX hbl hbA (q_inE g128) dL_law_505 ?_
        obtain ⟨a129, ea129, ma129, ka129, h⟩ := q_atE h
        obtain ⟨r130, S131, c132, h⟩ := q_bE h
        refine q_cVJ X (As := [.int (xs (l4 + (1 : Int32)).toNatClampNeg), .int (xs (l4 + (2 : Int32)).toNatClampNeg)]) ea129 ma129 ka129 rfl (by decide) (c_X12_scaled c132) (q_cwV X tK_X12_scaled tM_L_81 tI_X12_scaled tV_X12_scaled tN_X12 rfl rfl tD_X12_scaled ⟨Nat.le_of_ble_eq_true rfl, Nat.le_of_ble_eq_true rfl⟩) rfl rfl (by first | exact Nat.le_of_ble_eq_true rfl | (simp only [List.map, q_catR]; exact Nat.le_of_ble_eq_true rfl)) ⟨by show _ ≤ 601024; omega, by show _ ≤ 7293034; omega⟩ dL_law_506 ?_
        refine q_pop2 X dL_law_509 ?_
        refine q_goto X 576 (by decide) dL_law_510 ?_
        exact w_L_law_576 X hr hl hlt hE hX hbl hbA hA (ih _ _ (by omega) (by omega)) _ _ _ _ _ h
      rw [if_neg g3_11] at h
      by_cases g3_12 : ((xs (l4).toNatClampNeg) &&& (15 : Int32)) = 12
      · rw [if_pos g3_12] at h
        refine q_tableIn X 513 (by rw [g3_12]; decide) (by rw [g3_12]; decide) (off := 474) (by rw [g3_12]; decide) (by decide) dL_law_39 ?_
        refine q_aload_n X 1 rfl dL_law_513 ?_
        refine q_aload_n X 0 rfl dL_law_514 ?_
        refine q_iload X 4 rfl dL_law_515 ?_
        refine q_iconst X (1) (by decide) dL_law_517 ?_
        refine q_iadd X dL_law_518 ?_
        obtain ⟨g133, h⟩ := q_ifE h
        refine q_sld X hX hbl hbA (q_inE g133) dL_law_519 ?_
        obtain ⟨a134, ea134, ma134, ka134, h⟩ := q_atE h
        obtain ⟨r135, S136, c137, h⟩ := q_bE h
        refine q_cVI X (As := [.int (xs (l4 + (1 : Int32)).toNatClampNeg)]) ea134 ma134 ka134 rfl (by decide) (c_X11_cut c137) (q_cwV X tK_X11_cut tM_L_82 tI_X11_cut tV_X11_cut tN_X11 rfl rfl tD_X11_cut ⟨Nat.le_of_ble_eq_true rfl, Nat.le_of_ble_eq_true rfl⟩) rfl rfl (by first | exact Nat.le_of_ble_eq_true rfl | (simp only [List.map, q_catR]; exact Nat.le_of_ble_eq_true rfl)) ⟨by show _ ≤ 601024; omega, by show _ ≤ 7293034; omega⟩ dL_law_520 ?_
        refine q_pop X rfl dL_law_523 ?_
        refine q_aload_n X 2 rfl dL_law_524 ?_
        refine q_aload_n X 0 rfl dL_law_525 ?_
        refine q_iload X 4 rfl dL_law_526 ?_
        refine q_iconst X (1) (by decide) dL_law_528 ?_
        refine q_iadd X dL_law_529 ?_
        obtain ⟨g138, h⟩ := q_ifE h
        refine q_sld X hX hbl hbA (q_inE g138) dL_law_530 ?_
        obtain ⟨a139, ea139, ma139, ka139, h⟩ := q_atE h
        obtain ⟨r140, S141, c142, h⟩ := q_bE h
        refine q_cVI X (As := [.int (xs (l4 + (1 : Int32)).toNatClampNeg)]) ea139 ma139 ka139 rfl (by decide) (c_X12_cut c142) (q_cwV X tK_X12_cut tM_L_85 tI_X12_cut tV_X12_cut tN_X12 rfl rfl tD_X12_cut ⟨Nat.le_of_ble_eq_true rfl, Nat.le_of_ble_eq_true rfl⟩) rfl rfl (by first | exact Nat.le_of_ble_eq_true rfl | (simp only [List.map, q_catR]; exact Nat.le_of_ble_eq_true rfl)) ⟨by show _ ≤ 601024; omega, by show _ ≤ 7293034; omega⟩ dL_law_531 ?_
        refine q_pop X rfl dL_law_534 ?_
        refine q_goto X 576 (by decide) dL_law_535 ?_
        exact w_L_law_576 X hr hl hlt hE hX hbl hbA hA (ih _ _ (by omega) (by omega)) _ _ _ _ _ h
      rw [if_neg g3_12] at h
      by_cases g3_13 : ((xs (l4).toNatClampNeg) &&& (15 : Int32)) = 13
      · rw [if_pos g3_13] at h
        refine q_tableIn X 538 (by rw [g3_13]; decide) (by rw [g3_13]; decide) (off := 499) (by rw [g3_13]; decide) (by decide) dL_law_39 ?_
        refine q_aload_n X 1 rfl dL_law_538 ?_
        obtain ⟨a143, ea143, ma143, ka143, h⟩ := q_atE h
        obtain ⟨r144, S145, c146, h⟩ := q_bE h
        refine q_cVI X (As := []) ea143 ma143 ka143 rfl (by decide) (c_X11_write c146) (q_cwV X tK_X11_write tM_L_86 tI_X11_write tV_X11_write tN_X11 rfl rfl tD_X11_write ⟨Nat.le_of_ble_eq_true rfl, Nat.le_of_ble_eq_true rfl⟩) rfl rfl (by first | exact Nat.le_of_ble_eq_true rfl | (simp only [List.map, q_catR]; exact Nat.le_of_ble_eq_true rfl)) ⟨by show _ ≤ 601024; omega, by show _ ≤ 7293034; omega⟩ dL_law_539 ?_
        refine q_aload_n X 2 rfl dL_law_542 ?_
        obtain ⟨a147, ea147, ma147, ka147, h⟩ := q_atE h
        obtain ⟨r148, S149, c150, h⟩ := q_bE h
        refine q_cVI X (As := []) ea147 ma147 ka147 rfl (by decide) (c_X12_write c150) (q_cwV X tK_X12_write tM_L_89 tI_X12_write tV_X12_write tN_X12 rfl rfl tD_X12_write ⟨Nat.le_of_ble_eq_true rfl, Nat.le_of_ble_eq_true rfl⟩) rfl rfl (by first | exact Nat.le_of_ble_eq_true rfl | (simp only [List.map, q_catR]; exact Nat.le_of_ble_eq_true rfl)) ⟨by show _ ≤ 601024; omega, by show _ ≤ 7293034; omega⟩ dL_law_543 ?_
        refine q_icmp_eq X 576 (by decide) dL_law_546 (fun g151 => ?_) (fun g151 => ?_)
        · rw [if_pos g151] at h
          exact w_L_law_576 X hr hl hlt hE hX hbl hbA hA (ih _ _ (by omega) (by omega)) _ _ _ _ _ h
        · rw [if_neg g151] at h
          refine q_iconst X (0) (by decide) dL_law_549 ?_
          obtain ⟨ev, eS⟩ := q_end h
          exact q_lawret X hA hr hl ev (by omega) (by omega) dL_law_550
      rw [if_neg g3_13] at h
      by_cases g3_14 : ((xs (l4).toNatClampNeg) &&& (15 : Int32)) = 14
      · rw [if_pos g3_14] at h
        refine q_tableIn X 551 (by rw [g3_14]; decide) (by rw [g3_14]; decide) (off := 512) (by rw [g3_14]; decide) (by decide) dL_law_39 ?_
        refine q_aload_n X 1 rfl dL_law_551 ?_
        refine q_aload_n X 0 rfl dL_law_552 ?_
        refine q_iload X 4 rfl dL_law_553 ?_
        refine q_iconst X (1) (by decide) dL_law_555 ?_
        refine q_iadd X dL_law_556 ?_
        obtain ⟨g152, h⟩ := q_ifE h
        refine q_sld X hX hbl hbA (q_inE g152) dL_law_557 ?_
        obtain ⟨a153, ea153, ma153, ka153, h⟩ := q_atE h
        obtain ⟨r154, S155, c156, h⟩ := q_bE h
        refine q_cVI X (As := [.int (xs (l4 + (1 : Int32)).toNatClampNeg)]) ea153 ma153 ka153 rfl (by decide) (c_X11_at c156) (q_cwV X tK_X11_at tM_L_90 tI_X11_at tV_X11_at tN_X11 rfl rfl tD_X11_at ⟨Nat.le_of_ble_eq_true rfl, Nat.le_of_ble_eq_true rfl⟩) rfl rfl (by first | exact Nat.le_of_ble_eq_true rfl | (simp only [List.map, q_catR]; exact Nat.le_of_ble_eq_true rfl)) ⟨by show _ ≤ 601024; omega, by show _ ≤ 7293034; omega⟩ dL_law_558 ?_
        refine q_pop X rfl dL_law_561 ?_
        refine q_aload_n X 2 rfl dL_law_562 ?_
        refine q_aload_n X 0 rfl dL_law_563 ?_
        refine q_iload X 4 rfl dL_law_564 ?_
        refine q_iconst X (1) (by decide) dL_law_566 ?_
        refine q_iadd X dL_law_567 ?_
        obtain ⟨g157, h⟩ := q_ifE h
        refine q_sld X hX hbl hbA (q_inE g157) dL_law_568 ?_
        obtain ⟨a158, ea158, ma158, ka158, h⟩ := q_atE h
        obtain ⟨r159, S160, c161, h⟩ := q_bE h
        refine q_cVI X (As := [.int (xs (l4 + (1 : Int32)).toNatClampNeg)]) ea158 ma158 ka158 rfl (by decide) (c_X12_at c161) (q_cwV X tK_X12_at tM_L_93 tI_X12_at tV_X12_at tN_X12 rfl rfl tD_X12_at ⟨Nat.le_of_ble_eq_true rfl, Nat.le_of_ble_eq_true rfl⟩) rfl rfl (by first | exact Nat.le_of_ble_eq_true rfl | (simp only [List.map, q_catR]; exact Nat.le_of_ble_eq_true rfl)) ⟨by show _ ≤ 601024; omega, by show _ ≤ 7293034; omega⟩ dL_law_569 ?_
        refine q_pop X rfl dL_law_572 ?_
        refine q_goto X 576 (by decide) dL_law_573 ?_
        exact w_L_law_576 X hr hl hlt hE hX hbl hbA hA (ih _ _ (by omega) (by omega)) _ _ _ _ _ h
      rw [if_neg g3_14] at h
      obtain ⟨g162, h⟩ := q_ifE h
      refine q_tableOut X 576 g162 (by decide) dL_law_39 ?_
      exact w_L_law_576 X hr hl hlt hE hX hbl hbA hA (ih _ _ (by omega) (by omega)) _ _ _ _ _ h
end MM
