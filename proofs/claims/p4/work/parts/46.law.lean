section MM
variable {p : Program} {l : Launch} {e : Env} {s : State} {m : MethodId} {args : Array Value} {below : List Frame} {meth : Method} {c : Code} {A : Nat → Prop} {D : va_G} {cy : Nat → ClassId} {b L : Nat} {xs : Nat → Int32}
/-! TrueOutlinesLaw.law([I)Z -/
def m_L_law_604 (n L : Nat) (xs : Nat → Int32) (k23 : q_S → Option Nat → Option Nat → Option Nat → Int32 → Option (Int32 × q_S)) (S : q_S) (l1 : Option Nat) (l2 : Option Nat) (l3 : Option Nat) (l4 : Int32) : Option (Int32 × q_S) := k23 (S) (l1) (l2) (l3) (l4 + (4))
set_option maxHeartbeats 4000000 in
set_option maxRecDepth 100000 in
theorem w_L_law_604 (X : q_X p s m #[Value.ref b] c cL_law 7 RL q_T D cy A) (hr : meth.sig.returnType = ret) (hl : meth.locks = false) (hlt : l.stackTraces = false) (hE : q_E A s s.heap) (hX : va_X b L xs s s.heap) (hbl : b < s.heap.size) (hbA : ¬ A b) (hA : ∀ q, A q → s.heap.size ≤ q)  {n : Nat} {cells slots : Nat} {Sv : q_S}  {k23 : q_S → Option Nat → Option Nat → Option Nat → Int32 → Option (Int32 × q_S)} (hk23 : ∀ (S : q_S) (z0 : Option Nat) (z1 : Option Nat) (z2 : Option Nat) (z3 : Int32), k23 S z0 z1 z2 z3 = some (1, Sv) → q_W p l e room_1 s m #[Value.ref b] below meth c (lw_Z below #[Value.ref b] s) A D cy 7 cells slots S 23 [(0, va_rf (some b)), (1, va_rf (z0)), (2, va_rf (z1)), (3, va_rf (z2)), (4, .int (z3))] []) (S : q_S) (l1 : Option Nat) (l2 : Option Nat) (l3 : Option Nat) (l4 : Int32) (h : m_L_law_604 n L xs k23 S l1 l2 l3 l4 = some (1, Sv)) : q_W p l e room_1 s m #[Value.ref b] below meth c (lw_Z below #[Value.ref b] s) A D cy 7 cells slots S 604 [(0, va_rf (some b)), (1, va_rf (l1)), (2, va_rf (l2)), (3, va_rf (l3)), (4, .int (l4))] [] := by
  unfold m_L_law_604 at h
  refine q_iinc X 4 4 (l4 + (4)) [(4, .int (l4 + (4))), (0, va_rf (some b)), (1, va_rf (l1)), (2, va_rf (l2)), (3, va_rf (l3))] rfl (congrArg (fun z => l4 + z) (show Int32.ofInt (4) = (4) by decide)) (by decide) (by first | rfl | simp [List.filter, q_catR]) dL_law_604 ?_
  refine q_goto X 23 (by decide) dL_law_607 ?_
  refine q_lv [1, 2, 3, 4, 0] rfl ?_
  exact hk23 _ _ _ _ _ h
def m_L_law_259 (n L : Nat) (xs : Nat → Int32) (k23 : q_S → Option Nat → Option Nat → Option Nat → Int32 → Option (Int32 × q_S)) (S : q_S) (l1 : Option Nat) (l2 : Option Nat) (l3 : Option Nat) (l4 : Int32) : Option (Int32 × q_S) := m_L_law_604 n L xs k23 (S) (l1) (l2) (l3) (l4)
set_option maxHeartbeats 4000000 in
set_option maxRecDepth 100000 in
theorem w_L_law_259 (X : q_X p s m #[Value.ref b] c cL_law 7 RL q_T D cy A) (hr : meth.sig.returnType = ret) (hl : meth.locks = false) (hlt : l.stackTraces = false) (hE : q_E A s s.heap) (hX : va_X b L xs s s.heap) (hbl : b < s.heap.size) (hbA : ¬ A b) (hA : ∀ q, A q → s.heap.size ≤ q)  {n : Nat} {cells slots : Nat} {Sv : q_S}  {k23 : q_S → Option Nat → Option Nat → Option Nat → Int32 → Option (Int32 × q_S)} (hk23 : ∀ (S : q_S) (z0 : Option Nat) (z1 : Option Nat) (z2 : Option Nat) (z3 : Int32), k23 S z0 z1 z2 z3 = some (1, Sv) → q_W p l e room_1 s m #[Value.ref b] below meth c (lw_Z below #[Value.ref b] s) A D cy 7 cells slots S 23 [(0, va_rf (some b)), (1, va_rf (z0)), (2, va_rf (z1)), (3, va_rf (z2)), (4, .int (z3))] []) (S : q_S) (l1 : Option Nat) (l2 : Option Nat) (l3 : Option Nat) (l4 : Int32) (h : m_L_law_259 n L xs k23 S l1 l2 l3 l4 = some (1, Sv)) : q_W p l e room_1 s m #[Value.ref b] below meth c (lw_Z below #[Value.ref b] s) A D cy 7 cells slots S 259 [(0, va_rf (some b)), (1, va_rf (l1)), (2, va_rf (l2)), (3, va_rf (l3)), (4, .int (l4))] [] := by
  unfold m_L_law_259 at h
  refine q_goto X 604 (by decide) dL_law_259 ?_
  exact w_L_law_604 X hr hl hlt hE hX hbl hbA hA hk23 _ _ _ _ _ h
def m_L_law_23 (n L : Nat) (xs : Nat → Int32) : Nat → q_S → Option Nat → Option Nat → Option Nat → Int32 → Option (Int32 × q_S)
  | 0, _, _, _, _, _ => none
  | k + 1, S, l1, l2, l3, l4 => (if ((Int32.ofNat L) - (4 : Int32)) < l4 then some ((1 : Int32), S) else q_if (q_in (l4) L = true) ((if ((xs (l4).toNatClampNeg) &&& (15 : Int32)) = 0 then q_if (q_in (l4 + (1 : Int32)) L = true) (q_if (q_in (l4 + (2 : Int32)) L = true) (q_if (q_in (l4 + (3 : Int32)) L = true) (q_at (S) (l1) 12 (fun a7 => q_b (m_X11_add n (S) a7 ((((xs (l4 + (1 : Int32)).toNatClampNeg).toInt64) <<< (((32 : Int32)).toInt64 &&& 63)) ||| (((xs (l4 + (2 : Int32)).toNatClampNeg).toInt64) &&& (4294967295 : Int64))) (xs (l4 + (3 : Int32)).toNatClampNeg)) (fun r8 S9 => q_if (q_in (l4 + (1 : Int32)) L = true) (q_if (q_in (l4 + (2 : Int32)) L = true) (q_if (q_in (l4 + (3 : Int32)) L = true) (q_at (S9) (l2) 13 (fun a14 => q_b (m_X12_add n (S9) a14 ((((xs (l4 + (1 : Int32)).toNatClampNeg).toInt64) <<< (((32 : Int32)).toInt64 &&& 63)) ||| (((xs (l4 + (2 : Int32)).toNatClampNeg).toInt64) &&& (4294967295 : Int64))) (xs (l4 + (3 : Int32)).toNatClampNeg)) (fun r15 S16 => m_L_law_604 n L xs (m_L_law_23 n L xs k) (S16) (l1) (l2) (l3) (l4))))))))))) else (if ((xs (l4).toNatClampNeg) &&& (15 : Int32)) = 1 then q_at (S) (l1) 12 (fun a18 => q_b (m_X11_read n (S) a18) (fun r19 S20 => q_at (S20) (l2) 13 (fun a22 => q_b (m_X12_read n (S20) a22) (fun r23 S24 => m_L_law_604 n L xs (m_L_law_23 n L xs k) (S24) (l1) (l2) (l3) (l4))))) else (if ((xs (l4).toNatClampNeg) &&& (15 : Int32)) = 2 then q_if (q_in (l4 + (1 : Int32)) L = true) (q_if (q_in (l4 + (2 : Int32)) L = true) (q_b (m_L_octet n (S) (l1) (xs (l4 + (1 : Int32)).toNatClampNeg) (xs (l4 + (2 : Int32)).toNatClampNeg) (l3)) (fun r28 S29 => q_if (q_in (l4 + (1 : Int32)) L = true) (q_if (q_in (l4 + (2 : Int32)) L = true) (q_at (S29) (l2) 13 (fun a33 => q_b (m_X12_octet n (S29) a33 (xs (l4 + (1 : Int32)).toNatClampNeg) (xs (l4 + (2 : Int32)).toNatClampNeg)) (fun r34 S35 => q_at (S35) (l2) 13 (fun a37 => q_b (m_X12_thrown n (S35) a37) (fun r38 S39 => (if r38 = r28 then (if r28 = 0 then q_at (S39) (l3) 101 (fun a43 => q_if (q_in ((0 : Int32)) (q_N (S39) a43) = true) ((if (lg_cmp ((q_J (S39) a43 ((0 : Int32)).toNatClampNeg)) ((r34.toInt64))) = 0 then m_L_law_259 n L xs (m_L_law_23 n L xs k) (S39) (l1) (l2) (l3) (l4) else some ((0 : Int32), S39)))) else m_L_law_259 n L xs (m_L_law_23 n L xs k) (S39) (l1) (l2) (l3) (l4)) else some ((0 : Int32), S39))))))))))) else (if ((xs (l4).toNatClampNeg) &&& (15 : Int32)) = 3 then q_if (q_in (l4 + (1 : Int32)) L = true) (q_at (S) (l1) 12 (fun a47 => q_b (m_X11_sum n (S) a47 (xs (l4 + (1 : Int32)).toNatClampNeg)) (fun r48 S49 => q_if (q_in (l4 + (1 : Int32)) L = true) (q_at (S49) (l2) 13 (fun a52 => q_b (m_X12_sum n (S49) a52 (xs (l4 + (1 : Int32)).toNatClampNeg)) (fun r53 S54 => m_L_law_604 n L xs (m_L_law_23 n L xs k) (S54) (l1) (l2) (l3) (l4))))))) else (if ((xs (l4).toNatClampNeg) &&& (15 : Int32)) = 4 then q_if (q_in (l4 + (1 : Int32)) L = true) (q_at (S) (l1) 12 (fun a57 => q_b (m_X11_count n (S) a57 (xs (l4 + (1 : Int32)).toNatClampNeg)) (fun r58 S59 => q_if (q_in (l4 + (1 : Int32)) L = true) (q_at (S59) (l2) 13 (fun a62 => q_b (m_X12_count n (S59) a62 (xs (l4 + (1 : Int32)).toNatClampNeg)) (fun r63 S64 => m_L_law_604 n L xs (m_L_law_23 n L xs k) (S64) (l1) (l2) (l3) (l4))))))) else (if ((xs (l4).toNatClampNeg) &&& (15 : Int32)) = 5 then q_if (q_in (l4 + (1 : Int32)) L = true) (q_at (S) (l1) 12 (fun a67 => q_b (m_X11_map n (S) a67 (xs (l4 + (1 : Int32)).toNatClampNeg)) (fun r68 S69 => q_if (q_in (l4 + (1 : Int32)) L = true) (q_at (S69) (l2) 13 (fun a72 => q_b (m_X12_map n (S69) a72 (xs (l4 + (1 : Int32)).toNatClampNeg)) (fun r73 S74 => m_L_law_604 n L xs (m_L_law_23 n L xs k) (S74) (l1) (l2) (l3) (l4))))))) else (if ((xs (l4).toNatClampNeg) &&& (15 : Int32)) = 6 then q_if (q_in (l4 + (1 : Int32)) L = true) (q_at (S) (l1) 12 (fun a77 => q_b (m_X11_run n (S) a77 (xs (l4 + (1 : Int32)).toNatClampNeg)) (fun r78 S79 => q_if (q_in (l4 + (1 : Int32)) L = true) (q_at (S79) (l2) 13 (fun a82 => q_b (m_X12_run n (S79) a82 (xs (l4 + (1 : Int32)).toNatClampNeg)) (fun r83 S84 => m_L_law_604 n L xs (m_L_law_23 n L xs k) (S84) (l1) (l2) (l3) (l4))))))) else (if ((xs (l4).toNatClampNeg) &&& (15 : Int32)) = 7 then q_if (q_in (l4 + (1 : Int32)) L = true) (q_if (q_in (l4 + (2 : Int32)) L = true) (q_b (m_L_piece n (S) (l1) (xs (l4 + (1 : Int32)).toNatClampNeg) (xs (l4 + (2 : Int32)).toNatClampNeg) (l3)) (fun r88 S89 => q_if (q_in (l4 + (1 : Int32)) L = true) (q_if (q_in (l4 + (2 : Int32)) L = true) (q_at (S89) (l2) 13 (fun a93 => q_b (m_X12_piece_ n (S89) a93 (xs (l4 + (1 : Int32)).toNatClampNeg) (xs (l4 + (2 : Int32)).toNatClampNeg)) (fun r94 S95 => m_L_law_604 n L xs (m_L_law_23 n L xs k) (S95) (l1) (l2) (l3) (l4)))))))) else (if ((xs (l4).toNatClampNeg) &&& (15 : Int32)) = 8 then q_if (q_in (l4 + (1 : Int32)) L = true) (q_if (q_in (l4 + (2 : Int32)) L = true) (q_b (m_L_told n (S) (l1) (xs (l4 + (1 : Int32)).toNatClampNeg) (xs (l4 + (2 : Int32)).toNatClampNeg) (l3)) (fun r99 S100 => q_if (q_in (l4 + (1 : Int32)) L = true) (q_if (q_in (l4 + (2 : Int32)) L = true) (q_at (S100) (l2) 13 (fun a104 => q_b (m_X12_told n (S100) a104 (xs (l4 + (1 : Int32)).toNatClampNeg) (xs (l4 + (2 : Int32)).toNatClampNeg)) (fun r105 S106 => m_L_law_604 n L xs (m_L_law_23 n L xs k) (S106) (l1) (l2) (l3) (l4)))))))) else (if ((xs (l4).toNatClampNeg) &&& (15 : Int32)) = 9 then q_if (q_in (l4 + (1 : Int32)) L = true) (q_at (S) (l1) 12 (fun a109 => q_b (m_X11_width n (S) a109 (xs (l4 + (1 : Int32)).toNatClampNeg)) (fun r110 S111 => q_if (q_in (l4 + (1 : Int32)) L = true) (q_at (S111) (l2) 13 (fun a114 => q_b (m_X12_width n (S111) a114 (xs (l4 + (1 : Int32)).toNatClampNeg)) (fun r115 S116 => m_L_law_604 n L xs (m_L_law_23 n L xs k) (S116) (l1) (l2) (l3) (l4))))))) else (if ((xs (l4).toNatClampNeg) &&& (15 : Int32)) = 10 then q_if (q_in (l4 + (1 : Int32)) L = true) (q_if (q_in (l4 + (2 : Int32)) L = true) (q_at (S) (l1) 12 (fun a120 => q_b (m_X11_kern n (S) a120 (xs (l4 + (1 : Int32)).toNatClampNeg) (xs (l4 + (2 : Int32)).toNatClampNeg)) (fun r121 S122 => q_if (q_in (l4 + (1 : Int32)) L = true) (q_if (q_in (l4 + (2 : Int32)) L = true) (q_at (S122) (l2) 13 (fun a126 => q_b (m_X12_kern n (S122) a126 (xs (l4 + (1 : Int32)).toNatClampNeg) (xs (l4 + (2 : Int32)).toNatClampNeg)) (fun r127 S128 => m_L_law_604 n L xs (m_L_law_23 n L xs k) (S128) (l1) (l2) (l3) (l4))))))))) else (if ((xs (l4).toNatClampNeg) &&& (15 : Int32)) = 11 then q_if (q_in (l4 + (1 : Int32)) L = true) (q_if (q_in (l4 + (2 : Int32)) L = true) (q_at (S) (l1) 12 (fun a132 => q_b (m_X11_scaled n (S) a132 (xs (l4 + (1 : Int32)).toNatClampNeg) (xs (l4 + (2 : Int32)).toNatClampNeg)) (fun r133 S134 => q_if (q_in (l4 + (1 : Int32)) L = true) (q_if (q_in (l4 + (2 : Int32)) L = true) (q_at (S134) (l2) 13 (fun a138 => q_b (m_X12_scaled n (S134) a138 (xs (l4 + (1 : Int32)).toNatClampNeg) (xs (l4 + (2 : Int32)).toNatClampNeg)) (fun r139 S140 => m_L_law_604 n L xs (m_L_law_23 n L xs k) (S140) (l1) (l2) (l3) (l4))))))))) else (if ((xs (l4).toNatClampNeg) &&& (15 : Int32)) = 12 then q_if (q_in (l4 + (1 : Int32)) L = true) (q_at (S) (l1) 12 (fun a143 => q_b (m_X11_cut n (S) a143 (xs (l4 + (1 : Int32)).toNatClampNeg)) (fun r144 S145 => q_if (q_in (l4 + (1 : Int32)) L = true) (q_at (S145) (l2) 13 (fun a148 => q_b (m_X12_cut n (S145) a148 (xs (l4 + (1 : Int32)).toNatClampNeg)) (fun r149 S150 => m_L_law_604 n L xs (m_L_law_23 n L xs k) (S150) (l1) (l2) (l3) (l4))))))) else (if ((xs (l4).toNatClampNeg) &&& (15 : Int32)) = 13 then q_at (S) (l1) 12 (fun a152 => q_b (m_X11_write n (S) a152) (fun r153 S154 => q_at (S154) (l2) 13 (fun a156 => q_b (m_X12_write n (S154) a156) (fun r157 S158 => m_L_law_604 n L xs (m_L_law_23 n L xs k) (S158) (l1) (l2) (l3) (l4))))) else (if ((xs (l4).toNatClampNeg) &&& (15 : Int32)) = 14 then q_if (q_in (l4 + (1 : Int32)) L = true) (q_at (S) (l1) 12 (fun a161 => q_b (m_X11_at n (S) a161 (xs (l4 + (1 : Int32)).toNatClampNeg)) (fun r162 S163 => q_if (q_in (l4 + (1 : Int32)) L = true) (q_at (S163) (l2) 13 (fun a166 => q_b (m_X12_at n (S163) a166 (xs (l4 + (1 : Int32)).toNatClampNeg)) (fun r167 S168 => m_L_law_604 n L xs (m_L_law_23 n L xs k) (S168) (l1) (l2) (l3) (l4))))))) else q_if (((xs (l4).toNatClampNeg) &&& (15 : Int32)).toInt < 0 ∨ 14 < ((xs (l4).toNatClampNeg) &&& (15 : Int32)).toInt) (m_L_law_604 n L xs (m_L_law_23 n L xs k) (S) (l1) (l2) (l3) (l4)))))))))))))))))))
set_option maxHeartbeats 4000000 in
set_option maxRecDepth 100000 in
theorem w_L_law_23 (X : q_X p s m #[Value.ref b] c cL_law 7 RL q_T D cy A) (hr : meth.sig.returnType = ret) (hl : meth.locks = false) (hlt : l.stackTraces = false) (hE : q_E A s s.heap) (hX : va_X b L xs s s.heap) (hbl : b < s.heap.size) (hbA : ¬ A b) (hA : ∀ q, A q → s.heap.size ≤ q)  {n : Nat} {Sv : q_S}  : ∀ (k : Nat) (cells slots : Nat), cells + k ≤ 600000 → slots + 6 * k ≤ 7000000 → ∀ (S : q_S) (l1 : Option Nat) (l2 : Option Nat) (l3 : Option Nat) (l4 : Int32), m_L_law_23 n L xs k S l1 l2 l3 l4 = some (1, Sv) → q_W p l e room_1 s m #[Value.ref b] below meth c (lw_Z below #[Value.ref b] s) A D cy 7 cells slots S 23 [(0, va_rf (some b)), (1, va_rf (l1)), (2, va_rf (l2)), (3, va_rf (l3)), (4, .int (l4))] [] := by
  intro k
  induction k with
  | zero => intro cells slots hc hs S l1 l2 l3 l4 h; rw [m_L_law_23] at h; cases h
  | succ k ih =>
    intro cells slots hc hs S l1 l2 l3 l4 h
    rw [m_L_law_23] at h
    refine q_iload X 4 rfl dL_law_23 ?_
    refine q_aload_n X 0 rfl dL_law_25 ?_
    refine q_slen X hX hbl hbA dL_law_26 ?_
    refine q_iconst X (4) (by decide) dL_law_27 ?_
    refine q_isub X dL_law_28 ?_
    refine q_icmp_gt X 610 (by decide) dL_law_29 (fun g1 => ?_) (fun g1 => ?_)
    · rw [if_pos g1] at h
      refine q_iconst X (1) (by decide) dL_law_610 ?_
      obtain ⟨ev, eS⟩ := q_end h
      exact q_lawret X hA hr hl ev (by omega) (by omega) dL_law_611
    · rw [if_neg g1] at h
      refine q_aload_n X 0 rfl dL_law_32 ?_
      refine q_iload X 4 rfl dL_law_33 ?_
      obtain ⟨g2, h⟩ := q_ifE h
      refine q_sld X hX hbl hbA (q_inE g2) dL_law_35 ?_
      refine q_bipush X (15) (by decide) dL_law_36 ?_
      refine q_iand X dL_law_38 ?_
      by_cases g3_0 : ((xs (l4).toNatClampNeg) &&& (15 : Int32)) = 0
      · rw [if_pos g3_0] at h
        refine q_tableIn X 112 (by rw [g3_0]; decide) (by rw [g3_0]; decide) (off := 73) (by rw [g3_0]; decide) (by decide) dL_law_39 ?_
        refine q_aload_n X 1 rfl dL_law_112 ?_
        refine q_aload_n X 0 rfl dL_law_113 ?_
        refine q_iload X 4 rfl dL_law_114 ?_
        refine q_iconst X (1) (by decide) dL_law_116 ?_
        refine q_iadd X dL_law_117 ?_
        obtain ⟨g4, h⟩ := q_ifE h
        refine q_sld X hX hbl hbA (q_inE g4) dL_law_118 ?_
        refine q_i2l X dL_law_119 ?_
        refine q_bipush X (32) (by decide) dL_law_120 ?_
        refine q_lshl X dL_law_122 ?_
        refine q_aload_n X 0 rfl dL_law_123 ?_
        refine q_iload X 4 rfl dL_law_124 ?_
        refine q_iconst X (2) (by decide) dL_law_126 ?_
        refine q_iadd X dL_law_127 ?_
        obtain ⟨g5, h⟩ := q_ifE h
        refine q_sld X hX hbl hbA (q_inE g5) dL_law_128 ?_
        refine q_i2l X dL_law_129 ?_
        refine q_ldc2_w X (4294967295) tC_L_27 dL_law_130 ?_
        refine q_land X dL_law_133 ?_
        refine q_lor X dL_law_134 ?_
        refine q_aload_n X 0 rfl dL_law_135 ?_
        refine q_iload X 4 rfl dL_law_136 ?_
        refine q_iconst X (3) (by decide) dL_law_138 ?_
        refine q_iadd X dL_law_139 ?_
        obtain ⟨g6, h⟩ := q_ifE h
        refine q_sld X hX hbl hbA (q_inE g6) dL_law_140 ?_
        obtain ⟨a7, ea7, ma7, ka7, h⟩ := q_atE h
        obtain ⟨r8, S9, c10, h⟩ := q_bE h
        refine q_cVI X (As := [.long ((((xs (l4 + (1 : Int32)).toNatClampNeg).toInt64) <<< (((32 : Int32)).toInt64 &&& 63)) ||| (((xs (l4 + (2 : Int32)).toNatClampNeg).toInt64) &&& (4294967295 : Int64))), .int (xs (l4 + (3 : Int32)).toNatClampNeg)]) ea7 ma7 ka7 rfl (by decide) (c_X11_add c10) (q_cwV X tK_X11_add tM_L_29 tI_X11_add tV_X11_add tN_X11 rfl rfl tD_X11_add ⟨Nat.le_of_ble_eq_true rfl, Nat.le_of_ble_eq_true rfl⟩) rfl rfl (by first | exact Nat.le_of_ble_eq_true rfl | (simp only [List.map, q_catR]; exact Nat.le_of_ble_eq_true rfl)) ⟨by show _ ≤ 601024; omega, by show _ ≤ 7293034; omega⟩ dL_law_141 ?_
        refine q_pop X rfl dL_law_144 ?_
        refine q_aload_n X 2 rfl dL_law_145 ?_
        refine q_aload_n X 0 rfl dL_law_146 ?_
        refine q_iload X 4 rfl dL_law_147 ?_
        refine q_iconst X (1) (by decide) dL_law_149 ?_
        refine q_iadd X dL_law_150 ?_
        obtain ⟨g11, h⟩ := q_ifE h
        refine q_sld X hX hbl hbA (q_inE g11) dL_law_151 ?_
        refine q_i2l X dL_law_152 ?_
        refine q_bipush X (32) (by decide) dL_law_153 ?_
        refine q_lshl X dL_law_155 ?_
        refine q_aload_n X 0 rfl dL_law_156 ?_
        refine q_iload X 4 rfl dL_law_157 ?_
        refine q_iconst X (2) (by decide) dL_law_159 ?_
        refine q_iadd X dL_law_160 ?_
        obtain ⟨g12, h⟩ := q_ifE h
        refine q_sld X hX hbl hbA (q_inE g12) dL_law_161 ?_
        refine q_i2l X dL_law_162 ?_
        refine q_ldc2_w X (4294967295) tC_L_27 dL_law_163 ?_
        refine q_land X dL_law_166 ?_
        refine q_lor X dL_law_167 ?_
        refine q_aload_n X 0 rfl dL_law_168 ?_
        refine q_iload X 4 rfl dL_law_169 ?_
        refine q_iconst X (3) (by decide) dL_law_171 ?_
        refine q_iadd X dL_law_172 ?_
        obtain ⟨g13, h⟩ := q_ifE h
        refine q_sld X hX hbl hbA (q_inE g13) dL_law_173 ?_
        obtain ⟨a14, ea14, ma14, ka14, h⟩ := q_atE h
        obtain ⟨r15, S16, c17, h⟩ := q_bE h
        refine q_cVI X (As := [.long ((((xs (l4 + (1 : Int32)).toNatClampNeg).toInt64) <<< (((32 : Int32)).toInt64 &&& 63)) ||| (((xs (l4 + (2 : Int32)).toNatClampNeg).toInt64) &&& (4294967295 : Int64))), .int (xs (l4 + (3 : Int32)).toNatClampNeg)]) ea14 ma14 ka14 rfl (by decide) (c_X12_add c17) (q_cwV X tK_X12_add tM_L_33 tI_X12_add tV_X12_add tN_X12 rfl rfl tD_X12_add ⟨Nat.le_of_ble_eq_true rfl, Nat.le_of_ble_eq_true rfl⟩) rfl rfl (by first | exact Nat.le_of_ble_eq_true rfl | (simp only [List.map, q_catR]; exact Nat.le_of_ble_eq_true rfl)) ⟨by show _ ≤ 601024; omega, by show _ ≤ 7293034; omega⟩ dL_law_174 ?_
        refine q_pop X rfl dL_law_177 ?_
        refine q_goto X 604 (by decide) dL_law_178 ?_
        exact w_L_law_604 X hr hl hlt hE hX hbl hbA hA (ih _ _ (by omega) (by omega)) _ _ _ _ _ h
      rw [if_neg g3_0] at h
      by_cases g3_1 : ((xs (l4).toNatClampNeg) &&& (15 : Int32)) = 1
      · rw [if_pos g3_1] at h
        refine q_tableIn X 181 (by rw [g3_1]; decide) (by rw [g3_1]; decide) (off := 142) (by rw [g3_1]; decide) (by decide) dL_law_39 ?_
        refine q_aload_n X 1 rfl dL_law_181 ?_
        obtain ⟨a18, ea18, ma18, ka18, h⟩ := q_atE h
        obtain ⟨r19, S20, c21, h⟩ := q_bE h
        refine q_cVI X (As := []) ea18 ma18 ka18 rfl (by decide) (c_X11_read c21) (q_cwV X tK_X11_read tM_L_34 tI_X11_read tV_X11_read tN_X11 rfl rfl tD_X11_read ⟨Nat.le_of_ble_eq_true rfl, Nat.le_of_ble_eq_true rfl⟩) rfl rfl (by first | exact Nat.le_of_ble_eq_true rfl | (simp only [List.map, q_catR]; exact Nat.le_of_ble_eq_true rfl)) ⟨by show _ ≤ 601024; omega, by show _ ≤ 7293034; omega⟩ dL_law_182 ?_
        refine q_pop X rfl dL_law_185 ?_
        refine q_aload_n X 2 rfl dL_law_186 ?_
        obtain ⟨a22, ea22, ma22, ka22, h⟩ := q_atE h
        obtain ⟨r23, S24, c25, h⟩ := q_bE h
        refine q_cVI X (As := []) ea22 ma22 ka22 rfl (by decide) (c_X12_read c25) (q_cwV X tK_X12_read tM_L_38 tI_X12_read tV_X12_read tN_X12 rfl rfl tD_X12_read ⟨Nat.le_of_ble_eq_true rfl, Nat.le_of_ble_eq_true rfl⟩) rfl rfl (by first | exact Nat.le_of_ble_eq_true rfl | (simp only [List.map, q_catR]; exact Nat.le_of_ble_eq_true rfl)) ⟨by show _ ≤ 601024; omega, by show _ ≤ 7293034; omega⟩ dL_law_187 ?_
        refine q_pop X rfl dL_law_190 ?_
        refine q_goto X 604 (by decide) dL_law_191 ?_
        exact w_L_law_604 X hr hl hlt hE hX hbl hbA hA (ih _ _ (by omega) (by omega)) _ _ _ _ _ h
      rw [if_neg g3_1] at h
      by_cases g3_2 : ((xs (l4).toNatClampNeg) &&& (15 : Int32)) = 2
      · rw [if_pos g3_2] at h
        refine q_tableIn X 194 (by rw [g3_2]; decide) (by rw [g3_2]; decide) (off := 155) (by rw [g3_2]; decide) (by decide) dL_law_39 ?_
        refine q_aload_n X 1 rfl dL_law_194 ?_
        refine q_aload_n X 0 rfl dL_law_195 ?_
        refine q_iload X 4 rfl dL_law_196 ?_
        refine q_iconst X (1) (by decide) dL_law_198 ?_
        refine q_iadd X dL_law_199 ?_
        obtain ⟨g26, h⟩ := q_ifE h
        refine q_sld X hX hbl hbA (q_inE g26) dL_law_200 ?_
        refine q_aload_n X 0 rfl dL_law_201 ?_
        refine q_iload X 4 rfl dL_law_202 ?_
        refine q_iconst X (2) (by decide) dL_law_204 ?_
        refine q_iadd X dL_law_205 ?_
        obtain ⟨g27, h⟩ := q_ifE h
        refine q_sld X hX hbl hbA (q_inE g27) dL_law_206 ?_
        refine q_aload_n X 3 rfl dL_law_207 ?_
        obtain ⟨r28, S29, c30, h⟩ := q_bE h
        refine q_cSH X hE (As := [va_rf (l1), .int (xs (l4 + (1 : Int32)).toNatClampNeg), .int (xs (l4 + (2 : Int32)).toNatClampNeg), va_rf (l3)]) (c_L_octet hlt c30) tW_L_octet tM_L_39 tS_L_octet tN_L rfl rfl tD_L_octet ⟨Nat.le_of_ble_eq_true rfl, Nat.le_of_ble_eq_true rfl⟩ rfl rfl (by first | exact Nat.le_of_ble_eq_true rfl | (simp only [List.map, q_catR]; exact Nat.le_of_ble_eq_true rfl)) ⟨by show _ ≤ 601024; omega, by show _ ≤ 7293034; omega⟩ dL_law_208 ?_
        refine q_istore X 5 [(5, .int (r28)), (0, va_rf (some b)), (1, va_rf (l1)), (2, va_rf (l2)), (3, va_rf (l3)), (4, .int (l4))] (by decide) (by first | rfl | simp [List.filter, q_catR]) dL_law_211 ?_
        refine q_aload_n X 3 rfl dL_law_213 ?_
        refine q_aload_n X 1 rfl dL_law_214 ?_
        refine q_iload X 5 rfl dL_law_215 ?_
        refine q_iconst X (1) (by decide) dL_law_217 ?_
        refine q_iadd X dL_law_218 ?_
        obtain ⟨g31, h⟩ := q_ifE h
        refine q_sld X hX hbl hbA (q_inE g31) dL_law_219 ?_
        refine q_aload_n X 1 rfl dL_law_220 ?_
        refine q_iload X 5 rfl dL_law_221 ?_
        refine q_iconst X (2) (by decide) dL_law_223 ?_
        refine q_iadd X dL_law_224 ?_
        obtain ⟨g32, h⟩ := q_ifE h
        refine q_sld X hX hbl hbA (q_inE g32) dL_law_225 ?_
        obtain ⟨a33, ea33, ma33, ka33, h⟩ := q_atE h
        obtain ⟨r34, S35, c36, h⟩ := q_bE h
        refine q_cVI X (As := [.int (xs (l4 + (1 : Int32)).toNatClampNeg), .int (xs (l4 + (2 : Int32)).toNatClampNeg)]) ea33 ma33 ka33 rfl (by decide) (c_X12_octet c36) (q_cwV X tK_X12_octet tM_L_44 tI_X12_octet tV_X12_octet tN_X12 rfl rfl tD_X12_octet ⟨Nat.le_of_ble_eq_true rfl, Nat.le_of_ble_eq_true rfl⟩) rfl rfl (by first | exact Nat.le_of_ble_eq_true rfl | (simp only [List.map, q_catR]; exact Nat.le_of_ble_eq_true rfl)) ⟨by show _ ≤ 601024; omega, by show _ ≤ 7293034; omega⟩ dL_law_226 ?_
        refine q_istore X 6 [(6, .int (r34)), (5, .int (r28)), (0, va_rf (some b)), (1, va_rf (l1)), (2, va_rf (l2)), (3, va_rf (l3)), (4, .int (l4))] (by decide) (by first | rfl | simp [List.filter, q_catR]) dL_law_229 ?_
        refine q_aload_n X 4 rfl dL_law_231 ?_
        obtain ⟨a37, ea37, ma37, ka37, h⟩ := q_atE h
        obtain ⟨r38, S39, c40, h⟩ := q_bE h
        refine q_cVI X (As := []) ea37 ma37 ka37 rfl (by decide) (c_X12_thrown c40) (q_cwV X tK_X12_thrown tM_L_45 tI_X12_thrown tV_X12_thrown tN_X12 rfl rfl tD_X12_thrown ⟨Nat.le_of_ble_eq_true rfl, Nat.le_of_ble_eq_true rfl⟩) rfl rfl (by first | exact Nat.le_of_ble_eq_true rfl | (simp only [List.map, q_catR]; exact Nat.le_of_ble_eq_true rfl)) ⟨by show _ ≤ 601024; omega, by show _ ≤ 7293034; omega⟩ dL_law_232 ?_
        refine q_iload X 1 rfl dL_law_235 ?_
        refine q_icmp_eq X 242 (by decide) dL_law_237 (fun g41 => ?_) (fun g41 => ?_)
        · rw [if_pos g41] at h
          refine q_iload X 1 rfl dL_law_242 ?_
          refine q_if_ne X 259 (by decide) dL_law_244 (fun g42 => ?_) (fun g42 => ?_)
          · rw [if_neg g42] at h
            refine q_lv [2, 3, 4, 5, 6] rfl ?_
            exact w_L_law_259 X hr hl hlt hE hX hbl hbA hA (ih _ _ (by omega) (by omega)) _ _ _ _ _ h
          · rw [if_pos g42] at h
            refine q_aload_n X 5 rfl dL_law_247 ?_
            refine q_iconst X (0) (by decide) dL_law_248 ?_
            obtain ⟨a43, ea43, ma43, ka43, h⟩ := q_atE h
            obtain ⟨g44, h⟩ := q_ifE h
            refine q_laload X ea43 ma43 ka43 (q_inE g44) dL_law_249 ?_
            refine q_iload X 0 rfl dL_law_250 ?_
            refine q_i2l X dL_law_252 ?_
            refine q_lcmp X dL_law_253 ?_
            refine q_if_eq X 259 (by decide) dL_law_254 (fun g45 => ?_) (fun g45 => ?_)
            · rw [if_pos g45] at h
              refine q_lv [2, 3, 4, 5, 6] rfl ?_
              exact w_L_law_259 X hr hl hlt hE hX hbl hbA hA (ih _ _ (by omega) (by omega)) _ _ _ _ _ h
            · rw [if_neg g45] at h
              refine q_iconst X (0) (by decide) dL_law_257 ?_
              obtain ⟨ev, eS⟩ := q_end h
              exact q_lawret X hA hr hl ev (by omega) (by omega) dL_law_258
        · rw [if_neg g41] at h
          refine q_iconst X (0) (by decide) dL_law_240 ?_
          obtain ⟨ev, eS⟩ := q_end h
          exact q_lawret X hA hr hl ev (by omega) (by omega) dL_law_241
      rw [if_neg g3_2] at h
      by_cases g3_3 : ((xs (l4).toNatClampNeg) &&& (15 : Int32)) = 3
      · rw [if_pos g3_3] at h
        refine q_tableIn X 262 (by rw [g3_3]; decide) (by rw [g3_3]; decide) (off := 223) (by rw [g3_3]; decide) (by decide) dL_law_39 ?_
        refine q_aload_n X 1 rfl dL_law_262 ?_
        refine q_aload_n X 0 rfl dL_law_263 ?_
        refine q_iload X 4 rfl dL_law_264 ?_
        refine q_iconst X (1) (by decide) dL_law_266 ?_
        refine q_iadd X dL_law_267 ?_
        obtain ⟨g46, h⟩ := q_ifE h
        refine q_sld X hX hbl hbA (q_inE g46) dL_law_268 ?_
        obtain ⟨a47, ea47, ma47, ka47, h⟩ := q_atE h
        obtain ⟨r48, S49, c50, h⟩ := q_bE h
        refine q_cVJ X (As := [.int (xs (l4 + (1 : Int32)).toNatClampNeg)]) ea47 ma47 ka47 rfl (by decide) (c_X11_sum c50) (q_cwV X tK_X11_sum tM_L_48 tI_X11_sum tV_X11_sum tN_X11 rfl rfl tD_X11_sum ⟨Nat.le_of_ble_eq_true rfl, Nat.le_of_ble_eq_true rfl⟩) rfl rfl (by first | exact Nat.le_of_ble_eq_true rfl | (simp only [List.map, q_catR]; exact Nat.le_of_ble_eq_true rfl)) ⟨by show _ ≤ 601024; omega, by show _ ≤ 7293034; omega⟩ dL_law_269 ?_
        refine q_pop2 X dL_law_272 ?_
        refine q_aload_n X 2 rfl dL_law_273 ?_
        refine q_aload_n X 0 rfl dL_law_274 ?_
        refine q_iload X 4 rfl dL_law_275 ?_
        refine q_iconst X (1) (by decide) dL_law_277 ?_
        refine q_iadd X dL_law_278 ?_
        obtain ⟨g51, h⟩ := q_ifE h
        refine q_sld X hX hbl hbA (q_inE g51) dL_law_279 ?_
        obtain ⟨a52, ea52, ma52, ka52, h⟩ := q_atE h
        obtain ⟨r53, S54, c55, h⟩ := q_bE h
        refine q_cVJ X (As := [.int (xs (l4 + (1 : Int32)).toNatClampNeg)]) ea52 ma52 ka52 rfl (by decide) (c_X12_sum c55) (q_cwV X tK_X12_sum tM_L_52 tI_X12_sum tV_X12_sum tN_X12 rfl rfl tD_X12_sum ⟨Nat.le_of_ble_eq_true rfl, Nat.le_of_ble_eq_true rfl⟩) rfl rfl (by first | exact Nat.le_of_ble_eq_true rfl | (simp only [List.map, q_catR]; exact Nat.le_of_ble_eq_true rfl)) ⟨by show _ ≤ 601024; omega, by show _ ≤ 7293034; omega⟩ dL_law_280 ?_
        refine q_pop2 X dL_law_283 ?_
        refine q_goto X 604 (by decide) dL_law_284 ?_
        exact w_L_law_604 X hr hl hlt hE hX hbl hbA hA (ih _ _ (by omega) (by omega)) _ _ _ _ _ h
      rw [if_neg g3_3] at h
      by_cases g3_4 : ((xs (l4).toNatClampNeg) &&& (15 : Int32)) = 4
      · rw [if_pos g3_4] at h
        refine q_tableIn X 287 (by rw [g3_4]; decide) (by rw [g3_4]; decide) (off := 248) (by rw [g3_4]; decide) (by decide) dL_law_39 ?_
        refine q_aload_n X 1 rfl dL_law_287 ?_
        refine q_aload_n X 0 rfl dL_law_288 ?_
        refine q_iload X 4 rfl dL_law_289 ?_
        refine q_iconst X (1) (by decide) dL_law_291 ?_
        refine q_iadd X dL_law_292 ?_
        obtain ⟨g56, h⟩ := q_ifE h
        refine q_sld X hX hbl hbA (q_inE g56) dL_law_293 ?_
        obtain ⟨a57, ea57, ma57, ka57, h⟩ := q_atE h
        obtain ⟨r58, S59, c60, h⟩ := q_bE h
        refine q_cVI X (As := [.int (xs (l4 + (1 : Int32)).toNatClampNeg)]) ea57 ma57 ka57 rfl (by decide) (c_X11_count c60) (q_cwV X tK_X11_count tM_L_53 tI_X11_count tV_X11_count tN_X11 rfl rfl tD_X11_count ⟨Nat.le_of_ble_eq_true rfl, Nat.le_of_ble_eq_true rfl⟩) rfl rfl (by first | exact Nat.le_of_ble_eq_true rfl | (simp only [List.map, q_catR]; exact Nat.le_of_ble_eq_true rfl)) ⟨by show _ ≤ 601024; omega, by show _ ≤ 7293034; omega⟩ dL_law_294 ?_
        refine q_pop X rfl dL_law_297 ?_
        refine q_aload_n X 2 rfl dL_law_298 ?_
        refine q_aload_n X 0 rfl dL_law_299 ?_
        refine q_iload X 4 rfl dL_law_300 ?_
        refine q_iconst X (1) (by decide) dL_law_302 ?_
        refine q_iadd X dL_law_303 ?_
        obtain ⟨g61, h⟩ := q_ifE h
        refine q_sld X hX hbl hbA (q_inE g61) dL_law_304 ?_
        obtain ⟨a62, ea62, ma62, ka62, h⟩ := q_atE h
        obtain ⟨r63, S64, c65, h⟩ := q_bE h
        refine q_cVI X (As := [.int (xs (l4 + (1 : Int32)).toNatClampNeg)]) ea62 ma62 ka62 rfl (by decide) (c_X12_count c65) (q_cwV X tK_X12_count tM_L_57 tI_X12_count tV_X12_count tN_X12 rfl rfl tD_X12_count ⟨Nat.le_of_ble_eq_true rfl, Nat.le_of_ble_eq_true rfl⟩) rfl rfl (by first | exact Nat.le_of_ble_eq_true rfl | (simp only [List.map, q_catR]; exact Nat.le_of_ble_eq_true rfl)) ⟨by show _ ≤ 601024; omega, by show _ ≤ 7293034; omega⟩ dL_law_305 ?_
        refine q_pop X rfl dL_law_308 ?_
        refine q_goto X 604 (by decide) dL_law_309 ?_
        exact w_L_law_604 X hr hl hlt hE hX hbl hbA hA (ih _ _ (by omega) (by omega)) _ _ _ _ _ h
      rw [if_neg g3_4] at h
      by_cases g3_5 : ((xs (l4).toNatClampNeg) &&& (15 : Int32)) = 5
      · rw [if_pos g3_5] at h
        refine q_tableIn X 312 (by rw [g3_5]; decide) (by rw [g3_5]; decide) (off := 273) (by rw [g3_5]; decide) (by decide) dL_law_39 ?_
        refine q_aload_n X 1 rfl dL_law_312 ?_
        refine q_aload_n X 0 rfl dL_law_313 ?_
        refine q_iload X 4 rfl dL_law_314 ?_
        refine q_iconst X (1) (by decide) dL_law_316 ?_
        refine q_iadd X dL_law_317 ?_
        obtain ⟨g66, h⟩ := q_ifE h
        refine q_sld X hX hbl hbA (q_inE g66) dL_law_318 ?_
        obtain ⟨a67, ea67, ma67, ka67, h⟩ := q_atE h
        obtain ⟨r68, S69, c70, h⟩ := q_bE h
        refine q_cVI X (As := [.int (xs (l4 + (1 : Int32)).toNatClampNeg)]) ea67 ma67 ka67 rfl (by decide) (c_X11_map c70) (q_cwV X tK_X11_map tM_L_58 tI_X11_map tV_X11_map tN_X11 rfl rfl tD_X11_map ⟨Nat.le_of_ble_eq_true rfl, Nat.le_of_ble_eq_true rfl⟩) rfl rfl (by first | exact Nat.le_of_ble_eq_true rfl | (simp only [List.map, q_catR]; exact Nat.le_of_ble_eq_true rfl)) ⟨by show _ ≤ 601024; omega, by show _ ≤ 7293034; omega⟩ dL_law_319 ?_
        refine q_pop X rfl dL_law_322 ?_
        refine q_aload_n X 2 rfl dL_law_323 ?_
        refine q_aload_n X 0 rfl dL_law_324 ?_
        refine q_iload X 4 rfl dL_law_325 ?_
        refine q_iconst X (1) (by decide) dL_law_327 ?_
        refine q_iadd X dL_law_328 ?_
        obtain ⟨g71, h⟩ := q_ifE h
        refine q_sld X hX hbl hbA (q_inE g71) dL_law_329 ?_
        obtain ⟨a72, ea72, ma72, ka72, h⟩ := q_atE h
        obtain ⟨r73, S74, c75, h⟩ := q_bE h
        refine q_cVI X (As := [.int (xs (l4 + (1 : Int32)).toNatClampNeg)]) ea72 ma72 ka72 rfl (by decide) (c_X12_map c75) (q_cwV X tK_X12_map tM_L_61 tI_X12_map tV_X12_map tN_X12 rfl rfl tD_X12_map ⟨Nat.le_of_ble_eq_true rfl, Nat.le_of_ble_eq_true rfl⟩) rfl rfl (by first | exact Nat.le_of_ble_eq_true rfl | (simp only [List.map, q_catR]; exact Nat.le_of_ble_eq_true rfl)) ⟨by show _ ≤ 601024; omega, by show _ ≤ 7293034; omega⟩ dL_law_330 ?_
        refine q_pop X rfl dL_law_333 ?_
        refine q_goto X 604 (by decide) dL_law_334 ?_
        exact w_L_law_604 X hr hl hlt hE hX hbl hbA hA (ih _ _ (by omega) (by omega)) _ _ _ _ _ h
      rw [if_neg g3_5] at h
      by_cases g3_6 : ((xs (l4).toNatClampNeg) &&& (15 : Int32)) = 6
      · rw [if_pos g3_6] at h
        refine q_tableIn X 337 (by rw [g3_6]; decide) (by rw [g3_6]; decide) (off := 298) (by rw [g3_6]; decide) (by decide) dL_law_39 ?_
        refine q_aload_n X 1 rfl dL_law_337 ?_
        refine q_aload_n X 0 rfl dL_law_338 ?_
        refine q_iload X 4 rfl dL_law_339 ?_
        refine q_iconst X (1) (by decide) dL_law_341 ?_
        refine q_iadd X dL_law_342 ?_
        obtain ⟨g76, h⟩ := q_ifE h
        refine q_sld X hX hbl hbA (q_inE g76) dL_law_343 ?_
        obtain ⟨a77, ea77, ma77, ka77, h⟩ := q_atE h
        obtain ⟨r78, S79, c80, h⟩ := q_bE h
        refine q_cVI X (As := [.int (xs (l4 + (1 : Int32)).toNatClampNeg)]) ea77 ma77 ka77 rfl (by decide) (c_X11_run c80) (q_cwV X tK_X11_run tM_L_62 tI_X11_run tV_X11_run tN_X11 rfl rfl tD_X11_run ⟨Nat.le_of_ble_eq_true rfl, Nat.le_of_ble_eq_true rfl⟩) rfl rfl (by first | exact Nat.le_of_ble_eq_true rfl | (simp only [List.map, q_catR]; exact Nat.le_of_ble_eq_true rfl)) ⟨by show _ ≤ 601024; omega, by show _ ≤ 7293034; omega⟩ dL_law_344 ?_
        refine q_pop X rfl dL_law_347 ?_
        refine q_aload_n X 2 rfl dL_law_348 ?_
        refine q_aload_n X 0 rfl dL_law_349 ?_
        refine q_iload X 4 rfl dL_law_350 ?_
        refine q_iconst X (1) (by decide) dL_law_352 ?_
        refine q_iadd X dL_law_353 ?_
        obtain ⟨g81, h⟩ := q_ifE h
        refine q_sld X hX hbl hbA (q_inE g81) dL_law_354 ?_
        obtain ⟨a82, ea82, ma82, ka82, h⟩ := q_atE h
        obtain ⟨r83, S84, c85, h⟩ := q_bE h
        refine q_cVI X (As := [.int (xs (l4 + (1 : Int32)).toNatClampNeg)]) ea82 ma82 ka82 rfl (by decide) (c_X12_run c85) (q_cwV X tK_X12_run tM_L_65 tI_X12_run tV_X12_run tN_X12 rfl rfl tD_X12_run ⟨Nat.le_of_ble_eq_true rfl, Nat.le_of_ble_eq_true rfl⟩) rfl rfl (by first | exact Nat.le_of_ble_eq_true rfl | (simp only [List.map, q_catR]; exact Nat.le_of_ble_eq_true rfl)) ⟨by show _ ≤ 601024; omega, by show _ ≤ 7293034; omega⟩ dL_law_355 ?_
        refine q_pop X rfl dL_law_358 ?_
        refine q_goto X 604 (by decide) dL_law_359 ?_
        exact w_L_law_604 X hr hl hlt hE hX hbl hbA hA (ih _ _ (by omega) (by omega)) _ _ _ _ _ h
      rw [if_neg g3_6] at h
      by_cases g3_7 : ((xs (l4).toNatClampNeg) &&& (15 : Int32)) = 7
      · rw [if_pos g3_7] at h
        refine q_tableIn X 362 (by rw [g3_7]; decide) (by rw [g3_7]; decide) (off := 323) (by rw [g3_7]; decide) (by decide) dL_law_39 ?_
        refine q_aload_n X 1 rfl dL_law_362 ?_
        refine q_aload_n X 0 rfl dL_law_363 ?_
        refine q_iload X 4 rfl dL_law_364 ?_
        refine q_iconst X (1) (by decide) dL_law_366 ?_
        refine q_iadd X dL_law_367 ?_
        obtain ⟨g86, h⟩ := q_ifE h
        refine q_sld X hX hbl hbA (q_inE g86) dL_law_368 ?_
        refine q_aload_n X 0 rfl dL_law_369 ?_
        refine q_iload X 4 rfl dL_law_370 ?_
        refine q_iconst X (2) (by decide) dL_law_372 ?_
        refine q_iadd X dL_law_373 ?_
        obtain ⟨g87, h⟩ := q_ifE h
        refine q_sld X hX hbl hbA (q_inE g87) dL_law_374 ?_
        refine q_aload_n X 3 rfl dL_law_375 ?_
        obtain ⟨r88, S89, c90, h⟩ := q_bE h
        refine q_cSH X hE (As := [va_rf (l1), .int (xs (l4 + (1 : Int32)).toNatClampNeg), .int (xs (l4 + (2 : Int32)).toNatClampNeg), va_rf (l3)]) (c_L_piece hlt c90) tW_L_piece tM_L_66 tS_L_piece tN_L rfl rfl tD_L_piece ⟨Nat.le_of_ble_eq_true rfl, Nat.le_of_ble_eq_true rfl⟩ rfl rfl (by first | exact Nat.le_of_ble_eq_true rfl | (simp only [List.map, q_catR]; exact Nat.le_of_ble_eq_true rfl)) ⟨by show _ ≤ 601024; omega, by show _ ≤ 7293034; omega⟩ dL_law_376 ?_
        refine q_istore X 5 [(5, .int (r88)), (0, va_rf (some b)), (1, va_rf (l1)), (2, va_rf (l2)), (3, va_rf (l3)), (4, .int (l4))] (by decide) (by first | rfl | simp [List.filter, q_catR]) dL_law_379 ?_
        refine q_aload_n X 3 rfl dL_law_381 ?_
        refine q_aload_n X 1 rfl dL_law_382 ?_
        refine q_iload X 5 rfl dL_law_383 ?_
        refine q_iconst X (1) (by decide) dL_law_385 ?_
        refine q_iadd X dL_law_386 ?_
        obtain ⟨g91, h⟩ := q_ifE h
        refine q_sld X hX hbl hbA (q_inE g91) dL_law_387 ?_
        refine q_aload_n X 1 rfl dL_law_388 ?_
        refine q_iload X 5 rfl dL_law_389 ?_
        refine q_iconst X (2) (by decide) dL_law_391 ?_
        refine q_iadd X dL_law_392 ?_
        obtain ⟨g92, h⟩ := q_ifE h
        refine q_sld X hX hbl hbA (q_inE g92) dL_law_393 ?_
        obtain ⟨a93, ea93, ma93, ka93, h⟩ := q_atE h
        obtain ⟨r94, S95, c96, h⟩ := q_bE h
        refine q_cVI X (As := [.int (xs (l4 + (1 : Int32)).toNatClampNeg), .int (xs (l4 + (2 : Int32)).toNatClampNeg)]) ea93 ma93 ka93 rfl (by decide) (c_X12_piece_ c96) (q_cwV X tK_X12_piece_ tM_L_68 tI_X12_piece_ tV_X12_piece_ tN_X12 rfl rfl tD_X12_piece_ ⟨Nat.le_of_ble_eq_true rfl, Nat.le_of_ble_eq_true rfl⟩) rfl rfl (by first | exact Nat.le_of_ble_eq_true rfl | (simp only [List.map, q_catR]; exact Nat.le_of_ble_eq_true rfl)) ⟨by show _ ≤ 601024; omega, by show _ ≤ 7293034; omega⟩ dL_law_394 ?_
        refine q_istore X 6 [(6, .int (r94)), (5, .int (r88)), (0, va_rf (some b)), (1, va_rf (l1)), (2, va_rf (l2)), (3, va_rf (l3)), (4, .int (l4))] (by decide) (by first | rfl | simp [List.filter, q_catR]) dL_law_397 ?_
        refine q_goto X 604 (by decide) dL_law_399 ?_
        refine q_lv [2, 3, 4, 5, 6] rfl ?_
        exact w_L_law_604 X hr hl hlt hE hX hbl hbA hA (ih _ _ (by omega) (by omega)) _ _ _ _ _ h
      rw [if_neg g3_7] at h
      by_cases g3_8 : ((xs (l4).toNatClampNeg) &&& (15 : Int32)) = 8
      · rw [if_pos g3_8] at h
        refine q_tableIn X 402 (by rw [g3_8]; decide) (by rw [g3_8]; decide) (off := 363) (by rw [g3_8]; decide) (by decide) dL_law_39 ?_
        refine q_aload_n X 1 rfl dL_law_402 ?_
        refine q_aload_n X 0 rfl dL_law_403 ?_
        refine q_iload X 4 rfl dL_law_404 ?_
        refine q_iconst X (1) (by decide) dL_law_406 ?_
        refine q_iadd X dL_law_407 ?_
        obtain ⟨g97, h⟩ := q_ifE h
        refine q_sld X hX hbl hbA (q_inE g97) dL_law_408 ?_
        refine q_aload_n X 0 rfl dL_law_409 ?_
        refine q_iload X 4 rfl dL_law_410 ?_
        refine q_iconst X (2) (by decide) dL_law_412 ?_
        refine q_iadd X dL_law_413 ?_
        obtain ⟨g98, h⟩ := q_ifE h
        refine q_sld X hX hbl hbA (q_inE g98) dL_law_414 ?_
        refine q_aload_n X 3 rfl dL_law_415 ?_
        obtain ⟨r99, S100, c101, h⟩ := q_bE h
        refine q_cSH X hE (As := [va_rf (l1), .int (xs (l4 + (1 : Int32)).toNatClampNeg), .int (xs (l4 + (2 : Int32)).toNatClampNeg), va_rf (l3)]) (c_L_told hlt c101) tW_L_told tM_L_69 tS_L_told tN_L rfl rfl tD_L_told ⟨Nat.le_of_ble_eq_true rfl, Nat.le_of_ble_eq_true rfl⟩ rfl rfl (by first | exact Nat.le_of_ble_eq_true rfl | (simp only [List.map, q_catR]; exact Nat.le_of_ble_eq_true rfl)) ⟨by show _ ≤ 601024; omega, by show _ ≤ 7293034; omega⟩ dL_law_416 ?_
        refine q_istore X 5 [(5, .int (r99)), (0, va_rf (some b)), (1, va_rf (l1)), (2, va_rf (l2)), (3, va_rf (l3)), (4, .int (l4))] (by decide) (by first | rfl | simp [List.filter, q_catR]) dL_law_419 ?_
        refine q_aload_n X 3 rfl dL_law_421 ?_
        refine q_aload_n X 1 rfl dL_law_422 ?_
        refine q_iload X 5 rfl dL_law_423 ?_
        refine q_iconst X (1) (by decide) dL_law_425 ?_
        refine q_iadd X dL_law_426 ?_
        obtain ⟨g102, h⟩ := q_ifE h
        refine q_sld X hX hbl hbA (q_inE g102) dL_law_427 ?_
        refine q_aload_n X 1 rfl dL_law_428 ?_
        refine q_iload X 5 rfl dL_law_429 ?_
        refine q_iconst X (2) (by decide) dL_law_431 ?_
        refine q_iadd X dL_law_432 ?_
        obtain ⟨g103, h⟩ := q_ifE h
        refine q_sld X hX hbl hbA (q_inE g103) dL_law_433 ?_
        obtain ⟨a104, ea104, ma104, ka104, h⟩ := q_atE h
        obtain ⟨r105, S106, c107, h⟩ := q_bE h
        refine q_cVI X (As := [.int (xs (l4 + (1 : Int32)).toNatClampNeg), .int (xs (l4 + (2 : Int32)).toNatClampNeg)]) ea104 ma104 ka104 rfl (by decide) (c_X12_told c107) (q_cwV X tK_X12_told tM_L_71 tI_X12_told tV_X12_told tN_X12 rfl rfl tD_X12_told ⟨Nat.le_of_ble_eq_true rfl, Nat.le_of_ble_eq_true rfl⟩) rfl rfl (by first | exact Nat.le_of_ble_eq_true rfl | (simp only [List.map, q_catR]; exact Nat.le_of_ble_eq_true rfl)) ⟨by show _ ≤ 601024; omega, by show _ ≤ 7293034; omega⟩ dL_law_434 ?_
        refine q_istore X 6 [(6, .int (r105)), (5, .int (r99)), (0, va_rf (some b)), (1, va_rf (l1)), (2, va_rf (l2)), (3, va_rf (l3)), (4, .int (l4))] (by decide) (by first | rfl | simp [List.filter, q_catR]) dL_law_437 ?_
        refine q_goto X 604 (by decide) dL_law_439 ?_
        refine q_lv [2, 3, 4, 5, 6] rfl ?_
        exact w_L_law_604 X hr hl hlt hE hX hbl hbA hA (ih _ _ (by omega) (by omega)) _ _ _ _ _ h
      rw [if_neg g3_8] at h
      by_cases g3_9 : ((xs (l4).toNatClampNeg) &&& (15 : Int32)) = 9
      · rw [if_pos g3_9] at h
        refine q_tableIn X 442 (by rw [g3_9]; decide) (by rw [g3_9]; decide) (off := 403) (by rw [g3_9]; decide) (by decide) dL_law_39 ?_
        refine q_aload_n X 1 rfl dL_law_442 ?_
        refine q_aload_n X 0 rfl dL_law_443 ?_
        refine q_iload X 4 rfl dL_law_444 ?_
        refine q_iconst X (1) (by decide) dL_law_446 ?_
        refine q_iadd X dL_law_447 ?_
        obtain ⟨g108, h⟩ := q_ifE h
        refine q_sld X hX hbl hbA (q_inE g108) dL_law_448 ?_
        obtain ⟨a109, ea109, ma109, ka109, h⟩ := q_atE h
        obtain ⟨r110, S111, c112, h⟩ := q_bE h
        refine q_cVI X (As := [.int (xs (l4 + (1 : Int32)).toNatClampNeg)]) ea109 ma109 ka109 rfl (by decide) (c_X11_width c112) (q_cwV X tK_X11_width tM_L_72 tI_X11_width tV_X11_width tN_X11 rfl rfl tD_X11_width ⟨Nat.le_of_ble_eq_true rfl, Nat.le_of_ble_eq_true rfl⟩) rfl rfl (by first | exact Nat.le_of_ble_eq_true rfl | (simp only [List.map, q_catR]; exact Nat.le_of_ble_eq_true rfl)) ⟨by show _ ≤ 601024; omega, by show _ ≤ 7293034; omega⟩ dL_law_449 ?_
        refine q_pop X rfl dL_law_452 ?_
        refine q_aload_n X 2 rfl dL_law_453 ?_
        refine q_aload_n X 0 rfl dL_law_454 ?_
        refine q_iload X 4 rfl dL_law_455 ?_
        refine q_iconst X (1) (by decide) dL_law_457 ?_
        refine q_iadd X dL_law_458 ?_
        obtain ⟨g113, h⟩ := q_ifE h
        refine q_sld X hX hbl hbA (q_inE g113) dL_law_459 ?_
        obtain ⟨a114, ea114, ma114, ka114, h⟩ := q_atE h
        obtain ⟨r115, S116, c117, h⟩ := q_bE h
        refine q_cVI X (As := [.int (xs (l4 + (1 : Int32)).toNatClampNeg)]) ea114 ma114 ka114 rfl (by decide) (c_X12_width c117) (q_cwV X tK_X12_width tM_L_75 tI_X12_width tV_X12_width tN_X12 rfl rfl tD_X12_width ⟨Nat.le_of_ble_eq_true rfl, Nat.le_of_ble_eq_true rfl⟩) rfl rfl (by first | exact Nat.le_of_ble_eq_true rfl | (simp only [List.map, q_catR]; exact Nat.le_of_ble_eq_true rfl)) ⟨by show _ ≤ 601024; omega, by show _ ≤ 7293034; omega⟩ dL_law_460 ?_
        refine q_pop X rfl dL_law_463 ?_
        refine q_goto X 604 (by decide) dL_law_464 ?_
        exact w_L_law_604 X hr hl hlt hE hX hbl hbA hA (ih _ _ (by omega) (by omega)) _ _ _ _ _ h
      rw [if_neg g3_9] at h
      by_cases g3_10 : ((xs (l4).toNatClampNeg) &&& (15 : Int32)) = 10
      · rw [if_pos g3_10] at h
        refine q_tableIn X 467 (by rw [g3_10]; decide) (by rw [g3_10]; decide) (off := 428) (by rw [g3_10]; decide) (by decide) dL_law_39 ?_
        refine q_aload_n X 1 rfl dL_law_467 ?_
        refine q_aload_n X 0 rfl dL_law_468 ?_
        refine q_iload X 4 rfl dL_law_469 ?_
        refine q_iconst X (1) (by decide) dL_law_471 ?_
        refine q_iadd X dL_law_472 ?_
        obtain ⟨g118, h⟩ := q_ifE h
        refine q_sld X hX hbl hbA (q_inE g118) dL_law_473 ?_
        refine q_aload_n X 0 rfl dL_law_474 ?_
        refine q_iload X 4 rfl dL_law_475 ?_
        refine q_iconst X (2) (by decide) dL_law_477 ?_
        refine q_iadd X dL_law_478 ?_
        obtain ⟨g119, h⟩ := q_ifE h
        refine q_sld X hX hbl hbA (q_inE g119) dL_law_479 ?_
        obtain ⟨a120, ea120, ma120, ka120, h⟩ := q_atE h
        obtain ⟨r121, S122, c123, h⟩ := q_bE h
        refine q_cVI X (As := [.int (xs (l4 + (1 : Int32)).toNatClampNeg), .int (xs (l4 + (2 : Int32)).toNatClampNeg)]) ea120 ma120 ka120 rfl (by decide) (c_X11_kern c123) (q_cwV X tK_X11_kern tM_L_76 tI_X11_kern tV_X11_kern tN_X11 rfl rfl tD_X11_kern ⟨Nat.le_of_ble_eq_true rfl, Nat.le_of_ble_eq_true rfl⟩) rfl rfl (by first | exact Nat.le_of_ble_eq_true rfl | (simp only [List.map, q_catR]; exact Nat.le_of_ble_eq_true rfl)) ⟨by show _ ≤ 601024; omega, by show _ ≤ 7293034; omega⟩ dL_law_480 ?_
        refine q_pop X rfl dL_law_483 ?_
        refine q_aload_n X 2 rfl dL_law_484 ?_
        refine q_aload_n X 0 rfl dL_law_485 ?_
        refine q_iload X 4 rfl dL_law_486 ?_
        refine q_iconst X (1) (by decide) dL_law_488 ?_
        refine q_iadd X dL_law_489 ?_
        obtain ⟨g124, h⟩ := q_ifE h
        refine q_sld X hX hbl hbA (q_inE g124) dL_law_490 ?_
        refine q_aload_n X 0 rfl dL_law_491 ?_
        refine q_iload X 4 rfl dL_law_492 ?_
        refine q_iconst X (2) (by decide) dL_law_494 ?_
        refine q_iadd X dL_law_495 ?_
        obtain ⟨g125, h⟩ := q_ifE h
        refine q_sld X hX hbl hbA (q_inE g125) dL_law_496 ?_
        obtain ⟨a126, ea126, ma126, ka126, h⟩ := q_atE h
        obtain ⟨r127, S128, c129, h⟩ := q_bE h
        refine q_cVI X (As := [.int (xs (l4 + (1 : Int32)).toNatClampNeg), .int (xs (l4 + (2 : Int32)).toNatClampNeg)]) ea126 ma126 ka126 rfl (by decide) (c_X12_kern c129) (q_cwV X tK_X12_kern tM_L_79 tI_X12_kern tV_X12_kern tN_X12 rfl rfl tD_X12_kern ⟨Nat.le_of_ble_eq_true rfl, Nat.le_of_ble_eq_true rfl⟩) rfl rfl (by first | exact Nat.le_of_ble_eq_true rfl | (simp only [List.map, q_catR]; exact Nat.le_of_ble_eq_true rfl)) ⟨by show _ ≤ 601024; omega, by show _ ≤ 7293034; omega⟩ dL_law_497 ?_
        refine q_pop X rfl dL_law_500 ?_
        refine q_goto X 604 (by decide) dL_law_501 ?_
        exact w_L_law_604 X hr hl hlt hE hX hbl hbA hA (ih _ _ (by omega) (by omega)) _ _ _ _ _ h
      rw [if_neg g3_10] at h
      by_cases g3_11 : ((xs (l4).toNatClampNeg) &&& (15 : Int32)) = 11
      · rw [if_pos g3_11] at h
        refine q_tableIn X 504 (by rw [g3_11]; decide) (by rw [g3_11]; decide) (off := 465) (by rw [g3_11]; decide) (by decide) dL_law_39 ?_
        refine q_aload_n X 1 rfl dL_law_504 ?_
        refine q_aload_n X 0 rfl dL_law_505 ?_
        refine q_iload X 4 rfl dL_law_506 ?_
        refine q_iconst X (1) (by decide) dL_law_508 ?_
        refine q_iadd X dL_law_509 ?_
        obtain ⟨g130, h⟩ := q_ifE h
        refine q_sld X hX hbl hbA (q_inE g130) dL_law_510 ?_
        refine q_aload_n X 0 rfl dL_law_511 ?_
        refine q_iload X 4 rfl dL_law_512 ?_
        refine q_iconst X (2) (by decide) dL_law_514 ?_
        refine q_iadd X dL_law_515 ?_
        obtain ⟨g131, h⟩ := q_ifE h
        refine q_sld X hX hbl hbA (q_inE g131) dL_law_516 ?_
        obtain ⟨a132, ea132, ma132, ka132, h⟩ := q_atE h
        obtain ⟨r133, S134, c135, h⟩ := q_bE h
        refine q_cVJ X (As := [.int (xs (l4 + (1 : Int32)).toNatClampNeg), .int (xs (l4 + (2 : Int32)).toNatClampNeg)]) ea132 ma132 ka132 rfl (by decide) (c_X11_scaled c135) (q_cwV X tK_X11_scaled tM_L_80 tI_X11_scaled tV_X11_scaled tN_X11 rfl rfl tD_X11_scaled ⟨Nat.le_of_ble_eq_true rfl, Nat.le_of_ble_eq_true rfl⟩) rfl rfl (by first | exact Nat.le_of_ble_eq_true rfl | (simp only [List.map, q_catR]; exact Nat.le_of_ble_eq_true rfl)) ⟨by show _ ≤ 601024; omega, by show _ ≤ 7293034; omega⟩ dL_law_517 ?_
        refine q_pop2 X dL_law_520 ?_
        refine q_aload_n X 2 rfl dL_law_521 ?_
        refine q_aload_n X 0 rfl dL_law_522 ?_
        refine q_iload X 4 rfl dL_law_523 ?_
        refine q_iconst X (1) (by decide) dL_law_525 ?_
        refine q_iadd X dL_law_526 ?_
        obtain ⟨g136, h⟩ := q_ifE h
        refine q_sld X hX hbl hbA (q_inE g136) dL_law_527 ?_
        refine q_aload_n X 0 rfl dL_law_528 ?_
        refine q_iload X 4 rfl dL_law_529 ?_
        refine q_iconst X (2) (by decide) dL_law_531 ?_
        refine q_iadd X dL_law_532 ?_
        obtain ⟨g137, h⟩ := q_ifE h
        refine q_sld X hX hbl hbA (q_inE g137) dL_law_533 ?_
        obtain ⟨a138, ea138, ma138, ka138, h⟩ := q_atE h
        obtain ⟨r139, S140, c141, h⟩ := q_bE h
        refine q_cVJ X (As := [.int (xs (l4 + (1 : Int32)).toNatClampNeg), .int (xs (l4 + (2 : Int32)).toNatClampNeg)]) ea138 ma138 ka138 rfl (by decide) (c_X12_scaled c141) (q_cwV X tK_X12_scaled tM_L_84 tI_X12_scaled tV_X12_scaled tN_X12 rfl rfl tD_X12_scaled ⟨Nat.le_of_ble_eq_true rfl, Nat.le_of_ble_eq_true rfl⟩) rfl rfl (by first | exact Nat.le_of_ble_eq_true rfl | (simp only [List.map, q_catR]; exact Nat.le_of_ble_eq_true rfl)) ⟨by show _ ≤ 601024; omega, by show _ ≤ 7293034; omega⟩ dL_law_534 ?_
        refine q_pop2 X dL_law_537 ?_
        refine q_goto X 604 (by decide) dL_law_538 ?_
        exact w_L_law_604 X hr hl hlt hE hX hbl hbA hA (ih _ _ (by omega) (by omega)) _ _ _ _ _ h
      rw [if_neg g3_11] at h
      by_cases g3_12 : ((xs (l4).toNatClampNeg) &&& (15 : Int32)) = 12
      · rw [if_pos g3_12] at h
        refine q_tableIn X 541 (by rw [g3_12]; decide) (by rw [g3_12]; decide) (off := 502) (by rw [g3_12]; decide) (by decide) dL_law_39 ?_
        refine q_aload_n X 1 rfl dL_law_541 ?_
        refine q_aload_n X 0 rfl dL_law_542 ?_
        refine q_iload X 4 rfl dL_law_543 ?_
        refine q_iconst X (1) (by decide) dL_law_545 ?_
        refine q_iadd X dL_law_546 ?_
        obtain ⟨g142, h⟩ := q_ifE h
        refine q_sld X hX hbl hbA (q_inE g142) dL_law_547 ?_
        obtain ⟨a143, ea143, ma143, ka143, h⟩ := q_atE h
        obtain ⟨r144, S145, c146, h⟩ := q_bE h
        refine q_cVI X (As := [.int (xs (l4 + (1 : Int32)).toNatClampNeg)]) ea143 ma143 ka143 rfl (by decide) (c_X11_cut c146) (q_cwV X tK_X11_cut tM_L_85 tI_X11_cut tV_X11_cut tN_X11 rfl rfl tD_X11_cut ⟨Nat.le_of_ble_eq_true rfl, Nat.le_of_ble_eq_true rfl⟩) rfl rfl (by first | exact Nat.le_of_ble_eq_true rfl | (simp only [List.map, q_catR]; exact Nat.le_of_ble_eq_true rfl)) ⟨by show _ ≤ 601024; omega, by show _ ≤ 7293034; omega⟩ dL_law_548 ?_
        refine q_pop X rfl dL_law_551 ?_
        refine q_aload_n X 2 rfl dL_law_552 ?_
        refine q_aload_n X 0 rfl dL_law_553 ?_
        refine q_iload X 4 rfl dL_law_554 ?_
        refine q_iconst X (1) (by decide) dL_law_556 ?_
        refine q_iadd X dL_law_557 ?_
        obtain ⟨g147, h⟩ := q_ifE h
        refine q_sld X hX hbl hbA (q_inE g147) dL_law_558 ?_
        obtain ⟨a148, ea148, ma148, ka148, h⟩ := q_atE h
        obtain ⟨r149, S150, c151, h⟩ := q_bE h
        refine q_cVI X (As := [.int (xs (l4 + (1 : Int32)).toNatClampNeg)]) ea148 ma148 ka148 rfl (by decide) (c_X12_cut c151) (q_cwV X tK_X12_cut tM_L_88 tI_X12_cut tV_X12_cut tN_X12 rfl rfl tD_X12_cut ⟨Nat.le_of_ble_eq_true rfl, Nat.le_of_ble_eq_true rfl⟩) rfl rfl (by first | exact Nat.le_of_ble_eq_true rfl | (simp only [List.map, q_catR]; exact Nat.le_of_ble_eq_true rfl)) ⟨by show _ ≤ 601024; omega, by show _ ≤ 7293034; omega⟩ dL_law_559 ?_
        refine q_pop X rfl dL_law_562 ?_
        refine q_goto X 604 (by decide) dL_law_563 ?_
        exact w_L_law_604 X hr hl hlt hE hX hbl hbA hA (ih _ _ (by omega) (by omega)) _ _ _ _ _ h
      rw [if_neg g3_12] at h
      by_cases g3_13 : ((xs (l4).toNatClampNeg) &&& (15 : Int32)) = 13
      · rw [if_pos g3_13] at h
        refine q_tableIn X 566 (by rw [g3_13]; decide) (by rw [g3_13]; decide) (off := 527) (by rw [g3_13]; decide) (by decide) dL_law_39 ?_
        refine q_aload_n X 1 rfl dL_law_566 ?_
        obtain ⟨a152, ea152, ma152, ka152, h⟩ := q_atE h
        obtain ⟨r153, S154, c155, h⟩ := q_bE h
        refine q_cVI X (As := []) ea152 ma152 ka152 rfl (by decide) (c_X11_write c155) (q_cwV X tK_X11_write tM_L_89 tI_X11_write tV_X11_write tN_X11 rfl rfl tD_X11_write ⟨Nat.le_of_ble_eq_true rfl, Nat.le_of_ble_eq_true rfl⟩) rfl rfl (by first | exact Nat.le_of_ble_eq_true rfl | (simp only [List.map, q_catR]; exact Nat.le_of_ble_eq_true rfl)) ⟨by show _ ≤ 601024; omega, by show _ ≤ 7293034; omega⟩ dL_law_567 ?_
        refine q_pop X rfl dL_law_570 ?_
        refine q_aload_n X 2 rfl dL_law_571 ?_
        obtain ⟨a156, ea156, ma156, ka156, h⟩ := q_atE h
        obtain ⟨r157, S158, c159, h⟩ := q_bE h
        refine q_cVI X (As := []) ea156 ma156 ka156 rfl (by decide) (c_X12_write c159) (q_cwV X tK_X12_write tM_L_92 tI_X12_write tV_X12_write tN_X12 rfl rfl tD_X12_write ⟨Nat.le_of_ble_eq_true rfl, Nat.le_of_ble_eq_true rfl⟩) rfl rfl (by first | exact Nat.le_of_ble_eq_true rfl | (simp only [List.map, q_catR]; exact Nat.le_of_ble_eq_true rfl)) ⟨by show _ ≤ 601024; omega, by show _ ≤ 7293034; omega⟩ dL_law_572 ?_
        refine q_pop X rfl dL_law_575 ?_
        refine q_goto X 604 (by decide) dL_law_576 ?_
        exact w_L_law_604 X hr hl hlt hE hX hbl hbA hA (ih _ _ (by omega) (by omega)) _ _ _ _ _ h
      rw [if_neg g3_13] at h
      by_cases g3_14 : ((xs (l4).toNatClampNeg) &&& (15 : Int32)) = 14
      · rw [if_pos g3_14] at h
        refine q_tableIn X 579 (by rw [g3_14]; decide) (by rw [g3_14]; decide) (off := 540) (by rw [g3_14]; decide) (by decide) dL_law_39 ?_
        refine q_aload_n X 1 rfl dL_law_579 ?_
        refine q_aload_n X 0 rfl dL_law_580 ?_
        refine q_iload X 4 rfl dL_law_581 ?_
        refine q_iconst X (1) (by decide) dL_law_583 ?_
        refine q_iadd X dL_law_584 ?_
        obtain ⟨g160, h⟩ := q_ifE h
        refine q_sld X hX hbl hbA (q_inE g160) dL_law_585 ?_
        obtain ⟨a161, ea161, ma161, ka161, h⟩ := q_atE h
        obtain ⟨r162, S163, c164, h⟩ := q_bE h
        refine q_cVI X (As := [.int (xs (l4 + (1 : Int32)).toNatClampNeg)]) ea161 ma161 ka161 rfl (by decide) (c_X11_at c164) (q_cwV X tK_X11_at tM_L_93 tI_X11_at tV_X11_at tN_X11 rfl rfl tD_X11_at ⟨Nat.le_of_ble_eq_true rfl, Nat.le_of_ble_eq_true rfl⟩) rfl rfl (by first | exact Nat.le_of_ble_eq_true rfl | (simp only [List.map, q_catR]; exact Nat.le_of_ble_eq_true rfl)) ⟨by show _ ≤ 601024; omega, by show _ ≤ 7293034; omega⟩ dL_law_586 ?_
        refine q_pop X rfl dL_law_589 ?_
        refine q_aload_n X 2 rfl dL_law_590 ?_
        refine q_aload_n X 0 rfl dL_law_591 ?_
        refine q_iload X 4 rfl dL_law_592 ?_
        refine q_iconst X (1) (by decide) dL_law_594 ?_
        refine q_iadd X dL_law_595 ?_
        obtain ⟨g165, h⟩ := q_ifE h
        refine q_sld X hX hbl hbA (q_inE g165) dL_law_596 ?_
        obtain ⟨a166, ea166, ma166, ka166, h⟩ := q_atE h
        obtain ⟨r167, S168, c169, h⟩ := q_bE h
        refine q_cVI X (As := [.int (xs (l4 + (1 : Int32)).toNatClampNeg)]) ea166 ma166 ka166 rfl (by decide) (c_X12_at c169) (q_cwV X tK_X12_at tM_L_96 tI_X12_at tV_X12_at tN_X12 rfl rfl tD_X12_at ⟨Nat.le_of_ble_eq_true rfl, Nat.le_of_ble_eq_true rfl⟩) rfl rfl (by first | exact Nat.le_of_ble_eq_true rfl | (simp only [List.map, q_catR]; exact Nat.le_of_ble_eq_true rfl)) ⟨by show _ ≤ 601024; omega, by show _ ≤ 7293034; omega⟩ dL_law_597 ?_
        refine q_pop X rfl dL_law_600 ?_
        refine q_goto X 604 (by decide) dL_law_601 ?_
        exact w_L_law_604 X hr hl hlt hE hX hbl hbA hA (ih _ _ (by omega) (by omega)) _ _ _ _ _ h
      rw [if_neg g3_14] at h
      obtain ⟨g170, h⟩ := q_ifE h
      refine q_tableOut X 604 g170 (by decide) dL_law_39 ?_
      exact w_L_law_604 X hr hl hlt hE hX hbl hbA hA (ih _ _ (by omega) (by omega)) _ _ _ _ _ h
end MM
