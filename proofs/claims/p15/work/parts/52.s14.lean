def M_X2_traceContour_36_15 : List Nat := [2305, 2306, 2307, 2368]
set_option maxHeartbeats 4000000 in
set_option maxRecDepth 100000 in
theorem s_X2_traceContour_36_15_61 {ρ : Nat → Nat} {L : List Nat} {n : Nat} (hn : 18446744073709551616 ≤ n) {S0 : q_S}  : ∀ (k : Nat) (S : q_S) (l0 : Option Nat) (l1 : Option Nat) (l2 : Int32) (l3 : Int32) (l4 : Int32) (l5 : Int32) (l6 : Int32) (l7 : Int32), q_G ρ L M_X2_traceContour_36_15 S0 S → q_tr ρ L l0 36 → q_tr ρ L l1 15 → (0 ≤ l2.toInt ∧ l2.toInt ≤ 119) → (0 ≤ l3.toInt ∧ l3.toInt ≤ 118) → (1 ≤ l4.toInt ∧ l4.toInt ≤ 119) → (2 ≤ l5.toInt ∧ l5.toInt ≤ 120) → (-118 ≤ l6.toInt ∧ l6.toInt ≤ 119) → (0 ≤ l7.toInt ∧ l7.toInt ≤ 120) → 2147483648 - l7.toInt ≤ (k : Int) → q_ok (m_X2_traceContour_61 n k S l0 l1 l2 l3 l4 l5 l6 l7) (fun _ T => q_G ρ L M_X2_traceContour_36_15 S0 T) := by
  intro k
  induction k with
  | zero =>
    intro S l0 l1 l2 l3 l4 l5 l6 l7 hG hl0 hl1 hl2 hl3 hl4 hl5 hl6 hl7 hm
    have f0 := q_rngI l7
    exfalso; omega
  | succ k ih =>
    intro S l0 l1 l2 l3 l4 l5 l6 l7 hG hl0 hl1 hl2 hl3 hl4 hl5 hl6 hl7 hm
    rw [m_X2_traceContour_61]
    have z0 : (0 : Int32).toInt = 0 := rfl
    refine q_ok_ite (fun g1 => ?_) (fun g1 => ?_)
    · have f2 := q_leV q_evr q_evr (q_p_ge g1)
      exact q_ok_some hG
    · have f3 := q_ltV q_evr q_evr (q_n_ge g1)
      refine q_ok_if (q_ne0VI q_evr (by omega)) ?_
      obtain ⟨v4, ev4⟩ := q_ev ((l3 + ((l6 + l7) - (l6 + l7) / l5 * l5)).toInt)
      obtain ⟨v5, ev5⟩ := q_ev (((l6 + l7) - (l6 + l7) / l5 * l5).toInt)
      have f6 := q_rVI (x := (l6 + l7) - (l6 + l7) / l5 * l5) ev5
      have f7 := q_rVI (x := l3 + ((l6 + l7) - (l6 + l7) / l5 * l5)) ev4
      refine q_ok_ite (fun g8 => ?_) (fun g8 => ?_)
      · have f9 := q_eqV ev4 q_evr (q_p_eq g8)
        unfold m_X2_traceContour_100
        refine q_ok_at hG hl0 rfl (fun a10 ma10 ra10 ea10 => ?_)
        refine q_ok_b (s_X2_tracePoint_36_15 hn hG.1 ma10 ra10 hl1 (q_wd hl2 (by decide) (by decide))) (fun r11 S12 h13 => ?_)
        have hG := q_G_call hG h13 (by decide)
        obtain ⟨v14, ev14⟩ := q_ev ((l7 + (1)).toInt)
        have f15 : v14 = l7.toInt + (1) := q_addVI ev14 q_evr (show q_eqv ((1 : Int32)).toInt (1) by unfold q_eqv; decide) (by omega) (by omega)
        exact ih _ _ _ _ _ _ _ _ _ hG hl0 hl1 (q_wd hl2 (by decide) (by decide)) (q_wd hl3 (by decide) (by decide)) (q_wd hl4 (by decide) (by decide)) (q_wd hl5 (by decide) (by decide)) (q_wd hl6 (by decide) (by decide)) (q_oV ev14 (by omega) (by omega))  (q_upV ev14 (by omega))
      · have f16 := q_neV ev4 q_evr (q_n_eq g8)
        unfold m_X2_traceContour_100
        refine q_ok_at hG hl0 rfl (fun a17 ma17 ra17 ea17 => ?_)
        refine q_ok_b (s_X2_tracePoint_36_15 hn hG.1 ma17 ra17 hl1 (q_wd hl2 (by decide) (by decide))) (fun r18 S19 h20 => ?_)
        have hG := q_G_call hG h20 (by decide)
        obtain ⟨v21, ev21⟩ := q_ev ((l7 + (1)).toInt)
        have f22 : v21 = l7.toInt + (1) := q_addVI ev21 q_evr (show q_eqv ((1 : Int32)).toInt (1) by unfold q_eqv; decide) (by omega) (by omega)
        exact ih _ _ _ _ _ _ _ _ _ hG hl0 hl1 (q_wd hl2 (by decide) (by decide)) (q_wd hl3 (by decide) (by decide)) (q_wd hl4 (by decide) (by decide)) (q_wd hl5 (by decide) (by decide)) (q_wd hl6 (by decide) (by decide)) (q_oV ev21 (by omega) (by omega))  (q_upV ev21 (by omega))
set_option maxHeartbeats 4000000 in
set_option maxRecDepth 100000 in
theorem s_X2_traceContour_36_15 {ρ : Nat → Nat} {L : List Nat} {n : Nat} (hn : 18446744073709551616 ≤ n) {S : q_S} (hI : q_Inv ρ L S) {o : Nat} (mo : o ∈ L) (ro : ρ o = 36) {p0 : Option Nat} (tp0 : q_tr ρ L p0 15) {p1 : Int32} (hp1 : (0 ≤ p1.toInt ∧ p1.toInt ≤ 119)) {p2 : Int32} (hp2 : (0 ≤ p2.toInt ∧ p2.toInt ≤ 120)) {p3 : Int32} (hp3 : (-1 ≤ p3.toInt ∧ p3.toInt ≤ 119)) : q_ok (m_X2_traceContour n S o p0 p1 p2 p3) (fun _ T => q_G ρ L M_X2_traceContour_36_15 S T) := by
  have hG : q_G ρ L M_X2_traceContour_36_15 S S := q_G_refl hI
  unfold m_X2_traceContour
  have z0 : (0 : Int32).toInt = 0 := rfl
  obtain ⟨v1, ev1⟩ := q_ev (((p3 - p2) + (1 : Int32)).toInt)
  obtain ⟨v2, ev2⟩ := q_ev ((p3 - p2).toInt)
  have f3 : v2 = p3.toInt - p2.toInt := q_subVI ev2 q_evr q_evr (by omega) (by omega)
  have f4 : v1 = v2 + (1) := q_addVI ev1 ev2 (show q_eqv ((1 : Int32)).toInt (1) by unfold q_eqv; decide) (by omega) (by omega)
  refine q_ok_ite (fun g5 => ?_) (fun g5 => ?_)
  · have f6 := q_leV (show q_eqv ((2 : Int32)).toInt (2) by unfold q_eqv; decide) ev1 (q_p_ge g5)
    refine q_ok_at hG tp0 rfl (fun a7 ma7 ra7 ea7 => ?_)
    refine q_ok_b (s_X3_x_15 hn hG.1 ma7 ra7) (fun r8 S9 h10 => ?_)
    have eS9 := h10
    replace eS9 := eS9.symm
    subst eS9
    refine q_ok_atA hG ea7 ma7 ra7 rfl ?_
    refine q_ok_b (s_X3_x_15 hn hG.1 ma7 ra7) (fun r11 S12 h13 => ?_)
    have eS12 := h13
    replace eS12 := eS12.symm
    subst eS12
    refine q_ok_atS hG (q_trI mo ro) rfl (fun mo ro => ?_)
    have hG := u_36_I2 (x := r8 + r11) hG mo ro (by decide)
    refine q_ok_atA hG ea7 ma7 ra7 rfl ?_
    refine q_ok_b (s_X3_y_15 hn hG.1 ma7 ra7) (fun r14 S15 h16 => ?_)
    have eS15 := h16
    replace eS15 := eS15.symm
    subst eS15
    refine q_ok_atA hG ea7 ma7 ra7 rfl ?_
    refine q_ok_b (s_X3_y_15 hn hG.1 ma7 ra7) (fun r17 S18 h19 => ?_)
    have eS18 := h19
    replace eS18 := eS18.symm
    subst eS18
    refine q_ok_atS hG (q_trI mo ro) rfl (fun mo ro => ?_)
    have hG := u_36_I3 (x := r14 + r17) hG mo ro (by decide)
    refine q_ok_b (s_X2_firstOn_15 hn hG.1 tp0 (q_oV q_evr (by omega) (by omega)) (q_oV q_evr (by omega) (by omega))) (fun r20 S21 h22 => ?_)
    obtain ⟨eS21, h22⟩ := h22
    replace eS21 := eS21.symm
    subst eS21
    have f23 := h22
    obtain ⟨v24, ev24⟩ := q_ev ((r20 - p2).toInt)
    have f25 : v24 = r20.toInt - p2.toInt := q_subVI ev24 q_evr q_evr (by omega) (by omega)
    exact s_X2_traceContour_36_15_61 hn n _ _ _ _ _ _ _ _ _ hG (q_trI mo ro) tp0 (q_wd hp1 (by decide) (by decide)) (q_oV q_evr (by omega) (by omega)) (q_oV q_evr (by omega) (by omega)) (q_oV ev1 (by omega) (by omega)) (q_oV ev24 (by omega) (by omega)) (q_wd (show (0 : Int) ≤ (0 : Int32).toInt ∧ (0 : Int32).toInt ≤ (0 : Int) by decide) (by decide) (by decide))  (q_upV (show q_eqv ((0 : Int32)).toInt (0) by unfold q_eqv; decide) (by omega))
  · have f26 := q_ltV ev1 (show q_eqv ((2 : Int32)).toInt (2) by unfold q_eqv; decide) (q_n_ge g5)
    exact q_ok_some hG
set_option maxHeartbeats 4000000 in
set_option maxRecDepth 100000 in
theorem s_X3_lastOf_15 {ρ : Nat → Nat} {L : List Nat} {n : Nat} (hn : 18446744073709551616 ≤ n) {S : q_S} (hI : q_Inv ρ L S) {o : Nat} (mo : o ∈ L) (ro : ρ o = 15) {p0 : Int32} (hp0 : (0 ≤ p0.toInt ∧ p0.toInt ≤ 119)) : q_ok (m_X3_lastOf n S o p0) (fun r T => T = S ∧ (-1 ≤ r.toInt ∧ r.toInt ≤ 119)) := by
  have hG : q_G ρ L [] S S := q_G_refl hI
  unfold m_X3_lastOf
  have z0 : (0 : Int32).toInt = 0 := rfl
  refine q_ok_ite (fun g1 => ?_) (fun g1 => ?_)
  · have f2 := q_ltV q_evr (show q_eqv ((0 : Int32)).toInt (0) by unfold q_eqv; decide) (q_p_lt g1)
    exfalso; omega
  · have f3 := q_leV (show q_eqv ((0 : Int32)).toInt (0) by unfold q_eqv; decide) q_evr (q_n_lt g1)
    refine q_ok_atS hG (q_trI mo ro) rfl (fun mo ro => ?_)
    have f4 : q_sm _ := g_15_I5 hG mo ro
    obtain ⟨v5, ev5⟩ := q_ev ((q_I (S) o 5).toInt)
    have f6 := q_bV ev5 f4
    refine q_ok_ite (fun g7 => ?_) (fun g7 => ?_)
    · have f8 := q_leV ev5 q_evr (q_p_ge g7)
      unfold m_X3_lastOf_21
      unfold m_X3_lastOf_22
      exact q_ok_some ⟨rfl, (q_wd (show (-1 : Int) ≤ (-1 : Int32).toInt ∧ (-1 : Int32).toInt ≤ (-1 : Int) by decide) (by decide) (by decide))⟩
    · have f9 := q_ltV q_evr ev5 (q_n_ge g7)
      have t10 := g_15_R3 hG mo ro
      refine q_ok_at hG t10 rfl (fun a11 ma11 ra11 ea11 => ?_)
      refine q_ok_if (q_inV (g_19_N hG ma11 ra11) q_evr (by omega) (by omega)) ?_
      have f12 : q_sm _ := g_19_E hG ma11 ra11 (k := (p0).toNatClampNeg)
      unfold m_X3_lastOf_22
      exact q_ok_some ⟨rfl, (q_wd f12 (by decide) (by decide))⟩
def M_X2_trace_36_15 : List Nat := [2305, 2306, 2307, 2368]
set_option maxHeartbeats 4000000 in
set_option maxRecDepth 100000 in
theorem s_X2_trace_36_15_9 {ρ : Nat → Nat} {L : List Nat} {n : Nat} (hn : 18446744073709551616 ≤ n) {S0 : q_S}  : ∀ (k : Nat) (S : q_S) (l0 : Option Nat) (l1 : Option Nat) (l2 : Int32) (l3 : Int32), q_G ρ L M_X2_trace_36_15 S0 S → q_tr ρ L l0 36 → q_tr ρ L l1 15 → (0 ≤ l2.toInt ∧ l2.toInt ≤ 120) → (0 ≤ l3.toInt ∧ l3.toInt ≤ 120) → 2147483648 - l3.toInt ≤ (k : Int) → q_ok (m_X2_trace_9 n k S l0 l1 l2 l3) (fun _ T => q_G ρ L M_X2_trace_36_15 S0 T) := by
  intro k
  induction k with
  | zero =>
    intro S l0 l1 l2 l3 hG hl0 hl1 hl2 hl3 hm
    have f0 := q_rngI l3
    exfalso; omega
  | succ k ih =>
    intro S l0 l1 l2 l3 hG hl0 hl1 hl2 hl3 hm
    rw [m_X2_trace_9]
    have z0 : (0 : Int32).toInt = 0 := rfl
    refine q_ok_at hG hl1 rfl (fun a1 ma1 ra1 ea1 => ?_)
    refine q_ok_b (s_X3_contours_15 hn hG.1 ma1 ra1) (fun r2 S3 h4 => ?_)
    obtain ⟨eS3, h4⟩ := h4
    replace eS3 := eS3.symm
    subst eS3
    have f5 := h4
    refine q_ok_ite (fun g6 => ?_) (fun g6 => ?_)
    · have f7 := q_leV q_evr q_evr (q_p_ge g6)
      exact q_ok_some hG
    · have f8 := q_ltV q_evr q_evr (q_n_ge g6)
      refine q_ok_atA hG ea1 ma1 ra1 rfl ?_
      refine q_ok_b (s_X3_lastOf_15 hn hG.1 ma1 ra1 (q_oV q_evr (by omega) (by omega))) (fun r9 S10 h11 => ?_)
      obtain ⟨eS10, h11⟩ := h11
      replace eS10 := eS10.symm
      subst eS10
      have f12 := h11
      refine q_ok_at hG hl0 rfl (fun a13 ma13 ra13 ea13 => ?_)
      refine q_ok_b (s_X2_traceContour_36_15 hn hG.1 ma13 ra13 hl1 (q_oV q_evr (by omega) (by omega)) (q_wd hl2 (by decide) (by decide)) (q_wd f12 (by decide) (by decide))) (fun r14 S15 h16 => ?_)
      have hG := q_G_call hG h16 (by decide)
      obtain ⟨v17, ev17⟩ := q_ev ((l3 + (1)).toInt)
      have f18 : v17 = l3.toInt + (1) := q_addVI ev17 q_evr (show q_eqv ((1 : Int32)).toInt (1) by unfold q_eqv; decide) (by omega) (by omega)
      exact ih _ _ _ _ _ hG hl0 hl1 (q_wd (q_addBI (0) (120) f12 (show (1 : Int) ≤ (1 : Int32).toInt ∧ (1 : Int32).toInt ≤ (1 : Int) by decide) (by decide) (by decide) (by decide) (by decide)) (by decide) (by decide)) (q_oV ev17 (by omega) (by omega))  (q_upV ev17 (by omega))
set_option maxHeartbeats 4000000 in
set_option maxRecDepth 100000 in
theorem s_X2_trace_36_15 {ρ : Nat → Nat} {L : List Nat} {n : Nat} (hn : 18446744073709551616 ≤ n) {S : q_S} (hI : q_Inv ρ L S) {o : Nat} (mo : o ∈ L) (ro : ρ o = 36) {p0 : Option Nat} (tp0 : q_tr ρ L p0 15) : q_ok (m_X2_trace n S o p0) (fun _ T => q_G ρ L M_X2_trace_36_15 S T) := by
  have hG : q_G ρ L M_X2_trace_36_15 S S := q_G_refl hI
  unfold m_X2_trace
  have z0 : (0 : Int32).toInt = 0 := rfl
  refine q_ok_atS hG (q_trI mo ro) rfl (fun mo ro => ?_)
  have hG := u_36_I1 (x := (0 : Int32)) hG mo ro (by decide) (q_wd (show (0 : Int) ≤ (0 : Int32).toInt ∧ (0 : Int32).toInt ≤ (0 : Int) by decide) (by decide) (by decide))
  exact s_X2_trace_36_15_9 hn n _ _ _ _ _ hG (q_trI mo ro) tp0 (q_wd (show (0 : Int) ≤ (0 : Int32).toInt ∧ (0 : Int32).toInt ≤ (0 : Int) by decide) (by decide) (by decide)) (q_wd (show (0 : Int) ≤ (0 : Int32).toInt ∧ (0 : Int32).toInt ≤ (0 : Int) by decide) (by decide) (by decide))  (q_upV (show q_eqv ((0 : Int32)).toInt (0) by unfold q_eqv; decide) (by omega))
def M_X3_keep_15 : List Nat := [964, 965]
set_option maxHeartbeats 4000000 in
set_option maxRecDepth 100000 in
theorem s_X3_keep_15 {ρ : Nat → Nat} {L : List Nat} {n : Nat} (hn : 18446744073709551616 ≤ n) {S : q_S} (hI : q_Inv ρ L S) {o : Nat} (mo : o ∈ L) (ro : ρ o = 15) {p0 : Int32} (hp0 : (0 ≤ p0.toInt ∧ p0.toInt ≤ 120)) {p1 : Int32} (hp1 : (0 ≤ p1.toInt ∧ p1.toInt ≤ 120)) : q_ok (m_X3_keep n S o p0 p1) (fun _ T => q_G ρ L M_X3_keep_15 S T) := by
  have hG : q_G ρ L M_X3_keep_15 S S := q_G_refl hI
  unfold m_X3_keep
  have z0 : (0 : Int32).toInt = 0 := rfl
  refine q_ok_atS hG (q_trI mo ro) rfl (fun mo ro => ?_)
  have f1 : q_sm _ := g_15_I4 hG mo ro
  obtain ⟨v5, ev5⟩ := q_ev ((q_I (S) o 4).toInt)
  have f6 := q_bV ev5 f1
  refine q_ok_b (s_J9_min_7cf53 n _ _ _) (fun r2 S3 h4 => ?_)
  obtain ⟨eS3, h4⟩ := h4
  replace h4 := q_mmVN ev5 q_evr h4
  replace eS3 := eS3.symm
  subst eS3
  refine q_ok_b (s_J9_max_7cf53 n _ _ _) (fun r7 S8 h9 => ?_)
  obtain ⟨eS8, h9⟩ := h9
  replace h9 := q_mmVX (show q_eqv ((0 : Int32)).toInt (0) by unfold q_eqv; decide) q_evr h9
  replace eS8 := eS8.symm
  subst eS8
  refine q_ok_atS hG (q_trI mo ro) rfl (fun mo ro => ?_)
  have hG := u_15_I4 (x := r7) hG mo ro (by decide) (q_oV q_evr (by omega) (by omega))
  have f10 : q_sm _ := g_15_I5 hG mo ro
  obtain ⟨v14, ev14⟩ := q_ev ((q_I (q_sI (S) o 4 (r7)) o 5).toInt)
  have f15 := q_bV ev14 f10
  refine q_ok_b (s_J9_min_7cf53 n _ _ _) (fun r11 S12 h13 => ?_)
  obtain ⟨eS12, h13⟩ := h13
  replace h13 := q_mmVN ev14 q_evr h13
  replace eS12 := eS12.symm
  subst eS12
  refine q_ok_b (s_J9_max_7cf53 n _ _ _) (fun r16 S17 h18 => ?_)
  obtain ⟨eS17, h18⟩ := h18
  replace h18 := q_mmVX (show q_eqv ((0 : Int32)).toInt (0) by unfold q_eqv; decide) q_evr h18
  replace eS17 := eS17.symm
  subst eS17
  refine q_ok_atS hG (q_trI mo ro) rfl (fun mo ro => ?_)
  have hG := u_15_I5 (x := r16) hG mo ro (by decide) (q_oV q_evr (by omega) (by omega))
  exact q_ok_some hG
set_option maxHeartbeats 4000000 in
set_option maxRecDepth 100000 in
theorem s_X1_hasParts_30 {ρ : Nat → Nat} {L : List Nat} {n : Nat} (hn : 18446744073709551616 ≤ n) {S : q_S} (hI : q_Inv ρ L S) {o : Nat} (mo : o ∈ L) (ro : ρ o = 30) : q_ok (m_X1_hasParts n S o) (fun r T => T = S ∧ (0 ≤ r.toInt ∧ r.toInt ≤ 1) ∧ q_sm ((r.toInt = 0 → (0 : Int32).toInt ≤ (q_I (S) o 5).toInt) ∧ (r.toInt = 1 → (q_I (S) o 5).toInt < (0 : Int32).toInt))) := by
  have hG : q_G ρ L [] S S := q_G_refl hI
  unfold m_X1_hasParts
  have z0 : (0 : Int32).toInt = 0 := rfl
  refine q_ok_atS hG (q_trI mo ro) rfl (fun mo ro => ?_)
  have f1 : q_sm _ := g_30_I5 hG mo ro
  obtain ⟨v2, ev2⟩ := q_ev ((q_I (S) o 5).toInt)
  have f3 := q_bV ev2 f1
  refine q_ok_ite (fun g4 => ?_) (fun g4 => ?_)
  · have f5 := q_leV (show q_eqv ((0 : Int32)).toInt (0) by unfold q_eqv; decide) ev2 (q_p_ge g4)
    unfold m_X1_hasParts_12
    refine q_ok_if (q_b01V (show q_eqv ((0 : Int32)).toInt (0) by unfold q_eqv; decide) (by omega) (by omega)) ?_
    exact q_ok_some ⟨rfl, (q_wd (show (0 : Int) ≤ (0 : Int32).toInt ∧ (0 : Int32).toInt ≤ (0 : Int) by decide) (by decide) (by decide)), ⟨fun _ => (q_geW ev2 (show q_eqv ((0 : Int32)).toInt (0) by unfold q_eqv; decide) (by omega)), fun h9 => absurd h9 (by decide)⟩⟩
  · have f6 := q_ltV ev2 (show q_eqv ((0 : Int32)).toInt (0) by unfold q_eqv; decide) (q_n_ge g4)
    unfold m_X1_hasParts_12
    refine q_ok_if (q_b01V (show q_eqv ((1 : Int32)).toInt (1) by unfold q_eqv; decide) (by omega) (by omega)) ?_
    exact q_ok_some ⟨rfl, (q_wd (show (1 : Int) ≤ (1 : Int32).toInt ∧ (1 : Int32).toInt ≤ (1 : Int) by decide) (by decide) (by decide)), ⟨fun h9 => absurd h9 (by decide), fun _ => (q_ltW ev2 (show q_eqv ((0 : Int32)).toInt (0) by unfold q_eqv; decide) (by omega))⟩⟩
set_option maxHeartbeats 4000000 in
set_option maxRecDepth 100000 in
theorem s_X1_isEmpty_30 {ρ : Nat → Nat} {L : List Nat} {n : Nat} (hn : 18446744073709551616 ≤ n) {S : q_S} (hI : q_Inv ρ L S) {o : Nat} (mo : o ∈ L) (ro : ρ o = 30) : q_ok (m_X1_isEmpty n S o) (fun r T => T = S ∧ (0 ≤ r.toInt ∧ r.toInt ≤ 1)) := by
  have hG : q_G ρ L [] S S := q_G_refl hI
  unfold m_X1_isEmpty
  have z0 : (0 : Int32).toInt = 0 := rfl
  refine q_ok_atS hG (q_trI mo ro) rfl (fun mo ro => ?_)
  have f1 : q_sm _ := g_30_I1 hG mo ro
  obtain ⟨v2, ev2⟩ := q_ev ((q_I (S) o 1).toInt)
  have f3 := q_bV ev2 f1
  refine q_ok_if (q_b01V ev2 (by omega) (by omega)) ?_
  exact q_ok_some ⟨rfl, (q_wd f1 (by decide) (by decide))⟩
set_option maxHeartbeats 4000000 in
set_option maxRecDepth 100000 in
theorem s_X1_isPast_30 {ρ : Nat → Nat} {L : List Nat} {n : Nat} (hn : 18446744073709551616 ≤ n) {S : q_S} (hI : q_Inv ρ L S) {o : Nat} (mo : o ∈ L) (ro : ρ o = 30) : q_ok (m_X1_isPast n S o) (fun r T => T = S ∧ (0 ≤ r.toInt ∧ r.toInt ≤ 1)) := by
  have hG : q_G ρ L [] S S := q_G_refl hI
  unfold m_X1_isPast
  have z0 : (0 : Int32).toInt = 0 := rfl
  refine q_ok_atS hG (q_trI mo ro) rfl (fun mo ro => ?_)
  have f1 : q_sm _ := g_30_I2 hG mo ro
  obtain ⟨v2, ev2⟩ := q_ev ((q_I (S) o 2).toInt)
  have f3 := q_bV ev2 f1
  refine q_ok_if (q_b01V ev2 (by omega) (by omega)) ?_
  exact q_ok_some ⟨rfl, (q_wd f1 (by decide) (by decide))⟩
def M_X1_skip_30 : List Nat := [1922, 1923]
set_option maxHeartbeats 4000000 in
set_option maxRecDepth 100000 in
theorem s_X1_skip_30 {ρ : Nat → Nat} {L : List Nat} {n : Nat} (hn : 18446744073709551616 ≤ n) {S : q_S} (hI : q_Inv ρ L S) {o : Nat} (mo : o ∈ L) (ro : ρ o = 30) {p0 : Int32} (hp0 : (0 ≤ p0.toInt ∧ p0.toInt ≤ 65535)) (ht : (q_J S o 3).toInt ≤ 140739635838976) : q_ok (m_X1_skip n S o p0) (fun _ T => q_G ρ L M_X1_skip_30 S T ∧ q_sm ((q_J T o 3).toInt ≤ (q_J S o 3).toInt + 65535)) := by
  have hG : q_G ρ L M_X1_skip_30 S S := q_G_refl hI
  unfold m_X1_skip
  have z0 : (0 : Int32).toInt = 0 := rfl
  have f1 : q_sm _ := g_30_J3 hG mo ro
  obtain ⟨v2, ev2⟩ := q_ev ((q_J (S) o 3).toInt)
  have f3 := q_bV ev2 f1
  have f4 := q_leCv ev2 ht
  refine q_ok_atS hG (q_trI mo ro) rfl (fun mo ro => ?_)
  obtain ⟨v5, ev5⟩ := q_ev (((q_J (S) o 3) + (p0.toInt64)).toInt)
  obtain ⟨v6, ev6⟩ := q_ev ((p0.toInt64).toInt)
  have f7 : v6 = p0.toInt := q_i2lV ev6 q_evr
  have f8 : v5 = v2 + v6 := q_addVJ ev5 ev2 ev6 (by omega) (by omega)
  have hG := u_30_J3 (x := (q_J (S) o 3) + (p0.toInt64)) hG mo ro (by decide) (q_oV ev5 (by omega) (by omega))
  have f9 : q_sm _ := g_30_I2 hG mo ro
  obtain ⟨v10, ev10⟩ := q_ev ((q_I (q_sJ (S) o 3 ((q_J (S) o 3) + (p0.toInt64))) o 2).toInt)
  have f11 := q_bV ev10 f9
  refine q_ok_ite (fun g12 => ?_) (fun g12 => ?_)
  · have f13 := q_eqV ev10 (show q_eqv ((0 : Int32)).toInt (0) by unfold q_eqv; decide) (q_p_eq g12)
    have f14 : q_sm _ := g_30_J3 hG mo ro
    have e15 : q_J (q_sJ (S) o 3 ((q_J (S) o 3) + (p0.toInt64))) o 3 = (q_J (S) o 3) + (p0.toInt64) := q_hitJ
    have f16 : q_sm _ := g_30_J4 hG mo ro
    obtain ⟨v17, ev17⟩ := q_ev ((q_J (q_sJ (S) o 3 ((q_J (S) o 3) + (p0.toInt64))) o 3).toInt)
    have f18 : v17 = v5 := q_eqVJ e15 ev17 ev5
    obtain ⟨v19, ev19⟩ := q_ev ((q_J (q_sJ (S) o 3 ((q_J (S) o 3) + (p0.toInt64))) o 4).toInt)
    have f20 := q_bV ev19 f16
    refine q_ok_ite (fun g21 => ?_) (fun g21 => ?_)
    · have f22 := q_leV ev17 ev19 (q_cp_le g21)
      unfold m_X1_skip_36
      refine q_ok_atS hG (q_trI mo ro) rfl (fun mo ro => ?_)
      refine q_ok_if (q_b01V (show q_eqv ((0 : Int32)).toInt (0) by unfold q_eqv; decide) (by omega) (by omega)) ?_
      have hG := u_30_I2 (x := (0 : Int32)) hG mo ro (by decide) (q_wd (show (0 : Int) ≤ (0 : Int32).toInt ∧ (0 : Int32).toInt ≤ (0 : Int) by decide) (by decide) (by decide))
      have e23 : q_J (q_sI (q_sJ (S) o 3 ((q_J (S) o 3) + (p0.toInt64))) o 2 ((0 : Int32))) o 3 = q_J (q_sJ (S) o 3 ((q_J (S) o 3) + (p0.toInt64))) o 3 := q_skJI
      obtain ⟨v24, ev24⟩ := q_ev ((q_J (q_sI (q_sJ (S) o 3 ((q_J (S) o 3) + (p0.toInt64))) o 2 ((0 : Int32))) o 3).toInt)
      have f25 : v24 = v17 := q_eqVJ e23 ev24 ev17
      exact q_ok_some ⟨hG, (q_leD ev24 ev2 (by omega))⟩
    · have f26 := q_ltV ev19 ev17 (q_cn_le g21)
      unfold m_X1_skip_31
      unfold m_X1_skip_36
      refine q_ok_atS hG (q_trI mo ro) rfl (fun mo ro => ?_)
      refine q_ok_if (q_b01V (show q_eqv ((1 : Int32)).toInt (1) by unfold q_eqv; decide) (by omega) (by omega)) ?_
      have hG := u_30_I2 (x := (1 : Int32)) hG mo ro (by decide) (q_wd (show (1 : Int) ≤ (1 : Int32).toInt ∧ (1 : Int32).toInt ≤ (1 : Int) by decide) (by decide) (by decide))
      have e27 : q_J (q_sI (q_sJ (S) o 3 ((q_J (S) o 3) + (p0.toInt64))) o 2 ((1 : Int32))) o 3 = q_J (q_sJ (S) o 3 ((q_J (S) o 3) + (p0.toInt64))) o 3 := q_skJI
      obtain ⟨v28, ev28⟩ := q_ev ((q_J (q_sI (q_sJ (S) o 3 ((q_J (S) o 3) + (p0.toInt64))) o 2 ((1 : Int32))) o 3).toInt)
      have f29 : v28 = v17 := q_eqVJ e27 ev28 ev17
      exact q_ok_some ⟨hG, (q_leD ev28 ev2 (by omega))⟩
  · have f30 := q_neV ev10 (show q_eqv ((0 : Int32)).toInt (0) by unfold q_eqv; decide) (q_n_eq g12)
    unfold m_X1_skip_31
    unfold m_X1_skip_36
    refine q_ok_atS hG (q_trI mo ro) rfl (fun mo ro => ?_)
    refine q_ok_if (q_b01V (show q_eqv ((1 : Int32)).toInt (1) by unfold q_eqv; decide) (by omega) (by omega)) ?_
    have hG := u_30_I2 (x := (1 : Int32)) hG mo ro (by decide) (q_wd (show (1 : Int) ≤ (1 : Int32).toInt ∧ (1 : Int32).toInt ≤ (1 : Int) by decide) (by decide) (by decide))
    have e31 : q_J (q_sI (q_sJ (S) o 3 ((q_J (S) o 3) + (p0.toInt64))) o 2 ((1 : Int32))) o 3 = (q_J (S) o 3) + (p0.toInt64) := (Eq.trans q_skJI q_hitJ)
    obtain ⟨v32, ev32⟩ := q_ev ((q_J (q_sI (q_sJ (S) o 3 ((q_J (S) o 3) + (p0.toInt64))) o 2 ((1 : Int32))) o 3).toInt)
    have f33 : v32 = v5 := q_eqVJ e31 ev32 ev5
    exact q_ok_some ⟨hG, (q_leD ev32 ev2 (by omega))⟩
def M_X1_seen_30 : List Nat := [1922, 1923]
set_option maxHeartbeats 4000000 in
set_option maxRecDepth 100000 in
theorem s_X1_seen_30 {ρ : Nat → Nat} {L : List Nat} {n : Nat} (hn : 18446744073709551616 ≤ n) {S : q_S} (hI : q_Inv ρ L S) {o : Nat} (mo : o ∈ L) (ro : ρ o = 30) {p0 : Int32} (hp0 : (-1 ≤ p0.toInt ∧ p0.toInt ≤ 65535)) {p1 : Int32} (hp1 : (1 ≤ p1.toInt ∧ p1.toInt ≤ 2)) (ht : (q_J S o 3).toInt ≤ 140739635838976) : q_ok (m_X1_seen n S o p0 p1) (fun r T => q_G ρ L M_X1_seen_30 S T ∧ (0 ≤ r.toInt ∧ r.toInt ≤ 65535) ∧ q_sm ((q_J T o 3).toInt ≤ (q_J S o 3).toInt + 2)) := by
  have hG : q_G ρ L M_X1_seen_30 S S := q_G_refl hI
  unfold m_X1_seen
  have z0 : (0 : Int32).toInt = 0 := rfl
  have f1 : q_sm _ := g_30_J3 hG mo ro
  obtain ⟨v2, ev2⟩ := q_ev ((q_J (S) o 3).toInt)
  have f3 := q_bV ev2 f1
  have f4 := q_leCv ev2 ht
  refine q_ok_atS hG (q_trI mo ro) rfl (fun mo ro => ?_)
  obtain ⟨v5, ev5⟩ := q_ev (((q_J (S) o 3) + (p1.toInt64)).toInt)
  obtain ⟨v6, ev6⟩ := q_ev ((p1.toInt64).toInt)
  have f7 : v6 = p1.toInt := q_i2lV ev6 q_evr
  have f8 : v5 = v2 + v6 := q_addVJ ev5 ev2 ev6 (by omega) (by omega)
  have hG := u_30_J3 (x := (q_J (S) o 3) + (p1.toInt64)) hG mo ro (by decide) (q_oV ev5 (by omega) (by omega))
  have f9 : q_sm _ := g_30_I2 hG mo ro
  obtain ⟨v10, ev10⟩ := q_ev ((q_I (q_sJ (S) o 3 ((q_J (S) o 3) + (p1.toInt64))) o 2).toInt)
  have f11 := q_bV ev10 f9
  refine q_ok_ite (fun g12 => ?_) (fun g12 => ?_)
  · have f13 := q_eqV ev10 (show q_eqv ((0 : Int32)).toInt (0) by unfold q_eqv; decide) (q_p_eq g12)
    refine q_ok_ite (fun g14 => ?_) (fun g14 => ?_)
    · have f15 := q_eqV q_evr (show q_eqv ((-1 : Int32)).toInt (-1) by unfold q_eqv; decide) (q_p_eq g14)
      unfold m_X1_seen_24
      unfold m_X1_seen_29
      refine q_ok_atS hG (q_trI mo ro) rfl (fun mo ro => ?_)
      refine q_ok_if (q_b01V (show q_eqv ((1 : Int32)).toInt (1) by unfold q_eqv; decide) (by omega) (by omega)) ?_
      have hG := u_30_I2 (x := (1 : Int32)) hG mo ro (by decide) (q_wd (show (1 : Int) ≤ (1 : Int32).toInt ∧ (1 : Int32).toInt ≤ (1 : Int) by decide) (by decide) (by decide))
      refine q_ok_ite (fun g16 => ?_) (fun g16 => ?_)
      · have f17 := q_eqV q_evr (show q_eqv ((-1 : Int32)).toInt (-1) by unfold q_eqv; decide) (q_p_eq g16)
        unfold m_X1_seen_42
        have e18 : q_J (q_sI (q_sJ (S) o 3 ((q_J (S) o 3) + (p1.toInt64))) o 2 ((1 : Int32))) o 3 = (q_J (S) o 3) + (p1.toInt64) := (Eq.trans q_skJI q_hitJ)
        obtain ⟨v19, ev19⟩ := q_ev ((q_J (q_sI (q_sJ (S) o 3 ((q_J (S) o 3) + (p1.toInt64))) o 2 ((1 : Int32))) o 3).toInt)
        have f20 : v19 = v5 := q_eqVJ e18 ev19 ev5
        exact q_ok_some ⟨hG, (q_wd (show (0 : Int) ≤ (0 : Int32).toInt ∧ (0 : Int32).toInt ≤ (0 : Int) by decide) (by decide) (by decide)), (q_leD ev19 ev2 (by omega))⟩
      · have f21 := q_neV q_evr (show q_eqv ((-1 : Int32)).toInt (-1) by unfold q_eqv; decide) (q_n_eq g16)
        exfalso; omega
    · have f22 := q_neV q_evr (show q_eqv ((-1 : Int32)).toInt (-1) by unfold q_eqv; decide) (q_n_eq g14)
      unfold m_X1_seen_29
      refine q_ok_atS hG (q_trI mo ro) rfl (fun mo ro => ?_)
      refine q_ok_if (q_b01V (show q_eqv ((0 : Int32)).toInt (0) by unfold q_eqv; decide) (by omega) (by omega)) ?_
      have hG := u_30_I2 (x := (0 : Int32)) hG mo ro (by decide) (q_wd (show (0 : Int) ≤ (0 : Int32).toInt ∧ (0 : Int32).toInt ≤ (0 : Int) by decide) (by decide) (by decide))
      refine q_ok_ite (fun g23 => ?_) (fun g23 => ?_)
      · have f24 := q_eqV q_evr (show q_eqv ((-1 : Int32)).toInt (-1) by unfold q_eqv; decide) (q_p_eq g23)
        exfalso; omega
      · have f25 := q_neV q_evr (show q_eqv ((-1 : Int32)).toInt (-1) by unfold q_eqv; decide) (q_n_eq g23)
        unfold m_X1_seen_42
        have e26 : q_J (q_sI (q_sJ (S) o 3 ((q_J (S) o 3) + (p1.toInt64))) o 2 ((0 : Int32))) o 3 = (q_J (S) o 3) + (p1.toInt64) := (Eq.trans q_skJI q_hitJ)
        obtain ⟨v27, ev27⟩ := q_ev ((q_J (q_sI (q_sJ (S) o 3 ((q_J (S) o 3) + (p1.toInt64))) o 2 ((0 : Int32))) o 3).toInt)
        have f28 : v27 = v5 := q_eqVJ e26 ev27 ev5
        exact q_ok_some ⟨hG, (q_oV q_evr (by omega) (by omega)), (q_leD ev27 ev2 (by omega))⟩
  · have f29 := q_neV ev10 (show q_eqv ((0 : Int32)).toInt (0) by unfold q_eqv; decide) (q_n_eq g12)
    unfold m_X1_seen_24
    unfold m_X1_seen_29
    refine q_ok_atS hG (q_trI mo ro) rfl (fun mo ro => ?_)
    refine q_ok_if (q_b01V (show q_eqv ((1 : Int32)).toInt (1) by unfold q_eqv; decide) (by omega) (by omega)) ?_
    have hG := u_30_I2 (x := (1 : Int32)) hG mo ro (by decide) (q_wd (show (1 : Int) ≤ (1 : Int32).toInt ∧ (1 : Int32).toInt ≤ (1 : Int) by decide) (by decide) (by decide))
    refine q_ok_ite (fun g30 => ?_) (fun g30 => ?_)
    · have f31 := q_eqV q_evr (show q_eqv ((-1 : Int32)).toInt (-1) by unfold q_eqv; decide) (q_p_eq g30)
      unfold m_X1_seen_42
      have e32 : q_J (q_sI (q_sJ (S) o 3 ((q_J (S) o 3) + (p1.toInt64))) o 2 ((1 : Int32))) o 3 = (q_J (S) o 3) + (p1.toInt64) := (Eq.trans q_skJI q_hitJ)
      obtain ⟨v33, ev33⟩ := q_ev ((q_J (q_sI (q_sJ (S) o 3 ((q_J (S) o 3) + (p1.toInt64))) o 2 ((1 : Int32))) o 3).toInt)
      have f34 : v33 = v5 := q_eqVJ e32 ev33 ev5
      exact q_ok_some ⟨hG, (q_wd (show (0 : Int) ≤ (0 : Int32).toInt ∧ (0 : Int32).toInt ≤ (0 : Int) by decide) (by decide) (by decide)), (q_leD ev33 ev2 (by omega))⟩
    · have f35 := q_neV q_evr (show q_eqv ((-1 : Int32)).toInt (-1) by unfold q_eqv; decide) (q_n_eq g30)
      unfold m_X1_seen_42
      have e36 : q_J (q_sI (q_sJ (S) o 3 ((q_J (S) o 3) + (p1.toInt64))) o 2 ((1 : Int32))) o 3 = (q_J (S) o 3) + (p1.toInt64) := (Eq.trans q_skJI q_hitJ)
      obtain ⟨v37, ev37⟩ := q_ev ((q_J (q_sI (q_sJ (S) o 3 ((q_J (S) o 3) + (p1.toInt64))) o 2 ((1 : Int32))) o 3).toInt)
      have f38 : v37 = v5 := q_eqVJ e36 ev37 ev5
      exact q_ok_some ⟨hG, (q_oV q_evr (by omega) (by omega)), (q_leD ev37 ev2 (by omega))⟩
def M_X1_two_30 : List Nat := [1922, 1923]
set_option maxHeartbeats 4000000 in
set_option maxRecDepth 100000 in
theorem s_X1_two_30 {ρ : Nat → Nat} {L : List Nat} {n : Nat} (hn : 18446744073709551616 ≤ n) {S : q_S} (hI : q_Inv ρ L S) {o : Nat} (mo : o ∈ L) (ro : ρ o = 30) (ht : (q_J S o 3).toInt ≤ 140738562097152) : q_ok (m_X1_two n S o) (fun r T => q_G ρ L M_X1_two_30 S T ∧ (0 ≤ r.toInt ∧ r.toInt ≤ 65535) ∧ q_sm ((q_J T o 3).toInt ≤ (q_J S o 3).toInt + 2)) := by
  have hG : q_G ρ L M_X1_two_30 S S := q_G_refl hI
  unfold m_X1_two
  have z0 : (0 : Int32).toInt = 0 := rfl
  have f1 : q_sm _ := g_30_J3 hG mo ro
  obtain ⟨v2, ev2⟩ := q_ev ((q_J (S) o 3).toInt)
  have f3 := q_bV ev2 f1
  have f4 := q_leCv ev2 ht
  refine q_ok_atS hG (q_trI mo ro) rfl (fun mo ro => ?_)
  have t5 := g_30_R0 hG mo ro
  have f6 : q_sm _ := g_30_J4 hG mo ro
  refine q_ok_at hG t5 rfl (fun a7 ma7 ra7 ea7 => ?_)
  refine q_ok_b (s_X4_two_1 hn hG.1 ma7 ra7 (q_wd f1 (by decide) (by decide)) (q_wd f6 (by decide) (by decide))) (fun r8 S9 h10 => ?_)
  obtain ⟨eS9, h10⟩ := h10
  replace eS9 := eS9.symm
  subst eS9
  have f11 := h10
  refine q_ok_atS hG (q_trI mo ro) rfl (fun mo ro => ?_)
  refine q_ok_b (s_X1_seen_30 hn hG.1 mo ro (q_wd f11 (by decide) (by decide)) (q_wd (show (2 : Int) ≤ (2 : Int32).toInt ∧ (2 : Int32).toInt ≤ (2 : Int) by decide) (by decide) (by decide)) (q_leC ev2 (by omega))) (fun r12 S13 h14 => ?_)
  have hG := q_G_call hG h14.1 (by decide)
  have f15 := h14.2.1
  have f16 : q_sm _ := g_30_J3 hG mo ro
  obtain ⟨v17, ev17⟩ := q_ev ((q_J (S13) o 3).toInt)
  have f18 := q_bV ev17 f16
  have f19 := q_leDv ev17 ev2 (h14.2.2)
  exact q_ok_some ⟨hG, (q_wd f15 (by decide) (by decide)), (q_leD ev17 ev2 (by omega))⟩
def M_X1_one_30 : List Nat := [1922, 1923]
set_option maxHeartbeats 4000000 in
set_option maxRecDepth 100000 in
theorem s_X1_one_30 {ρ : Nat → Nat} {L : List Nat} {n : Nat} (hn : 18446744073709551616 ≤ n) {S : q_S} (hI : q_Inv ρ L S) {o : Nat} (mo : o ∈ L) (ro : ρ o = 30) (ht : (q_J S o 3).toInt ≤ 140738562097152) : q_ok (m_X1_one n S o) (fun r T => q_G ρ L M_X1_one_30 S T ∧ (0 ≤ r.toInt ∧ r.toInt ≤ 65535) ∧ q_sm ((q_J T o 3).toInt ≤ (q_J S o 3).toInt + 2)) := by
  have hG : q_G ρ L M_X1_one_30 S S := q_G_refl hI
  unfold m_X1_one
  have z0 : (0 : Int32).toInt = 0 := rfl
  have f1 : q_sm _ := g_30_J3 hG mo ro
  obtain ⟨v2, ev2⟩ := q_ev ((q_J (S) o 3).toInt)
  have f3 := q_bV ev2 f1
  have f4 := q_leCv ev2 ht
  refine q_ok_atS hG (q_trI mo ro) rfl (fun mo ro => ?_)
  have t5 := g_30_R0 hG mo ro
  have f6 : q_sm _ := g_30_J4 hG mo ro
  refine q_ok_at hG t5 rfl (fun a7 ma7 ra7 ea7 => ?_)
  refine q_ok_b (s_X4_one_1 hn hG.1 ma7 ra7 (q_wd f1 (by decide) (by decide)) (q_wd f6 (by decide) (by decide))) (fun r8 S9 h10 => ?_)
  obtain ⟨eS9, h10⟩ := h10
  replace eS9 := eS9.symm
  subst eS9
  have f11 := h10
  refine q_ok_atS hG (q_trI mo ro) rfl (fun mo ro => ?_)
  refine q_ok_b (s_X1_seen_30 hn hG.1 mo ro (q_wd f11 (by decide) (by decide)) (q_wd (show (1 : Int) ≤ (1 : Int32).toInt ∧ (1 : Int32).toInt ≤ (1 : Int) by decide) (by decide) (by decide)) (q_leC ev2 (by omega))) (fun r12 S13 h14 => ?_)
  have hG := q_G_call hG h14.1 (by decide)
  have f15 := h14.2.1
  have f16 : q_sm _ := g_30_J3 hG mo ro
  obtain ⟨v17, ev17⟩ := q_ev ((q_J (S13) o 3).toInt)
  have f18 := q_bV ev17 f16
  have f19 := q_leDv ev17 ev2 (h14.2.2)
  exact q_ok_some ⟨hG, (q_wd f15 (by decide) (by decide)), (q_leD ev17 ev2 (by omega))⟩
def M_X1_signedTwo_30 : List Nat := [1922, 1923]
set_option maxHeartbeats 4000000 in
set_option maxRecDepth 100000 in
theorem s_X1_signedTwo_30 {ρ : Nat → Nat} {L : List Nat} {n : Nat} (hn : 18446744073709551616 ≤ n) {S : q_S} (hI : q_Inv ρ L S) {o : Nat} (mo : o ∈ L) (ro : ρ o = 30) (ht : (q_J S o 3).toInt ≤ 140738562097152) : q_ok (m_X1_signedTwo n S o) (fun r T => q_G ρ L M_X1_signedTwo_30 S T ∧ (-32768 ≤ r.toInt ∧ r.toInt ≤ 32767) ∧ q_sm ((q_J T o 3).toInt ≤ (q_J S o 3).toInt + 2)) := by
  have hG : q_G ρ L M_X1_signedTwo_30 S S := q_G_refl hI
  unfold m_X1_signedTwo
  have z0 : (0 : Int32).toInt = 0 := rfl
  have f1 : q_sm _ := g_30_J3 hG mo ro
  obtain ⟨v2, ev2⟩ := q_ev ((q_J (S) o 3).toInt)
  have f3 := q_bV ev2 f1
  have f4 := q_leCv ev2 ht
  refine q_ok_atS hG (q_trI mo ro) rfl (fun mo ro => ?_)
  have t5 := g_30_R0 hG mo ro
  have f6 : q_sm _ := g_30_J4 hG mo ro
  refine q_ok_at hG t5 rfl (fun a7 ma7 ra7 ea7 => ?_)
  refine q_ok_b (s_X4_two_1 hn hG.1 ma7 ra7 (q_wd f1 (by decide) (by decide)) (q_wd f6 (by decide) (by decide))) (fun r8 S9 h10 => ?_)
  obtain ⟨eS9, h10⟩ := h10
  replace eS9 := eS9.symm
  subst eS9
  have f11 := h10
  refine q_ok_atS hG (q_trI mo ro) rfl (fun mo ro => ?_)
  refine q_ok_b (s_X1_seen_30 hn hG.1 mo ro (q_wd f11 (by decide) (by decide)) (q_wd (show (2 : Int) ≤ (2 : Int32).toInt ∧ (2 : Int32).toInt ≤ (2 : Int) by decide) (by decide) (by decide)) (q_leC ev2 (by omega))) (fun r12 S13 h14 => ?_)
  have hG := q_G_call hG h14.1 (by decide)
  have f15 := h14.2.1
  have f16 : q_sm _ := g_30_J3 hG mo ro
  obtain ⟨v17, ev17⟩ := q_ev ((q_J (S13) o 3).toInt)
  have f18 := q_bV ev17 f16
  have f19 := q_leDv ev17 ev2 (h14.2.2)
  refine q_ok_b (s_X11_signed hn hG.1 (q_wd f15 (by decide) (by decide))) (fun r20 S21 h22 => ?_)
  obtain ⟨eS21, h22⟩ := h22
  replace eS21 := eS21.symm
  subst eS21
  have f23 := h22
  exact q_ok_some ⟨hG, (q_wd f23 (by decide) (by decide)), (q_leD ev17 ev2 (by omega))⟩
def M_X3_takeAxis_15_30_16 : List Nat := [1024, 1922, 1923]
set_option maxHeartbeats 4000000 in
set_option maxRecDepth 100000 in
theorem s_X3_takeAxis_15_30_16_89 {ρ : Nat → Nat} {L : List Nat} {n : Nat} (hn : 18446744073709551616 ≤ n) {dT : Option Nat} {S0 : q_S}  {k6 : q_S → Option Nat → Option Nat → Option Nat → Int32 → Int32 → Int32 → Int32 → Option (Unit × q_S)} {B6 : Int} (hk6 : ∀ (S : q_S) (z0 : Option Nat) (z1 : Option Nat) (z2 : Option Nat) (z3 : Int32) (z4 : Int32) (z5 : Int32) (z6 : Int32), q_G ρ L M_X3_takeAxis_15_30_16 S0 S → q_tr ρ L z0 15 → q_tr ρ L z1 30 → q_tr ρ L z2 16 → (2 ≤ z3.toInt ∧ z3.toInt ≤ 2) → (16 ≤ z4.toInt ∧ z4.toInt ≤ 16) → (0 ≤ z6.toInt ∧ z6.toInt ≤ 120) → q_tr ρ L dT 30 → (∀ a, dT = some a → (q_J S a 3).toInt ≤ (q_J S0 a 3).toInt + 4 * z6.toInt + 0 ∧ (q_J S0 a 3).toInt ≤ 140737555464192) → z1 = dT → 2147483648 - z6.toInt < B6 → q_ok (k6 S z0 z1 z2 z3 z4 z5 z6) (fun _ T => q_G ρ L M_X3_takeAxis_15_30_16 S0 T ∧ q_sm (∀ a, dT = some a → (q_J T a 3).toInt ≤ (q_J S0 a 3).toInt + 600))) (S : q_S) (l0 : Option Nat) (l1 : Option Nat) (l2 : Option Nat) (l4 : Int32) (l5 : Int32) (l6 : Int32) (l7 : Int32) (hG : q_G ρ L M_X3_takeAxis_15_30_16 S0 S) (hl0 : q_tr ρ L l0 15) (hl1 : q_tr ρ L l1 30) (hl2 : q_tr ρ L l2 16) (hl4 : (2 ≤ l4.toInt ∧ l4.toInt ≤ 2)) (hl5 : (16 ≤ l5.toInt ∧ l5.toInt ≤ 16)) (hl7 : (0 ≤ l7.toInt ∧ l7.toInt ≤ 119)) (htT : q_tr ρ L dT 30) (hT : (∀ a, dT = some a → (q_J S a 3).toInt ≤ (q_J S0 a 3).toInt + 4 * l7.toInt + 4 ∧ (q_J S0 a 3).toInt ≤ 140737555464192)) (hd : l1 = dT) (hm6 : 2147483648 - l7.toInt ≤ B6) : q_ok (m_X3_takeAxis_89 n k6 S l0 l1 l2 l4 l5 l6 l7) (fun _ T => q_G ρ L M_X3_takeAxis_15_30_16 S0 T ∧ q_sm (∀ a, dT = some a → (q_J T a 3).toInt ≤ (q_J S0 a 3).toInt + 600)) := by
  unfold m_X3_takeAxis_89
  have z0 : (0 : Int32).toInt = 0 := rfl
  subst hd
  obtain ⟨aT, eaT, maT, raT⟩ := id htT
  have f1 : q_sm _ := g_30_J3 hG maT raT
  obtain ⟨v2, ev2⟩ := q_ev ((q_J (S) aT 3).toInt)
  have f3 := q_bV ev2 f1
  obtain ⟨v4, ev4⟩ := q_ev ((q_J (S0) aT 3).toInt)
  have f5 := q_rVJ (X := q_J (S0) aT 3) ev4
  have f6 := q_le3v (K9 := 4) (E9 := 4) ev2 ev4 q_evr (hT aT eaT).1
  have f7 := q_leCv ev4 (hT aT eaT).2
  refine q_ok_at hG hl2 rfl (fun a8 ma8 ra8 ea8 => ?_)
  refine q_ok_if (q_inV (g_16_N hG ma8 ra8) q_evr (by omega) (by omega)) ?_
  have hG := u_16_E (k := (l7).toNatClampNeg) (x := l6) hG ma8 ra8 (by decide)
  have e9 : q_J (q_sI (S) a8 (l7).toNatClampNeg (l6)) aT 3 = q_J (S) aT 3 := q_skJI
  obtain ⟨v10, ev10⟩ := q_ev ((q_J (q_sI (S) a8 (l7).toNatClampNeg (l6)) aT 3).toInt)
  have f11 : v10 = v2 := q_eqVJ e9 ev10 ev2
  obtain ⟨v12, ev12⟩ := q_ev ((l7 + (1)).toInt)
  have f13 : v12 = l7.toInt + (1) := q_addVI ev12 q_evr (show q_eqv ((1 : Int32)).toInt (1) by unfold q_eqv; decide) (by omega) (by omega)
  exact hk6 _ _ _ _ _ _ _ _ hG hl0 hl1 hl2 (q_wd hl4 (by decide) (by decide)) (q_wd hl5 (by decide) (by decide)) (q_wd (q_addBI (1) (120) hl7 (show (1 : Int) ≤ (1 : Int32).toInt ∧ (1 : Int32).toInt ≤ (1 : Int) by decide) (by decide) (by decide) (by decide) (by decide)) (by decide) (by decide)) (q_trE eaT maT raT) (q_trk eaT ⟨q_le3 (K9 := 4) (E9 := 0) ev10 ev4 ev12 (by omega), q_leC ev4 (by omega)⟩) (by first | rfl | exact hd)  (q_upVl ev12 (by omega))
set_option maxHeartbeats 4000000 in
set_option maxRecDepth 100000 in
theorem s_X3_takeAxis_15_30_16_6 {ρ : Nat → Nat} {L : List Nat} {n : Nat} (hn : 18446744073709551616 ≤ n) {dT : Option Nat} {S0 : q_S}  : ∀ (k : Nat) (S : q_S) (l0 : Option Nat) (l1 : Option Nat) (l2 : Option Nat) (l4 : Int32) (l5 : Int32) (l6 : Int32) (l7 : Int32), q_G ρ L M_X3_takeAxis_15_30_16 S0 S → q_tr ρ L l0 15 → q_tr ρ L l1 30 → q_tr ρ L l2 16 → (2 ≤ l4.toInt ∧ l4.toInt ≤ 2) → (16 ≤ l5.toInt ∧ l5.toInt ≤ 16) → (0 ≤ l7.toInt ∧ l7.toInt ≤ 120) → q_tr ρ L dT 30 → (∀ a, dT = some a → (q_J S a 3).toInt ≤ (q_J S0 a 3).toInt + 4 * l7.toInt + 0 ∧ (q_J S0 a 3).toInt ≤ 140737555464192) → l1 = dT → 2147483648 - l7.toInt ≤ (k : Int) → q_ok (m_X3_takeAxis_6 n k S l0 l1 l2 l4 l5 l6 l7) (fun _ T => q_G ρ L M_X3_takeAxis_15_30_16 S0 T ∧ q_sm (∀ a, dT = some a → (q_J T a 3).toInt ≤ (q_J S0 a 3).toInt + 600)) := by
  intro k
  induction k with
  | zero =>
    intro S l0 l1 l2 l4 l5 l6 l7 hG hl0 hl1 hl2 hl4 hl5 hl7 htT hT hd hm
    have f0 := q_rngI l7
    exfalso; omega
  | succ k ih =>
    intro S l0 l1 l2 l4 l5 l6 l7 hG hl0 hl1 hl2 hl4 hl5 hl7 htT hT hd hm
    rw [m_X3_takeAxis_6]
    have z0 : (0 : Int32).toInt = 0 := rfl
    subst hd
    obtain ⟨aT, eaT, maT, raT⟩ := id htT
    have f1 : q_sm _ := g_30_J3 hG maT raT
    obtain ⟨v2, ev2⟩ := q_ev ((q_J (S) aT 3).toInt)
    have f3 := q_bV ev2 f1
    obtain ⟨v4, ev4⟩ := q_ev ((q_J (S0) aT 3).toInt)
    have f5 := q_rVJ (X := q_J (S0) aT 3) ev4
    have f6 := q_le3v (K9 := 4) (E9 := 0) ev2 ev4 q_evr (hT aT eaT).1
    have f7 := q_leCv ev4 (hT aT eaT).2
    refine q_ok_at hG hl0 rfl (fun a8 ma8 ra8 ea8 => ?_)
    have f9 : q_sm _ := g_15_I4 hG ma8 ra8
    obtain ⟨v10, ev10⟩ := q_ev ((q_I (S) a8 4).toInt)
    have f11 := q_bV ev10 f9
    refine q_ok_ite (fun g12 => ?_) (fun g12 => ?_)
    · have f13 := q_leV ev10 q_evr (q_p_ge g12)
      exact q_ok_some ⟨hG, (q_trk eaT (q_leD ev2 ev4 (by omega)))⟩
    · have f14 := q_ltV q_evr ev10 (q_n_ge g12)
      have t15 := g_15_R2 hG ma8 ra8
      refine q_ok_at hG t15 rfl (fun a16 ma16 ra16 ea16 => ?_)
      refine q_ok_if (q_inV (g_18_N hG ma16 ra16) q_evr (by omega) (by omega)) ?_
      have f17 : q_sm _ := g_18_E hG ma16 ra16 (k := (l7).toNatClampNeg)
      obtain ⟨v18, ev18⟩ := q_ev (((q_I (S) a16 (l7).toNatClampNeg) &&& l5).toInt)
      have f19 := q_andRVI ev18 q_evr (by omega)
      refine q_ok_ite (fun g20 => ?_) (fun g20 => ?_)
      · have f21 := q_eqV ev18 (show q_eqv ((0 : Int32)).toInt (0) by unfold q_eqv; decide) (q_p_eq g20)
        unfold m_X3_takeAxis_33
        refine q_ok_atA hG ea8 ma8 ra8 rfl ?_
        have t22 := g_15_R2 hG ma8 ra8
        refine q_ok_atA hG ea16 ma16 ra16 rfl ?_
        refine q_ok_if (q_inV (g_18_N hG ma16 ra16) q_evr (by omega) (by omega)) ?_
        obtain ⟨v23, ev23⟩ := q_ev (((q_I (S) a16 (l7).toNatClampNeg) &&& l4).toInt)
        have f24 := q_andRVI ev23 q_evr (by omega)
        refine q_ok_ite (fun g25 => ?_) (fun g25 => ?_)
        · have f26 := q_eqV ev23 (show q_eqv ((0 : Int32)).toInt (0) by unfold q_eqv; decide) (q_p_eq g25)
          refine q_ok_ite (fun g27 => ?_) (fun g27 => ?_)
          · have f28 := q_eqV (show q_eqv ((0 : Int32)).toInt (0) by unfold q_eqv; decide) (show q_eqv ((0 : Int32)).toInt (0) by unfold q_eqv; decide) (q_p_eq g27)
            refine q_ok_atA hG eaT maT raT rfl ?_
            refine q_ok_b (s_X1_signedTwo_30 hn hG.1 maT raT (q_leC ev2 (by omega))) (fun r29 S30 h31 => ?_)
            have hG := q_G_call hG h31.1 (by decide)
            have f32 := h31.2.1
            have f33 : q_sm _ := g_30_J3 hG maT raT
            obtain ⟨v34, ev34⟩ := q_ev ((q_J (S30) aT 3).toInt)
            have f35 := q_bV ev34 f33
            have f36 := q_leDv ev34 ev2 (h31.2.2)
            exact s_X3_takeAxis_15_30_16_89 hn (B6 := (k : Int) + 1) (fun S9 z0 z1 z2 z3 z4 z5 z6 hG9 hz0 hz1 hz2 hz3 hz4 hz6 hzt hzT hzd  hm9 => ih S9 z0 z1 z2 z3 z4 z5 z6 hG9 hz0 hz1 hz2 hz3 hz4 hz6 hzt hzT hzd  (by omega)) _ _ _ _ _ _ _ _ hG hl0 hl1 hl2 (q_wd hl4 (by decide) (by decide)) (q_wd hl5 (by decide) (by decide)) (q_oV q_evr (by omega) (by omega)) (q_trE eaT maT raT) (q_trk eaT ⟨q_le3 (K9 := 4) (E9 := 4) ev34 ev4 q_evr (by omega), q_leC ev4 (by omega)⟩) (by first | rfl | exact hd) (q_upV q_evr (by omega))
          · have f37 := q_neV (show q_eqv ((0 : Int32)).toInt (0) by unfold q_eqv; decide) (show q_eqv ((0 : Int32)).toInt (0) by unfold q_eqv; decide) (q_n_eq g27)
            exfalso; omega
        · have f38 := q_neV ev23 (show q_eqv ((0 : Int32)).toInt (0) by unfold q_eqv; decide) (q_n_eq g25)
          refine q_ok_atA hG eaT maT raT rfl ?_
          refine q_ok_b (s_X1_one_30 hn hG.1 maT raT (q_leC ev2 (by omega))) (fun r39 S40 h41 => ?_)
          have hG := q_G_call hG h41.1 (by decide)
          have f42 := h41.2.1
          have f43 : q_sm _ := g_30_J3 hG maT raT
          obtain ⟨v44, ev44⟩ := q_ev ((q_J (S40) aT 3).toInt)
          have f45 := q_bV ev44 f43
          have f46 := q_leDv ev44 ev2 (h41.2.2)
          refine q_ok_ite (fun g47 => ?_) (fun g47 => ?_)
          · have f48 := q_eqV (show q_eqv ((0 : Int32)).toInt (0) by unfold q_eqv; decide) (show q_eqv ((0 : Int32)).toInt (0) by unfold q_eqv; decide) (q_p_eq g47)
            unfold m_X3_takeAxis_69
            exact s_X3_takeAxis_15_30_16_89 hn (B6 := (k : Int) + 1) (fun S9 z0 z1 z2 z3 z4 z5 z6 hG9 hz0 hz1 hz2 hz3 hz4 hz6 hzt hzT hzd  hm9 => ih S9 z0 z1 z2 z3 z4 z5 z6 hG9 hz0 hz1 hz2 hz3 hz4 hz6 hzt hzT hzd  (by omega)) _ _ _ _ _ _ _ _ hG hl0 hl1 hl2 (q_wd hl4 (by decide) (by decide)) (q_wd hl5 (by decide) (by decide)) (q_oV q_evr (by omega) (by omega)) (q_trE eaT maT raT) (q_trk eaT ⟨q_le3 (K9 := 4) (E9 := 4) ev44 ev4 q_evr (by omega), q_leC ev4 (by omega)⟩) (by first | rfl | exact hd) (q_upV q_evr (by omega))
          · have f49 := q_neV (show q_eqv ((0 : Int32)).toInt (0) by unfold q_eqv; decide) (show q_eqv ((0 : Int32)).toInt (0) by unfold q_eqv; decide) (q_n_eq g47)
            exfalso; omega
      · have f50 := q_neV ev18 (show q_eqv ((0 : Int32)).toInt (0) by unfold q_eqv; decide) (q_n_eq g20)
        unfold m_X3_takeAxis_33
        refine q_ok_atA hG ea8 ma8 ra8 rfl ?_
        have t51 := g_15_R2 hG ma8 ra8
        refine q_ok_atA hG ea16 ma16 ra16 rfl ?_
        refine q_ok_if (q_inV (g_18_N hG ma16 ra16) q_evr (by omega) (by omega)) ?_
        obtain ⟨v52, ev52⟩ := q_ev (((q_I (S) a16 (l7).toNatClampNeg) &&& l4).toInt)
        have f53 := q_andRVI ev52 q_evr (by omega)
        refine q_ok_ite (fun g54 => ?_) (fun g54 => ?_)
        · have f55 := q_eqV ev52 (show q_eqv ((0 : Int32)).toInt (0) by unfold q_eqv; decide) (q_p_eq g54)
          refine q_ok_ite (fun g56 => ?_) (fun g56 => ?_)
          · have f57 := q_eqV (show q_eqv ((1 : Int32)).toInt (1) by unfold q_eqv; decide) (show q_eqv ((0 : Int32)).toInt (0) by unfold q_eqv; decide) (q_p_eq g56)
            exfalso; omega
          · have f58 := q_neV (show q_eqv ((1 : Int32)).toInt (1) by unfold q_eqv; decide) (show q_eqv ((0 : Int32)).toInt (0) by unfold q_eqv; decide) (q_n_eq g56)
            exact s_X3_takeAxis_15_30_16_89 hn (B6 := (k : Int) + 1) (fun S9 z0 z1 z2 z3 z4 z5 z6 hG9 hz0 hz1 hz2 hz3 hz4 hz6 hzt hzT hzd  hm9 => ih S9 z0 z1 z2 z3 z4 z5 z6 hG9 hz0 hz1 hz2 hz3 hz4 hz6 hzt hzT hzd  (by omega)) _ _ _ _ _ _ _ _ hG hl0 hl1 hl2 (q_wd hl4 (by decide) (by decide)) (q_wd hl5 (by decide) (by decide)) (q_oV q_evr (by omega) (by omega)) (q_trE eaT maT raT) (q_trk eaT ⟨q_le3 (K9 := 4) (E9 := 4) ev2 ev4 q_evr (by omega), q_leC ev4 (by omega)⟩) (by first | rfl | exact hd) (q_upV q_evr (by omega))
        · have f59 := q_neV ev52 (show q_eqv ((0 : Int32)).toInt (0) by unfold q_eqv; decide) (q_n_eq g54)
          refine q_ok_atA hG eaT maT raT rfl ?_
          refine q_ok_b (s_X1_one_30 hn hG.1 maT raT (q_leC ev2 (by omega))) (fun r60 S61 h62 => ?_)
          have hG := q_G_call hG h62.1 (by decide)
          have f63 := h62.2.1
          have f64 : q_sm _ := g_30_J3 hG maT raT
          obtain ⟨v65, ev65⟩ := q_ev ((q_J (S61) aT 3).toInt)
          have f66 := q_bV ev65 f64
          have f67 := q_leDv ev65 ev2 (h62.2.2)
          refine q_ok_ite (fun g68 => ?_) (fun g68 => ?_)
          · have f69 := q_eqV (show q_eqv ((1 : Int32)).toInt (1) by unfold q_eqv; decide) (show q_eqv ((0 : Int32)).toInt (0) by unfold q_eqv; decide) (q_p_eq g68)
            exfalso; omega
          · have f70 := q_neV (show q_eqv ((1 : Int32)).toInt (1) by unfold q_eqv; decide) (show q_eqv ((0 : Int32)).toInt (0) by unfold q_eqv; decide) (q_n_eq g68)
            unfold m_X3_takeAxis_69
            exact s_X3_takeAxis_15_30_16_89 hn (B6 := (k : Int) + 1) (fun S9 z0 z1 z2 z3 z4 z5 z6 hG9 hz0 hz1 hz2 hz3 hz4 hz6 hzt hzT hzd  hm9 => ih S9 z0 z1 z2 z3 z4 z5 z6 hG9 hz0 hz1 hz2 hz3 hz4 hz6 hzt hzT hzd  (by omega)) _ _ _ _ _ _ _ _ hG hl0 hl1 hl2 (q_wd hl4 (by decide) (by decide)) (q_wd hl5 (by decide) (by decide)) (q_oV q_evr (by omega) (by omega)) (q_trE eaT maT raT) (q_trk eaT ⟨q_le3 (K9 := 4) (E9 := 4) ev65 ev4 q_evr (by omega), q_leC ev4 (by omega)⟩) (by first | rfl | exact hd) (q_upV q_evr (by omega))
set_option maxHeartbeats 4000000 in
set_option maxRecDepth 100000 in
theorem s_X3_takeAxis_15_30_16 {ρ : Nat → Nat} {L : List Nat} {n : Nat} (hn : 18446744073709551616 ≤ n) {S : q_S} (hI : q_Inv ρ L S) {o : Nat} (mo : o ∈ L) (ro : ρ o = 15) {p0 : Option Nat} (tp0 : q_tr ρ L p0 30) {p1 : Option Nat} (tp1 : q_tr ρ L p1 16) {p2 : Int32} (hp2 : (0 ≤ p2.toInt ∧ p2.toInt ≤ 120)) {p3 : Int32} (hp3 : (2 ≤ p3.toInt ∧ p3.toInt ≤ 2)) {p4 : Int32} (hp4 : (16 ≤ p4.toInt ∧ p4.toInt ≤ 16)) (ht : ∀ a, p0 = some a → (q_J S a 3).toInt ≤ 140737555464192) : q_ok (m_X3_takeAxis n S o p0 p1 p2 p3 p4) (fun _ T => q_G ρ L M_X3_takeAxis_15_30_16 S T ∧ q_sm (∀ a, p0 = some a → (q_J T a 3).toInt ≤ (q_J S a 3).toInt + 600)) := by
  have hG : q_G ρ L M_X3_takeAxis_15_30_16 S S := q_G_refl hI
  unfold m_X3_takeAxis
  have z0 : (0 : Int32).toInt = 0 := rfl
  obtain ⟨aT, eaT, maT, raT⟩ := id tp0
  have f1 : q_sm _ := g_30_J3 hG maT raT
  obtain ⟨v2, ev2⟩ := q_ev ((q_J (S) aT 3).toInt)
  have f3 := q_bV ev2 f1
  have f4 := q_leCv ev2 (ht aT eaT)
  exact s_X3_takeAxis_15_30_16_6 hn n _ _ _ _ _ _ _ _ hG (q_trI mo ro) tp0 tp1 (q_wd hp3 (by decide) (by decide)) (q_wd hp4 (by decide) (by decide)) (q_wd hp2 (by decide) (by decide)) (q_trE eaT maT raT) (q_trk eaT ⟨q_le3 (K9 := 4) (E9 := 0) ev2 ev2 q_evr (by omega), q_leC ev2 (by omega)⟩) (by first | rfl | exact hd)  (q_upV q_evr (by omega))
def M_X3_takeAxis_15_30_17 : List Nat := [1088, 1922, 1923]
set_option maxHeartbeats 4000000 in
set_option maxRecDepth 100000 in
theorem s_X3_takeAxis_15_30_17_89 {ρ : Nat → Nat} {L : List Nat} {n : Nat} (hn : 18446744073709551616 ≤ n) {dT : Option Nat} {S0 : q_S}  {k6 : q_S → Option Nat → Option Nat → Option Nat → Int32 → Int32 → Int32 → Int32 → Option (Unit × q_S)} {B6 : Int} (hk6 : ∀ (S : q_S) (z0 : Option Nat) (z1 : Option Nat) (z2 : Option Nat) (z3 : Int32) (z4 : Int32) (z5 : Int32) (z6 : Int32), q_G ρ L M_X3_takeAxis_15_30_17 S0 S → q_tr ρ L z0 15 → q_tr ρ L z1 30 → q_tr ρ L z2 17 → (4 ≤ z3.toInt ∧ z3.toInt ≤ 4) → (32 ≤ z4.toInt ∧ z4.toInt ≤ 32) → (0 ≤ z6.toInt ∧ z6.toInt ≤ 120) → q_tr ρ L dT 30 → (∀ a, dT = some a → (q_J S a 3).toInt ≤ (q_J S0 a 3).toInt + 4 * z6.toInt + 0 ∧ (q_J S0 a 3).toInt ≤ 140737555464192) → z1 = dT → 2147483648 - z6.toInt < B6 → q_ok (k6 S z0 z1 z2 z3 z4 z5 z6) (fun _ T => q_G ρ L M_X3_takeAxis_15_30_17 S0 T ∧ q_sm (∀ a, dT = some a → (q_J T a 3).toInt ≤ (q_J S0 a 3).toInt + 600))) (S : q_S) (l0 : Option Nat) (l1 : Option Nat) (l2 : Option Nat) (l4 : Int32) (l5 : Int32) (l6 : Int32) (l7 : Int32) (hG : q_G ρ L M_X3_takeAxis_15_30_17 S0 S) (hl0 : q_tr ρ L l0 15) (hl1 : q_tr ρ L l1 30) (hl2 : q_tr ρ L l2 17) (hl4 : (4 ≤ l4.toInt ∧ l4.toInt ≤ 4)) (hl5 : (32 ≤ l5.toInt ∧ l5.toInt ≤ 32)) (hl7 : (0 ≤ l7.toInt ∧ l7.toInt ≤ 119)) (htT : q_tr ρ L dT 30) (hT : (∀ a, dT = some a → (q_J S a 3).toInt ≤ (q_J S0 a 3).toInt + 4 * l7.toInt + 4 ∧ (q_J S0 a 3).toInt ≤ 140737555464192)) (hd : l1 = dT) (hm6 : 2147483648 - l7.toInt ≤ B6) : q_ok (m_X3_takeAxis_89 n k6 S l0 l1 l2 l4 l5 l6 l7) (fun _ T => q_G ρ L M_X3_takeAxis_15_30_17 S0 T ∧ q_sm (∀ a, dT = some a → (q_J T a 3).toInt ≤ (q_J S0 a 3).toInt + 600)) := by
  unfold m_X3_takeAxis_89
  have z0 : (0 : Int32).toInt = 0 := rfl
  subst hd
  obtain ⟨aT, eaT, maT, raT⟩ := id htT
  have f1 : q_sm _ := g_30_J3 hG maT raT
  obtain ⟨v2, ev2⟩ := q_ev ((q_J (S) aT 3).toInt)
  have f3 := q_bV ev2 f1
  obtain ⟨v4, ev4⟩ := q_ev ((q_J (S0) aT 3).toInt)
  have f5 := q_rVJ (X := q_J (S0) aT 3) ev4
  have f6 := q_le3v (K9 := 4) (E9 := 4) ev2 ev4 q_evr (hT aT eaT).1
  have f7 := q_leCv ev4 (hT aT eaT).2
  refine q_ok_at hG hl2 rfl (fun a8 ma8 ra8 ea8 => ?_)
  refine q_ok_if (q_inV (g_17_N hG ma8 ra8) q_evr (by omega) (by omega)) ?_
  have hG := u_17_E (k := (l7).toNatClampNeg) (x := l6) hG ma8 ra8 (by decide)
  have e9 : q_J (q_sI (S) a8 (l7).toNatClampNeg (l6)) aT 3 = q_J (S) aT 3 := q_skJI
  obtain ⟨v10, ev10⟩ := q_ev ((q_J (q_sI (S) a8 (l7).toNatClampNeg (l6)) aT 3).toInt)
  have f11 : v10 = v2 := q_eqVJ e9 ev10 ev2
  obtain ⟨v12, ev12⟩ := q_ev ((l7 + (1)).toInt)
  have f13 : v12 = l7.toInt + (1) := q_addVI ev12 q_evr (show q_eqv ((1 : Int32)).toInt (1) by unfold q_eqv; decide) (by omega) (by omega)
  exact hk6 _ _ _ _ _ _ _ _ hG hl0 hl1 hl2 (q_wd hl4 (by decide) (by decide)) (q_wd hl5 (by decide) (by decide)) (q_wd (q_addBI (1) (120) hl7 (show (1 : Int) ≤ (1 : Int32).toInt ∧ (1 : Int32).toInt ≤ (1 : Int) by decide) (by decide) (by decide) (by decide) (by decide)) (by decide) (by decide)) (q_trE eaT maT raT) (q_trk eaT ⟨q_le3 (K9 := 4) (E9 := 0) ev10 ev4 ev12 (by omega), q_leC ev4 (by omega)⟩) (by first | rfl | exact hd)  (q_upVl ev12 (by omega))
set_option maxHeartbeats 4000000 in
set_option maxRecDepth 100000 in
theorem s_X3_takeAxis_15_30_17_6 {ρ : Nat → Nat} {L : List Nat} {n : Nat} (hn : 18446744073709551616 ≤ n) {dT : Option Nat} {S0 : q_S}  : ∀ (k : Nat) (S : q_S) (l0 : Option Nat) (l1 : Option Nat) (l2 : Option Nat) (l4 : Int32) (l5 : Int32) (l6 : Int32) (l7 : Int32), q_G ρ L M_X3_takeAxis_15_30_17 S0 S → q_tr ρ L l0 15 → q_tr ρ L l1 30 → q_tr ρ L l2 17 → (4 ≤ l4.toInt ∧ l4.toInt ≤ 4) → (32 ≤ l5.toInt ∧ l5.toInt ≤ 32) → (0 ≤ l7.toInt ∧ l7.toInt ≤ 120) → q_tr ρ L dT 30 → (∀ a, dT = some a → (q_J S a 3).toInt ≤ (q_J S0 a 3).toInt + 4 * l7.toInt + 0 ∧ (q_J S0 a 3).toInt ≤ 140737555464192) → l1 = dT → 2147483648 - l7.toInt ≤ (k : Int) → q_ok (m_X3_takeAxis_6 n k S l0 l1 l2 l4 l5 l6 l7) (fun _ T => q_G ρ L M_X3_takeAxis_15_30_17 S0 T ∧ q_sm (∀ a, dT = some a → (q_J T a 3).toInt ≤ (q_J S0 a 3).toInt + 600)) := by
  intro k
  induction k with
  | zero =>
    intro S l0 l1 l2 l4 l5 l6 l7 hG hl0 hl1 hl2 hl4 hl5 hl7 htT hT hd hm
    have f0 := q_rngI l7
    exfalso; omega
  | succ k ih =>
    intro S l0 l1 l2 l4 l5 l6 l7 hG hl0 hl1 hl2 hl4 hl5 hl7 htT hT hd hm
    rw [m_X3_takeAxis_6]
    have z0 : (0 : Int32).toInt = 0 := rfl
    subst hd
    obtain ⟨aT, eaT, maT, raT⟩ := id htT
    have f1 : q_sm _ := g_30_J3 hG maT raT
    obtain ⟨v2, ev2⟩ := q_ev ((q_J (S) aT 3).toInt)
    have f3 := q_bV ev2 f1
    obtain ⟨v4, ev4⟩ := q_ev ((q_J (S0) aT 3).toInt)
    have f5 := q_rVJ (X := q_J (S0) aT 3) ev4
    have f6 := q_le3v (K9 := 4) (E9 := 0) ev2 ev4 q_evr (hT aT eaT).1
    have f7 := q_leCv ev4 (hT aT eaT).2
    refine q_ok_at hG hl0 rfl (fun a8 ma8 ra8 ea8 => ?_)
    have f9 : q_sm _ := g_15_I4 hG ma8 ra8
    obtain ⟨v10, ev10⟩ := q_ev ((q_I (S) a8 4).toInt)
    have f11 := q_bV ev10 f9
    refine q_ok_ite (fun g12 => ?_) (fun g12 => ?_)
    · have f13 := q_leV ev10 q_evr (q_p_ge g12)
      exact q_ok_some ⟨hG, (q_trk eaT (q_leD ev2 ev4 (by omega)))⟩
    · have f14 := q_ltV q_evr ev10 (q_n_ge g12)
      have t15 := g_15_R2 hG ma8 ra8
      refine q_ok_at hG t15 rfl (fun a16 ma16 ra16 ea16 => ?_)
      refine q_ok_if (q_inV (g_18_N hG ma16 ra16) q_evr (by omega) (by omega)) ?_
      have f17 : q_sm _ := g_18_E hG ma16 ra16 (k := (l7).toNatClampNeg)
      obtain ⟨v18, ev18⟩ := q_ev (((q_I (S) a16 (l7).toNatClampNeg) &&& l5).toInt)
      have f19 := q_andRVI ev18 q_evr (by omega)
      refine q_ok_ite (fun g20 => ?_) (fun g20 => ?_)
      · have f21 := q_eqV ev18 (show q_eqv ((0 : Int32)).toInt (0) by unfold q_eqv; decide) (q_p_eq g20)
        unfold m_X3_takeAxis_33
        refine q_ok_atA hG ea8 ma8 ra8 rfl ?_
        have t22 := g_15_R2 hG ma8 ra8
        refine q_ok_atA hG ea16 ma16 ra16 rfl ?_
        refine q_ok_if (q_inV (g_18_N hG ma16 ra16) q_evr (by omega) (by omega)) ?_
        obtain ⟨v23, ev23⟩ := q_ev (((q_I (S) a16 (l7).toNatClampNeg) &&& l4).toInt)
        have f24 := q_andRVI ev23 q_evr (by omega)
        refine q_ok_ite (fun g25 => ?_) (fun g25 => ?_)
        · have f26 := q_eqV ev23 (show q_eqv ((0 : Int32)).toInt (0) by unfold q_eqv; decide) (q_p_eq g25)
          refine q_ok_ite (fun g27 => ?_) (fun g27 => ?_)
          · have f28 := q_eqV (show q_eqv ((0 : Int32)).toInt (0) by unfold q_eqv; decide) (show q_eqv ((0 : Int32)).toInt (0) by unfold q_eqv; decide) (q_p_eq g27)
            refine q_ok_atA hG eaT maT raT rfl ?_
            refine q_ok_b (s_X1_signedTwo_30 hn hG.1 maT raT (q_leC ev2 (by omega))) (fun r29 S30 h31 => ?_)
            have hG := q_G_call hG h31.1 (by decide)
            have f32 := h31.2.1
            have f33 : q_sm _ := g_30_J3 hG maT raT
            obtain ⟨v34, ev34⟩ := q_ev ((q_J (S30) aT 3).toInt)
            have f35 := q_bV ev34 f33
            have f36 := q_leDv ev34 ev2 (h31.2.2)
            exact s_X3_takeAxis_15_30_17_89 hn (B6 := (k : Int) + 1) (fun S9 z0 z1 z2 z3 z4 z5 z6 hG9 hz0 hz1 hz2 hz3 hz4 hz6 hzt hzT hzd  hm9 => ih S9 z0 z1 z2 z3 z4 z5 z6 hG9 hz0 hz1 hz2 hz3 hz4 hz6 hzt hzT hzd  (by omega)) _ _ _ _ _ _ _ _ hG hl0 hl1 hl2 (q_wd hl4 (by decide) (by decide)) (q_wd hl5 (by decide) (by decide)) (q_oV q_evr (by omega) (by omega)) (q_trE eaT maT raT) (q_trk eaT ⟨q_le3 (K9 := 4) (E9 := 4) ev34 ev4 q_evr (by omega), q_leC ev4 (by omega)⟩) (by first | rfl | exact hd) (q_upV q_evr (by omega))
          · have f37 := q_neV (show q_eqv ((0 : Int32)).toInt (0) by unfold q_eqv; decide) (show q_eqv ((0 : Int32)).toInt (0) by unfold q_eqv; decide) (q_n_eq g27)
            exfalso; omega
        · have f38 := q_neV ev23 (show q_eqv ((0 : Int32)).toInt (0) by unfold q_eqv; decide) (q_n_eq g25)
          refine q_ok_atA hG eaT maT raT rfl ?_
          refine q_ok_b (s_X1_one_30 hn hG.1 maT raT (q_leC ev2 (by omega))) (fun r39 S40 h41 => ?_)
          have hG := q_G_call hG h41.1 (by decide)
          have f42 := h41.2.1
          have f43 : q_sm _ := g_30_J3 hG maT raT
          obtain ⟨v44, ev44⟩ := q_ev ((q_J (S40) aT 3).toInt)
          have f45 := q_bV ev44 f43
          have f46 := q_leDv ev44 ev2 (h41.2.2)
          refine q_ok_ite (fun g47 => ?_) (fun g47 => ?_)
          · have f48 := q_eqV (show q_eqv ((0 : Int32)).toInt (0) by unfold q_eqv; decide) (show q_eqv ((0 : Int32)).toInt (0) by unfold q_eqv; decide) (q_p_eq g47)
            unfold m_X3_takeAxis_69
            exact s_X3_takeAxis_15_30_17_89 hn (B6 := (k : Int) + 1) (fun S9 z0 z1 z2 z3 z4 z5 z6 hG9 hz0 hz1 hz2 hz3 hz4 hz6 hzt hzT hzd  hm9 => ih S9 z0 z1 z2 z3 z4 z5 z6 hG9 hz0 hz1 hz2 hz3 hz4 hz6 hzt hzT hzd  (by omega)) _ _ _ _ _ _ _ _ hG hl0 hl1 hl2 (q_wd hl4 (by decide) (by decide)) (q_wd hl5 (by decide) (by decide)) (q_oV q_evr (by omega) (by omega)) (q_trE eaT maT raT) (q_trk eaT ⟨q_le3 (K9 := 4) (E9 := 4) ev44 ev4 q_evr (by omega), q_leC ev4 (by omega)⟩) (by first | rfl | exact hd) (q_upV q_evr (by omega))
          · have f49 := q_neV (show q_eqv ((0 : Int32)).toInt (0) by unfold q_eqv; decide) (show q_eqv ((0 : Int32)).toInt (0) by unfold q_eqv; decide) (q_n_eq g47)
            exfalso; omega
      · have f50 := q_neV ev18 (show q_eqv ((0 : Int32)).toInt (0) by unfold q_eqv; decide) (q_n_eq g20)
        unfold m_X3_takeAxis_33
        refine q_ok_atA hG ea8 ma8 ra8 rfl ?_
        have t51 := g_15_R2 hG ma8 ra8
        refine q_ok_atA hG ea16 ma16 ra16 rfl ?_
        refine q_ok_if (q_inV (g_18_N hG ma16 ra16) q_evr (by omega) (by omega)) ?_
        obtain ⟨v52, ev52⟩ := q_ev (((q_I (S) a16 (l7).toNatClampNeg) &&& l4).toInt)
        have f53 := q_andRVI ev52 q_evr (by omega)
        refine q_ok_ite (fun g54 => ?_) (fun g54 => ?_)
        · have f55 := q_eqV ev52 (show q_eqv ((0 : Int32)).toInt (0) by unfold q_eqv; decide) (q_p_eq g54)
          refine q_ok_ite (fun g56 => ?_) (fun g56 => ?_)
          · have f57 := q_eqV (show q_eqv ((1 : Int32)).toInt (1) by unfold q_eqv; decide) (show q_eqv ((0 : Int32)).toInt (0) by unfold q_eqv; decide) (q_p_eq g56)
            exfalso; omega
          · have f58 := q_neV (show q_eqv ((1 : Int32)).toInt (1) by unfold q_eqv; decide) (show q_eqv ((0 : Int32)).toInt (0) by unfold q_eqv; decide) (q_n_eq g56)
            exact s_X3_takeAxis_15_30_17_89 hn (B6 := (k : Int) + 1) (fun S9 z0 z1 z2 z3 z4 z5 z6 hG9 hz0 hz1 hz2 hz3 hz4 hz6 hzt hzT hzd  hm9 => ih S9 z0 z1 z2 z3 z4 z5 z6 hG9 hz0 hz1 hz2 hz3 hz4 hz6 hzt hzT hzd  (by omega)) _ _ _ _ _ _ _ _ hG hl0 hl1 hl2 (q_wd hl4 (by decide) (by decide)) (q_wd hl5 (by decide) (by decide)) (q_oV q_evr (by omega) (by omega)) (q_trE eaT maT raT) (q_trk eaT ⟨q_le3 (K9 := 4) (E9 := 4) ev2 ev4 q_evr (by omega), q_leC ev4 (by omega)⟩) (by first | rfl | exact hd) (q_upV q_evr (by omega))
        · have f59 := q_neV ev52 (show q_eqv ((0 : Int32)).toInt (0) by unfold q_eqv; decide) (q_n_eq g54)
          refine q_ok_atA hG eaT maT raT rfl ?_
          refine q_ok_b (s_X1_one_30 hn hG.1 maT raT (q_leC ev2 (by omega))) (fun r60 S61 h62 => ?_)
          have hG := q_G_call hG h62.1 (by decide)
          have f63 := h62.2.1
          have f64 : q_sm _ := g_30_J3 hG maT raT
          obtain ⟨v65, ev65⟩ := q_ev ((q_J (S61) aT 3).toInt)
          have f66 := q_bV ev65 f64
          have f67 := q_leDv ev65 ev2 (h62.2.2)
          refine q_ok_ite (fun g68 => ?_) (fun g68 => ?_)
          · have f69 := q_eqV (show q_eqv ((1 : Int32)).toInt (1) by unfold q_eqv; decide) (show q_eqv ((0 : Int32)).toInt (0) by unfold q_eqv; decide) (q_p_eq g68)
            exfalso; omega
          · have f70 := q_neV (show q_eqv ((1 : Int32)).toInt (1) by unfold q_eqv; decide) (show q_eqv ((0 : Int32)).toInt (0) by unfold q_eqv; decide) (q_n_eq g68)
            unfold m_X3_takeAxis_69
            exact s_X3_takeAxis_15_30_17_89 hn (B6 := (k : Int) + 1) (fun S9 z0 z1 z2 z3 z4 z5 z6 hG9 hz0 hz1 hz2 hz3 hz4 hz6 hzt hzT hzd  hm9 => ih S9 z0 z1 z2 z3 z4 z5 z6 hG9 hz0 hz1 hz2 hz3 hz4 hz6 hzt hzT hzd  (by omega)) _ _ _ _ _ _ _ _ hG hl0 hl1 hl2 (q_wd hl4 (by decide) (by decide)) (q_wd hl5 (by decide) (by decide)) (q_oV q_evr (by omega) (by omega)) (q_trE eaT maT raT) (q_trk eaT ⟨q_le3 (K9 := 4) (E9 := 4) ev65 ev4 q_evr (by omega), q_leC ev4 (by omega)⟩) (by first | rfl | exact hd) (q_upV q_evr (by omega))
set_option maxHeartbeats 4000000 in
set_option maxRecDepth 100000 in
theorem s_X3_takeAxis_15_30_17 {ρ : Nat → Nat} {L : List Nat} {n : Nat} (hn : 18446744073709551616 ≤ n) {S : q_S} (hI : q_Inv ρ L S) {o : Nat} (mo : o ∈ L) (ro : ρ o = 15) {p0 : Option Nat} (tp0 : q_tr ρ L p0 30) {p1 : Option Nat} (tp1 : q_tr ρ L p1 17) {p2 : Int32} (hp2 : (0 ≤ p2.toInt ∧ p2.toInt ≤ 120)) {p3 : Int32} (hp3 : (4 ≤ p3.toInt ∧ p3.toInt ≤ 4)) {p4 : Int32} (hp4 : (32 ≤ p4.toInt ∧ p4.toInt ≤ 32)) (ht : ∀ a, p0 = some a → (q_J S a 3).toInt ≤ 140737555464192) : q_ok (m_X3_takeAxis n S o p0 p1 p2 p3 p4) (fun _ T => q_G ρ L M_X3_takeAxis_15_30_17 S T ∧ q_sm (∀ a, p0 = some a → (q_J T a 3).toInt ≤ (q_J S a 3).toInt + 600)) := by
  have hG : q_G ρ L M_X3_takeAxis_15_30_17 S S := q_G_refl hI
  unfold m_X3_takeAxis
  have z0 : (0 : Int32).toInt = 0 := rfl
  obtain ⟨aT, eaT, maT, raT⟩ := id tp0
  have f1 : q_sm _ := g_30_J3 hG maT raT
  obtain ⟨v2, ev2⟩ := q_ev ((q_J (S) aT 3).toInt)
  have f3 := q_bV ev2 f1
  have f4 := q_leCv ev2 (ht aT eaT)
  exact s_X3_takeAxis_15_30_17_6 hn n _ _ _ _ _ _ _ _ hG (q_trI mo ro) tp0 tp1 (q_wd hp3 (by decide) (by decide)) (q_wd hp4 (by decide) (by decide)) (q_wd hp2 (by decide) (by decide)) (q_trE eaT maT raT) (q_trk eaT ⟨q_le3 (K9 := 4) (E9 := 0) ev2 ev2 q_evr (by omega), q_leC ev2 (by omega)⟩) (by first | rfl | exact hd)  (q_upV q_evr (by omega))
