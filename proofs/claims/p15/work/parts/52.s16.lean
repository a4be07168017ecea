def M_X3_move_15 : List Nat := [1024, 1088]
set_option maxHeartbeats 4000000 in
set_option maxRecDepth 100000 in
theorem s_X3_move_15_7 {ρ : Nat → Nat} {L : List Nat} {n : Nat} (hn : 18446744073709551616 ≤ n) {S0 : q_S}  : ∀ (k : Nat) (S : q_S) (l0 : Option Nat) (l2 : Int32) (l3 : Int32) (l4 : Int32), q_G ρ L M_X3_move_15 S0 S → q_tr ρ L l0 15 → (0 ≤ l4.toInt ∧ l4.toInt ≤ 120) → 2147483648 - l4.toInt ≤ (k : Int) → q_ok (m_X3_move_7 n k S l0 l2 l3 l4) (fun _ T => q_G ρ L M_X3_move_15 S0 T) := by
  intro k
  induction k with
  | zero =>
    intro S l0 l2 l3 l4 hG hl0 hl4 hm
    have f0 := q_rngI l4
    exfalso; omega
  | succ k ih =>
    intro S l0 l2 l3 l4 hG hl0 hl4 hm
    rw [m_X3_move_7]
    have z0 : (0 : Int32).toInt = 0 := rfl
    refine q_ok_at hG hl0 rfl (fun a1 ma1 ra1 ea1 => ?_)
    have f2 : q_sm _ := g_15_I4 hG ma1 ra1
    obtain ⟨v3, ev3⟩ := q_ev ((q_I (S) a1 4).toInt)
    have f4 := q_bV ev3 f2
    refine q_ok_ite (fun g5 => ?_) (fun g5 => ?_)
    · have f6 := q_leV ev3 q_evr (q_p_ge g5)
      exact q_ok_some hG
    · have f7 := q_ltV q_evr ev3 (q_n_ge g5)
      have t8 := g_15_R0 hG ma1 ra1
      refine q_ok_at hG t8 rfl (fun a9 ma9 ra9 ea9 => ?_)
      refine q_ok_if (q_inV (g_16_N hG ma9 ra9) q_evr (by omega) (by omega)) ?_
      refine q_ok_if (q_inV (g_16_N hG ma9 ra9) q_evr (by omega) (by omega)) ?_
      have hG := u_16_E (k := (l4).toNatClampNeg) (x := (q_I (S) a9 (l4).toNatClampNeg) + l2) hG ma9 ra9 (by decide)
      have t10 := g_15_R1 hG ma1 ra1
      refine q_ok_at hG t10 rfl (fun a11 ma11 ra11 ea11 => ?_)
      refine q_ok_if (q_inV (g_17_N hG ma11 ra11) q_evr (by omega) (by omega)) ?_
      refine q_ok_if (q_inV (g_17_N hG ma11 ra11) q_evr (by omega) (by omega)) ?_
      have hG := u_17_E (k := (l4).toNatClampNeg) (x := (q_I (q_sI (S) a9 (l4).toNatClampNeg ((q_I (S) a9 (l4).toNatClampNeg) + l2)) a11 (l4).toNatClampNeg) + l3) hG ma11 ra11 (by decide)
      refine q_ok_let (fun S12 eS12 => ?_)
      rw [← eS12] at hG
      obtain ⟨v13, ev13⟩ := q_ev ((l4 + (1)).toInt)
      have f14 : v13 = l4.toInt + (1) := q_addVI ev13 q_evr (show q_eqv ((1 : Int32)).toInt (1) by unfold q_eqv; decide) (by omega) (by omega)
      exact ih _ _ _ _ _ hG hl0 (q_oV ev13 (by omega) (by omega))  (q_upV ev13 (by omega))
set_option maxHeartbeats 4000000 in
set_option maxRecDepth 100000 in
theorem s_X3_move_15 {ρ : Nat → Nat} {L : List Nat} {n : Nat} (hn : 18446744073709551616 ≤ n) {S : q_S} (hI : q_Inv ρ L S) {o : Nat} (mo : o ∈ L) (ro : ρ o = 15) {p0 : Int32} (hp0 : (0 ≤ p0.toInt ∧ p0.toInt ≤ 120)) {p1 : Int32} {p2 : Int32} : q_ok (m_X3_move n S o p0 p1 p2) (fun _ T => q_G ρ L M_X3_move_15 S T) := by
  have hG : q_G ρ L M_X3_move_15 S S := q_G_refl hI
  unfold m_X3_move
  have z0 : (0 : Int32).toInt = 0 := rfl
  refine q_ok_b (s_J9_max_7cf53 n _ _ _) (fun r1 S2 h3 => ?_)
  obtain ⟨eS2, h3⟩ := h3
  replace h3 := q_mmVX (show q_eqv ((0 : Int32)).toInt (0) by unfold q_eqv; decide) q_evr h3
  replace eS2 := eS2.symm
  subst eS2
  exact s_X3_move_15_7 hn n _ _ _ _ _ hG (q_trI mo ro) (q_oV q_evr (by omega) (by omega))  (q_upV q_evr (by omega))
set_option maxHeartbeats 4000000 in
set_option maxRecDepth 100000 in
theorem s_X3_wholes {ρ : Nat → Nat} {L : List Nat} {n : Nat} (hn : 18446744073709551616 ≤ n) {S : q_S} (hI : q_Inv ρ L S) {p0 : Int64} : q_ok (m_X3_wholes n S p0) (fun r T => T = S) := by
  have hG : q_G ρ L [] S S := q_G_refl hI
  unfold m_X3_wholes
  have z0 : (0 : Int32).toInt = 0 := rfl
  refine q_ok_b (s_J9_floorDiv_f86c9 hn hG.1 (q_wd (show (16384 : Int) ≤ (16384 : Int64).toInt ∧ (16384 : Int64).toInt ≤ (16384 : Int) by decide) (by decide) (by decide))) (fun r1 S2 h3 => ?_)
  have eS2 := h3
  replace eS2 := eS2.symm
  subst eS2
  exact q_ok_some rfl
def M_X3_scale_15_30 : List Nat := [1024, 1088]
set_option maxHeartbeats 4000000 in
set_option maxRecDepth 100000 in
theorem s_X3_scale_15_30_6 {ρ : Nat → Nat} {L : List Nat} {n : Nat} (hn : 18446744073709551616 ≤ n) {S0 : q_S}  : ∀ (k : Nat) (S : q_S) (l0 : Option Nat) (l2 : Option Nat) (l3 : Int32), q_G ρ L M_X3_scale_15_30 S0 S → q_tr ρ L l0 15 → q_tr ρ L l2 30 → (0 ≤ l3.toInt ∧ l3.toInt ≤ 120) → 2147483648 - l3.toInt ≤ (k : Int) → q_ok (m_X3_scale_6 n k S l0 l2 l3) (fun _ T => q_G ρ L M_X3_scale_15_30 S0 T) := by
  intro k
  induction k with
  | zero =>
    intro S l0 l2 l3 hG hl0 hl2 hl3 hm
    have f0 := q_rngI l3
    exfalso; omega
  | succ k ih =>
    intro S l0 l2 l3 hG hl0 hl2 hl3 hm
    rw [m_X3_scale_6]
    have z0 : (0 : Int32).toInt = 0 := rfl
    refine q_ok_at hG hl0 rfl (fun a1 ma1 ra1 ea1 => ?_)
    have f2 : q_sm _ := g_15_I4 hG ma1 ra1
    obtain ⟨v3, ev3⟩ := q_ev ((q_I (S) a1 4).toInt)
    have f4 := q_bV ev3 f2
    refine q_ok_ite (fun g5 => ?_) (fun g5 => ?_)
    · have f6 := q_leV ev3 q_evr (q_p_ge g5)
      exact q_ok_some hG
    · have f7 := q_ltV q_evr ev3 (q_n_ge g5)
      have t8 := g_15_R0 hG ma1 ra1
      refine q_ok_at hG t8 rfl (fun a9 ma9 ra9 ea9 => ?_)
      refine q_ok_if (q_inV (g_16_N hG ma9 ra9) q_evr (by omega) (by omega)) ?_
      have t10 := g_15_R1 hG ma1 ra1
      refine q_ok_at hG t10 rfl (fun a11 ma11 ra11 ea11 => ?_)
      refine q_ok_if (q_inV (g_17_N hG ma11 ra11) q_evr (by omega) (by omega)) ?_
      have t12 := g_15_R0 hG ma1 ra1
      refine q_ok_at hG hl2 rfl (fun a13 ma13 ra13 ea13 => ?_)
      have f14 : q_sm _ := g_30_I10 hG ma13 ra13
      have f15 : q_sm _ := g_30_I12 hG ma13 ra13
      refine q_ok_b (s_X3_wholes hn hG.1 ) (fun r16 S17 h18 => ?_)
      have eS17 := h18
      replace eS17 := eS17.symm
      subst eS17
      refine q_ok_atA hG ea9 ma9 ra9 rfl ?_
      refine q_ok_if (q_inV (g_16_N hG ma9 ra9) q_evr (by omega) (by omega)) ?_
      have hG := u_16_E (k := (l3).toNatClampNeg) (x := r16) hG ma9 ra9 (by decide)
      refine q_ok_atA hG ea1 ma1 ra1 rfl ?_
      have t19 := g_15_R1 hG ma1 ra1
      have e20 : q_R (q_sI (S) a9 (l3).toNatClampNeg (r16)) a1 1 = q_R (S) a1 1 := q_skRI
      refine q_ok_atA hG ea13 ma13 ra13 rfl ?_
      have f21 : q_sm _ := g_30_I11 hG ma13 ra13
      have f22 : q_sm _ := g_30_I13 hG ma13 ra13
      refine q_ok_b (s_X3_wholes hn hG.1 ) (fun r23 S24 h25 => ?_)
      have eS24 := h25
      replace eS24 := eS24.symm
      subst eS24
      refine q_ok_atA hG (Eq.trans e20 ea11) ma11 ra11 rfl ?_
      refine q_ok_if (q_inV (g_17_N hG ma11 ra11) q_evr (by omega) (by omega)) ?_
      have hG := u_17_E (k := (l3).toNatClampNeg) (x := r23) hG ma11 ra11 (by decide)
      obtain ⟨v26, ev26⟩ := q_ev ((l3 + (1)).toInt)
      have f27 : v26 = l3.toInt + (1) := q_addVI ev26 q_evr (show q_eqv ((1 : Int32)).toInt (1) by unfold q_eqv; decide) (by omega) (by omega)
      exact ih _ _ _ _ hG hl0 hl2 (q_oV ev26 (by omega) (by omega))  (q_upV ev26 (by omega))
set_option maxHeartbeats 4000000 in
set_option maxRecDepth 100000 in
theorem s_X3_scale_15_30 {ρ : Nat → Nat} {L : List Nat} {n : Nat} (hn : 18446744073709551616 ≤ n) {S : q_S} (hI : q_Inv ρ L S) {o : Nat} (mo : o ∈ L) (ro : ρ o = 15) {p0 : Int32} (hp0 : (0 ≤ p0.toInt ∧ p0.toInt ≤ 120)) {p1 : Option Nat} (tp1 : q_tr ρ L p1 30) : q_ok (m_X3_scale n S o p0 p1) (fun _ T => q_G ρ L M_X3_scale_15_30 S T) := by
  have hG : q_G ρ L M_X3_scale_15_30 S S := q_G_refl hI
  unfold m_X3_scale
  have z0 : (0 : Int32).toInt = 0 := rfl
  refine q_ok_b (s_J9_max_7cf53 n _ _ _) (fun r1 S2 h3 => ?_)
  obtain ⟨eS2, h3⟩ := h3
  replace h3 := q_mmVX (show q_eqv ((0 : Int32)).toInt (0) by unfold q_eqv; decide) q_evr h3
  replace eS2 := eS2.symm
  subst eS2
  exact s_X3_scale_15_30_6 hn n _ _ _ _ hG (q_trI mo ro) tp1 (q_oV q_evr (by omega) (by omega))  (q_upV q_evr (by omega))
set_option maxHeartbeats 4000000 in
set_option maxRecDepth 100000 in
theorem s_X5_isOpened_14_30 {ρ : Nat → Nat} {L : List Nat} {n : Nat} {S : q_S} (hn : 18446744073709551616 ≤ n) (hG : q_G ρ L [] S S)   : q_ok (m_X5_isOpened_30 n S) (fun r T => T = S ∧ (0 ≤ r.toInt ∧ r.toInt ≤ 1)) := by
  unfold m_X5_isOpened_30
  have z0 : (0 : Int32).toInt = 0 := rfl
  refine q_ok_if (q_b01V (show q_eqv ((0 : Int32)).toInt (0) by unfold q_eqv; decide) (by omega) (by omega)) ?_
  exact q_ok_some ⟨rfl, (q_wd (show (0 : Int) ≤ (0 : Int32).toInt ∧ (0 : Int32).toInt ≤ (0 : Int) by decide) (by decide) (by decide))⟩
set_option maxHeartbeats 4000000 in
set_option maxRecDepth 100000 in
theorem s_X5_isOpened_14_2 {ρ : Nat → Nat} {L : List Nat} {n : Nat} {S : q_S} (hn : 18446744073709551616 ≤ n) (hG : q_G ρ L [] S S)  : ∀ (k : Nat) (l0 : Option Nat) (l1 : Int32) (l2 : Int32) (l3 : Int32), q_tr ρ L l0 14 → (0 ≤ l1.toInt ∧ l1.toInt ≤ 5) → (0 ≤ l2.toInt ∧ l2.toInt ≤ 199) → (0 ≤ l3.toInt ∧ l3.toInt ≤ 6) → 2147483648 - l3.toInt ≤ (k : Int) → q_ok (m_X5_isOpened_2 n k S l0 l1 l2 l3) (fun r T => T = S ∧ (0 ≤ r.toInt ∧ r.toInt ≤ 1)) := by
  intro k
  induction k with
  | zero =>
    intro l0 l1 l2 l3 hl0 hl1 hl2 hl3 hm
    have f0 := q_rngI l3
    exfalso; omega
  | succ k ih =>
    intro l0 l1 l2 l3 hl0 hl1 hl2 hl3 hm
    rw [m_X5_isOpened_2]
    have z0 : (0 : Int32).toInt = 0 := rfl
    refine q_ok_ite (fun g1 => ?_) (fun g1 => ?_)
    · have f2 := q_ltV q_evr q_evr (q_p_gt g1)
      exact s_X5_isOpened_14_30 hn hG   
    · have f3 := q_leV q_evr q_evr (q_n_gt g1)
      refine q_ok_ite (fun g4 => ?_) (fun g4 => ?_)
      · have f5 := q_ltV (show q_eqv ((5 : Int32)).toInt (5) by unfold q_eqv; decide) q_evr (q_p_gt g4)
        exfalso; omega
      · have f6 := q_leV q_evr (show q_eqv ((5 : Int32)).toInt (5) by unfold q_eqv; decide) (q_n_gt g4)
        refine q_ok_at hG hl0 rfl (fun a7 ma7 ra7 ea7 => ?_)
        have t8 := g_14_R5 hG ma7 ra7
        refine q_ok_at hG t8 rfl (fun a9 ma9 ra9 ea9 => ?_)
        refine q_ok_if (q_inV (g_26_N hG ma9 ra9) q_evr (by omega) (by omega)) ?_
        have f10 : q_sm _ := g_26_E hG ma9 ra9 (k := (l3).toNatClampNeg)
        obtain ⟨v11, ev11⟩ := q_ev ((q_I (S) a9 (l3).toNatClampNeg).toInt)
        have f12 := q_bV ev11 f10
        refine q_ok_ite (fun g13 => ?_) (fun g13 => ?_)
        · have f14 := q_eqV ev11 q_evr (q_p_eq g13)
          refine q_ok_if (q_b01V (show q_eqv ((1 : Int32)).toInt (1) by unfold q_eqv; decide) (by omega) (by omega)) ?_
          exact q_ok_some ⟨rfl, (q_wd (show (1 : Int) ≤ (1 : Int32).toInt ∧ (1 : Int32).toInt ≤ (1 : Int) by decide) (by decide) (by decide))⟩
        · have f15 := q_neV ev11 q_evr (q_n_eq g13)
          obtain ⟨v16, ev16⟩ := q_ev ((l3 + (1)).toInt)
          have f17 : v16 = l3.toInt + (1) := q_addVI ev16 q_evr (show q_eqv ((1 : Int32)).toInt (1) by unfold q_eqv; decide) (by omega) (by omega)
          exact ih _ _ _ _ hl0 (q_wd hl1 (by decide) (by decide)) (q_wd hl2 (by decide) (by decide)) (q_oV ev16 (by omega) (by omega))  (q_upV ev16 (by omega))
set_option maxHeartbeats 4000000 in
set_option maxRecDepth 100000 in
theorem s_X5_isOpened_14 {ρ : Nat → Nat} {L : List Nat} {n : Nat} (hn : 18446744073709551616 ≤ n) {S : q_S} (hI : q_Inv ρ L S) {o : Nat} (mo : o ∈ L) (ro : ρ o = 14) {p0 : Int32} (hp0 : (0 ≤ p0.toInt ∧ p0.toInt ≤ 5)) {p1 : Int32} (hp1 : (0 ≤ p1.toInt ∧ p1.toInt ≤ 199)) : q_ok (m_X5_isOpened n S o p0 p1) (fun r T => T = S ∧ (0 ≤ r.toInt ∧ r.toInt ≤ 1)) := by
  have hG : q_G ρ L [] S S := q_G_refl hI
  unfold m_X5_isOpened
  have z0 : (0 : Int32).toInt = 0 := rfl
  exact s_X5_isOpened_14_2 hn hG n _ _ _ _ (q_trI mo ro) (q_wd hp0 (by decide) (by decide)) (q_wd hp1 (by decide) (by decide)) (q_wd (show (0 : Int) ≤ (0 : Int32).toInt ∧ (0 : Int32).toInt ≤ (0 : Int) by decide) (by decide) (by decide))  (q_upV (show q_eqv ((0 : Int32)).toInt (0) by unfold q_eqv; decide) (by omega))
def M_X5_join_14_30 : List Nat := [194, 256, 320, 1024, 1088]
set_option maxHeartbeats 4000000 in
set_option maxRecDepth 100000 in
theorem s_X5_join_14_30 {ρ : Nat → Nat} {L : List Nat} {n : Nat} (hn : 18446744073709551616 ≤ n) {S : q_S} (hI : q_Inv ρ L S) {o : Nat} (mo : o ∈ L) (ro : ρ o = 14) {p0 : Option Nat} (tp0 : q_tr ρ L p0 30) {p1 : Int32} (hp1 : (0 ≤ p1.toInt ∧ p1.toInt ≤ 120)) {p2 : Int32} (hp2 : (0 ≤ p2.toInt ∧ p2.toInt ≤ 120)) : q_ok (m_X5_join n S o p0 p1 p2) (fun _ T => q_G ρ L M_X5_join_14_30 S T) := by
  have hG : q_G ρ L M_X5_join_14_30 S S := q_G_refl hI
  unfold m_X5_join
  have z0 : (0 : Int32).toInt = 0 := rfl
  refine q_ok_at hG tp0 rfl (fun a1 ma1 ra1 ea1 => ?_)
  have f2 : q_sm _ := g_30_I8 hG ma1 ra1
  have f3 : q_sm _ := g_30_I9 hG ma1 ra1
  obtain ⟨v4, ev4⟩ := q_ev ((p1 + (q_I (S) a1 8)).toInt)
  obtain ⟨v5, ev5⟩ := q_ev ((q_I (S) a1 8).toInt)
  have f6 := q_bV ev5 f2
  have f7 : v4 = p1.toInt + v5 := q_addVI ev4 q_evr ev5 (by omega) (by omega)
  refine q_ok_ite (fun g8 => ?_) (fun g8 => ?_)
  · have f9 := q_leV q_evr ev4 (q_p_ge g8)
    unfold m_X5_join_91
    refine q_ok_atS hG (q_trI mo ro) rfl (fun mo ro => ?_)
    have t10 := g_14_R1 hG mo ro
    refine q_ok_atA hG ea1 ma1 ra1 rfl ?_
    have f11 : q_sm _ := g_30_I7 hG ma1 ra1
    refine q_ok_at hG t10 rfl (fun a12 ma12 ra12 ea12 => ?_)
    refine q_ok_b (s_X9_tell_3 hn hG.1 ma12 ra12 (q_wd (show (3 : Int) ≤ (3 : Int32).toInt ∧ (3 : Int32).toInt ≤ (3 : Int) by decide) (by decide) (by decide)) (q_wd f11 (by decide) (by decide))) (fun r13 S14 h15 => ?_)
    have hG := q_G_call hG h15 (by decide)
    unfold m_X5_join_103
    exact q_ok_some hG
  · have f16 := q_ltV ev4 q_evr (q_n_ge g8)
    refine q_ok_atS hG (q_trI mo ro) rfl (fun mo ro => ?_)
    have t17 := g_14_R2 hG mo ro
    refine q_ok_at hG t17 rfl (fun a18 ma18 ra18 ea18 => ?_)
    refine q_ok_b (s_X3_size_15 hn hG.1 ma18 ra18) (fun r19 S20 h21 => ?_)
    obtain ⟨eS20, h21⟩ := h21
    replace eS20 := eS20.symm
    subst eS20
    have f22 := h21
    obtain ⟨v23, ev23⟩ := q_ev ((p2 + (q_I (S) a1 9)).toInt)
    obtain ⟨v24, ev24⟩ := q_ev ((q_I (S) a1 9).toInt)
    have f25 := q_bV ev24 f3
    have f26 : v23 = p2.toInt + v24 := q_addVI ev23 q_evr ev24 (by omega) (by omega)
    refine q_ok_ite (fun g27 => ?_) (fun g27 => ?_)
    · have f28 := q_leV q_evr ev23 (q_p_ge g27)
      unfold m_X5_join_91
      refine q_ok_atS hG (q_trI mo ro) rfl (fun mo ro => ?_)
      have t29 := g_14_R1 hG mo ro
      refine q_ok_atA hG ea1 ma1 ra1 rfl ?_
      have f30 : q_sm _ := g_30_I7 hG ma1 ra1
      refine q_ok_at hG t29 rfl (fun a31 ma31 ra31 ea31 => ?_)
      refine q_ok_b (s_X9_tell_3 hn hG.1 ma31 ra31 (q_wd (show (3 : Int) ≤ (3 : Int32).toInt ∧ (3 : Int32).toInt ≤ (3 : Int) by decide) (by decide) (by decide)) (q_wd f30 (by decide) (by decide))) (fun r32 S33 h34 => ?_)
      have hG := q_G_call hG h34 (by decide)
      unfold m_X5_join_103
      exact q_ok_some hG
    · have f35 := q_ltV ev23 q_evr (q_n_ge g27)
      refine q_ok_atS hG (q_trI mo ro) rfl (fun mo ro => ?_)
      have t36 := g_14_R2 hG mo ro
      refine q_ok_atA hG ea18 ma18 ra18 rfl ?_
      refine q_ok_b (s_X3_x_15 hn hG.1 ma18 ra18) (fun r37 S38 h39 => ?_)
      have eS38 := h39
      replace eS38 := eS38.symm
      subst eS38
      refine q_ok_atS hG (q_trI mo ro) rfl (fun mo ro => ?_)
      have t40 := g_14_R2 hG mo ro
      refine q_ok_atA hG ea18 ma18 ra18 rfl ?_
      refine q_ok_b (s_X3_x_15 hn hG.1 ma18 ra18) (fun r41 S42 h43 => ?_)
      have eS42 := h43
      replace eS42 := eS42.symm
      subst eS42
      refine q_ok_atS hG (q_trI mo ro) rfl (fun mo ro => ?_)
      have t44 := g_14_R2 hG mo ro
      refine q_ok_atA hG ea18 ma18 ra18 rfl ?_
      refine q_ok_b (s_X3_y_15 hn hG.1 ma18 ra18) (fun r45 S46 h47 => ?_)
      have eS46 := h47
      replace eS46 := eS46.symm
      subst eS46
      refine q_ok_atS hG (q_trI mo ro) rfl (fun mo ro => ?_)
      have t48 := g_14_R2 hG mo ro
      refine q_ok_atA hG ea18 ma18 ra18 rfl ?_
      refine q_ok_b (s_X3_y_15 hn hG.1 ma18 ra18) (fun r49 S50 h51 => ?_)
      have eS50 := h51
      replace eS50 := eS50.symm
      subst eS50
      refine q_ok_atS hG (q_trI mo ro) rfl (fun mo ro => ?_)
      have t52 := g_14_R2 hG mo ro
      refine q_ok_atA hG ea18 ma18 ra18 rfl ?_
      refine q_ok_b (s_X3_move_15 hn hG.1 ma18 ra18 (q_wd hp2 (by decide) (by decide))) (fun r53 S54 h55 => ?_)
      have hG := q_G_call hG h55 (by decide)
      unfold m_X5_join_103
      exact q_ok_some hG
def M_X5_keepIfBarren_14 : List Nat := [1856]
set_option maxHeartbeats 4000000 in
set_option maxRecDepth 100000 in
theorem s_X5_keepIfBarren_14 {ρ : Nat → Nat} {L : List Nat} {n : Nat} (hn : 18446744073709551616 ≤ n) {S : q_S} (hI : q_Inv ρ L S) {o : Nat} (mo : o ∈ L) (ro : ρ o = 14) {p0 : Int32} (hp0 : (1 ≤ p0.toInt ∧ p0.toInt ≤ 5)) {p1 : Int32} (hp1 : (0 ≤ p1.toInt ∧ p1.toInt ≤ 199)) {p2 : Int32} (hp2 : (0 ≤ p2.toInt ∧ p2.toInt ≤ 1)) : q_ok (m_X5_keepIfBarren n S o p0 p1 p2) (fun _ T => q_G ρ L M_X5_keepIfBarren_14 S T) := by
  have hG : q_G ρ L M_X5_keepIfBarren_14 S S := q_G_refl hI
  unfold m_X5_keepIfBarren
  have z0 : (0 : Int32).toInt = 0 := rfl
  refine q_ok_atS hG (q_trI mo ro) rfl (fun mo ro => ?_)
  refine q_ok_b (s_X5_cellOf_14 hn hG.1 mo ro (q_wd hp0 (by decide) (by decide)) (q_wd hp1 (by decide) (by decide))) (fun r1 S2 h3 => ?_)
  obtain ⟨eS2, h3⟩ := h3
  replace eS2 := eS2.symm
  subst eS2
  have f4 := h3
  refine q_ok_ite (fun g5 => ?_) (fun g5 => ?_)
  · have f6 := q_eqV q_evr (show q_eqv ((0 : Int32)).toInt (0) by unfold q_eqv; decide) (q_p_eq g5)
    unfold m_X5_keepIfBarren_32
    exact q_ok_some hG
  · have f7 := q_neV q_evr (show q_eqv ((0 : Int32)).toInt (0) by unfold q_eqv; decide) (q_n_eq g5)
    refine q_ok_ite (fun g8 => ?_) (fun g8 => ?_)
    · have f9 := q_ltV q_evr (show q_eqv ((0 : Int32)).toInt (0) by unfold q_eqv; decide) (q_p_lt g8)
      unfold m_X5_keepIfBarren_32
      exact q_ok_some hG
    · have f10 := q_leV (show q_eqv ((0 : Int32)).toInt (0) by unfold q_eqv; decide) q_evr (q_n_lt g8)
      refine q_ok_atS hG (q_trI mo ro) rfl (fun mo ro => ?_)
      have t11 := g_14_R8 hG mo ro
      have t12 := g_14_R6 hG mo ro
      refine q_ok_at hG t12 rfl (fun a13 ma13 ra13 ea13 => ?_)
      obtain ⟨v14, ev14⟩ := q_ev ((p0 - (1 : Int32)).toInt)
      have f15 : v14 = p0.toInt - (1) := q_subVI ev14 q_evr (show q_eqv ((1 : Int32)).toInt (1) by unfold q_eqv; decide) (by omega) (by omega)
      refine q_ok_if (q_inV (g_27_N hG ma13 ra13) ev14 (by omega) (by omega)) ?_
      refine q_ok_at hG t11 rfl (fun a16 ma16 ra16 ea16 => ?_)
      refine q_ok_if (q_inV (g_29_N hG ma16 ra16) q_evr (by omega) (by omega)) ?_
      have hG := u_29_E (k := (r1).toNatClampNeg) (x := q_I (S) a13 (p0 - (1 : Int32)).toNatClampNeg) hG ma16 ra16 (by decide)
      unfold m_X5_keepIfBarren_32
      exact q_ok_some hG
set_option maxHeartbeats 4000000 in
set_option maxRecDepth 100000 in
theorem s_X5_matters_14 {ρ : Nat → Nat} {L : List Nat} {n : Nat} (hn : 18446744073709551616 ≤ n) {S : q_S} (hI : q_Inv ρ L S) {o : Nat} (mo : o ∈ L) (ro : ρ o = 14) {p0 : Int32} (hp0 : (1 ≤ p0.toInt ∧ p0.toInt ≤ 5)) {p1 : Int32} (hp1 : (0 ≤ p1.toInt ∧ p1.toInt ≤ 199)) : q_ok (m_X5_matters n S o p0 p1) (fun r T => T = S ∧ (0 ≤ r.toInt ∧ r.toInt ≤ 1)) := by
  have hG : q_G ρ L [] S S := q_G_refl hI
  unfold m_X5_matters
  have z0 : (0 : Int32).toInt = 0 := rfl
  refine q_ok_atS hG (q_trI mo ro) rfl (fun mo ro => ?_)
  refine q_ok_b (s_X5_cellOf_14 hn hG.1 mo ro (q_wd hp0 (by decide) (by decide)) (q_wd hp1 (by decide) (by decide))) (fun r1 S2 h3 => ?_)
  obtain ⟨eS2, h3⟩ := h3
  replace eS2 := eS2.symm
  subst eS2
  have f4 := h3
  refine q_ok_ite (fun g5 => ?_) (fun g5 => ?_)
  · have f6 := q_leV (show q_eqv ((0 : Int32)).toInt (0) by unfold q_eqv; decide) q_evr (q_p_ge g5)
    refine q_ok_atS hG (q_trI mo ro) rfl (fun mo ro => ?_)
    have t7 := g_14_R1 hG mo ro
    refine q_ok_at hG t7 rfl (fun a8 ma8 ra8 ea8 => ?_)
    refine q_ok_b (s_X9_isFull_3 hn hG.1 ma8 ra8) (fun r9 S10 h11 => ?_)
    obtain ⟨eS10, h11⟩ := h11
    replace eS10 := eS10.symm
    subst eS10
    have f12 := h11
    obtain ⟨v13, ev13⟩ := q_ev ((q_I (S) a8 2).toInt)
    have f14 := q_bV ev13 (g_3_I2 hG ma8 ra8)
    have f15 : r9.toInt = 0 → v13 < (100) := fun h9 => q_ltV ev13 (show q_eqv ((100 : Int32)).toInt (100) by unfold q_eqv; decide) (f12.2.1 h9)
    have f16 : r9.toInt = 1 → (100) ≤ v13 := fun h9 => q_leV (show q_eqv ((100 : Int32)).toInt (100) by unfold q_eqv; decide) ev13 (f12.2.2 h9)
    refine q_ok_ite (fun g17 => ?_) (fun g17 => ?_)
    · have f18 := q_eqV q_evr (show q_eqv ((0 : Int32)).toInt (0) by unfold q_eqv; decide) (q_p_eq g17)
      refine q_ok_atS hG (q_trI mo ro) rfl (fun mo ro => ?_)
      have t19 := g_14_R7 hG mo ro
      refine q_ok_at hG t19 rfl (fun a20 ma20 ra20 ea20 => ?_)
      refine q_ok_if (q_inV (g_28_N hG ma20 ra20) q_evr (by omega) (by omega)) ?_
      have f21 : q_sm _ := g_28_E hG ma20 ra20 (k := (r1).toNatClampNeg)
      obtain ⟨v22, ev22⟩ := q_ev ((q_I (S) a20 (r1).toNatClampNeg).toInt)
      have f23 := q_bV ev22 f21
      refine q_ok_ite (fun g24 => ?_) (fun g24 => ?_)
      · have f25 := q_leV (show q_eqv ((2000 : Int32)).toInt (2000) by unfold q_eqv; decide) ev22 (q_p_ge g24)
        unfold m_X5_matters_40
        refine q_ok_if (q_b01V (show q_eqv ((0 : Int32)).toInt (0) by unfold q_eqv; decide) (by omega) (by omega)) ?_
        exact q_ok_some ⟨rfl, (q_wd (show (0 : Int) ≤ (0 : Int32).toInt ∧ (0 : Int32).toInt ≤ (0 : Int) by decide) (by decide) (by decide))⟩
      · have f26 := q_ltV ev22 (show q_eqv ((2000 : Int32)).toInt (2000) by unfold q_eqv; decide) (q_n_ge g24)
        unfold m_X5_matters_40
        refine q_ok_if (q_b01V (show q_eqv ((1 : Int32)).toInt (1) by unfold q_eqv; decide) (by omega) (by omega)) ?_
        exact q_ok_some ⟨rfl, (q_wd (show (1 : Int) ≤ (1 : Int32).toInt ∧ (1 : Int32).toInt ≤ (1 : Int) by decide) (by decide) (by decide))⟩
    · have f27 := q_neV q_evr (show q_eqv ((0 : Int32)).toInt (0) by unfold q_eqv; decide) (q_n_eq g17)
      refine q_ok_atS hG (q_trI mo ro) rfl (fun mo ro => ?_)
      have t28 := g_14_R7 hG mo ro
      refine q_ok_at hG t28 rfl (fun a29 ma29 ra29 ea29 => ?_)
      refine q_ok_if (q_inV (g_28_N hG ma29 ra29) q_evr (by omega) (by omega)) ?_
      have f30 : q_sm _ := g_28_E hG ma29 ra29 (k := (r1).toNatClampNeg)
      have t31 := g_14_R2 hG mo ro
      refine q_ok_at hG t31 rfl (fun a32 ma32 ra32 ea32 => ?_)
      refine q_ok_b (s_X3_size_15 hn hG.1 ma32 ra32) (fun r33 S34 h35 => ?_)
      obtain ⟨eS34, h35⟩ := h35
      replace eS34 := eS34.symm
      subst eS34
      have f36 := h35
      obtain ⟨v37, ev37⟩ := q_ev ((q_I (S) a29 (r1).toNatClampNeg).toInt)
      have f38 := q_bV ev37 f30
      obtain ⟨v39, ev39⟩ := q_ev (((120 : Int32) - r33).toInt)
      have f40 : v39 = (120) - r33.toInt := q_subVI ev39 (show q_eqv ((120 : Int32)).toInt (120) by unfold q_eqv; decide) q_evr (by omega) (by omega)
      refine q_ok_ite (fun g41 => ?_) (fun g41 => ?_)
      · have f42 := q_ltV ev39 ev37 (q_p_gt g41)
        unfold m_X5_matters_81
        unfold m_X5_matters_82
        refine q_ok_if (q_b01V (show q_eqv ((0 : Int32)).toInt (0) by unfold q_eqv; decide) (by omega) (by omega)) ?_
        exact q_ok_some ⟨rfl, (q_wd (show (0 : Int) ≤ (0 : Int32).toInt ∧ (0 : Int32).toInt ≤ (0 : Int) by decide) (by decide) (by decide))⟩
      · have f43 := q_leV ev37 ev39 (q_n_gt g41)
        refine q_ok_atS hG (q_trI mo ro) rfl (fun mo ro => ?_)
        have t44 := g_14_R8 hG mo ro
        refine q_ok_at hG t44 rfl (fun a45 ma45 ra45 ea45 => ?_)
        refine q_ok_if (q_inV (g_29_N hG ma45 ra45) q_evr (by omega) (by omega)) ?_
        have t46 := g_14_R6 hG mo ro
        refine q_ok_at hG t46 rfl (fun a47 ma47 ra47 ea47 => ?_)
        obtain ⟨v48, ev48⟩ := q_ev ((p0 - (1 : Int32)).toInt)
        have f49 : v48 = p0.toInt - (1) := q_subVI ev48 q_evr (show q_eqv ((1 : Int32)).toInt (1) by unfold q_eqv; decide) (by omega) (by omega)
        refine q_ok_if (q_inV (g_27_N hG ma47 ra47) ev48 (by omega) (by omega)) ?_
        obtain ⟨v50, ev50⟩ := q_ev ((q_I (S) a45 (r1).toNatClampNeg).toInt)
        have f51 := q_rVI (x := q_I (S) a45 (r1).toNatClampNeg) ev50
        obtain ⟨v52, ev52⟩ := q_ev ((q_I (S) a47 (p0 - (1 : Int32)).toNatClampNeg).toInt)
        have f53 := q_rVI (x := q_I (S) a47 (p0 - (1 : Int32)).toNatClampNeg) ev52
        refine q_ok_ite (fun g54 => ?_) (fun g54 => ?_)
        · have f55 := q_eqV ev50 ev52 (q_p_eq g54)
          unfold m_X5_matters_81
          unfold m_X5_matters_82
          refine q_ok_if (q_b01V (show q_eqv ((0 : Int32)).toInt (0) by unfold q_eqv; decide) (by omega) (by omega)) ?_
          exact q_ok_some ⟨rfl, (q_wd (show (0 : Int) ≤ (0 : Int32).toInt ∧ (0 : Int32).toInt ≤ (0 : Int) by decide) (by decide) (by decide))⟩
        · have f56 := q_neV ev50 ev52 (q_n_eq g54)
          unfold m_X5_matters_82
          refine q_ok_if (q_b01V (show q_eqv ((1 : Int32)).toInt (1) by unfold q_eqv; decide) (by omega) (by omega)) ?_
          exact q_ok_some ⟨rfl, (q_wd (show (1 : Int) ≤ (1 : Int32).toInt ∧ (1 : Int32).toInt ≤ (1 : Int) by decide) (by decide) (by decide))⟩
  · have f57 := q_ltV q_evr (show q_eqv ((0 : Int32)).toInt (0) by unfold q_eqv; decide) (q_n_ge g5)
    refine q_ok_if (q_b01V (show q_eqv ((0 : Int32)).toInt (0) by unfold q_eqv; decide) (by omega) (by omega)) ?_
    exact q_ok_some ⟨rfl, (q_wd (show (0 : Int) ≤ (0 : Int32).toInt ∧ (0 : Int32).toInt ≤ (0 : Int) by decide) (by decide) (by decide))⟩
set_option maxHeartbeats 4000000 in
set_option maxRecDepth 100000 in
theorem s_X1_isPast_31 {ρ : Nat → Nat} {L : List Nat} {n : Nat} (hn : 18446744073709551616 ≤ n) {S : q_S} (hI : q_Inv ρ L S) {o : Nat} (mo : o ∈ L) (ro : ρ o = 31) : q_ok (m_X1_isPast n S o) (fun r T => T = S ∧ (0 ≤ r.toInt ∧ r.toInt ≤ 1)) := by
  have hG : q_G ρ L [] S S := q_G_refl hI
  unfold m_X1_isPast
  have z0 : (0 : Int32).toInt = 0 := rfl
  refine q_ok_atS hG (q_trI mo ro) rfl (fun mo ro => ?_)
  have f1 : q_sm _ := g_31_I2 hG mo ro
  obtain ⟨v2, ev2⟩ := q_ev ((q_I (S) o 2).toInt)
  have f3 := q_bV ev2 f1
  refine q_ok_if (q_b01V ev2 (by omega) (by omega)) ?_
  exact q_ok_some ⟨rfl, (q_wd f1 (by decide) (by decide))⟩
def M_X3_takeAxis_15_31_16 : List Nat := [1024, 1986, 1987]
set_option maxHeartbeats 4000000 in
set_option maxRecDepth 100000 in
theorem s_X3_takeAxis_15_31_16_89 {ρ : Nat → Nat} {L : List Nat} {n : Nat} (hn : 18446744073709551616 ≤ n) {dT : Option Nat} {S0 : q_S}  {k6 : q_S → Option Nat → Option Nat → Option Nat → Int32 → Int32 → Int32 → Int32 → Option (Unit × q_S)} {B6 : Int} (hk6 : ∀ (S : q_S) (z0 : Option Nat) (z1 : Option Nat) (z2 : Option Nat) (z3 : Int32) (z4 : Int32) (z5 : Int32) (z6 : Int32), q_G ρ L M_X3_takeAxis_15_31_16 S0 S → q_tr ρ L z0 15 → q_tr ρ L z1 31 → q_tr ρ L z2 16 → (2 ≤ z3.toInt ∧ z3.toInt ≤ 2) → (16 ≤ z4.toInt ∧ z4.toInt ≤ 16) → (0 ≤ z6.toInt ∧ z6.toInt ≤ 120) → q_tr ρ L dT 31 → (∀ a, dT = some a → (q_J S a 3).toInt ≤ (q_J S0 a 3).toInt + 4 * z6.toInt + 0 ∧ (q_J S0 a 3).toInt ≤ 140737555464192) → z1 = dT → 2147483648 - z6.toInt < B6 → q_ok (k6 S z0 z1 z2 z3 z4 z5 z6) (fun _ T => q_G ρ L M_X3_takeAxis_15_31_16 S0 T ∧ q_sm (∀ a, dT = some a → (q_J T a 3).toInt ≤ (q_J S0 a 3).toInt + 600))) (S : q_S) (l0 : Option Nat) (l1 : Option Nat) (l2 : Option Nat) (l4 : Int32) (l5 : Int32) (l6 : Int32) (l7 : Int32) (hG : q_G ρ L M_X3_takeAxis_15_31_16 S0 S) (hl0 : q_tr ρ L l0 15) (hl1 : q_tr ρ L l1 31) (hl2 : q_tr ρ L l2 16) (hl4 : (2 ≤ l4.toInt ∧ l4.toInt ≤ 2)) (hl5 : (16 ≤ l5.toInt ∧ l5.toInt ≤ 16)) (hl7 : (0 ≤ l7.toInt ∧ l7.toInt ≤ 119)) (htT : q_tr ρ L dT 31) (hT : (∀ a, dT = some a → (q_J S a 3).toInt ≤ (q_J S0 a 3).toInt + 4 * l7.toInt + 4 ∧ (q_J S0 a 3).toInt ≤ 140737555464192)) (hd : l1 = dT) (hm6 : 2147483648 - l7.toInt ≤ B6) : q_ok (m_X3_takeAxis_89 n k6 S l0 l1 l2 l4 l5 l6 l7) (fun _ T => q_G ρ L M_X3_takeAxis_15_31_16 S0 T ∧ q_sm (∀ a, dT = some a → (q_J T a 3).toInt ≤ (q_J S0 a 3).toInt + 600)) := by
  unfold m_X3_takeAxis_89
  have z0 : (0 : Int32).toInt = 0 := rfl
  subst hd
  obtain ⟨aT, eaT, maT, raT⟩ := id htT
  have f1 : q_sm _ := g_31_J3 hG maT raT
  obtain ⟨v2, ev2⟩ := q_ev ((q_J (S) aT 3).toInt)
  have f3 := q_bV ev2 f1
  obtain ⟨v4, ev4⟩ := q_ev ((q_J (S0) aT 3).toInt)
  have f5 := q_rVJ (X := q_J (S0) aT 3) ev4
  have f6 := q_le3v (K9 := 4) (E9 := 4) ev2 ev4 q_evr (hT aT eaT).1
  have f7 := q_leCv ev4 (hT aT eaT).2
  refine q_ok_at hG hl2 rfl (fun a8 ma8 ra8 ea8 => ?_)
  refine q_ok_if (q_inV (g_16_N hG ma8 ra8) q_evr (by omega) (by omega)) ?_
  have hG := u_16_E (k := (l7).toNatClampNeg) (x := l6) hG ma8 ra8 (by decide)
  have e9 : q_J (q_sI (S) a8 (l7).toNatClampNeg (l6)) aT 3 = q_J (S) aT 3 := q_skJI
  obtain ⟨v10, ev10⟩ := q_ev ((q_J (q_sI (S) a8 (l7).toNatClampNeg (l6)) aT 3).toInt)
  have f11 : v10 = v2 := q_eqVJ e9 ev10 ev2
  obtain ⟨v12, ev12⟩ := q_ev ((l7 + (1)).toInt)
  have f13 : v12 = l7.toInt + (1) := q_addVI ev12 q_evr (show q_eqv ((1 : Int32)).toInt (1) by unfold q_eqv; decide) (by omega) (by omega)
  exact hk6 _ _ _ _ _ _ _ _ hG hl0 hl1 hl2 (q_wd hl4 (by decide) (by decide)) (q_wd hl5 (by decide) (by decide)) (q_wd (q_addBI (1) (120) hl7 (show (1 : Int) ≤ (1 : Int32).toInt ∧ (1 : Int32).toInt ≤ (1 : Int) by decide) (by decide) (by decide) (by decide) (by decide)) (by decide) (by decide)) (q_trE eaT maT raT) (q_trk eaT ⟨q_le3 (K9 := 4) (E9 := 0) ev10 ev4 ev12 (by omega), q_leC ev4 (by omega)⟩) (by first | rfl | exact hd)  (q_upVl ev12 (by omega))
set_option maxHeartbeats 4000000 in
set_option maxRecDepth 100000 in
theorem s_X3_takeAxis_15_31_16_6 {ρ : Nat → Nat} {L : List Nat} {n : Nat} (hn : 18446744073709551616 ≤ n) {dT : Option Nat} {S0 : q_S}  : ∀ (k : Nat) (S : q_S) (l0 : Option Nat) (l1 : Option Nat) (l2 : Option Nat) (l4 : Int32) (l5 : Int32) (l6 : Int32) (l7 : Int32), q_G ρ L M_X3_takeAxis_15_31_16 S0 S → q_tr ρ L l0 15 → q_tr ρ L l1 31 → q_tr ρ L l2 16 → (2 ≤ l4.toInt ∧ l4.toInt ≤ 2) → (16 ≤ l5.toInt ∧ l5.toInt ≤ 16) → (0 ≤ l7.toInt ∧ l7.toInt ≤ 120) → q_tr ρ L dT 31 → (∀ a, dT = some a → (q_J S a 3).toInt ≤ (q_J S0 a 3).toInt + 4 * l7.toInt + 0 ∧ (q_J S0 a 3).toInt ≤ 140737555464192) → l1 = dT → 2147483648 - l7.toInt ≤ (k : Int) → q_ok (m_X3_takeAxis_6 n k S l0 l1 l2 l4 l5 l6 l7) (fun _ T => q_G ρ L M_X3_takeAxis_15_31_16 S0 T ∧ q_sm (∀ a, dT = some a → (q_J T a 3).toInt ≤ (q_J S0 a 3).toInt + 600)) := by
  intro k
  induction k with
  | zero =>
    intro S l0 l1 l2 l4 l5 l6 l7 hG hl0 hl1 hl2 hl4 hl5 hl7 htT hT hd hm
    have f0 := q_rngI l7
    exfalso; omega
  | succ k ih =>
    intro S l0 l1 l2 l4 l5 l6 l7 hG hl0 hl1 hl2 hl4 hl5 hl7 htT hT hd hm
    rw [m_X3_takeAxis_6]
    have z0 : (0 : Int32).toInt = 0 := rfl
    subst hd
    obtain ⟨aT, eaT, maT, raT⟩ := id htT
    have f1 : q_sm _ := g_31_J3 hG maT raT
    obtain ⟨v2, ev2⟩ := q_ev ((q_J (S) aT 3).toInt)
    have f3 := q_bV ev2 f1
    obtain ⟨v4, ev4⟩ := q_ev ((q_J (S0) aT 3).toInt)
    have f5 := q_rVJ (X := q_J (S0) aT 3) ev4
    have f6 := q_le3v (K9 := 4) (E9 := 0) ev2 ev4 q_evr (hT aT eaT).1
    have f7 := q_leCv ev4 (hT aT eaT).2
    refine q_ok_at hG hl0 rfl (fun a8 ma8 ra8 ea8 => ?_)
    have f9 : q_sm _ := g_15_I4 hG ma8 ra8
    obtain ⟨v10, ev10⟩ := q_ev ((q_I (S) a8 4).toInt)
    have f11 := q_bV ev10 f9
    refine q_ok_ite (fun g12 => ?_) (fun g12 => ?_)
    · have f13 := q_leV ev10 q_evr (q_p_ge g12)
      exact q_ok_some ⟨hG, (q_trk eaT (q_leD ev2 ev4 (by omega)))⟩
    · have f14 := q_ltV q_evr ev10 (q_n_ge g12)
      have t15 := g_15_R2 hG ma8 ra8
      refine q_ok_at hG t15 rfl (fun a16 ma16 ra16 ea16 => ?_)
      refine q_ok_if (q_inV (g_18_N hG ma16 ra16) q_evr (by omega) (by omega)) ?_
      have f17 : q_sm _ := g_18_E hG ma16 ra16 (k := (l7).toNatClampNeg)
      obtain ⟨v18, ev18⟩ := q_ev (((q_I (S) a16 (l7).toNatClampNeg) &&& l5).toInt)
      have f19 := q_andRVI ev18 q_evr (by omega)
      refine q_ok_ite (fun g20 => ?_) (fun g20 => ?_)
      · have f21 := q_eqV ev18 (show q_eqv ((0 : Int32)).toInt (0) by unfold q_eqv; decide) (q_p_eq g20)
        unfold m_X3_takeAxis_33
        refine q_ok_atA hG ea8 ma8 ra8 rfl ?_
        have t22 := g_15_R2 hG ma8 ra8
        refine q_ok_atA hG ea16 ma16 ra16 rfl ?_
        refine q_ok_if (q_inV (g_18_N hG ma16 ra16) q_evr (by omega) (by omega)) ?_
        obtain ⟨v23, ev23⟩ := q_ev (((q_I (S) a16 (l7).toNatClampNeg) &&& l4).toInt)
        have f24 := q_andRVI ev23 q_evr (by omega)
        refine q_ok_ite (fun g25 => ?_) (fun g25 => ?_)
        · have f26 := q_eqV ev23 (show q_eqv ((0 : Int32)).toInt (0) by unfold q_eqv; decide) (q_p_eq g25)
          refine q_ok_ite (fun g27 => ?_) (fun g27 => ?_)
          · have f28 := q_eqV (show q_eqv ((0 : Int32)).toInt (0) by unfold q_eqv; decide) (show q_eqv ((0 : Int32)).toInt (0) by unfold q_eqv; decide) (q_p_eq g27)
            refine q_ok_atA hG eaT maT raT rfl ?_
            refine q_ok_b (s_X1_signedTwo_31 hn hG.1 maT raT (q_leC ev2 (by omega))) (fun r29 S30 h31 => ?_)
            have hG := q_G_call hG h31.1 (by decide)
            have f32 := h31.2.1
            have f33 : q_sm _ := g_31_J3 hG maT raT
            obtain ⟨v34, ev34⟩ := q_ev ((q_J (S30) aT 3).toInt)
            have f35 := q_bV ev34 f33
            have f36 := q_leDv ev34 ev2 (h31.2.2)
            exact s_X3_takeAxis_15_31_16_89 hn (B6 := (k : Int) + 1) (fun S9 z0 z1 z2 z3 z4 z5 z6 hG9 hz0 hz1 hz2 hz3 hz4 hz6 hzt hzT hzd  hm9 => ih S9 z0 z1 z2 z3 z4 z5 z6 hG9 hz0 hz1 hz2 hz3 hz4 hz6 hzt hzT hzd  (by omega)) _ _ _ _ _ _ _ _ hG hl0 hl1 hl2 (q_wd hl4 (by decide) (by decide)) (q_wd hl5 (by decide) (by decide)) (q_oV q_evr (by omega) (by omega)) (q_trE eaT maT raT) (q_trk eaT ⟨q_le3 (K9 := 4) (E9 := 4) ev34 ev4 q_evr (by omega), q_leC ev4 (by omega)⟩) (by first | rfl | exact hd) (q_upV q_evr (by omega))
          · have f37 := q_neV (show q_eqv ((0 : Int32)).toInt (0) by unfold q_eqv; decide) (show q_eqv ((0 : Int32)).toInt (0) by unfold q_eqv; decide) (q_n_eq g27)
            exfalso; omega
        · have f38 := q_neV ev23 (show q_eqv ((0 : Int32)).toInt (0) by unfold q_eqv; decide) (q_n_eq g25)
          refine q_ok_atA hG eaT maT raT rfl ?_
          refine q_ok_b (s_X1_one_31 hn hG.1 maT raT (q_leC ev2 (by omega))) (fun r39 S40 h41 => ?_)
          have hG := q_G_call hG h41.1 (by decide)
          have f42 := h41.2.1
          have f43 : q_sm _ := g_31_J3 hG maT raT
          obtain ⟨v44, ev44⟩ := q_ev ((q_J (S40) aT 3).toInt)
          have f45 := q_bV ev44 f43
          have f46 := q_leDv ev44 ev2 (h41.2.2)
          refine q_ok_ite (fun g47 => ?_) (fun g47 => ?_)
          · have f48 := q_eqV (show q_eqv ((0 : Int32)).toInt (0) by unfold q_eqv; decide) (show q_eqv ((0 : Int32)).toInt (0) by unfold q_eqv; decide) (q_p_eq g47)
            unfold m_X3_takeAxis_69
            exact s_X3_takeAxis_15_31_16_89 hn (B6 := (k : Int) + 1) (fun S9 z0 z1 z2 z3 z4 z5 z6 hG9 hz0 hz1 hz2 hz3 hz4 hz6 hzt hzT hzd  hm9 => ih S9 z0 z1 z2 z3 z4 z5 z6 hG9 hz0 hz1 hz2 hz3 hz4 hz6 hzt hzT hzd  (by omega)) _ _ _ _ _ _ _ _ hG hl0 hl1 hl2 (q_wd hl4 (by decide) (by decide)) (q_wd hl5 (by decide) (by decide)) (q_oV q_evr (by omega) (by omega)) (q_trE eaT maT raT) (q_trk eaT ⟨q_le3 (K9 := 4) (E9 := 4) ev44 ev4 q_evr (by omega), q_leC ev4 (by omega)⟩) (by first | rfl | exact hd) (q_upV q_evr (by omega))
          · have f49 := q_neV (show q_eqv ((0 : Int32)).toInt (0) by unfold q_eqv; decide) (show q_eqv ((0 : Int32)).toInt (0) by unfold q_eqv; decide) (q_n_eq g47)
            exfalso; omega
      · have f50 := q_neV ev18 (show q_eqv ((0 : Int32)).toInt (0) by unfold q_eqv; decide) (q_n_eq g20)
        unfold m_X3_takeAxis_33
        refine q_ok_atA hG ea8 ma8 ra8 rfl ?_
        have t51 := g_15_R2 hG ma8 ra8
        refine q_ok_atA hG ea16 ma16 ra16 rfl ?_
        refine q_ok_if (q_inV (g_18_N hG ma16 ra16) q_evr (by omega) (by omega)) ?_
        obtain ⟨v52, ev52⟩ := q_ev (((q_I (S) a16 (l7).toNatClampNeg) &&& l4).toInt)
        have f53 := q_andRVI ev52 q_evr (by omega)
        refine q_ok_ite (fun g54 => ?_) (fun g54 => ?_)
        · have f55 := q_eqV ev52 (show q_eqv ((0 : Int32)).toInt (0) by unfold q_eqv; decide) (q_p_eq g54)
          refine q_ok_ite (fun g56 => ?_) (fun g56 => ?_)
          · have f57 := q_eqV (show q_eqv ((1 : Int32)).toInt (1) by unfold q_eqv; decide) (show q_eqv ((0 : Int32)).toInt (0) by unfold q_eqv; decide) (q_p_eq g56)
            exfalso; omega
          · have f58 := q_neV (show q_eqv ((1 : Int32)).toInt (1) by unfold q_eqv; decide) (show q_eqv ((0 : Int32)).toInt (0) by unfold q_eqv; decide) (q_n_eq g56)
            exact s_X3_takeAxis_15_31_16_89 hn (B6 := (k : Int) + 1) (fun S9 z0 z1 z2 z3 z4 z5 z6 hG9 hz0 hz1 hz2 hz3 hz4 hz6 hzt hzT hzd  hm9 => ih S9 z0 z1 z2 z3 z4 z5 z6 hG9 hz0 hz1 hz2 hz3 hz4 hz6 hzt hzT hzd  (by omega)) _ _ _ _ _ _ _ _ hG hl0 hl1 hl2 (q_wd hl4 (by decide) (by decide)) (q_wd hl5 (by decide) (by decide)) (q_oV q_evr (by omega) (by omega)) (q_trE eaT maT raT) (q_trk eaT ⟨q_le3 (K9 := 4) (E9 := 4) ev2 ev4 q_evr (by omega), q_leC ev4 (by omega)⟩) (by first | rfl | exact hd) (q_upV q_evr (by omega))
        · have f59 := q_neV ev52 (show q_eqv ((0 : Int32)).toInt (0) by unfold q_eqv; decide) (q_n_eq g54)
          refine q_ok_atA hG eaT maT raT rfl ?_
          refine q_ok_b (s_X1_one_31 hn hG.1 maT raT (q_leC ev2 (by omega))) (fun r60 S61 h62 => ?_)
          have hG := q_G_call hG h62.1 (by decide)
          have f63 := h62.2.1
          have f64 : q_sm _ := g_31_J3 hG maT raT
          obtain ⟨v65, ev65⟩ := q_ev ((q_J (S61) aT 3).toInt)
          have f66 := q_bV ev65 f64
          have f67 := q_leDv ev65 ev2 (h62.2.2)
          refine q_ok_ite (fun g68 => ?_) (fun g68 => ?_)
          · have f69 := q_eqV (show q_eqv ((1 : Int32)).toInt (1) by unfold q_eqv; decide) (show q_eqv ((0 : Int32)).toInt (0) by unfold q_eqv; decide) (q_p_eq g68)
            exfalso; omega
          · have f70 := q_neV (show q_eqv ((1 : Int32)).toInt (1) by unfold q_eqv; decide) (show q_eqv ((0 : Int32)).toInt (0) by unfold q_eqv; decide) (q_n_eq g68)
            unfold m_X3_takeAxis_69
            exact s_X3_takeAxis_15_31_16_89 hn (B6 := (k : Int) + 1) (fun S9 z0 z1 z2 z3 z4 z5 z6 hG9 hz0 hz1 hz2 hz3 hz4 hz6 hzt hzT hzd  hm9 => ih S9 z0 z1 z2 z3 z4 z5 z6 hG9 hz0 hz1 hz2 hz3 hz4 hz6 hzt hzT hzd  (by omega)) _ _ _ _ _ _ _ _ hG hl0 hl1 hl2 (q_wd hl4 (by decide) (by decide)) (q_wd hl5 (by decide) (by decide)) (q_oV q_evr (by omega) (by omega)) (q_trE eaT maT raT) (q_trk eaT ⟨q_le3 (K9 := 4) (E9 := 4) ev65 ev4 q_evr (by omega), q_leC ev4 (by omega)⟩) (by first | rfl | exact hd) (q_upV q_evr (by omega))
set_option maxHeartbeats 4000000 in
set_option maxRecDepth 100000 in
theorem s_X3_takeAxis_15_31_16 {ρ : Nat → Nat} {L : List Nat} {n : Nat} (hn : 18446744073709551616 ≤ n) {S : q_S} (hI : q_Inv ρ L S) {o : Nat} (mo : o ∈ L) (ro : ρ o = 15) {p0 : Option Nat} (tp0 : q_tr ρ L p0 31) {p1 : Option Nat} (tp1 : q_tr ρ L p1 16) {p2 : Int32} (hp2 : (0 ≤ p2.toInt ∧ p2.toInt ≤ 120)) {p3 : Int32} (hp3 : (2 ≤ p3.toInt ∧ p3.toInt ≤ 2)) {p4 : Int32} (hp4 : (16 ≤ p4.toInt ∧ p4.toInt ≤ 16)) (ht : ∀ a, p0 = some a → (q_J S a 3).toInt ≤ 140737555464192) : q_ok (m_X3_takeAxis n S o p0 p1 p2 p3 p4) (fun _ T => q_G ρ L M_X3_takeAxis_15_31_16 S T ∧ q_sm (∀ a, p0 = some a → (q_J T a 3).toInt ≤ (q_J S a 3).toInt + 600)) := by
  have hG : q_G ρ L M_X3_takeAxis_15_31_16 S S := q_G_refl hI
  unfold m_X3_takeAxis
  have z0 : (0 : Int32).toInt = 0 := rfl
  obtain ⟨aT, eaT, maT, raT⟩ := id tp0
  have f1 : q_sm _ := g_31_J3 hG maT raT
  obtain ⟨v2, ev2⟩ := q_ev ((q_J (S) aT 3).toInt)
  have f3 := q_bV ev2 f1
  have f4 := q_leCv ev2 (ht aT eaT)
  exact s_X3_takeAxis_15_31_16_6 hn n _ _ _ _ _ _ _ _ hG (q_trI mo ro) tp0 tp1 (q_wd hp3 (by decide) (by decide)) (q_wd hp4 (by decide) (by decide)) (q_wd hp2 (by decide) (by decide)) (q_trE eaT maT raT) (q_trk eaT ⟨q_le3 (K9 := 4) (E9 := 0) ev2 ev2 q_evr (by omega), q_leC ev2 (by omega)⟩) (by first | rfl | exact hd)  (q_upV q_evr (by omega))
def M_X3_takeAxis_15_31_17 : List Nat := [1088, 1986, 1987]
set_option maxHeartbeats 4000000 in
set_option maxRecDepth 100000 in
theorem s_X3_takeAxis_15_31_17_89 {ρ : Nat → Nat} {L : List Nat} {n : Nat} (hn : 18446744073709551616 ≤ n) {dT : Option Nat} {S0 : q_S}  {k6 : q_S → Option Nat → Option Nat → Option Nat → Int32 → Int32 → Int32 → Int32 → Option (Unit × q_S)} {B6 : Int} (hk6 : ∀ (S : q_S) (z0 : Option Nat) (z1 : Option Nat) (z2 : Option Nat) (z3 : Int32) (z4 : Int32) (z5 : Int32) (z6 : Int32), q_G ρ L M_X3_takeAxis_15_31_17 S0 S → q_tr ρ L z0 15 → q_tr ρ L z1 31 → q_tr ρ L z2 17 → (4 ≤ z3.toInt ∧ z3.toInt ≤ 4) → (32 ≤ z4.toInt ∧ z4.toInt ≤ 32) → (0 ≤ z6.toInt ∧ z6.toInt ≤ 120) → q_tr ρ L dT 31 → (∀ a, dT = some a → (q_J S a 3).toInt ≤ (q_J S0 a 3).toInt + 4 * z6.toInt + 0 ∧ (q_J S0 a 3).toInt ≤ 140737555464192) → z1 = dT → 2147483648 - z6.toInt < B6 → q_ok (k6 S z0 z1 z2 z3 z4 z5 z6) (fun _ T => q_G ρ L M_X3_takeAxis_15_31_17 S0 T ∧ q_sm (∀ a, dT = some a → (q_J T a 3).toInt ≤ (q_J S0 a 3).toInt + 600))) (S : q_S) (l0 : Option Nat) (l1 : Option Nat) (l2 : Option Nat) (l4 : Int32) (l5 : Int32) (l6 : Int32) (l7 : Int32) (hG : q_G ρ L M_X3_takeAxis_15_31_17 S0 S) (hl0 : q_tr ρ L l0 15) (hl1 : q_tr ρ L l1 31) (hl2 : q_tr ρ L l2 17) (hl4 : (4 ≤ l4.toInt ∧ l4.toInt ≤ 4)) (hl5 : (32 ≤ l5.toInt ∧ l5.toInt ≤ 32)) (hl7 : (0 ≤ l7.toInt ∧ l7.toInt ≤ 119)) (htT : q_tr ρ L dT 31) (hT : (∀ a, dT = some a → (q_J S a 3).toInt ≤ (q_J S0 a 3).toInt + 4 * l7.toInt + 4 ∧ (q_J S0 a 3).toInt ≤ 140737555464192)) (hd : l1 = dT) (hm6 : 2147483648 - l7.toInt ≤ B6) : q_ok (m_X3_takeAxis_89 n k6 S l0 l1 l2 l4 l5 l6 l7) (fun _ T => q_G ρ L M_X3_takeAxis_15_31_17 S0 T ∧ q_sm (∀ a, dT = some a → (q_J T a 3).toInt ≤ (q_J S0 a 3).toInt + 600)) := by
  unfold m_X3_takeAxis_89
  have z0 : (0 : Int32).toInt = 0 := rfl
  subst hd
  obtain ⟨aT, eaT, maT, raT⟩ := id htT
  have f1 : q_sm _ := g_31_J3 hG maT raT
  obtain ⟨v2, ev2⟩ := q_ev ((q_J (S) aT 3).toInt)
  have f3 := q_bV ev2 f1
  obtain ⟨v4, ev4⟩ := q_ev ((q_J (S0) aT 3).toInt)
  have f5 := q_rVJ (X := q_J (S0) aT 3) ev4
  have f6 := q_le3v (K9 := 4) (E9 := 4) ev2 ev4 q_evr (hT aT eaT).1
  have f7 := q_leCv ev4 (hT aT eaT).2
  refine q_ok_at hG hl2 rfl (fun a8 ma8 ra8 ea8 => ?_)
  refine q_ok_if (q_inV (g_17_N hG ma8 ra8) q_evr (by omega) (by omega)) ?_
  have hG := u_17_E (k := (l7).toNatClampNeg) (x := l6) hG ma8 ra8 (by decide)
  have e9 : q_J (q_sI (S) a8 (l7).toNatClampNeg (l6)) aT 3 = q_J (S) aT 3 := q_skJI
  obtain ⟨v10, ev10⟩ := q_ev ((q_J (q_sI (S) a8 (l7).toNatClampNeg (l6)) aT 3).toInt)
  have f11 : v10 = v2 := q_eqVJ e9 ev10 ev2
  obtain ⟨v12, ev12⟩ := q_ev ((l7 + (1)).toInt)
  have f13 : v12 = l7.toInt + (1) := q_addVI ev12 q_evr (show q_eqv ((1 : Int32)).toInt (1) by unfold q_eqv; decide) (by omega) (by omega)
  exact hk6 _ _ _ _ _ _ _ _ hG hl0 hl1 hl2 (q_wd hl4 (by decide) (by decide)) (q_wd hl5 (by decide) (by decide)) (q_wd (q_addBI (1) (120) hl7 (show (1 : Int) ≤ (1 : Int32).toInt ∧ (1 : Int32).toInt ≤ (1 : Int) by decide) (by decide) (by decide) (by decide) (by decide)) (by decide) (by decide)) (q_trE eaT maT raT) (q_trk eaT ⟨q_le3 (K9 := 4) (E9 := 0) ev10 ev4 ev12 (by omega), q_leC ev4 (by omega)⟩) (by first | rfl | exact hd)  (q_upVl ev12 (by omega))
set_option maxHeartbeats 4000000 in
set_option maxRecDepth 100000 in
theorem s_X3_takeAxis_15_31_17_6 {ρ : Nat → Nat} {L : List Nat} {n : Nat} (hn : 18446744073709551616 ≤ n) {dT : Option Nat} {S0 : q_S}  : ∀ (k : Nat) (S : q_S) (l0 : Option Nat) (l1 : Option Nat) (l2 : Option Nat) (l4 : Int32) (l5 : Int32) (l6 : Int32) (l7 : Int32), q_G ρ L M_X3_takeAxis_15_31_17 S0 S → q_tr ρ L l0 15 → q_tr ρ L l1 31 → q_tr ρ L l2 17 → (4 ≤ l4.toInt ∧ l4.toInt ≤ 4) → (32 ≤ l5.toInt ∧ l5.toInt ≤ 32) → (0 ≤ l7.toInt ∧ l7.toInt ≤ 120) → q_tr ρ L dT 31 → (∀ a, dT = some a → (q_J S a 3).toInt ≤ (q_J S0 a 3).toInt + 4 * l7.toInt + 0 ∧ (q_J S0 a 3).toInt ≤ 140737555464192) → l1 = dT → 2147483648 - l7.toInt ≤ (k : Int) → q_ok (m_X3_takeAxis_6 n k S l0 l1 l2 l4 l5 l6 l7) (fun _ T => q_G ρ L M_X3_takeAxis_15_31_17 S0 T ∧ q_sm (∀ a, dT = some a → (q_J T a 3).toInt ≤ (q_J S0 a 3).toInt + 600)) := by
  intro k
  induction k with
  | zero =>
    intro S l0 l1 l2 l4 l5 l6 l7 hG hl0 hl1 hl2 hl4 hl5 hl7 htT hT hd hm
    have f0 := q_rngI l7
    exfalso; omega
  | succ k ih =>
    intro S l0 l1 l2 l4 l5 l6 l7 hG hl0 hl1 hl2 hl4 hl5 hl7 htT hT hd hm
    rw [m_X3_takeAxis_6]
    have z0 : (0 : Int32).toInt = 0 := rfl
    subst hd
    obtain ⟨aT, eaT, maT, raT⟩ := id htT
    have f1 : q_sm _ := g_31_J3 hG maT raT
    obtain ⟨v2, ev2⟩ := q_ev ((q_J (S) aT 3).toInt)
    have f3 := q_bV ev2 f1
    obtain ⟨v4, ev4⟩ := q_ev ((q_J (S0) aT 3).toInt)
    have f5 := q_rVJ (X := q_J (S0) aT 3) ev4
    have f6 := q_le3v (K9 := 4) (E9 := 0) ev2 ev4 q_evr (hT aT eaT).1
    have f7 := q_leCv ev4 (hT aT eaT).2
    refine q_ok_at hG hl0 rfl (fun a8 ma8 ra8 ea8 => ?_)
    have f9 : q_sm _ := g_15_I4 hG ma8 ra8
    obtain ⟨v10, ev10⟩ := q_ev ((q_I (S) a8 4).toInt)
    have f11 := q_bV ev10 f9
    refine q_ok_ite (fun g12 => ?_) (fun g12 => ?_)
    · have f13 := q_leV ev10 q_evr (q_p_ge g12)
      exact q_ok_some ⟨hG, (q_trk eaT (q_leD ev2 ev4 (by omega)))⟩
    · have f14 := q_ltV q_evr ev10 (q_n_ge g12)
      have t15 := g_15_R2 hG ma8 ra8
      refine q_ok_at hG t15 rfl (fun a16 ma16 ra16 ea16 => ?_)
      refine q_ok_if (q_inV (g_18_N hG ma16 ra16) q_evr (by omega) (by omega)) ?_
      have f17 : q_sm _ := g_18_E hG ma16 ra16 (k := (l7).toNatClampNeg)
      obtain ⟨v18, ev18⟩ := q_ev (((q_I (S) a16 (l7).toNatClampNeg) &&& l5).toInt)
      have f19 := q_andRVI ev18 q_evr (by omega)
      refine q_ok_ite (fun g20 => ?_) (fun g20 => ?_)
      · have f21 := q_eqV ev18 (show q_eqv ((0 : Int32)).toInt (0) by unfold q_eqv; decide) (q_p_eq g20)
        unfold m_X3_takeAxis_33
        refine q_ok_atA hG ea8 ma8 ra8 rfl ?_
        have t22 := g_15_R2 hG ma8 ra8
        refine q_ok_atA hG ea16 ma16 ra16 rfl ?_
        refine q_ok_if (q_inV (g_18_N hG ma16 ra16) q_evr (by omega) (by omega)) ?_
        obtain ⟨v23, ev23⟩ := q_ev (((q_I (S) a16 (l7).toNatClampNeg) &&& l4).toInt)
        have f24 := q_andRVI ev23 q_evr (by omega)
        refine q_ok_ite (fun g25 => ?_) (fun g25 => ?_)
        · have f26 := q_eqV ev23 (show q_eqv ((0 : Int32)).toInt (0) by unfold q_eqv; decide) (q_p_eq g25)
          refine q_ok_ite (fun g27 => ?_) (fun g27 => ?_)
          · have f28 := q_eqV (show q_eqv ((0 : Int32)).toInt (0) by unfold q_eqv; decide) (show q_eqv ((0 : Int32)).toInt (0) by unfold q_eqv; decide) (q_p_eq g27)
            refine q_ok_atA hG eaT maT raT rfl ?_
            refine q_ok_b (s_X1_signedTwo_31 hn hG.1 maT raT (q_leC ev2 (by omega))) (fun r29 S30 h31 => ?_)
            have hG := q_G_call hG h31.1 (by decide)
            have f32 := h31.2.1
            have f33 : q_sm _ := g_31_J3 hG maT raT
            obtain ⟨v34, ev34⟩ := q_ev ((q_J (S30) aT 3).toInt)
            have f35 := q_bV ev34 f33
            have f36 := q_leDv ev34 ev2 (h31.2.2)
            exact s_X3_takeAxis_15_31_17_89 hn (B6 := (k : Int) + 1) (fun S9 z0 z1 z2 z3 z4 z5 z6 hG9 hz0 hz1 hz2 hz3 hz4 hz6 hzt hzT hzd  hm9 => ih S9 z0 z1 z2 z3 z4 z5 z6 hG9 hz0 hz1 hz2 hz3 hz4 hz6 hzt hzT hzd  (by omega)) _ _ _ _ _ _ _ _ hG hl0 hl1 hl2 (q_wd hl4 (by decide) (by decide)) (q_wd hl5 (by decide) (by decide)) (q_oV q_evr (by omega) (by omega)) (q_trE eaT maT raT) (q_trk eaT ⟨q_le3 (K9 := 4) (E9 := 4) ev34 ev4 q_evr (by omega), q_leC ev4 (by omega)⟩) (by first | rfl | exact hd) (q_upV q_evr (by omega))
          · have f37 := q_neV (show q_eqv ((0 : Int32)).toInt (0) by unfold q_eqv; decide) (show q_eqv ((0 : Int32)).toInt (0) by unfold q_eqv; decide) (q_n_eq g27)
            exfalso; omega
        · have f38 := q_neV ev23 (show q_eqv ((0 : Int32)).toInt (0) by unfold q_eqv; decide) (q_n_eq g25)
          refine q_ok_atA hG eaT maT raT rfl ?_
          refine q_ok_b (s_X1_one_31 hn hG.1 maT raT (q_leC ev2 (by omega))) (fun r39 S40 h41 => ?_)
          have hG := q_G_call hG h41.1 (by decide)
          have f42 := h41.2.1
          have f43 : q_sm _ := g_31_J3 hG maT raT
          obtain ⟨v44, ev44⟩ := q_ev ((q_J (S40) aT 3).toInt)
          have f45 := q_bV ev44 f43
          have f46 := q_leDv ev44 ev2 (h41.2.2)
          refine q_ok_ite (fun g47 => ?_) (fun g47 => ?_)
          · have f48 := q_eqV (show q_eqv ((0 : Int32)).toInt (0) by unfold q_eqv; decide) (show q_eqv ((0 : Int32)).toInt (0) by unfold q_eqv; decide) (q_p_eq g47)
            unfold m_X3_takeAxis_69
            exact s_X3_takeAxis_15_31_17_89 hn (B6 := (k : Int) + 1) (fun S9 z0 z1 z2 z3 z4 z5 z6 hG9 hz0 hz1 hz2 hz3 hz4 hz6 hzt hzT hzd  hm9 => ih S9 z0 z1 z2 z3 z4 z5 z6 hG9 hz0 hz1 hz2 hz3 hz4 hz6 hzt hzT hzd  (by omega)) _ _ _ _ _ _ _ _ hG hl0 hl1 hl2 (q_wd hl4 (by decide) (by decide)) (q_wd hl5 (by decide) (by decide)) (q_oV q_evr (by omega) (by omega)) (q_trE eaT maT raT) (q_trk eaT ⟨q_le3 (K9 := 4) (E9 := 4) ev44 ev4 q_evr (by omega), q_leC ev4 (by omega)⟩) (by first | rfl | exact hd) (q_upV q_evr (by omega))
          · have f49 := q_neV (show q_eqv ((0 : Int32)).toInt (0) by unfold q_eqv; decide) (show q_eqv ((0 : Int32)).toInt (0) by unfold q_eqv; decide) (q_n_eq g47)
            exfalso; omega
      · have f50 := q_neV ev18 (show q_eqv ((0 : Int32)).toInt (0) by unfold q_eqv; decide) (q_n_eq g20)
        unfold m_X3_takeAxis_33
        refine q_ok_atA hG ea8 ma8 ra8 rfl ?_
        have t51 := g_15_R2 hG ma8 ra8
        refine q_ok_atA hG ea16 ma16 ra16 rfl ?_
        refine q_ok_if (q_inV (g_18_N hG ma16 ra16) q_evr (by omega) (by omega)) ?_
        obtain ⟨v52, ev52⟩ := q_ev (((q_I (S) a16 (l7).toNatClampNeg) &&& l4).toInt)
        have f53 := q_andRVI ev52 q_evr (by omega)
        refine q_ok_ite (fun g54 => ?_) (fun g54 => ?_)
        · have f55 := q_eqV ev52 (show q_eqv ((0 : Int32)).toInt (0) by unfold q_eqv; decide) (q_p_eq g54)
          refine q_ok_ite (fun g56 => ?_) (fun g56 => ?_)
          · have f57 := q_eqV (show q_eqv ((1 : Int32)).toInt (1) by unfold q_eqv; decide) (show q_eqv ((0 : Int32)).toInt (0) by unfold q_eqv; decide) (q_p_eq g56)
            exfalso; omega
          · have f58 := q_neV (show q_eqv ((1 : Int32)).toInt (1) by unfold q_eqv; decide) (show q_eqv ((0 : Int32)).toInt (0) by unfold q_eqv; decide) (q_n_eq g56)
            exact s_X3_takeAxis_15_31_17_89 hn (B6 := (k : Int) + 1) (fun S9 z0 z1 z2 z3 z4 z5 z6 hG9 hz0 hz1 hz2 hz3 hz4 hz6 hzt hzT hzd  hm9 => ih S9 z0 z1 z2 z3 z4 z5 z6 hG9 hz0 hz1 hz2 hz3 hz4 hz6 hzt hzT hzd  (by omega)) _ _ _ _ _ _ _ _ hG hl0 hl1 hl2 (q_wd hl4 (by decide) (by decide)) (q_wd hl5 (by decide) (by decide)) (q_oV q_evr (by omega) (by omega)) (q_trE eaT maT raT) (q_trk eaT ⟨q_le3 (K9 := 4) (E9 := 4) ev2 ev4 q_evr (by omega), q_leC ev4 (by omega)⟩) (by first | rfl | exact hd) (q_upV q_evr (by omega))
        · have f59 := q_neV ev52 (show q_eqv ((0 : Int32)).toInt (0) by unfold q_eqv; decide) (q_n_eq g54)
          refine q_ok_atA hG eaT maT raT rfl ?_
          refine q_ok_b (s_X1_one_31 hn hG.1 maT raT (q_leC ev2 (by omega))) (fun r60 S61 h62 => ?_)
          have hG := q_G_call hG h62.1 (by decide)
          have f63 := h62.2.1
          have f64 : q_sm _ := g_31_J3 hG maT raT
          obtain ⟨v65, ev65⟩ := q_ev ((q_J (S61) aT 3).toInt)
          have f66 := q_bV ev65 f64
          have f67 := q_leDv ev65 ev2 (h62.2.2)
          refine q_ok_ite (fun g68 => ?_) (fun g68 => ?_)
          · have f69 := q_eqV (show q_eqv ((1 : Int32)).toInt (1) by unfold q_eqv; decide) (show q_eqv ((0 : Int32)).toInt (0) by unfold q_eqv; decide) (q_p_eq g68)
            exfalso; omega
          · have f70 := q_neV (show q_eqv ((1 : Int32)).toInt (1) by unfold q_eqv; decide) (show q_eqv ((0 : Int32)).toInt (0) by unfold q_eqv; decide) (q_n_eq g68)
            unfold m_X3_takeAxis_69
            exact s_X3_takeAxis_15_31_17_89 hn (B6 := (k : Int) + 1) (fun S9 z0 z1 z2 z3 z4 z5 z6 hG9 hz0 hz1 hz2 hz3 hz4 hz6 hzt hzT hzd  hm9 => ih S9 z0 z1 z2 z3 z4 z5 z6 hG9 hz0 hz1 hz2 hz3 hz4 hz6 hzt hzT hzd  (by omega)) _ _ _ _ _ _ _ _ hG hl0 hl1 hl2 (q_wd hl4 (by decide) (by decide)) (q_wd hl5 (by decide) (by decide)) (q_oV q_evr (by omega) (by omega)) (q_trE eaT maT raT) (q_trk eaT ⟨q_le3 (K9 := 4) (E9 := 4) ev65 ev4 q_evr (by omega), q_leC ev4 (by omega)⟩) (by first | rfl | exact hd) (q_upV q_evr (by omega))
set_option maxHeartbeats 4000000 in
set_option maxRecDepth 100000 in
theorem s_X3_takeAxis_15_31_17 {ρ : Nat → Nat} {L : List Nat} {n : Nat} (hn : 18446744073709551616 ≤ n) {S : q_S} (hI : q_Inv ρ L S) {o : Nat} (mo : o ∈ L) (ro : ρ o = 15) {p0 : Option Nat} (tp0 : q_tr ρ L p0 31) {p1 : Option Nat} (tp1 : q_tr ρ L p1 17) {p2 : Int32} (hp2 : (0 ≤ p2.toInt ∧ p2.toInt ≤ 120)) {p3 : Int32} (hp3 : (4 ≤ p3.toInt ∧ p3.toInt ≤ 4)) {p4 : Int32} (hp4 : (32 ≤ p4.toInt ∧ p4.toInt ≤ 32)) (ht : ∀ a, p0 = some a → (q_J S a 3).toInt ≤ 140737555464192) : q_ok (m_X3_takeAxis n S o p0 p1 p2 p3 p4) (fun _ T => q_G ρ L M_X3_takeAxis_15_31_17 S T ∧ q_sm (∀ a, p0 = some a → (q_J T a 3).toInt ≤ (q_J S a 3).toInt + 600)) := by
  have hG : q_G ρ L M_X3_takeAxis_15_31_17 S S := q_G_refl hI
  unfold m_X3_takeAxis
  have z0 : (0 : Int32).toInt = 0 := rfl
  obtain ⟨aT, eaT, maT, raT⟩ := id tp0
  have f1 : q_sm _ := g_31_J3 hG maT raT
  obtain ⟨v2, ev2⟩ := q_ev ((q_J (S) aT 3).toInt)
  have f3 := q_bV ev2 f1
  have f4 := q_leCv ev2 (ht aT eaT)
  exact s_X3_takeAxis_15_31_17_6 hn n _ _ _ _ _ _ _ _ hG (q_trI mo ro) tp0 tp1 (q_wd hp3 (by decide) (by decide)) (q_wd hp4 (by decide) (by decide)) (q_wd hp2 (by decide) (by decide)) (q_trE eaT maT raT) (q_trk eaT ⟨q_le3 (K9 := 4) (E9 := 0) ev2 ev2 q_evr (by omega), q_leC ev2 (by omega)⟩) (by first | rfl | exact hd)  (q_upV q_evr (by omega))
