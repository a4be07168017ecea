set_option maxHeartbeats 4000000 in
set_option maxRecDepth 100000 in
theorem s_X1_hasParts_31 {ρ : Nat → Nat} {L : List Nat} {n : Nat} (hn : 18446744073709551616 ≤ n) {S : q_S} (hI : q_Inv ρ L S) {o : Nat} (mo : o ∈ L) (ro : ρ o = 31) : q_ok (m_X1_hasParts n S o) (fun r T => T = S ∧ (0 ≤ r.toInt ∧ r.toInt ≤ 1) ∧ q_sm ((r.toInt = 0 → (0 : Int32).toInt ≤ (q_I (S) o 5).toInt) ∧ (r.toInt = 1 → (q_I (S) o 5).toInt < (0 : Int32).toInt))) := by
  have hG : q_G ρ L [] S S := q_G_refl hI
  unfold m_X1_hasParts
  have z0 : (0 : Int32).toInt = 0 := rfl
  refine q_ok_atS hG (q_trI mo ro) rfl (fun mo ro => ?_)
  have f1 : q_sm _ := g_31_I5 hG mo ro
  obtain ⟨v2, ev2⟩ := q_ev ((q_I (S) o 5).toInt)
  have f3 := q_bV ev2 f1
  refine q_ok_ite (fun g4 => ?_) (fun g4 => ?_)
  · have f5 := q_leV (show q_eqv ((0 : Int32)).toInt (0) by unfold q_eqv; decide) ev2 (q_p_ge g4)
    unfold m_X1_hasParts_12
    refine q_ok_if (q_b01V (show q_eqv ((0 : Int32)).toInt (0) by unfold q_eqv; decide) (by omega) (by omega)) ?_
    exact q_ok_some ⟨rfl, (q_wd (show (0 : Int) ≤ (0 : Int32).toInt ∧ (0 : Int32).toInt ≤ (0 : Int) by decide) (by decide) (by decide)), ⟨fun _ => (q_geW ev2 (show q_eqv ((0 : Int32)).toInt (0) by unfold q_eqv; decide) (by omega)), fun h9 => absurd h9 (by decide)⟩⟩
  · have f6 := q_ltV ev2 (show q_eqv ((0 : Int32)).toInt (0) by unfold q_eqv; decide) (q_n_ge g4)
    unfold m_X1_hasParts_12
    refine q_ok_if (q_b01V (show q_eqv ((1 : Int32)).toInt (1) by unfold q_eqv; decide) (by omega) (by omega)) ?_
    exact q_ok_some ⟨rfl, (q_wd (show (1 : Int) ≤ (1 : Int32).toInt ∧ (1 : Int32).toInt ≤ (1 : Int) by decide) (by decide) (by decide)), ⟨fun h9 => absurd h9 (by decide), fun _ => (q_ltW ev2 (show q_eqv ((0 : Int32)).toInt (0) by unfold q_eqv; decide) (by omega))⟩⟩
set_option maxHeartbeats 4000000 in
set_option maxRecDepth 100000 in
theorem s_X1_isEmpty_31 {ρ : Nat → Nat} {L : List Nat} {n : Nat} (hn : 18446744073709551616 ≤ n) {S : q_S} (hI : q_Inv ρ L S) {o : Nat} (mo : o ∈ L) (ro : ρ o = 31) : q_ok (m_X1_isEmpty n S o) (fun r T => T = S ∧ (0 ≤ r.toInt ∧ r.toInt ≤ 1)) := by
  have hG : q_G ρ L [] S S := q_G_refl hI
  unfold m_X1_isEmpty
  have z0 : (0 : Int32).toInt = 0 := rfl
  refine q_ok_atS hG (q_trI mo ro) rfl (fun mo ro => ?_)
  have f1 : q_sm _ := g_31_I1 hG mo ro
  obtain ⟨v2, ev2⟩ := q_ev ((q_I (S) o 1).toInt)
  have f3 := q_bV ev2 f1
  refine q_ok_if (q_b01V ev2 (by omega) (by omega)) ?_
  exact q_ok_some ⟨rfl, (q_wd f1 (by decide) (by decide))⟩
set_option maxHeartbeats 4000000 in
set_option maxRecDepth 100000 in
theorem s_X5_yieldAt_14 {ρ : Nat → Nat} {L : List Nat} {n : Nat} (hn : 18446744073709551616 ≤ n) {S : q_S} (hI : q_Inv ρ L S) {o : Nat} (mo : o ∈ L) (ro : ρ o = 14) {p0 : Int32} (hp0 : (2 ≤ p0.toInt ∧ p0.toInt ≤ 6)) {p1 : Int32} (hp1 : (0 ≤ p1.toInt ∧ p1.toInt ≤ 65535)) : q_ok (m_X5_yieldAt n S o p0 p1) (fun r T => T = S ∧ (0 ≤ r.toInt ∧ r.toInt ≤ 2000)) := by
  have hG : q_G ρ L [] S S := q_G_refl hI
  unfold m_X5_yieldAt
  have z0 : (0 : Int32).toInt = 0 := rfl
  refine q_ok_atS hG (q_trI mo ro) rfl (fun mo ro => ?_)
  refine q_ok_b (s_X5_cellOf_14 hn hG.1 mo ro (q_wd hp0 (by decide) (by decide)) (q_wd hp1 (by decide) (by decide))) (fun r1 S2 h3 => ?_)
  obtain ⟨eS2, h3⟩ := h3
  replace eS2 := eS2.symm
  subst eS2
  have f4 := h3
  refine q_ok_ite (fun g5 => ?_) (fun g5 => ?_)
  · have f6 := q_leV (show q_eqv ((0 : Int32)).toInt (0) by unfold q_eqv; decide) q_evr (q_p_ge g5)
    refine q_ok_atS hG (q_trI mo ro) rfl (fun mo ro => ?_)
    have t7 := g_14_R7 hG mo ro
    refine q_ok_at hG t7 rfl (fun a8 ma8 ra8 ea8 => ?_)
    refine q_ok_if (q_inV (g_28_N hG ma8 ra8) q_evr (by omega) (by omega)) ?_
    have f9 : q_sm _ := g_28_E hG ma8 ra8 (k := (r1).toNatClampNeg)
    unfold m_X5_yieldAt_23
    exact q_ok_some ⟨rfl, (q_wd f9 (by decide) (by decide))⟩
  · have f10 := q_ltV q_evr (show q_eqv ((0 : Int32)).toInt (0) by unfold q_eqv; decide) (q_n_ge g5)
    unfold m_X5_yieldAt_23
    exact q_ok_some ⟨rfl, (q_wd (show (1000 : Int) ≤ (1000 : Int32).toInt ∧ (1000 : Int32).toInt ≤ (1000 : Int) by decide) (by decide) (by decide))⟩
set_option maxHeartbeats 4000000 in
set_option maxRecDepth 100000 in
theorem s_X1_hasMore_31 {ρ : Nat → Nat} {L : List Nat} {n : Nat} (hn : 18446744073709551616 ≤ n) {S : q_S} (hI : q_Inv ρ L S) {o : Nat} (mo : o ∈ L) (ro : ρ o = 31) : q_ok (m_X1_hasMore n S o) (fun r T => T = S ∧ (0 ≤ r.toInt ∧ r.toInt ≤ 1)) := by
  have hG : q_G ρ L [] S S := q_G_refl hI
  unfold m_X1_hasMore
  have z0 : (0 : Int32).toInt = 0 := rfl
  refine q_ok_atS hG (q_trI mo ro) rfl (fun mo ro => ?_)
  have f1 : q_sm _ := g_31_I6 hG mo ro
  obtain ⟨v2, ev2⟩ := q_ev (((q_I (S) o 6) &&& (32 : Int32)).toInt)
  have f3 := q_andRVI ev2 (show q_eqv ((32 : Int32)).toInt (32) by unfold q_eqv; decide) (by omega)
  refine q_ok_ite (fun g4 => ?_) (fun g4 => ?_)
  · have f5 := q_eqV ev2 (show q_eqv ((0 : Int32)).toInt (0) by unfold q_eqv; decide) (q_p_eq g4)
    unfold m_X1_hasMore_15
    refine q_ok_if (q_b01V (show q_eqv ((0 : Int32)).toInt (0) by unfold q_eqv; decide) (by omega) (by omega)) ?_
    exact q_ok_some ⟨rfl, (q_wd (show (0 : Int) ≤ (0 : Int32).toInt ∧ (0 : Int32).toInt ≤ (0 : Int) by decide) (by decide) (by decide))⟩
  · have f6 := q_neV ev2 (show q_eqv ((0 : Int32)).toInt (0) by unfold q_eqv; decide) (q_n_eq g4)
    unfold m_X1_hasMore_15
    refine q_ok_if (q_b01V (show q_eqv ((1 : Int32)).toInt (1) by unfold q_eqv; decide) (by omega) (by omega)) ?_
    exact q_ok_some ⟨rfl, (q_wd (show (1 : Int) ≤ (1 : Int32).toInt ∧ (1 : Int32).toInt ≤ (1 : Int) by decide) (by decide) (by decide))⟩
set_option maxHeartbeats 4000000 in
set_option maxRecDepth 100000 in
theorem s_X1_isMoved_31 {ρ : Nat → Nat} {L : List Nat} {n : Nat} (hn : 18446744073709551616 ≤ n) {S : q_S} (hI : q_Inv ρ L S) {o : Nat} (mo : o ∈ L) (ro : ρ o = 31) : q_ok (m_X1_isMoved n S o) (fun r T => T = S ∧ (0 ≤ r.toInt ∧ r.toInt ≤ 1)) := by
  have hG : q_G ρ L [] S S := q_G_refl hI
  unfold m_X1_isMoved
  have z0 : (0 : Int32).toInt = 0 := rfl
  refine q_ok_atS hG (q_trI mo ro) rfl (fun mo ro => ?_)
  have f1 : q_sm _ := g_31_I6 hG mo ro
  obtain ⟨v2, ev2⟩ := q_ev (((q_I (S) o 6) &&& (2 : Int32)).toInt)
  have f3 := q_andRVI ev2 (show q_eqv ((2 : Int32)).toInt (2) by unfold q_eqv; decide) (by omega)
  refine q_ok_ite (fun g4 => ?_) (fun g4 => ?_)
  · have f5 := q_eqV ev2 (show q_eqv ((0 : Int32)).toInt (0) by unfold q_eqv; decide) (q_p_eq g4)
    unfold m_X1_isMoved_14
    refine q_ok_if (q_b01V (show q_eqv ((0 : Int32)).toInt (0) by unfold q_eqv; decide) (by omega) (by omega)) ?_
    exact q_ok_some ⟨rfl, (q_wd (show (0 : Int) ≤ (0 : Int32).toInt ∧ (0 : Int32).toInt ≤ (0 : Int) by decide) (by decide) (by decide))⟩
  · have f6 := q_neV ev2 (show q_eqv ((0 : Int32)).toInt (0) by unfold q_eqv; decide) (q_n_eq g4)
    unfold m_X1_isMoved_14
    refine q_ok_if (q_b01V (show q_eqv ((1 : Int32)).toInt (1) by unfold q_eqv; decide) (by omega) (by omega)) ?_
    exact q_ok_some ⟨rfl, (q_wd (show (1 : Int) ≤ (1 : Int32).toInt ∧ (1 : Int32).toInt ≤ (1 : Int) by decide) (by decide) (by decide))⟩
def M_X1_seen_31 : List Nat := [1986, 1987]
set_option maxHeartbeats 4000000 in
set_option maxRecDepth 100000 in
theorem s_X1_seen_31 {ρ : Nat → Nat} {L : List Nat} {n : Nat} (hn : 18446744073709551616 ≤ n) {S : q_S} (hI : q_Inv ρ L S) {o : Nat} (mo : o ∈ L) (ro : ρ o = 31) {p0 : Int32} (hp0 : (-1 ≤ p0.toInt ∧ p0.toInt ≤ 65535)) {p1 : Int32} (hp1 : (1 ≤ p1.toInt ∧ p1.toInt ≤ 2)) (ht : (q_J S o 3).toInt ≤ 140739635838976) : q_ok (m_X1_seen n S o p0 p1) (fun r T => q_G ρ L M_X1_seen_31 S T ∧ (0 ≤ r.toInt ∧ r.toInt ≤ 65535) ∧ q_sm ((q_J T o 3).toInt ≤ (q_J S o 3).toInt + 2)) := by
  have hG : q_G ρ L M_X1_seen_31 S S := q_G_refl hI
  unfold m_X1_seen
  have z0 : (0 : Int32).toInt = 0 := rfl
  have f1 : q_sm _ := g_31_J3 hG mo ro
  obtain ⟨v2, ev2⟩ := q_ev ((q_J (S) o 3).toInt)
  have f3 := q_bV ev2 f1
  have f4 := q_leCv ev2 ht
  refine q_ok_atS hG (q_trI mo ro) rfl (fun mo ro => ?_)
  obtain ⟨v5, ev5⟩ := q_ev (((q_J (S) o 3) + (p1.toInt64)).toInt)
  obtain ⟨v6, ev6⟩ := q_ev ((p1.toInt64).toInt)
  have f7 : v6 = p1.toInt := q_i2lV ev6 q_evr
  have f8 : v5 = v2 + v6 := q_addVJ ev5 ev2 ev6 (by omega) (by omega)
  have hG := u_31_J3 (x := (q_J (S) o 3) + (p1.toInt64)) hG mo ro (by decide) (q_oV ev5 (by omega) (by omega))
  have f9 : q_sm _ := g_31_I2 hG mo ro
  obtain ⟨v10, ev10⟩ := q_ev ((q_I (q_sJ (S) o 3 ((q_J (S) o 3) + (p1.toInt64))) o 2).toInt)
  have f11 := q_bV ev10 f9
  refine q_ok_ite (fun g12 => ?_) (fun g12 => ?_)
  · have f13 := q_eqV ev10 (show q_eqv ((0 : Int32)).toInt (0) by unfold q_eqv; decide) (q_p_eq g12)
    refine q_ok_ite (fun g14 => ?_) (fun g14 => ?_)
    · have f15 := q_eqV q_evr (show q_eqv ((-1 : Int32)).toInt (-1) by unfold q_eqv; decide) (q_p_eq g14)
      unfold m_X1_seen_24
      unfold m_X1_seen_29
      refine q_ok_atS hG (q_trI mo ro) rfl (fun mo ro => ?_)
      refine q_ok_if (q_b01V (show q_eqv ((1 : Int32)).toInt (1) by unfold q_eqv; decide) (by omega) (by omega)) ?_
      have hG := u_31_I2 (x := (1 : Int32)) hG mo ro (by decide) (q_wd (show (1 : Int) ≤ (1 : Int32).toInt ∧ (1 : Int32).toInt ≤ (1 : Int) by decide) (by decide) (by decide))
      refine q_ok_ite (fun g16 => ?_) (fun g16 => ?_)
      · have f17 := q_eqV q_evr (show q_eqv ((-1 : Int32)).toInt (-1) by unfold q_eqv; decide) (q_p_eq g16)
        unfold m_X1_seen_42
        have e18 : q_J (q_sI (q_sJ (S) o 3 ((q_J (S) o 3) + (p1.toInt64))) o 2 ((1 : Int32))) o 3 = (q_J (S) o 3) + (p1.toInt64) := (Eq.trans q_skJI q_hitJ)
        obtain ⟨v19, ev19⟩ := q_ev ((q_J (q_sI (q_sJ (S) o 3 ((q_J (S) o 3) + (p1.toInt64))) o 2 ((1 : Int32))) o 3).toInt)
        have f20 : v19 = v5 := q_eqVJ e18 ev19 ev5
        exact q_ok_some ⟨hG, (q_wd (show (0 : Int) ≤ (0 : Int32).toInt ∧ (0 : Int32).toInt ≤ (0 : Int) by decide) (by decide) (by decide)), (q_leD ev19 ev2 (by omega))⟩
      · have f21 := q_neV q_evr (show q_eqv ((-1 : Int32)).toInt (-1) by unfold q_eqv; decide) (q_n_eq g16)
        exfalso; omega
    · have f22 := q_neV q_evr (show q_eqv ((-1 : Int32)).toInt (-1) by unfold q_eqv; decide) (q_n_eq g14)
      unfold m_X1_seen_29
      refine q_ok_atS hG (q_trI mo ro) rfl (fun mo ro => ?_)
      refine q_ok_if (q_b01V (show q_eqv ((0 : Int32)).toInt (0) by unfold q_eqv; decide) (by omega) (by omega)) ?_
      have hG := u_31_I2 (x := (0 : Int32)) hG mo ro (by decide) (q_wd (show (0 : Int) ≤ (0 : Int32).toInt ∧ (0 : Int32).toInt ≤ (0 : Int) by decide) (by decide) (by decide))
      refine q_ok_ite (fun g23 => ?_) (fun g23 => ?_)
      · have f24 := q_eqV q_evr (show q_eqv ((-1 : Int32)).toInt (-1) by unfold q_eqv; decide) (q_p_eq g23)
        exfalso; omega
      · have f25 := q_neV q_evr (show q_eqv ((-1 : Int32)).toInt (-1) by unfold q_eqv; decide) (q_n_eq g23)
        unfold m_X1_seen_42
        have e26 : q_J (q_sI (q_sJ (S) o 3 ((q_J (S) o 3) + (p1.toInt64))) o 2 ((0 : Int32))) o 3 = (q_J (S) o 3) + (p1.toInt64) := (Eq.trans q_skJI q_hitJ)
        obtain ⟨v27, ev27⟩ := q_ev ((q_J (q_sI (q_sJ (S) o 3 ((q_J (S) o 3) + (p1.toInt64))) o 2 ((0 : Int32))) o 3).toInt)
        have f28 : v27 = v5 := q_eqVJ e26 ev27 ev5
        exact q_ok_some ⟨hG, (q_oV q_evr (by omega) (by omega)), (q_leD ev27 ev2 (by omega))⟩
  · have f29 := q_neV ev10 (show q_eqv ((0 : Int32)).toInt (0) by unfold q_eqv; decide) (q_n_eq g12)
    unfold m_X1_seen_24
    unfold m_X1_seen_29
    refine q_ok_atS hG (q_trI mo ro) rfl (fun mo ro => ?_)
    refine q_ok_if (q_b01V (show q_eqv ((1 : Int32)).toInt (1) by unfold q_eqv; decide) (by omega) (by omega)) ?_
    have hG := u_31_I2 (x := (1 : Int32)) hG mo ro (by decide) (q_wd (show (1 : Int) ≤ (1 : Int32).toInt ∧ (1 : Int32).toInt ≤ (1 : Int) by decide) (by decide) (by decide))
    refine q_ok_ite (fun g30 => ?_) (fun g30 => ?_)
    · have f31 := q_eqV q_evr (show q_eqv ((-1 : Int32)).toInt (-1) by unfold q_eqv; decide) (q_p_eq g30)
      unfold m_X1_seen_42
      have e32 : q_J (q_sI (q_sJ (S) o 3 ((q_J (S) o 3) + (p1.toInt64))) o 2 ((1 : Int32))) o 3 = (q_J (S) o 3) + (p1.toInt64) := (Eq.trans q_skJI q_hitJ)
      obtain ⟨v33, ev33⟩ := q_ev ((q_J (q_sI (q_sJ (S) o 3 ((q_J (S) o 3) + (p1.toInt64))) o 2 ((1 : Int32))) o 3).toInt)
      have f34 : v33 = v5 := q_eqVJ e32 ev33 ev5
      exact q_ok_some ⟨hG, (q_wd (show (0 : Int) ≤ (0 : Int32).toInt ∧ (0 : Int32).toInt ≤ (0 : Int) by decide) (by decide) (by decide)), (q_leD ev33 ev2 (by omega))⟩
    · have f35 := q_neV q_evr (show q_eqv ((-1 : Int32)).toInt (-1) by unfold q_eqv; decide) (q_n_eq g30)
      unfold m_X1_seen_42
      have e36 : q_J (q_sI (q_sJ (S) o 3 ((q_J (S) o 3) + (p1.toInt64))) o 2 ((1 : Int32))) o 3 = (q_J (S) o 3) + (p1.toInt64) := (Eq.trans q_skJI q_hitJ)
      obtain ⟨v37, ev37⟩ := q_ev ((q_J (q_sI (q_sJ (S) o 3 ((q_J (S) o 3) + (p1.toInt64))) o 2 ((1 : Int32))) o 3).toInt)
      have f38 : v37 = v5 := q_eqVJ e36 ev37 ev5
      exact q_ok_some ⟨hG, (q_oV q_evr (by omega) (by omega)), (q_leD ev37 ev2 (by omega))⟩
def M_X1_one_31 : List Nat := [1986, 1987]
set_option maxHeartbeats 4000000 in
set_option maxRecDepth 100000 in
theorem s_X1_one_31 {ρ : Nat → Nat} {L : List Nat} {n : Nat} (hn : 18446744073709551616 ≤ n) {S : q_S} (hI : q_Inv ρ L S) {o : Nat} (mo : o ∈ L) (ro : ρ o = 31) (ht : (q_J S o 3).toInt ≤ 140738562097152) : q_ok (m_X1_one n S o) (fun r T => q_G ρ L M_X1_one_31 S T ∧ (0 ≤ r.toInt ∧ r.toInt ≤ 65535) ∧ q_sm ((q_J T o 3).toInt ≤ (q_J S o 3).toInt + 2)) := by
  have hG : q_G ρ L M_X1_one_31 S S := q_G_refl hI
  unfold m_X1_one
  have z0 : (0 : Int32).toInt = 0 := rfl
  have f1 : q_sm _ := g_31_J3 hG mo ro
  obtain ⟨v2, ev2⟩ := q_ev ((q_J (S) o 3).toInt)
  have f3 := q_bV ev2 f1
  have f4 := q_leCv ev2 ht
  refine q_ok_atS hG (q_trI mo ro) rfl (fun mo ro => ?_)
  have t5 := g_31_R0 hG mo ro
  have f6 : q_sm _ := g_31_J4 hG mo ro
  refine q_ok_at hG t5 rfl (fun a7 ma7 ra7 ea7 => ?_)
  refine q_ok_b (s_X4_one_1 hn hG.1 ma7 ra7 (q_wd f1 (by decide) (by decide)) (q_wd f6 (by decide) (by decide))) (fun r8 S9 h10 => ?_)
  obtain ⟨eS9, h10⟩ := h10
  replace eS9 := eS9.symm
  subst eS9
  have f11 := h10
  refine q_ok_atS hG (q_trI mo ro) rfl (fun mo ro => ?_)
  refine q_ok_b (s_X1_seen_31 hn hG.1 mo ro (q_wd f11 (by decide) (by decide)) (q_wd (show (1 : Int) ≤ (1 : Int32).toInt ∧ (1 : Int32).toInt ≤ (1 : Int) by decide) (by decide) (by decide)) (q_leC ev2 (by omega))) (fun r12 S13 h14 => ?_)
  have hG := q_G_call hG h14.1 (by decide)
  have f15 := h14.2.1
  have f16 : q_sm _ := g_31_J3 hG mo ro
  obtain ⟨v17, ev17⟩ := q_ev ((q_J (S13) o 3).toInt)
  have f18 := q_bV ev17 f16
  have f19 := q_leDv ev17 ev2 (h14.2.2)
  exact q_ok_some ⟨hG, (q_wd f15 (by decide) (by decide)), (q_leD ev17 ev2 (by omega))⟩
def M_X1_two_31 : List Nat := [1986, 1987]
set_option maxHeartbeats 4000000 in
set_option maxRecDepth 100000 in
theorem s_X1_two_31 {ρ : Nat → Nat} {L : List Nat} {n : Nat} (hn : 18446744073709551616 ≤ n) {S : q_S} (hI : q_Inv ρ L S) {o : Nat} (mo : o ∈ L) (ro : ρ o = 31) (ht : (q_J S o 3).toInt ≤ 140738562097152) : q_ok (m_X1_two n S o) (fun r T => q_G ρ L M_X1_two_31 S T ∧ (0 ≤ r.toInt ∧ r.toInt ≤ 65535) ∧ q_sm ((q_J T o 3).toInt ≤ (q_J S o 3).toInt + 2)) := by
  have hG : q_G ρ L M_X1_two_31 S S := q_G_refl hI
  unfold m_X1_two
  have z0 : (0 : Int32).toInt = 0 := rfl
  have f1 : q_sm _ := g_31_J3 hG mo ro
  obtain ⟨v2, ev2⟩ := q_ev ((q_J (S) o 3).toInt)
  have f3 := q_bV ev2 f1
  have f4 := q_leCv ev2 ht
  refine q_ok_atS hG (q_trI mo ro) rfl (fun mo ro => ?_)
  have t5 := g_31_R0 hG mo ro
  have f6 : q_sm _ := g_31_J4 hG mo ro
  refine q_ok_at hG t5 rfl (fun a7 ma7 ra7 ea7 => ?_)
  refine q_ok_b (s_X4_two_1 hn hG.1 ma7 ra7 (q_wd f1 (by decide) (by decide)) (q_wd f6 (by decide) (by decide))) (fun r8 S9 h10 => ?_)
  obtain ⟨eS9, h10⟩ := h10
  replace eS9 := eS9.symm
  subst eS9
  have f11 := h10
  refine q_ok_atS hG (q_trI mo ro) rfl (fun mo ro => ?_)
  refine q_ok_b (s_X1_seen_31 hn hG.1 mo ro (q_wd f11 (by decide) (by decide)) (q_wd (show (2 : Int) ≤ (2 : Int32).toInt ∧ (2 : Int32).toInt ≤ (2 : Int) by decide) (by decide) (by decide)) (q_leC ev2 (by omega))) (fun r12 S13 h14 => ?_)
  have hG := q_G_call hG h14.1 (by decide)
  have f15 := h14.2.1
  have f16 : q_sm _ := g_31_J3 hG mo ro
  obtain ⟨v17, ev17⟩ := q_ev ((q_J (S13) o 3).toInt)
  have f18 := q_bV ev17 f16
  have f19 := q_leDv ev17 ev2 (h14.2.2)
  exact q_ok_some ⟨hG, (q_wd f15 (by decide) (by decide)), (q_leD ev17 ev2 (by omega))⟩
def M_X1_nextNumber_31 : List Nat := [1986, 1987]
set_option maxHeartbeats 4000000 in
set_option maxRecDepth 100000 in
theorem s_X1_nextNumber_31 {ρ : Nat → Nat} {L : List Nat} {n : Nat} (hn : 18446744073709551616 ≤ n) {S : q_S} (hI : q_Inv ρ L S) {o : Nat} (mo : o ∈ L) (ro : ρ o = 31) (ht : (q_J S o 3).toInt ≤ 140738025226240) : q_ok (m_X1_nextNumber n S o) (fun r T => q_G ρ L M_X1_nextNumber_31 S T ∧ (-32768 ≤ r.toInt ∧ r.toInt ≤ 65535) ∧ q_sm ((q_J T o 3).toInt ≤ (q_J S o 3).toInt + 2)) := by
  have hG : q_G ρ L M_X1_nextNumber_31 S S := q_G_refl hI
  unfold m_X1_nextNumber
  have z0 : (0 : Int32).toInt = 0 := rfl
  have f1 : q_sm _ := g_31_J3 hG mo ro
  obtain ⟨v2, ev2⟩ := q_ev ((q_J (S) o 3).toInt)
  have f3 := q_bV ev2 f1
  have f4 := q_leCv ev2 ht
  refine q_ok_atS hG (q_trI mo ro) rfl (fun mo ro => ?_)
  have f5 : q_sm _ := g_31_I6 hG mo ro
  obtain ⟨v6, ev6⟩ := q_ev (((q_I (S) o 6) &&& (1 : Int32)).toInt)
  have f7 := q_andRVI ev6 (show q_eqv ((1 : Int32)).toInt (1) by unfold q_eqv; decide) (by omega)
  refine q_ok_ite (fun g8 => ?_) (fun g8 => ?_)
  · have f9 := q_eqV ev6 (show q_eqv ((0 : Int32)).toInt (0) by unfold q_eqv; decide) (q_p_eq g8)
    unfold m_X1_nextNumber_14
    refine q_ok_ite (fun g10 => ?_) (fun g10 => ?_)
    · have f11 := q_eqV (show q_eqv ((0 : Int32)).toInt (0) by unfold q_eqv; decide) (show q_eqv ((0 : Int32)).toInt (0) by unfold q_eqv; decide) (q_p_eq g10)
      refine q_ok_atS hG (q_trI mo ro) rfl (fun mo ro => ?_)
      refine q_ok_b (s_X1_one_31 hn hG.1 mo ro (q_leC ev2 (by omega))) (fun r12 S13 h14 => ?_)
      have hG := q_G_call hG h14.1 (by decide)
      have f15 := h14.2.1
      have f16 : q_sm _ := g_31_J3 hG mo ro
      obtain ⟨v17, ev17⟩ := q_ev ((q_J (S13) o 3).toInt)
      have f18 := q_bV ev17 f16
      have f19 := q_leDv ev17 ev2 (h14.2.2)
      unfold m_X1_nextNumber_30
      refine q_ok_ite (fun g20 => ?_) (fun g20 => ?_)
      · have f21 := q_eqV (show q_eqv ((0 : Int32)).toInt (0) by unfold q_eqv; decide) (show q_eqv ((0 : Int32)).toInt (0) by unfold q_eqv; decide) (q_p_eq g20)
        unfold m_X1_nextNumber_43
        refine q_ok_atS hG (q_trI mo ro) rfl (fun mo ro => ?_)
        refine q_ok_b (s_X1_isMoved_31 hn hG.1 mo ro) (fun r22 S23 h24 => ?_)
        obtain ⟨eS23, h24⟩ := h24
        replace eS23 := eS23.symm
        subst eS23
        have f25 := h24
        refine q_ok_ite (fun g26 => ?_) (fun g26 => ?_)
        · have f27 := q_eqV q_evr (show q_eqv ((0 : Int32)).toInt (0) by unfold q_eqv; decide) (q_p_eq g26)
          unfold m_X1_nextNumber_64
          unfold m_X1_nextNumber_65
          exact q_ok_some ⟨hG, (q_wd f15 (by decide) (by decide)), (q_leD ev17 ev2 (by omega))⟩
        · have f28 := q_neV q_evr (show q_eqv ((0 : Int32)).toInt (0) by unfold q_eqv; decide) (q_n_eq g26)
          refine q_ok_ite (fun g29 => ?_) (fun g29 => ?_)
          · have f30 := q_ltV q_evr (show q_eqv ((128 : Int32)).toInt (128) by unfold q_eqv; decide) (q_p_lt g29)
            unfold m_X1_nextNumber_64
            unfold m_X1_nextNumber_65
            exact q_ok_some ⟨hG, (q_wd f15 (by decide) (by decide)), (q_leD ev17 ev2 (by omega))⟩
          · have f31 := q_leV (show q_eqv ((128 : Int32)).toInt (128) by unfold q_eqv; decide) q_evr (q_n_lt g29)
            unfold m_X1_nextNumber_65
            obtain ⟨v32, ev32⟩ := q_ev ((r12 - ((2 : Int32) * (128 : Int32))).toInt)
            obtain ⟨v33, ev33⟩ := q_ev (((2 : Int32) * (128 : Int32)).toInt)
            have f34 : v33 = (2) * (128) := q_mulVI ev33 (show q_eqv ((2 : Int32)).toInt (2) by unfold q_eqv; decide) (show q_eqv ((128 : Int32)).toInt (128) by unfold q_eqv; decide) (by omega) (by omega)
            have f35 : v32 = r12.toInt - v33 := q_subVI ev32 q_evr ev33 (by omega) (by omega)
            exact q_ok_some ⟨hG, (q_oV ev32 (by omega) (by omega)), (q_leD ev17 ev2 (by omega))⟩
      · have f36 := q_neV (show q_eqv ((0 : Int32)).toInt (0) by unfold q_eqv; decide) (show q_eqv ((0 : Int32)).toInt (0) by unfold q_eqv; decide) (q_n_eq g20)
        exfalso; omega
    · have f37 := q_neV (show q_eqv ((0 : Int32)).toInt (0) by unfold q_eqv; decide) (show q_eqv ((0 : Int32)).toInt (0) by unfold q_eqv; decide) (q_n_eq g10)
      exfalso; omega
  · have f38 := q_neV ev6 (show q_eqv ((0 : Int32)).toInt (0) by unfold q_eqv; decide) (q_n_eq g8)
    unfold m_X1_nextNumber_14
    refine q_ok_ite (fun g39 => ?_) (fun g39 => ?_)
    · have f40 := q_eqV (show q_eqv ((1 : Int32)).toInt (1) by unfold q_eqv; decide) (show q_eqv ((0 : Int32)).toInt (0) by unfold q_eqv; decide) (q_p_eq g39)
      exfalso; omega
    · have f41 := q_neV (show q_eqv ((1 : Int32)).toInt (1) by unfold q_eqv; decide) (show q_eqv ((0 : Int32)).toInt (0) by unfold q_eqv; decide) (q_n_eq g39)
      refine q_ok_atS hG (q_trI mo ro) rfl (fun mo ro => ?_)
      refine q_ok_b (s_X1_two_31 hn hG.1 mo ro (q_leC ev2 (by omega))) (fun r42 S43 h44 => ?_)
      have hG := q_G_call hG h44.1 (by decide)
      have f45 := h44.2.1
      have f46 : q_sm _ := g_31_J3 hG mo ro
      obtain ⟨v47, ev47⟩ := q_ev ((q_J (S43) o 3).toInt)
      have f48 := q_bV ev47 f46
      have f49 := q_leDv ev47 ev2 (h44.2.2)
      unfold m_X1_nextNumber_30
      refine q_ok_ite (fun g50 => ?_) (fun g50 => ?_)
      · have f51 := q_eqV (show q_eqv ((1 : Int32)).toInt (1) by unfold q_eqv; decide) (show q_eqv ((0 : Int32)).toInt (0) by unfold q_eqv; decide) (q_p_eq g50)
        exfalso; omega
      · have f52 := q_neV (show q_eqv ((1 : Int32)).toInt (1) by unfold q_eqv; decide) (show q_eqv ((0 : Int32)).toInt (0) by unfold q_eqv; decide) (q_n_eq g50)
        unfold m_X1_nextNumber_43
        refine q_ok_atS hG (q_trI mo ro) rfl (fun mo ro => ?_)
        refine q_ok_b (s_X1_isMoved_31 hn hG.1 mo ro) (fun r53 S54 h55 => ?_)
        obtain ⟨eS54, h55⟩ := h55
        replace eS54 := eS54.symm
        subst eS54
        have f56 := h55
        refine q_ok_ite (fun g57 => ?_) (fun g57 => ?_)
        · have f58 := q_eqV q_evr (show q_eqv ((0 : Int32)).toInt (0) by unfold q_eqv; decide) (q_p_eq g57)
          unfold m_X1_nextNumber_64
          unfold m_X1_nextNumber_65
          exact q_ok_some ⟨hG, (q_wd f45 (by decide) (by decide)), (q_leD ev47 ev2 (by omega))⟩
        · have f59 := q_neV q_evr (show q_eqv ((0 : Int32)).toInt (0) by unfold q_eqv; decide) (q_n_eq g57)
          refine q_ok_ite (fun g60 => ?_) (fun g60 => ?_)
          · have f61 := q_ltV q_evr (show q_eqv ((32768 : Int32)).toInt (32768) by unfold q_eqv; decide) (q_p_lt g60)
            unfold m_X1_nextNumber_64
            unfold m_X1_nextNumber_65
            exact q_ok_some ⟨hG, (q_wd f45 (by decide) (by decide)), (q_leD ev47 ev2 (by omega))⟩
          · have f62 := q_leV (show q_eqv ((32768 : Int32)).toInt (32768) by unfold q_eqv; decide) q_evr (q_n_lt g60)
            unfold m_X1_nextNumber_65
            obtain ⟨v63, ev63⟩ := q_ev ((r42 - ((2 : Int32) * (32768 : Int32))).toInt)
            obtain ⟨v64, ev64⟩ := q_ev (((2 : Int32) * (32768 : Int32)).toInt)
            have f65 : v64 = (2) * (32768) := q_mulVI ev64 (show q_eqv ((2 : Int32)).toInt (2) by unfold q_eqv; decide) (show q_eqv ((32768 : Int32)).toInt (32768) by unfold q_eqv; decide) (by omega) (by omega)
            have f66 : v63 = r42.toInt - v64 := q_subVI ev63 q_evr ev64 (by omega) (by omega)
            exact q_ok_some ⟨hG, (q_oV ev63 (by omega) (by omega)), (q_leD ev47 ev2 (by omega))⟩
def M_X1_signedTwo_31 : List Nat := [1986, 1987]
set_option maxHeartbeats 4000000 in
set_option maxRecDepth 100000 in
theorem s_X1_signedTwo_31 {ρ : Nat → Nat} {L : List Nat} {n : Nat} (hn : 18446744073709551616 ≤ n) {S : q_S} (hI : q_Inv ρ L S) {o : Nat} (mo : o ∈ L) (ro : ρ o = 31) (ht : (q_J S o 3).toInt ≤ 140738562097152) : q_ok (m_X1_signedTwo n S o) (fun r T => q_G ρ L M_X1_signedTwo_31 S T ∧ (-32768 ≤ r.toInt ∧ r.toInt ≤ 32767) ∧ q_sm ((q_J T o 3).toInt ≤ (q_J S o 3).toInt + 2)) := by
  have hG : q_G ρ L M_X1_signedTwo_31 S S := q_G_refl hI
  unfold m_X1_signedTwo
  have z0 : (0 : Int32).toInt = 0 := rfl
  have f1 : q_sm _ := g_31_J3 hG mo ro
  obtain ⟨v2, ev2⟩ := q_ev ((q_J (S) o 3).toInt)
  have f3 := q_bV ev2 f1
  have f4 := q_leCv ev2 ht
  refine q_ok_atS hG (q_trI mo ro) rfl (fun mo ro => ?_)
  have t5 := g_31_R0 hG mo ro
  have f6 : q_sm _ := g_31_J4 hG mo ro
  refine q_ok_at hG t5 rfl (fun a7 ma7 ra7 ea7 => ?_)
  refine q_ok_b (s_X4_two_1 hn hG.1 ma7 ra7 (q_wd f1 (by decide) (by decide)) (q_wd f6 (by decide) (by decide))) (fun r8 S9 h10 => ?_)
  obtain ⟨eS9, h10⟩ := h10
  replace eS9 := eS9.symm
  subst eS9
  have f11 := h10
  refine q_ok_atS hG (q_trI mo ro) rfl (fun mo ro => ?_)
  refine q_ok_b (s_X1_seen_31 hn hG.1 mo ro (q_wd f11 (by decide) (by decide)) (q_wd (show (2 : Int) ≤ (2 : Int32).toInt ∧ (2 : Int32).toInt ≤ (2 : Int) by decide) (by decide) (by decide)) (q_leC ev2 (by omega))) (fun r12 S13 h14 => ?_)
  have hG := q_G_call hG h14.1 (by decide)
  have f15 := h14.2.1
  have f16 : q_sm _ := g_31_J3 hG mo ro
  obtain ⟨v17, ev17⟩ := q_ev ((q_J (S13) o 3).toInt)
  have f18 := q_bV ev17 f16
  have f19 := q_leDv ev17 ev2 (h14.2.2)
  refine q_ok_b (s_X11_signed hn hG.1 (q_wd f15 (by decide) (by decide))) (fun r20 S21 h22 => ?_)
  obtain ⟨eS21, h22⟩ := h22
  replace eS21 := eS21.symm
  subst eS21
  have f23 := h22
  exact q_ok_some ⟨hG, (q_wd f23 (by decide) (by decide)), (q_leD ev17 ev2 (by omega))⟩
def M_X1_nextScales_31 : List Nat := [1986, 1987, 1994, 1995, 1996, 1997]
set_option maxHeartbeats 4000000 in
set_option maxRecDepth 100000 in
theorem s_X1_nextScales_31 {ρ : Nat → Nat} {L : List Nat} {n : Nat} (hn : 18446744073709551616 ≤ n) {S : q_S} (hI : q_Inv ρ L S) {o : Nat} (mo : o ∈ L) (ro : ρ o = 31) (ht : (q_J S o 3).toInt ≤ 140737756790784) : q_ok (m_X1_nextScales n S o) (fun _ T => q_G ρ L M_X1_nextScales_31 S T ∧ q_sm ((q_J T o 3).toInt ≤ (q_J S o 3).toInt + 8)) := by
  have hG : q_G ρ L M_X1_nextScales_31 S S := q_G_refl hI
  unfold m_X1_nextScales
  have z0 : (0 : Int32).toInt = 0 := rfl
  have f1 : q_sm _ := g_31_J3 hG mo ro
  obtain ⟨v2, ev2⟩ := q_ev ((q_J (S) o 3).toInt)
  have f3 := q_bV ev2 f1
  have f4 := q_leCv ev2 ht
  refine q_ok_atS hG (q_trI mo ro) rfl (fun mo ro => ?_)
  have hG := u_31_I10 (x := (16384 : Int32)) hG mo ro (by decide) (q_wd (show (16384 : Int) ≤ (16384 : Int32).toInt ∧ (16384 : Int32).toInt ≤ (16384 : Int) by decide) (by decide) (by decide))
  have hG := u_31_I11 (x := (0 : Int32)) hG mo ro (by decide) (q_wd (show (0 : Int) ≤ (0 : Int32).toInt ∧ (0 : Int32).toInt ≤ (0 : Int) by decide) (by decide) (by decide))
  refine q_ok_let (fun S5 eS5 => ?_)
  rw [← eS5] at hG
  have hG := u_31_I12 (x := (0 : Int32)) hG mo ro (by decide) (q_wd (show (0 : Int) ≤ (0 : Int32).toInt ∧ (0 : Int32).toInt ≤ (0 : Int) by decide) (by decide) (by decide))
  have hG := u_31_I13 (x := (16384 : Int32)) hG mo ro (by decide) (q_wd (show (16384 : Int) ≤ (16384 : Int32).toInt ∧ (16384 : Int32).toInt ≤ (16384 : Int) by decide) (by decide) (by decide))
  refine q_ok_let (fun S6 eS6 => ?_)
  rw [← eS6] at hG
  have f7 : q_sm _ := g_31_I6 hG mo ro
  obtain ⟨v8, ev8⟩ := q_ev (((q_I (S6) o 6) &&& (8 : Int32)).toInt)
  have f9 := q_andRVI ev8 (show q_eqv ((8 : Int32)).toInt (8) by unfold q_eqv; decide) (by omega)
  refine q_ok_ite (fun g10 => ?_) (fun g10 => ?_)
  · have f11 := q_eqV ev8 (show q_eqv ((0 : Int32)).toInt (0) by unfold q_eqv; decide) (q_p_eq g10)
    obtain ⟨v12, ev12⟩ := q_ev (((q_I (S6) o 6) &&& (64 : Int32)).toInt)
    have f13 := q_andRVI ev12 (show q_eqv ((64 : Int32)).toInt (64) by unfold q_eqv; decide) (by omega)
    refine q_ok_ite (fun g14 => ?_) (fun g14 => ?_)
    · have f15 := q_eqV ev12 (show q_eqv ((0 : Int32)).toInt (0) by unfold q_eqv; decide) (q_p_eq g14)
      obtain ⟨v16, ev16⟩ := q_ev (((q_I (S6) o 6) &&& (128 : Int32)).toInt)
      have f17 := q_andRVI ev16 (show q_eqv ((128 : Int32)).toInt (128) by unfold q_eqv; decide) (by omega)
      refine q_ok_ite (fun g18 => ?_) (fun g18 => ?_)
      · have f19 := q_eqV ev16 (show q_eqv ((0 : Int32)).toInt (0) by unfold q_eqv; decide) (q_p_eq g18)
        unfold m_X1_nextScales_125
        have e20 : q_J (S6) o 3 = q_J (S) o 3 := (Eq.trans (q_leJ eS6) (Eq.trans q_skJI (Eq.trans q_skJI (Eq.trans (q_leJ eS5) (Eq.trans q_skJI q_skJI)))))
        obtain ⟨v21, ev21⟩ := q_ev ((q_J (S6) o 3).toInt)
        have f22 : v21 = v2 := q_eqVJ e20 ev21 ev2
        exact q_ok_some ⟨hG, (q_leD ev21 ev2 (by omega))⟩
      · have f23 := q_neV ev16 (show q_eqv ((0 : Int32)).toInt (0) by unfold q_eqv; decide) (q_n_eq g18)
        have e27 : q_J (S6) o 3 = q_J (S) o 3 := (Eq.trans (q_leJ eS6) (Eq.trans q_skJI (Eq.trans q_skJI (Eq.trans (q_leJ eS5) (Eq.trans q_skJI q_skJI)))))
        obtain ⟨v28, ev28⟩ := q_ev ((q_J (S6) o 3).toInt)
        have f29 : v28 = v2 := q_eqVJ e27 ev28 ev2
        refine q_ok_b (s_X1_signedTwo_31 hn hG.1 mo ro (q_leC ev28 (by omega))) (fun r24 S25 h26 => ?_)
        have hG := q_G_call hG h26.1 (by decide)
        have f30 := h26.2.1
        have f31 : q_sm _ := g_31_J3 hG mo ro
        obtain ⟨v32, ev32⟩ := q_ev ((q_J (S25) o 3).toInt)
        have f33 := q_bV ev32 f31
        have f34 := q_leDv ev32 ev28 (h26.2.2)
        refine q_ok_atS hG (q_trI mo ro) rfl (fun mo ro => ?_)
        have hG := u_31_I10 (x := r24) hG mo ro (by decide) (q_wd f30 (by decide) (by decide))
        have e38 : q_J (q_sI (S25) o 10 (r24)) o 3 = q_J (S25) o 3 := q_skJI
        obtain ⟨v39, ev39⟩ := q_ev ((q_J (q_sI (S25) o 10 (r24)) o 3).toInt)
        have f40 : v39 = v32 := q_eqVJ e38 ev39 ev32
        refine q_ok_b (s_X1_signedTwo_31 hn hG.1 mo ro (q_leC ev39 (by omega))) (fun r35 S36 h37 => ?_)
        have hG := q_G_call hG h37.1 (by decide)
        have f41 := h37.2.1
        have f42 : q_sm _ := g_31_J3 hG mo ro
        obtain ⟨v43, ev43⟩ := q_ev ((q_J (S36) o 3).toInt)
        have f44 := q_bV ev43 f42
        have f45 := q_leDv ev43 ev39 (h37.2.2)
        refine q_ok_atS hG (q_trI mo ro) rfl (fun mo ro => ?_)
        have hG := u_31_I11 (x := r35) hG mo ro (by decide) (q_wd f41 (by decide) (by decide))
        have e49 : q_J (q_sI (S36) o 11 (r35)) o 3 = q_J (S36) o 3 := q_skJI
        obtain ⟨v50, ev50⟩ := q_ev ((q_J (q_sI (S36) o 11 (r35)) o 3).toInt)
        have f51 : v50 = v43 := q_eqVJ e49 ev50 ev43
        refine q_ok_b (s_X1_signedTwo_31 hn hG.1 mo ro (q_leC ev50 (by omega))) (fun r46 S47 h48 => ?_)
        have hG := q_G_call hG h48.1 (by decide)
        have f52 := h48.2.1
        have f53 : q_sm _ := g_31_J3 hG mo ro
        obtain ⟨v54, ev54⟩ := q_ev ((q_J (S47) o 3).toInt)
        have f55 := q_bV ev54 f53
        have f56 := q_leDv ev54 ev50 (h48.2.2)
        refine q_ok_atS hG (q_trI mo ro) rfl (fun mo ro => ?_)
        have hG := u_31_I12 (x := r46) hG mo ro (by decide) (q_wd f52 (by decide) (by decide))
        have e60 : q_J (q_sI (S47) o 12 (r46)) o 3 = q_J (S47) o 3 := q_skJI
        obtain ⟨v61, ev61⟩ := q_ev ((q_J (q_sI (S47) o 12 (r46)) o 3).toInt)
        have f62 : v61 = v54 := q_eqVJ e60 ev61 ev54
        refine q_ok_b (s_X1_signedTwo_31 hn hG.1 mo ro (q_leC ev61 (by omega))) (fun r57 S58 h59 => ?_)
        have hG := q_G_call hG h59.1 (by decide)
        have f63 := h59.2.1
        have f64 : q_sm _ := g_31_J3 hG mo ro
        obtain ⟨v65, ev65⟩ := q_ev ((q_J (S58) o 3).toInt)
        have f66 := q_bV ev65 f64
        have f67 := q_leDv ev65 ev61 (h59.2.2)
        refine q_ok_atS hG (q_trI mo ro) rfl (fun mo ro => ?_)
        have hG := u_31_I13 (x := r57) hG mo ro (by decide) (q_wd f63 (by decide) (by decide))
        unfold m_X1_nextScales_125
        have e68 : q_J (q_sI (S58) o 13 (r57)) o 3 = q_J (S58) o 3 := q_skJI
        obtain ⟨v69, ev69⟩ := q_ev ((q_J (q_sI (S58) o 13 (r57)) o 3).toInt)
        have f70 : v69 = v65 := q_eqVJ e68 ev69 ev65
        exact q_ok_some ⟨hG, (q_leD ev69 ev2 (by omega))⟩
    · have f71 := q_neV ev12 (show q_eqv ((0 : Int32)).toInt (0) by unfold q_eqv; decide) (q_n_eq g14)
      have e75 : q_J (S6) o 3 = q_J (S) o 3 := (Eq.trans (q_leJ eS6) (Eq.trans q_skJI (Eq.trans q_skJI (Eq.trans (q_leJ eS5) (Eq.trans q_skJI q_skJI)))))
      obtain ⟨v76, ev76⟩ := q_ev ((q_J (S6) o 3).toInt)
      have f77 : v76 = v2 := q_eqVJ e75 ev76 ev2
      refine q_ok_b (s_X1_signedTwo_31 hn hG.1 mo ro (q_leC ev76 (by omega))) (fun r72 S73 h74 => ?_)
      have hG := q_G_call hG h74.1 (by decide)
      have f78 := h74.2.1
      have f79 : q_sm _ := g_31_J3 hG mo ro
      obtain ⟨v80, ev80⟩ := q_ev ((q_J (S73) o 3).toInt)
      have f81 := q_bV ev80 f79
      have f82 := q_leDv ev80 ev76 (h74.2.2)
      refine q_ok_atS hG (q_trI mo ro) rfl (fun mo ro => ?_)
      have hG := u_31_I10 (x := r72) hG mo ro (by decide) (q_wd f78 (by decide) (by decide))
      have e86 : q_J (q_sI (S73) o 10 (r72)) o 3 = q_J (S73) o 3 := q_skJI
      obtain ⟨v87, ev87⟩ := q_ev ((q_J (q_sI (S73) o 10 (r72)) o 3).toInt)
      have f88 : v87 = v80 := q_eqVJ e86 ev87 ev80
      refine q_ok_b (s_X1_signedTwo_31 hn hG.1 mo ro (q_leC ev87 (by omega))) (fun r83 S84 h85 => ?_)
      have hG := q_G_call hG h85.1 (by decide)
      have f89 := h85.2.1
      have f90 : q_sm _ := g_31_J3 hG mo ro
      obtain ⟨v91, ev91⟩ := q_ev ((q_J (S84) o 3).toInt)
      have f92 := q_bV ev91 f90
      have f93 := q_leDv ev91 ev87 (h85.2.2)
      refine q_ok_atS hG (q_trI mo ro) rfl (fun mo ro => ?_)
      have hG := u_31_I13 (x := r83) hG mo ro (by decide) (q_wd f89 (by decide) (by decide))
      unfold m_X1_nextScales_125
      have e94 : q_J (q_sI (S84) o 13 (r83)) o 3 = q_J (S84) o 3 := q_skJI
      obtain ⟨v95, ev95⟩ := q_ev ((q_J (q_sI (S84) o 13 (r83)) o 3).toInt)
      have f96 : v95 = v91 := q_eqVJ e94 ev95 ev91
      exact q_ok_some ⟨hG, (q_leD ev95 ev2 (by omega))⟩
  · have f97 := q_neV ev8 (show q_eqv ((0 : Int32)).toInt (0) by unfold q_eqv; decide) (q_n_eq g10)
    have e101 : q_J (S6) o 3 = q_J (S) o 3 := (Eq.trans (q_leJ eS6) (Eq.trans q_skJI (Eq.trans q_skJI (Eq.trans (q_leJ eS5) (Eq.trans q_skJI q_skJI)))))
    obtain ⟨v102, ev102⟩ := q_ev ((q_J (S6) o 3).toInt)
    have f103 : v102 = v2 := q_eqVJ e101 ev102 ev2
    refine q_ok_b (s_X1_signedTwo_31 hn hG.1 mo ro (q_leC ev102 (by omega))) (fun r98 S99 h100 => ?_)
    have hG := q_G_call hG h100.1 (by decide)
    have f104 := h100.2.1
    have f105 : q_sm _ := g_31_J3 hG mo ro
    obtain ⟨v106, ev106⟩ := q_ev ((q_J (S99) o 3).toInt)
    have f107 := q_bV ev106 f105
    have f108 := q_leDv ev106 ev102 (h100.2.2)
    refine q_ok_atS hG (q_trI mo ro) rfl (fun mo ro => ?_)
    have hG := u_31_I10 (x := r98) hG mo ro (by decide) (q_wd f104 (by decide) (by decide))
    have f109 : q_sm _ := g_31_I10 hG mo ro
    have e110 : q_I (q_sI (S99) o 10 (r98)) o 10 = r98 := q_hitI
    have hG := u_31_I13 (x := q_I (q_sI (S99) o 10 (r98)) o 10) hG mo ro (by decide) (q_wd f109 (by decide) (by decide))
    refine q_ok_let (fun S111 eS111 => ?_)
    rw [← eS111] at hG
    unfold m_X1_nextScales_125
    have e112 : q_J (S111) o 3 = q_J (S99) o 3 := (Eq.trans (q_leJ eS111) (Eq.trans q_skJI q_skJI))
    obtain ⟨v113, ev113⟩ := q_ev ((q_J (S111) o 3).toInt)
    have f114 : v113 = v106 := q_eqVJ e112 ev113 ev106
    exact q_ok_some ⟨hG, (q_leD ev113 ev2 (by omega))⟩
def M_X1_nextPart_31 : List Nat := [1986, 1987, 1990, 1991, 1992, 1993, 1994, 1995, 1996, 1997]
set_option maxHeartbeats 4000000 in
set_option maxRecDepth 100000 in
theorem s_X1_nextPart_31 {ρ : Nat → Nat} {L : List Nat} {n : Nat} (hn : 18446744073709551616 ≤ n) {S : q_S} (hI : q_Inv ρ L S) {o : Nat} (mo : o ∈ L) (ro : ρ o = 31) (ht : (q_J S o 3).toInt ≤ 140737622573056) : q_ok (m_X1_nextPart n S o) (fun r T => q_G ρ L M_X1_nextPart_31 S T ∧ (0 ≤ r.toInt ∧ r.toInt ≤ 1) ∧ q_sm ((q_J T o 3).toInt ≤ (q_J S o 3).toInt + 16)) := by
  have hG : q_G ρ L M_X1_nextPart_31 S S := q_G_refl hI
  unfold m_X1_nextPart
  have z0 : (0 : Int32).toInt = 0 := rfl
  have f1 : q_sm _ := g_31_J3 hG mo ro
  obtain ⟨v2, ev2⟩ := q_ev ((q_J (S) o 3).toInt)
  have f3 := q_bV ev2 f1
  have f4 := q_leCv ev2 ht
  refine q_ok_atS hG (q_trI mo ro) rfl (fun mo ro => ?_)
  refine q_ok_b (s_X1_two_31 hn hG.1 mo ro (q_leC ev2 (by omega))) (fun r5 S6 h7 => ?_)
  have hG := q_G_call hG h7.1 (by decide)
  have f8 := h7.2.1
  have f9 : q_sm _ := g_31_J3 hG mo ro
  obtain ⟨v10, ev10⟩ := q_ev ((q_J (S6) o 3).toInt)
  have f11 := q_bV ev10 f9
  have f12 := q_leDv ev10 ev2 (h7.2.2)
  refine q_ok_atS hG (q_trI mo ro) rfl (fun mo ro => ?_)
  have hG := u_31_I6 (x := r5) hG mo ro (by decide) (q_wd f8 (by decide) (by decide))
  have e16 : q_J (q_sI (S6) o 6 (r5)) o 3 = q_J (S6) o 3 := q_skJI
  obtain ⟨v17, ev17⟩ := q_ev ((q_J (q_sI (S6) o 6 (r5)) o 3).toInt)
  have f18 : v17 = v10 := q_eqVJ e16 ev17 ev10
  refine q_ok_b (s_X1_two_31 hn hG.1 mo ro (q_leC ev17 (by omega))) (fun r13 S14 h15 => ?_)
  have hG := q_G_call hG h15.1 (by decide)
  have f19 := h15.2.1
  have f20 : q_sm _ := g_31_J3 hG mo ro
  obtain ⟨v21, ev21⟩ := q_ev ((q_J (S14) o 3).toInt)
  have f22 := q_bV ev21 f20
  have f23 := q_leDv ev21 ev17 (h15.2.2)
  refine q_ok_atS hG (q_trI mo ro) rfl (fun mo ro => ?_)
  have hG := u_31_I7 (x := r13) hG mo ro (by decide) (q_wd f19 (by decide) (by decide))
  have e27 : q_J (q_sI (S14) o 7 (r13)) o 3 = q_J (S14) o 3 := q_skJI
  obtain ⟨v28, ev28⟩ := q_ev ((q_J (q_sI (S14) o 7 (r13)) o 3).toInt)
  have f29 : v28 = v21 := q_eqVJ e27 ev28 ev21
  refine q_ok_b (s_X1_nextNumber_31 hn hG.1 mo ro (q_leC ev28 (by omega))) (fun r24 S25 h26 => ?_)
  have hG := q_G_call hG h26.1 (by decide)
  have f30 := h26.2.1
  have f31 : q_sm _ := g_31_J3 hG mo ro
  obtain ⟨v32, ev32⟩ := q_ev ((q_J (S25) o 3).toInt)
  have f33 := q_bV ev32 f31
  have f34 := q_leDv ev32 ev28 (h26.2.2)
  refine q_ok_atS hG (q_trI mo ro) rfl (fun mo ro => ?_)
  have hG := u_31_I8 (x := r24) hG mo ro (by decide) (q_wd f30 (by decide) (by decide))
  have e38 : q_J (q_sI (S25) o 8 (r24)) o 3 = q_J (S25) o 3 := q_skJI
  obtain ⟨v39, ev39⟩ := q_ev ((q_J (q_sI (S25) o 8 (r24)) o 3).toInt)
  have f40 : v39 = v32 := q_eqVJ e38 ev39 ev32
  refine q_ok_b (s_X1_nextNumber_31 hn hG.1 mo ro (q_leC ev39 (by omega))) (fun r35 S36 h37 => ?_)
  have hG := q_G_call hG h37.1 (by decide)
  have f41 := h37.2.1
  have f42 : q_sm _ := g_31_J3 hG mo ro
  obtain ⟨v43, ev43⟩ := q_ev ((q_J (S36) o 3).toInt)
  have f44 := q_bV ev43 f42
  have f45 := q_leDv ev43 ev39 (h37.2.2)
  refine q_ok_atS hG (q_trI mo ro) rfl (fun mo ro => ?_)
  have hG := u_31_I9 (x := r35) hG mo ro (by decide) (q_wd f41 (by decide) (by decide))
  have e49 : q_J (q_sI (S36) o 9 (r35)) o 3 = q_J (S36) o 3 := q_skJI
  obtain ⟨v50, ev50⟩ := q_ev ((q_J (q_sI (S36) o 9 (r35)) o 3).toInt)
  have f51 : v50 = v43 := q_eqVJ e49 ev50 ev43
  refine q_ok_b (s_X1_nextScales_31 hn hG.1 mo ro (q_leC ev50 (by omega))) (fun r46 S47 h48 => ?_)
  have hG := q_G_call hG h48.1 (by decide)
  have f52 : q_sm _ := g_31_J3 hG mo ro
  obtain ⟨v53, ev53⟩ := q_ev ((q_J (S47) o 3).toInt)
  have f54 := q_bV ev53 f52
  have f55 := q_leDv ev53 ev50 (h48.2)
  refine q_ok_atS hG (q_trI mo ro) rfl (fun mo ro => ?_)
  have f56 : q_sm _ := g_31_I2 hG mo ro
  obtain ⟨v57, ev57⟩ := q_ev ((q_I (S47) o 2).toInt)
  have f58 := q_bV ev57 f56
  refine q_ok_ite (fun g59 => ?_) (fun g59 => ?_)
  · have f60 := q_eqV ev57 (show q_eqv ((0 : Int32)).toInt (0) by unfold q_eqv; decide) (q_p_eq g59)
    unfold m_X1_nextPart_48
    refine q_ok_if (q_b01V (show q_eqv ((1 : Int32)).toInt (1) by unfold q_eqv; decide) (by omega) (by omega)) ?_
    exact q_ok_some ⟨hG, (q_wd (show (1 : Int) ≤ (1 : Int32).toInt ∧ (1 : Int32).toInt ≤ (1 : Int) by decide) (by decide) (by decide)), (q_leD ev53 ev2 (by omega))⟩
  · have f61 := q_neV ev57 (show q_eqv ((0 : Int32)).toInt (0) by unfold q_eqv; decide) (q_n_eq g59)
    unfold m_X1_nextPart_48
    refine q_ok_if (q_b01V (show q_eqv ((0 : Int32)).toInt (0) by unfold q_eqv; decide) (by omega) (by omega)) ?_
    exact q_ok_some ⟨hG, (q_wd (show (0 : Int) ≤ (0 : Int32).toInt ∧ (0 : Int32).toInt ≤ (0 : Int) by decide) (by decide) (by decide)), (q_leD ev53 ev2 (by omega))⟩
def M_X5_yieldOfParts_14_31 : List Nat := [1986, 1987, 1990, 1991, 1992, 1993, 1994, 1995, 1996, 1997]
set_option maxHeartbeats 4000000 in
set_option maxRecDepth 100000 in
theorem s_X5_yieldOfParts_14_31_85 {ρ : Nat → Nat} {L : List Nat} {n : Nat} (hn : 18446744073709551616 ≤ n) {S0 : q_S}  (S : q_S) (l3 : Int32) (hG : q_G ρ L M_X5_yieldOfParts_14_31 S0 S) (hl3 : (0 ≤ l3.toInt ∧ l3.toInt ≤ 2000)) : q_ok (m_X5_yieldOfParts_85 n S l3) (fun r T => q_G ρ L M_X5_yieldOfParts_14_31 S0 T ∧ (0 ≤ r.toInt ∧ r.toInt ≤ 2000)) := by
  unfold m_X5_yieldOfParts_85
  have z0 : (0 : Int32).toInt = 0 := rfl
  exact q_ok_some ⟨hG, (q_wd hl3 (by decide) (by decide))⟩
set_option maxHeartbeats 4000000 in
set_option maxRecDepth 100000 in
theorem s_X5_yieldOfParts_14_31_10 {ρ : Nat → Nat} {L : List Nat} {n : Nat} (hn : 18446744073709551616 ≤ n) {dT : Option Nat} {S0 : q_S}  : ∀ (k : Nat) (S : q_S) (l0 : Option Nat) (l1 : Int32) (l2 : Option Nat) (l3 : Int32) (l4 : Int32) (l5 : Int32), q_G ρ L M_X5_yieldOfParts_14_31 S0 S → q_tr ρ L l0 14 → (1 ≤ l1.toInt ∧ l1.toInt ≤ 1) → q_tr ρ L l2 31 → (0 ≤ l3.toInt ∧ l3.toInt ≤ 2000) → (0 ≤ l4.toInt ∧ l4.toInt ≤ 1) → (0 ≤ l5.toInt ∧ l5.toInt ≤ 1600) → q_tr ρ L dT 31 → (∀ a, dT = some a → (q_J S a 3).toInt ≤ (q_J S0 a 3).toInt + 16 * l5.toInt + 0 ∧ (q_J S0 a 3).toInt ≤ 140737488355328) → l2 = dT → 2147483648 - l5.toInt ≤ (k : Int) → q_ok (m_X5_yieldOfParts_10 n k S l0 l1 l2 l3 l4 l5) (fun r T => q_G ρ L M_X5_yieldOfParts_14_31 S0 T ∧ (0 ≤ r.toInt ∧ r.toInt ≤ 2000)) := by
  intro k
  induction k with
  | zero =>
    intro S l0 l1 l2 l3 l4 l5 hG hl0 hl1 hl2 hl3 hl4 hl5 htT hT hd hm
    have f0 := q_rngI l5
    exfalso; omega
  | succ k ih =>
    intro S l0 l1 l2 l3 l4 l5 hG hl0 hl1 hl2 hl3 hl4 hl5 htT hT hd hm
    rw [m_X5_yieldOfParts_10]
    have z0 : (0 : Int32).toInt = 0 := rfl
    subst hd
    obtain ⟨aT, eaT, maT, raT⟩ := id htT
    have f1 : q_sm _ := g_31_J3 hG maT raT
    obtain ⟨v2, ev2⟩ := q_ev ((q_J (S) aT 3).toInt)
    have f3 := q_bV ev2 f1
    obtain ⟨v4, ev4⟩ := q_ev ((q_J (S0) aT 3).toInt)
    have f5 := q_rVJ (X := q_J (S0) aT 3) ev4
    have f6 := q_le3v (K9 := 16) (E9 := 0) ev2 ev4 q_evr (hT aT eaT).1
    have f7 := q_leCv ev4 (hT aT eaT).2
    refine q_ok_ite (fun g8 => ?_) (fun g8 => ?_)
    · have f9 := q_leV (show q_eqv ((1600 : Int32)).toInt (1600) by unfold q_eqv; decide) q_evr (q_p_ge g8)
      exact s_X5_yieldOfParts_14_31_85 hn _ _ hG (q_wd hl3 (by decide) (by decide)) 
    · have f10 := q_ltV q_evr (show q_eqv ((1600 : Int32)).toInt (1600) by unfold q_eqv; decide) (q_n_ge g8)
      refine q_ok_ite (fun g11 => ?_) (fun g11 => ?_)
      · have f12 := q_eqV q_evr (show q_eqv ((0 : Int32)).toInt (0) by unfold q_eqv; decide) (q_p_eq g11)
        exact s_X5_yieldOfParts_14_31_85 hn _ _ hG (q_wd hl3 (by decide) (by decide)) 
      · have f13 := q_neV q_evr (show q_eqv ((0 : Int32)).toInt (0) by unfold q_eqv; decide) (q_n_eq g11)
        refine q_ok_atA hG eaT maT raT rfl ?_
        refine q_ok_b (s_X1_nextPart_31 hn hG.1 maT raT (q_leC ev2 (by omega))) (fun r14 S15 h16 => ?_)
        have hG := q_G_call hG h16.1 (by decide)
        have f17 := h16.2.1
        have f18 : q_sm _ := g_31_J3 hG maT raT
        obtain ⟨v19, ev19⟩ := q_ev ((q_J (S15) aT 3).toInt)
        have f20 := q_bV ev19 f18
        have f21 := q_leDv ev19 ev2 (h16.2.2)
        refine q_ok_ite (fun g22 => ?_) (fun g22 => ?_)
        · have f23 := q_eqV q_evr (show q_eqv ((0 : Int32)).toInt (0) by unfold q_eqv; decide) (q_p_eq g22)
          exact q_ok_some ⟨hG, (q_wd (show (1000 : Int) ≤ (1000 : Int32).toInt ∧ (1000 : Int32).toInt ≤ (1000 : Int) by decide) (by decide) (by decide))⟩
        · have f24 := q_neV q_evr (show q_eqv ((0 : Int32)).toInt (0) by unfold q_eqv; decide) (q_n_eq g22)
          refine q_ok_atA hG eaT maT raT rfl ?_
          refine q_ok_b (s_X1_isMoved_31 hn hG.1 maT raT) (fun r25 S26 h27 => ?_)
          obtain ⟨eS26, h27⟩ := h27
          replace eS26 := eS26.symm
          subst eS26
          have f28 := h27
          refine q_ok_ite (fun g29 => ?_) (fun g29 => ?_)
          · have f30 := q_eqV q_evr (show q_eqv ((0 : Int32)).toInt (0) by unfold q_eqv; decide) (q_p_eq g29)
            unfold m_X5_yieldOfParts_50
            refine q_ok_atA hG eaT maT raT rfl ?_
            have f31 : q_sm _ := g_31_I7 hG maT raT
            refine q_ok_at hG hl0 rfl (fun a32 ma32 ra32 ea32 => ?_)
            refine q_ok_b (s_X5_yieldAt_14 hn hG.1 ma32 ra32 (q_wd (q_addBI (2) (2) hl1 (show (1 : Int) ≤ (1 : Int32).toInt ∧ (1 : Int32).toInt ≤ (1 : Int) by decide) (by decide) (by decide) (by decide) (by decide)) (by decide) (by decide)) (q_wd f31 (by decide) (by decide))) (fun r33 S34 h35 => ?_)
            obtain ⟨eS34, h35⟩ := h35
            replace eS34 := eS34.symm
            subst eS34
            have f36 := h35
            refine q_ok_b (s_J9_min_7cf53 n _ _ _) (fun r37 S38 h39 => ?_)
            obtain ⟨eS38, h39⟩ := h39
            replace h39 := q_mmVN (show q_eqv ((1000 : Int32)).toInt (1000) by unfold q_eqv; decide) q_evr h39
            replace eS38 := eS38.symm
            subst eS38
            refine q_ok_b (s_J9_min_7cf53 n _ _ _) (fun r40 S41 h42 => ?_)
            obtain ⟨eS41, h42⟩ := h42
            replace h42 := q_mmVN q_evr q_evr h42
            replace eS41 := eS41.symm
            subst eS41
            refine q_ok_atA hG eaT maT raT rfl ?_
            refine q_ok_b (s_X1_hasMore_31 hn hG.1 maT raT) (fun r43 S44 h45 => ?_)
            obtain ⟨eS44, h45⟩ := h45
            replace eS44 := eS44.symm
            subst eS44
            have f46 := h45
            obtain ⟨v47, ev47⟩ := q_ev ((l5 + (1)).toInt)
            have f48 : v47 = l5.toInt + (1) := q_addVI ev47 q_evr (show q_eqv ((1 : Int32)).toInt (1) by unfold q_eqv; decide) (by omega) (by omega)
            exact ih _ _ _ _ _ _ _ hG hl0 (q_wd hl1 (by decide) (by decide)) hl2 (q_oV q_evr (by omega) (by omega)) (q_wd f46 (by decide) (by decide)) (q_oV ev47 (by omega) (by omega)) (q_trE eaT maT raT) (q_trk eaT ⟨q_le3 (K9 := 16) (E9 := 0) ev19 ev4 ev47 (by omega), q_leC ev4 (by omega)⟩) (by first | rfl | exact hd)  (q_upV ev47 (by omega))
          · have f49 := q_neV q_evr (show q_eqv ((0 : Int32)).toInt (0) by unfold q_eqv; decide) (q_n_eq g29)
            unfold m_X5_yieldOfParts_50
            refine q_ok_atA hG eaT maT raT rfl ?_
            have f50 : q_sm _ := g_31_I7 hG maT raT
            refine q_ok_at hG hl0 rfl (fun a51 ma51 ra51 ea51 => ?_)
            refine q_ok_b (s_X5_yieldAt_14 hn hG.1 ma51 ra51 (q_wd (q_addBI (2) (2) hl1 (show (1 : Int) ≤ (1 : Int32).toInt ∧ (1 : Int32).toInt ≤ (1 : Int) by decide) (by decide) (by decide) (by decide) (by decide)) (by decide) (by decide)) (q_wd f50 (by decide) (by decide))) (fun r52 S53 h54 => ?_)
            obtain ⟨eS53, h54⟩ := h54
            replace eS53 := eS53.symm
            subst eS53
            have f55 := h54
            refine q_ok_b (s_J9_min_7cf53 n _ _ _) (fun r56 S57 h58 => ?_)
            obtain ⟨eS57, h58⟩ := h58
            replace h58 := q_mmVN (show q_eqv ((2000 : Int32)).toInt (2000) by unfold q_eqv; decide) q_evr h58
            replace eS57 := eS57.symm
            subst eS57
            refine q_ok_b (s_J9_min_7cf53 n _ _ _) (fun r59 S60 h61 => ?_)
            obtain ⟨eS60, h61⟩ := h61
            replace h61 := q_mmVN q_evr q_evr h61
            replace eS60 := eS60.symm
            subst eS60
            refine q_ok_atA hG eaT maT raT rfl ?_
            refine q_ok_b (s_X1_hasMore_31 hn hG.1 maT raT) (fun r62 S63 h64 => ?_)
            obtain ⟨eS63, h64⟩ := h64
            replace eS63 := eS63.symm
            subst eS63
            have f65 := h64
            obtain ⟨v66, ev66⟩ := q_ev ((l5 + (1)).toInt)
            have f67 : v66 = l5.toInt + (1) := q_addVI ev66 q_evr (show q_eqv ((1 : Int32)).toInt (1) by unfold q_eqv; decide) (by omega) (by omega)
            exact ih _ _ _ _ _ _ _ hG hl0 (q_wd hl1 (by decide) (by decide)) hl2 (q_oV q_evr (by omega) (by omega)) (q_wd f65 (by decide) (by decide)) (q_oV ev66 (by omega) (by omega)) (q_trE eaT maT raT) (q_trk eaT ⟨q_le3 (K9 := 16) (E9 := 0) ev19 ev4 ev66 (by omega), q_leC ev4 (by omega)⟩) (by first | rfl | exact hd)  (q_upV ev66 (by omega))
set_option maxHeartbeats 4000000 in
set_option maxRecDepth 100000 in
theorem s_X5_yieldOfParts_14_31 {ρ : Nat → Nat} {L : List Nat} {n : Nat} (hn : 18446744073709551616 ≤ n) {S : q_S} (hI : q_Inv ρ L S) {o : Nat} (mo : o ∈ L) (ro : ρ o = 14) {p0 : Int32} (hp0 : (1 ≤ p0.toInt ∧ p0.toInt ≤ 1)) {p1 : Option Nat} (tp1 : q_tr ρ L p1 31) (ht : ∀ a, p1 = some a → (q_J S a 3).toInt ≤ 140737488355328) : q_ok (m_X5_yieldOfParts n S o p0 p1) (fun r T => q_G ρ L M_X5_yieldOfParts_14_31 S T ∧ (0 ≤ r.toInt ∧ r.toInt ≤ 2000)) := by
  have hG : q_G ρ L M_X5_yieldOfParts_14_31 S S := q_G_refl hI
  unfold m_X5_yieldOfParts
  have z0 : (0 : Int32).toInt = 0 := rfl
  obtain ⟨aT, eaT, maT, raT⟩ := id tp1
  have f1 : q_sm _ := g_31_J3 hG maT raT
  obtain ⟨v2, ev2⟩ := q_ev ((q_J (S) aT 3).toInt)
  have f3 := q_bV ev2 f1
  have f4 := q_leCv ev2 (ht aT eaT)
  exact s_X5_yieldOfParts_14_31_10 hn n _ _ _ _ _ _ _ hG (q_trI mo ro) (q_wd hp0 (by decide) (by decide)) tp1 (q_wd (show (2000 : Int) ≤ (2000 : Int32).toInt ∧ (2000 : Int32).toInt ≤ (2000 : Int) by decide) (by decide) (by decide)) (q_wd (show (1 : Int) ≤ (1 : Int32).toInt ∧ (1 : Int32).toInt ≤ (1 : Int) by decide) (by decide) (by decide)) (q_wd (show (0 : Int) ≤ (0 : Int32).toInt ∧ (0 : Int32).toInt ≤ (0 : Int) by decide) (by decide) (by decide)) (q_trE eaT maT raT) (q_trk eaT ⟨q_le3 (K9 := 16) (E9 := 0) ev2 ev2 (show q_eqv ((0 : Int32)).toInt (0) by unfold q_eqv; decide) (by omega), q_leC ev2 (by omega)⟩) (by first | rfl | exact hd)  (q_upV (show q_eqv ((0 : Int32)).toInt (0) by unfold q_eqv; decide) (by omega))
def M_X1_skip_31 : List Nat := [1986, 1987]
set_option maxHeartbeats 4000000 in
set_option maxRecDepth 100000 in
theorem s_X1_skip_31 {ρ : Nat → Nat} {L : List Nat} {n : Nat} (hn : 18446744073709551616 ≤ n) {S : q_S} (hI : q_Inv ρ L S) {o : Nat} (mo : o ∈ L) (ro : ρ o = 31) {p0 : Int32} (hp0 : (0 ≤ p0.toInt ∧ p0.toInt ≤ 65535)) (ht : (q_J S o 3).toInt ≤ 140739635838976) : q_ok (m_X1_skip n S o p0) (fun _ T => q_G ρ L M_X1_skip_31 S T ∧ q_sm ((q_J T o 3).toInt ≤ (q_J S o 3).toInt + 65535)) := by
  have hG : q_G ρ L M_X1_skip_31 S S := q_G_refl hI
  unfold m_X1_skip
  have z0 : (0 : Int32).toInt = 0 := rfl
  have f1 : q_sm _ := g_31_J3 hG mo ro
  obtain ⟨v2, ev2⟩ := q_ev ((q_J (S) o 3).toInt)
  have f3 := q_bV ev2 f1
  have f4 := q_leCv ev2 ht
  refine q_ok_atS hG (q_trI mo ro) rfl (fun mo ro => ?_)
  obtain ⟨v5, ev5⟩ := q_ev (((q_J (S) o 3) + (p0.toInt64)).toInt)
  obtain ⟨v6, ev6⟩ := q_ev ((p0.toInt64).toInt)
  have f7 : v6 = p0.toInt := q_i2lV ev6 q_evr
  have f8 : v5 = v2 + v6 := q_addVJ ev5 ev2 ev6 (by omega) (by omega)
  have hG := u_31_J3 (x := (q_J (S) o 3) + (p0.toInt64)) hG mo ro (by decide) (q_oV ev5 (by omega) (by omega))
  have f9 : q_sm _ := g_31_I2 hG mo ro
  obtain ⟨v10, ev10⟩ := q_ev ((q_I (q_sJ (S) o 3 ((q_J (S) o 3) + (p0.toInt64))) o 2).toInt)
  have f11 := q_bV ev10 f9
  refine q_ok_ite (fun g12 => ?_) (fun g12 => ?_)
  · have f13 := q_eqV ev10 (show q_eqv ((0 : Int32)).toInt (0) by unfold q_eqv; decide) (q_p_eq g12)
    have f14 : q_sm _ := g_31_J3 hG mo ro
    have e15 : q_J (q_sJ (S) o 3 ((q_J (S) o 3) + (p0.toInt64))) o 3 = (q_J (S) o 3) + (p0.toInt64) := q_hitJ
    have f16 : q_sm _ := g_31_J4 hG mo ro
    obtain ⟨v17, ev17⟩ := q_ev ((q_J (q_sJ (S) o 3 ((q_J (S) o 3) + (p0.toInt64))) o 3).toInt)
    have f18 : v17 = v5 := q_eqVJ e15 ev17 ev5
    obtain ⟨v19, ev19⟩ := q_ev ((q_J (q_sJ (S) o 3 ((q_J (S) o 3) + (p0.toInt64))) o 4).toInt)
    have f20 := q_bV ev19 f16
    refine q_ok_ite (fun g21 => ?_) (fun g21 => ?_)
    · have f22 := q_leV ev17 ev19 (q_cp_le g21)
      unfold m_X1_skip_36
      refine q_ok_atS hG (q_trI mo ro) rfl (fun mo ro => ?_)
      refine q_ok_if (q_b01V (show q_eqv ((0 : Int32)).toInt (0) by unfold q_eqv; decide) (by omega) (by omega)) ?_
      have hG := u_31_I2 (x := (0 : Int32)) hG mo ro (by decide) (q_wd (show (0 : Int) ≤ (0 : Int32).toInt ∧ (0 : Int32).toInt ≤ (0 : Int) by decide) (by decide) (by decide))
      have e23 : q_J (q_sI (q_sJ (S) o 3 ((q_J (S) o 3) + (p0.toInt64))) o 2 ((0 : Int32))) o 3 = q_J (q_sJ (S) o 3 ((q_J (S) o 3) + (p0.toInt64))) o 3 := q_skJI
      obtain ⟨v24, ev24⟩ := q_ev ((q_J (q_sI (q_sJ (S) o 3 ((q_J (S) o 3) + (p0.toInt64))) o 2 ((0 : Int32))) o 3).toInt)
      have f25 : v24 = v17 := q_eqVJ e23 ev24 ev17
      exact q_ok_some ⟨hG, (q_leD ev24 ev2 (by omega))⟩
    · have f26 := q_ltV ev19 ev17 (q_cn_le g21)
      unfold m_X1_skip_31
      unfold m_X1_skip_36
      refine q_ok_atS hG (q_trI mo ro) rfl (fun mo ro => ?_)
      refine q_ok_if (q_b01V (show q_eqv ((1 : Int32)).toInt (1) by unfold q_eqv; decide) (by omega) (by omega)) ?_
      have hG := u_31_I2 (x := (1 : Int32)) hG mo ro (by decide) (q_wd (show (1 : Int) ≤ (1 : Int32).toInt ∧ (1 : Int32).toInt ≤ (1 : Int) by decide) (by decide) (by decide))
      have e27 : q_J (q_sI (q_sJ (S) o 3 ((q_J (S) o 3) + (p0.toInt64))) o 2 ((1 : Int32))) o 3 = q_J (q_sJ (S) o 3 ((q_J (S) o 3) + (p0.toInt64))) o 3 := q_skJI
      obtain ⟨v28, ev28⟩ := q_ev ((q_J (q_sI (q_sJ (S) o 3 ((q_J (S) o 3) + (p0.toInt64))) o 2 ((1 : Int32))) o 3).toInt)
      have f29 : v28 = v17 := q_eqVJ e27 ev28 ev17
      exact q_ok_some ⟨hG, (q_leD ev28 ev2 (by omega))⟩
  · have f30 := q_neV ev10 (show q_eqv ((0 : Int32)).toInt (0) by unfold q_eqv; decide) (q_n_eq g12)
    unfold m_X1_skip_31
    unfold m_X1_skip_36
    refine q_ok_atS hG (q_trI mo ro) rfl (fun mo ro => ?_)
    refine q_ok_if (q_b01V (show q_eqv ((1 : Int32)).toInt (1) by unfold q_eqv; decide) (by omega) (by omega)) ?_
    have hG := u_31_I2 (x := (1 : Int32)) hG mo ro (by decide) (q_wd (show (1 : Int) ≤ (1 : Int32).toInt ∧ (1 : Int32).toInt ≤ (1 : Int) by decide) (by decide) (by decide))
    have e31 : q_J (q_sI (q_sJ (S) o 3 ((q_J (S) o 3) + (p0.toInt64))) o 2 ((1 : Int32))) o 3 = (q_J (S) o 3) + (p0.toInt64) := (Eq.trans q_skJI q_hitJ)
    obtain ⟨v32, ev32⟩ := q_ev ((q_J (q_sI (q_sJ (S) o 3 ((q_J (S) o 3) + (p0.toInt64))) o 2 ((1 : Int32))) o 3).toInt)
    have f33 : v32 = v5 := q_eqVJ e31 ev32 ev5
    exact q_ok_some ⟨hG, (q_leD ev32 ev2 (by omega))⟩
def M_X1_open_31 : List Nat := [1985, 1986, 1987, 1988, 1989]
set_option maxHeartbeats 4000000 in
set_option maxRecDepth 100000 in
theorem s_X1_open_31 {ρ : Nat → Nat} {L : List Nat} {n : Nat} (hn : 18446744073709551616 ≤ n) {S : q_S} (hI : q_Inv ρ L S) {o : Nat} (mo : o ∈ L) (ro : ρ o = 31) {p0 : Int32} (hp0 : (0 ≤ p0.toInt ∧ p0.toInt ≤ 1)) {p1 : Int64} (hp1 : (0 ≤ p1.toInt ∧ p1.toInt ≤ 17179869184)) {p2 : Int64} (hp2 : (0 ≤ p2.toInt ∧ p2.toInt ≤ 65535)) : q_ok (m_X1_open n S o p0 p1 p2) (fun _ T => q_G ρ L M_X1_open_31 S T ∧ q_sm ((q_J T o 3).toInt ≤ 1099511627776)) := by
  have hG : q_G ρ L M_X1_open_31 S S := q_G_refl hI
  unfold m_X1_open
  have z0 : (0 : Int32).toInt = 0 := rfl
  have f1 : q_sm _ := g_31_J3 hG mo ro
  obtain ⟨v2, ev2⟩ := q_ev ((q_J (S) o 3).toInt)
  have f3 := q_bV ev2 f1
  refine q_ok_atS hG (q_trI mo ro) rfl (fun mo ro => ?_)
  refine q_ok_if (q_b01V q_evr (by omega) (by omega)) ?_
  have hG := u_31_I1 (x := p0) hG mo ro (by decide) (q_wd hp0 (by decide) (by decide))
  refine q_ok_if (q_b01V (show q_eqv ((0 : Int32)).toInt (0) by unfold q_eqv; decide) (by omega) (by omega)) ?_
  have hG := u_31_I2 (x := (0 : Int32)) hG mo ro (by decide) (q_wd (show (0 : Int) ≤ (0 : Int32).toInt ∧ (0 : Int32).toInt ≤ (0 : Int) by decide) (by decide) (by decide))
  refine q_ok_let (fun S4 eS4 => ?_)
  rw [← eS4] at hG
  have hG := u_31_J3 (x := p1) hG mo ro (by decide) (q_wd hp1 (by decide) (by decide))
  have hG := u_31_J4 (x := p2) hG mo ro (by decide) (q_wd hp2 (by decide) (by decide))
  refine q_ok_let (fun S5 eS5 => ?_)
  rw [← eS5] at hG
  have e9 : q_J (S5) o 3 = p1 := (Eq.trans (q_leJ eS5) (Eq.trans (q_ffJ (by decide)) q_hitJ))
  obtain ⟨v10, ev10⟩ := q_ev ((q_J (S5) o 3).toInt)
  have f11 : v10 = p1.toInt := q_eqVJ e9 ev10 q_evr
  refine q_ok_b (s_X1_signedTwo_31 hn hG.1 mo ro (q_leC ev10 (by omega))) (fun r6 S7 h8 => ?_)
  have hG := q_G_call hG h8.1 (by decide)
  have f12 := h8.2.1
  have f13 : q_sm _ := g_31_J3 hG mo ro
  obtain ⟨v14, ev14⟩ := q_ev ((q_J (S7) o 3).toInt)
  have f15 := q_bV ev14 f13
  have f16 := q_leDv ev14 ev10 (h8.2.2)
  refine q_ok_atS hG (q_trI mo ro) rfl (fun mo ro => ?_)
  have hG := u_31_I5 (x := r6) hG mo ro (by decide) (q_wd f12 (by decide) (by decide))
  have e20 : q_J (q_sI (S7) o 5 (r6)) o 3 = q_J (S7) o 3 := q_skJI
  obtain ⟨v21, ev21⟩ := q_ev ((q_J (q_sI (S7) o 5 (r6)) o 3).toInt)
  have f22 : v21 = v14 := q_eqVJ e20 ev21 ev14
  refine q_ok_b (s_X1_skip_31 hn hG.1 mo ro (q_wd (show (8 : Int) ≤ (8 : Int32).toInt ∧ (8 : Int32).toInt ≤ (8 : Int) by decide) (by decide) (by decide)) (q_leC ev21 (by omega))) (fun r17 S18 h19 => ?_)
  have hG := q_G_call hG h19.1 (by decide)
  have f23 : q_sm _ := g_31_J3 hG mo ro
  obtain ⟨v24, ev24⟩ := q_ev ((q_J (S18) o 3).toInt)
  have f25 := q_bV ev24 f23
  have f26 := q_leDv ev24 ev21 (h19.2)
  exact q_ok_some ⟨hG, (q_leC ev24 (by omega))⟩
