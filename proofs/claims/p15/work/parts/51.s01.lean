set_option maxHeartbeats 4000000 in
set_option maxRecDepth 100000 in
theorem s_X8_first_6 {ρ : Nat → Nat} {L : List Nat} {n : Nat} (hn : 18446744073709551616 ≤ n) {S : q_S} (hI : q_Inv ρ L S) {o : Nat} (mo : o ∈ L) (ro : ρ o = 6) {p0 : Int64} (hp0 : (65535 ≤ p0.toInt ∧ p0.toInt ≤ 2147483647)) : q_ok (m_X8_first n S o p0) (fun r T => T = S ∧ r ∈ L ∧ ρ r = 8) := by
  have hG : q_G ρ L [] S S := q_G_refl hI
  unfold m_X8_first
  have z0 : (0 : Int32).toInt = 0 := rfl
  refine q_ok_atS hG (q_trI mo ro) rfl (fun mo ro => ?_)
  refine q_ok_b (s_X8_indexOf_6 hn hG.1 mo ro (q_wd hp0 (by decide) (by decide))) (fun r1 S2 h3 => ?_)
  obtain ⟨eS2, h3⟩ := h3
  replace eS2 := eS2.symm
  subst eS2
  have f4 := h3
  refine q_ok_atS hG (q_trI mo ro) rfl (fun mo ro => ?_)
  refine q_ok_b (s_X8_get_6 hn hG.1 mo ro) (fun r5 S6 h7 => ?_)
  obtain ⟨eS6, h7⟩ := h7
  replace eS6 := eS6.symm
  subst eS6
  refine q_ok_atS hG (q_trI h7.1 h7.2) rfl (fun mr5 rr5 => ?_)
  exact q_ok_some ⟨rfl, mr5, rr5⟩
def M_X0_find_13 : List Nat := [833, 834]
set_option maxHeartbeats 4000000 in
set_option maxRecDepth 100000 in
theorem s_X0_find_13_112 {ρ : Nat → Nat} {L : List Nat} {n : Nat} (hn : 18446744073709551616 ≤ n) {S0 : q_S}  (S : q_S) (l0 : Option Nat) (l1 : Int32) (l4 : Int32) (hG : q_G ρ L M_X0_find_13 S0 S) (hl0 : q_tr ρ L l0 13) (hl1 : (0 ≤ l1.toInt ∧ l1.toInt ≤ 2147483647)) (hl4 : (0 ≤ l4.toInt ∧ l4.toInt ≤ 12)) : q_ok (m_X0_find_112 n S l0 l1 l4) (fun r T => q_G ρ L M_X0_find_13 S0 T ∧ (-2147483648 ≤ r.toInt ∧ r.toInt ≤ 17179869184)) := by
  unfold m_X0_find_112
  have z0 : (0 : Int32).toInt = 0 := rfl
  refine q_ok_at hG hl0 rfl (fun a1 ma1 ra1 ea1 => ?_)
  refine q_ok_b (s_X0_findBy_13 hn hG.1 ma1 ra1 (q_wd hl4 (by decide) (by decide)) (q_wd hl1 (by decide) (by decide))) (fun r2 S3 h4 => ?_)
  obtain ⟨eS3, h4⟩ := h4
  replace eS3 := eS3.symm
  subst eS3
  have f5 := h4
  exact q_ok_some ⟨hG, (q_wd f5 (by decide) (by decide))⟩
set_option maxHeartbeats 4000000 in
set_option maxRecDepth 100000 in
theorem s_X0_find_13_27 {ρ : Nat → Nat} {L : List Nat} {n : Nat} (hn : 18446744073709551616 ≤ n) {S0 : q_S}  : ∀ (k : Nat) (S : q_S) (l0 : Option Nat) (l1 : Int32) (l2 : Int32) (l3 : Int32), q_G ρ L M_X0_find_13 S0 S → q_tr ρ L l0 13 → (0 ≤ l1.toInt ∧ l1.toInt ≤ 2147483647) → (-1 ≤ l2.toInt ∧ l2.toInt ≤ 65535) → (0 ≤ l3.toInt ∧ l3.toInt ≤ 65535) → 2147483648 - l3.toInt ≤ (k : Int) → q_ok (m_X0_find_27 n k S l0 l1 l2 l3) (fun r T => q_G ρ L M_X0_find_13 S0 T ∧ (-2147483648 ≤ r.toInt ∧ r.toInt ≤ 17179869184)) := by
  intro k
  induction k with
  | zero =>
    intro S l0 l1 l2 l3 hG hl0 hl1 hl2 hl3 hm
    have f0 := q_rngI l3
    exfalso; omega
  | succ k ih =>
    intro S l0 l1 l2 l3 hG hl0 hl1 hl2 hl3 hm
    rw [m_X0_find_27]
    have z0 : (0 : Int32).toInt = 0 := rfl
    refine q_ok_ite (fun g1 => ?_) (fun g1 => ?_)
    · have f2 := q_leV q_evr q_evr (q_p_ge g1)
      exact q_ok_some ⟨hG, (q_wd (show (0 : Int) ≤ (0 : Int64).toInt ∧ (0 : Int64).toInt ≤ (0 : Int) by decide) (by decide) (by decide))⟩
    · have f3 := q_ltV q_evr q_evr (q_n_ge g1)
      refine q_ok_at hG hl0 rfl (fun a4 ma4 ra4 ea4 => ?_)
      have t5 := g_13_R1 hG ma4 ra4
      refine q_ok_at hG t5 rfl (fun a6 ma6 ra6 ea6 => ?_)
      obtain ⟨v10, ev10⟩ := q_ev ((((4 : Int64) + ((8 : Int64) * (l3.toInt64))) + (4 : Int64)).toInt)
      obtain ⟨v11, ev11⟩ := q_ev (((4 : Int64) + ((8 : Int64) * (l3.toInt64))).toInt)
      obtain ⟨v12, ev12⟩ := q_ev (((8 : Int64) * (l3.toInt64)).toInt)
      obtain ⟨v13, ev13⟩ := q_ev ((l3.toInt64).toInt)
      have f14 : v13 = l3.toInt := q_i2lV ev13 q_evr
      have f15 : v12 = (8) * v13 := q_mulVJ ev12 (show q_eqv ((8 : Int64)).toInt (8) by unfold q_eqv; decide) ev13 (by omega) (by omega)
      have f16 : v11 = (4) + v12 := q_addVJ ev11 (show q_eqv ((4 : Int64)).toInt (4) by unfold q_eqv; decide) ev12 (by omega) (by omega)
      have f17 : v10 = v11 + (4) := q_addVJ ev10 ev11 (show q_eqv ((4 : Int64)).toInt (4) by unfold q_eqv; decide) (by omega) (by omega)
      refine q_ok_b (s_X7_four_8 hn hG.1 ma6 ra6 (q_oV ev10 (by omega) (by omega))) (fun r7 S8 h9 => ?_)
      obtain ⟨eS8, h9⟩ := h9
      replace eS8 := eS8.symm
      subst eS8
      have f18 := h9
      refine q_ok_atA hG ea4 ma4 ra4 rfl ?_
      have hG := u_13_J2 (x := r7) hG ma4 ra4 (by decide) (q_wd f18 (by decide) (by decide))
      have f19 : q_sm _ := g_13_J2 hG ma4 ra4
      have e20 : q_J (q_sJ (S) a4 2 (r7)) a4 2 = r7 := q_hitJ
      obtain ⟨v21, ev21⟩ := q_ev ((q_J (q_sJ (S) a4 2 (r7)) a4 2).toInt)
      have f22 : v21 = r7.toInt := q_eqVJ e20 ev21 q_evr
      refine q_ok_ite (fun g23 => ?_) (fun g23 => ?_)
      · have f24 := q_eqV ev21 (show q_eqv ((-1 : Int64)).toInt (-1) by unfold q_eqv; decide) (q_cp_eq g23)
        unfold m_X0_find_77
        refine q_ok_ite (fun g25 => ?_) (fun g25 => ?_)
        · have f26 := q_eqV (show q_eqv ((-1 : Int32)).toInt (-1) by unfold q_eqv; decide) (show q_eqv ((-1 : Int32)).toInt (-1) by unfold q_eqv; decide) (q_p_eq g25)
          exact q_ok_some ⟨hG, (q_wd (show (0 : Int) ≤ (0 : Int64).toInt ∧ (0 : Int64).toInt ≤ (0 : Int) by decide) (by decide) (by decide))⟩
        · have f27 := q_neV (show q_eqv ((-1 : Int32)).toInt (-1) by unfold q_eqv; decide) (show q_eqv ((-1 : Int32)).toInt (-1) by unfold q_eqv; decide) (q_n_eq g25)
          exfalso; omega
      · have f28 := q_neV ev21 (show q_eqv ((-1 : Int64)).toInt (-1) by unfold q_eqv; decide) (q_cn_eq g23)
        refine q_ok_b (s_X0_two_13 hn hG.1 ma4 ra4 (q_wd (show (0 : Int) ≤ (0 : Int64).toInt ∧ (0 : Int64).toInt ≤ (0 : Int) by decide) (by decide) (by decide))) (fun r29 S30 h31 => ?_)
        obtain ⟨eS30, h31⟩ := h31
        replace eS30 := eS30.symm
        subst eS30
        have f32 := h31
        unfold m_X0_find_77
        refine q_ok_ite (fun g33 => ?_) (fun g33 => ?_)
        · have f34 := q_eqV q_evr (show q_eqv ((-1 : Int32)).toInt (-1) by unfold q_eqv; decide) (q_p_eq g33)
          exact q_ok_some ⟨hG, (q_wd (show (0 : Int) ≤ (0 : Int64).toInt ∧ (0 : Int64).toInt ≤ (0 : Int) by decide) (by decide) (by decide))⟩
        · have f35 := q_neV q_evr (show q_eqv ((-1 : Int32)).toInt (-1) by unfold q_eqv; decide) (q_n_eq g33)
          refine q_ok_ite (fun g36 => ?_) (fun g36 => ?_)
          · have f37 := q_eqV q_evr (show q_eqv ((0 : Int32)).toInt (0) by unfold q_eqv; decide) (q_p_eq g36)
            exact s_X0_find_13_112 hn _ _ _ _ hG hl0 (q_wd hl1 (by decide) (by decide)) (q_oV q_evr (by omega) (by omega)) 
          · have f38 := q_neV q_evr (show q_eqv ((0 : Int32)).toInt (0) by unfold q_eqv; decide) (q_n_eq g36)
            refine q_ok_ite (fun g39 => ?_) (fun g39 => ?_)
            · have f40 := q_eqV q_evr (show q_eqv ((4 : Int32)).toInt (4) by unfold q_eqv; decide) (q_p_eq g39)
              exact s_X0_find_13_112 hn _ _ _ _ hG hl0 (q_wd hl1 (by decide) (by decide)) (q_oV q_evr (by omega) (by omega)) 
            · have f41 := q_neV q_evr (show q_eqv ((4 : Int32)).toInt (4) by unfold q_eqv; decide) (q_n_eq g39)
              refine q_ok_ite (fun g42 => ?_) (fun g42 => ?_)
              · have f43 := q_eqV q_evr (show q_eqv ((6 : Int32)).toInt (6) by unfold q_eqv; decide) (q_p_eq g42)
                exact s_X0_find_13_112 hn _ _ _ _ hG hl0 (q_wd hl1 (by decide) (by decide)) (q_oV q_evr (by omega) (by omega)) 
              · have f44 := q_neV q_evr (show q_eqv ((6 : Int32)).toInt (6) by unfold q_eqv; decide) (q_n_eq g42)
                refine q_ok_ite (fun g45 => ?_) (fun g45 => ?_)
                · have f46 := q_eqV q_evr (show q_eqv ((12 : Int32)).toInt (12) by unfold q_eqv; decide) (q_p_eq g45)
                  exact s_X0_find_13_112 hn _ _ _ _ hG hl0 (q_wd hl1 (by decide) (by decide)) (q_oV q_evr (by omega) (by omega)) 
                · have f47 := q_neV q_evr (show q_eqv ((12 : Int32)).toInt (12) by unfold q_eqv; decide) (q_n_eq g45)
                  obtain ⟨v48, ev48⟩ := q_ev ((l3 + (1)).toInt)
                  have f49 : v48 = l3.toInt + (1) := q_addVI ev48 q_evr (show q_eqv ((1 : Int32)).toInt (1) by unfold q_eqv; decide) (by omega) (by omega)
                  exact ih _ _ _ _ _ hG hl0 (q_wd hl1 (by decide) (by decide)) (q_wd hl2 (by decide) (by decide)) (q_oV ev48 (by omega) (by omega))  (q_upV ev48 (by omega))
set_option maxHeartbeats 4000000 in
set_option maxRecDepth 100000 in
theorem s_X0_find_13 {ρ : Nat → Nat} {L : List Nat} {n : Nat} (hn : 18446744073709551616 ≤ n) {S : q_S} (hI : q_Inv ρ L S) {o : Nat} (mo : o ∈ L) (ro : ρ o = 13) {p0 : Int32} (hp0 : (0 ≤ p0.toInt ∧ p0.toInt ≤ 2147483647)) : q_ok (m_X0_find n S o p0) (fun r T => q_G ρ L M_X0_find_13 S T ∧ (-2147483648 ≤ r.toInt ∧ r.toInt ≤ 17179869184)) := by
  have hG : q_G ρ L M_X0_find_13 S S := q_G_refl hI
  unfold m_X0_find
  have z0 : (0 : Int32).toInt = 0 := rfl
  refine q_ok_atS hG (q_trI mo ro) rfl (fun mo ro => ?_)
  have t1 := g_13_R0 hG mo ro
  refine q_ok_at hG t1 rfl (fun a2 ma2 ra2 ea2 => ?_)
  refine q_ok_b (s_X8_first_6 hn hG.1 ma2 ra2 (q_wd (show (1668112752 : Int) ≤ (1668112752 : Int64).toInt ∧ (1668112752 : Int64).toInt ≤ (1668112752 : Int) by decide) (by decide) (by decide))) (fun r3 S4 h5 => ?_)
  obtain ⟨eS4, h5⟩ := h5
  replace eS4 := eS4.symm
  subst eS4
  refine q_ok_atS hG (q_trI mo ro) rfl (fun mo ro => ?_)
  have hG := u_13_R1 hG mo ro (by decide) (q_trI h5.1 h5.2)
  have t6 := g_13_R1 hG mo ro
  have e7 : q_R (q_sR (S) o 1 (some r3)) o 1 = some r3 := q_hitR
  refine q_ok_at hG t6 rfl (fun a8 ma8 ra8 ea8 => ?_)
  refine q_ok_b (s_X7_two_8 hn hG.1 ma8 ra8 (q_wd (show (2 : Int) ≤ (2 : Int64).toInt ∧ (2 : Int64).toInt ≤ (2 : Int) by decide) (by decide) (by decide))) (fun r9 S10 h11 => ?_)
  obtain ⟨eS10, h11⟩ := h11
  replace eS10 := eS10.symm
  subst eS10
  have f12 := h11
  exact s_X0_find_13_27 hn n _ _ _ _ _ hG (q_trI mo ro) (q_wd hp0 (by decide) (by decide)) (q_wd f12 (by decide) (by decide)) (q_wd (show (0 : Int) ≤ (0 : Int32).toInt ∧ (0 : Int32).toInt ≤ (0 : Int) by decide) (by decide) (by decide))  (q_upV (show q_eqv ((0 : Int32)).toInt (0) by unfold q_eqv; decide) (by omega))
set_option maxHeartbeats 4000000 in
set_option maxRecDepth 100000 in
theorem s_X6_size_9 {ρ : Nat → Nat} {L : List Nat} {n : Nat} (hn : 18446744073709551616 ≤ n) {S : q_S} (hI : q_Inv ρ L S) {o : Nat} (mo : o ∈ L) (ro : ρ o = 9) : q_ok (m_X6_size n S o) (fun r T => T = S ∧ (0 ≤ r.toInt ∧ r.toInt ≤ 200)) := by
  have hG : q_G ρ L [] S S := q_G_refl hI
  unfold m_X6_size
  have z0 : (0 : Int32).toInt = 0 := rfl
  refine q_ok_atS hG (q_trI mo ro) rfl (fun mo ro => ?_)
  have f1 : q_sm _ := g_9_I5 hG mo ro
  exact q_ok_some ⟨rfl, (q_wd f1 (by decide) (by decide))⟩
set_option maxHeartbeats 4000000 in
set_option maxRecDepth 100000 in
theorem s_X6_has_9 {ρ : Nat → Nat} {L : List Nat} {n : Nat} (hn : 18446744073709551616 ≤ n) {S : q_S} (hI : q_Inv ρ L S) {o : Nat} (mo : o ∈ L) (ro : ρ o = 9) {p0 : Int32} : q_ok (m_X6_has n S o p0) (fun r T => T = S ∧ (0 ≤ r.toInt ∧ r.toInt ≤ 1) ∧ q_sm ((r.toInt = 1 → (0 : Int32).toInt ≤ p0.toInt ∧ p0.toInt < (q_I (S) o 5).toInt))) := by
  have hG : q_G ρ L [] S S := q_G_refl hI
  unfold m_X6_has
  have z0 : (0 : Int32).toInt = 0 := rfl
  have f1 := q_rVI (x := p0) q_evr
  refine q_ok_ite (fun g2 => ?_) (fun g2 => ?_)
  · have f3 := q_ltV q_evr (show q_eqv ((0 : Int32)).toInt (0) by unfold q_eqv; decide) (q_p_lt g2)
    unfold m_X6_has_16
    unfold m_X6_has_17
    refine q_ok_if (q_b01V (show q_eqv ((0 : Int32)).toInt (0) by unfold q_eqv; decide) (by omega) (by omega)) ?_
    obtain ⟨v4, ev4⟩ := q_ev ((q_I (S) o 5).toInt)
    have f5 := q_rVI (x := q_I (S) o 5) ev4
    exact q_ok_some ⟨rfl, (q_wd (show (0 : Int) ≤ (0 : Int32).toInt ∧ (0 : Int32).toInt ≤ (0 : Int) by decide) (by decide) (by decide)), fun h9 => absurd h9 (by decide)⟩
  · have f6 := q_leV (show q_eqv ((0 : Int32)).toInt (0) by unfold q_eqv; decide) q_evr (q_n_lt g2)
    refine q_ok_atS hG (q_trI mo ro) rfl (fun mo ro => ?_)
    have f7 : q_sm _ := g_9_I5 hG mo ro
    obtain ⟨v8, ev8⟩ := q_ev ((q_I (S) o 5).toInt)
    have f9 := q_bV ev8 f7
    refine q_ok_ite (fun g10 => ?_) (fun g10 => ?_)
    · have f11 := q_leV ev8 q_evr (q_p_ge g10)
      unfold m_X6_has_16
      unfold m_X6_has_17
      refine q_ok_if (q_b01V (show q_eqv ((0 : Int32)).toInt (0) by unfold q_eqv; decide) (by omega) (by omega)) ?_
      exact q_ok_some ⟨rfl, (q_wd (show (0 : Int) ≤ (0 : Int32).toInt ∧ (0 : Int32).toInt ≤ (0 : Int) by decide) (by decide) (by decide)), fun h9 => absurd h9 (by decide)⟩
    · have f12 := q_ltV q_evr ev8 (q_n_ge g10)
      unfold m_X6_has_17
      refine q_ok_if (q_b01V (show q_eqv ((1 : Int32)).toInt (1) by unfold q_eqv; decide) (by omega) (by omega)) ?_
      exact q_ok_some ⟨rfl, (q_wd (show (1 : Int) ≤ (1 : Int32).toInt ∧ (1 : Int32).toInt ≤ (1 : Int) by decide) (by decide) (by decide)), fun _ => ⟨(q_geW q_evr (show q_eqv ((0 : Int32)).toInt (0) by unfold q_eqv; decide) (by omega)), (q_ltW q_evr ev8 (by omega))⟩⟩
set_option maxHeartbeats 4000000 in
set_option maxRecDepth 100000 in
theorem s_X6_placeAt_9 {ρ : Nat → Nat} {L : List Nat} {n : Nat} (hn : 18446744073709551616 ≤ n) {S : q_S} (hI : q_Inv ρ L S) {o : Nat} (mo : o ∈ L) (ro : ρ o = 9) {p0 : Int32} (hp0 : (0 ≤ p0.toInt ∧ p0.toInt ≤ 200)) : q_ok (m_X6_placeAt n S o p0) (fun r T => T = S ∧ (-1 ≤ r.toInt ∧ r.toInt ≤ 4294967295)) := by
  have hG : q_G ρ L [] S S := q_G_refl hI
  unfold m_X6_placeAt
  have z0 : (0 : Int32).toInt = 0 := rfl
  refine q_ok_atS hG (q_trI mo ro) rfl (fun mo ro => ?_)
  have f1 : q_sm _ := g_9_I7 hG mo ro
  obtain ⟨v2, ev2⟩ := q_ev ((q_I (S) o 7).toInt)
  have f3 := q_bV ev2 f1
  refine q_ok_ite (fun g4 => ?_) (fun g4 => ?_)
  · have f5 := q_eqV ev2 (show q_eqv ((0 : Int32)).toInt (0) by unfold q_eqv; decide) (q_p_eq g4)
    have t6 := g_9_R8 hG mo ro
    refine q_ok_at hG t6 rfl (fun a7 ma7 ra7 ea7 => ?_)
    obtain ⟨v11, ev11⟩ := q_ev (((2 : Int64) * (p0.toInt64)).toInt)
    obtain ⟨v12, ev12⟩ := q_ev ((p0.toInt64).toInt)
    have f13 : v12 = p0.toInt := q_i2lV ev12 q_evr
    have f14 : v11 = (2) * v12 := q_mulVJ ev11 (show q_eqv ((2 : Int64)).toInt (2) by unfold q_eqv; decide) ev12 (by omega) (by omega)
    have f15 := q_rVJ (X := (2 : Int64) * (p0.toInt64)) ev11
    refine q_ok_b (s_X7_two_8 hn hG.1 ma7 ra7 (q_oV ev11 (by omega) (by omega))) (fun r8 S9 h10 => ?_)
    obtain ⟨eS9, h10⟩ := h10
    replace eS9 := eS9.symm
    subst eS9
    have f16 := h10
    refine q_ok_ite (fun g17 => ?_) (fun g17 => ?_)
    · have f18 := q_eqV q_evr (show q_eqv ((-1 : Int32)).toInt (-1) by unfold q_eqv; decide) (q_p_eq g17)
      unfold m_X6_placeAt_52
      exact q_ok_some ⟨rfl, (q_wd (show (-1 : Int) ≤ (-1 : Int64).toInt ∧ (-1 : Int64).toInt ≤ (-1 : Int) by decide) (by decide) (by decide))⟩
    · have f19 := q_neV q_evr (show q_eqv ((-1 : Int32)).toInt (-1) by unfold q_eqv; decide) (q_n_eq g17)
      unfold m_X6_placeAt_52
      obtain ⟨v20, ev20⟩ := q_ev (((2 : Int64) * (r8.toInt64)).toInt)
      obtain ⟨v21, ev21⟩ := q_ev ((r8.toInt64).toInt)
      have f22 : v21 = r8.toInt := q_i2lV ev21 q_evr
      have f23 : v20 = (2) * v21 := q_mulVJ ev20 (show q_eqv ((2 : Int64)).toInt (2) by unfold q_eqv; decide) ev21 (by omega) (by omega)
      exact q_ok_some ⟨rfl, (q_oV ev20 (by omega) (by omega))⟩
  · have f24 := q_neV ev2 (show q_eqv ((0 : Int32)).toInt (0) by unfold q_eqv; decide) (q_n_eq g4)
    have t25 := g_9_R8 hG mo ro
    refine q_ok_at hG t25 rfl (fun a26 ma26 ra26 ea26 => ?_)
    obtain ⟨v30, ev30⟩ := q_ev (((4 : Int64) * (p0.toInt64)).toInt)
    obtain ⟨v31, ev31⟩ := q_ev ((p0.toInt64).toInt)
    have f32 : v31 = p0.toInt := q_i2lV ev31 q_evr
    have f33 : v30 = (4) * v31 := q_mulVJ ev30 (show q_eqv ((4 : Int64)).toInt (4) by unfold q_eqv; decide) ev31 (by omega) (by omega)
    refine q_ok_b (s_X7_four_8 hn hG.1 ma26 ra26 (q_oV ev30 (by omega) (by omega))) (fun r27 S28 h29 => ?_)
    obtain ⟨eS28, h29⟩ := h29
    replace eS28 := eS28.symm
    subst eS28
    have f34 := h29
    exact q_ok_some ⟨rfl, (q_wd f34 (by decide) (by decide))⟩
set_option maxHeartbeats 4000000 in
set_option maxRecDepth 100000 in
theorem s_X6_sizeToWrite_9 {ρ : Nat → Nat} {L : List Nat} {n : Nat} (hn : 18446744073709551616 ≤ n) {S : q_S} (hI : q_Inv ρ L S) {o : Nat} (mo : o ∈ L) (ro : ρ o = 9) {p0 : Int32} (hp0 : (0 ≤ p0.toInt ∧ p0.toInt ≤ 199)) : q_ok (m_X6_sizeToWrite n S o p0) (fun r T => T = S) := by
  have hG : q_G ρ L [] S S := q_G_refl hI
  unfold m_X6_sizeToWrite
  have z0 : (0 : Int32).toInt = 0 := rfl
  refine q_ok_atS hG (q_trI mo ro) rfl (fun mo ro => ?_)
  refine q_ok_b (s_X6_has_9 hn hG.1 mo ro) (fun r1 S2 h3 => ?_)
  obtain ⟨eS2, h3⟩ := h3
  replace eS2 := eS2.symm
  subst eS2
  have f4 := h3
  obtain ⟨v5, ev5⟩ := q_ev ((q_I (S) o 5).toInt)
  have f6 := q_bV ev5 (g_9_I5 hG mo ro)
  have f7 : r1.toInt = 1 → (0) ≤ p0.toInt := fun h9 => q_leV (show q_eqv ((0 : Int32)).toInt (0) by unfold q_eqv; decide) q_evr (f4.2 h9).1
  have f8 : r1.toInt = 1 → p0.toInt < v5 := fun h9 => q_ltV q_evr ev5 (f4.2 h9).2
  refine q_ok_ite (fun g9 => ?_) (fun g9 => ?_)
  · have f10 := q_eqV q_evr (show q_eqv ((0 : Int32)).toInt (0) by unfold q_eqv; decide) (q_p_eq g9)
    unfold m_X6_sizeToWrite_17
    exact q_ok_some rfl
  · have f11 := q_neV q_evr (show q_eqv ((0 : Int32)).toInt (0) by unfold q_eqv; decide) (q_n_eq g9)
    refine q_ok_atS hG (q_trI mo ro) rfl (fun mo ro => ?_)
    have t12 := g_9_R2 hG mo ro
    refine q_ok_at hG t12 rfl (fun a13 ma13 ra13 ea13 => ?_)
    refine q_ok_if (q_inV (g_10_N hG ma13 ra13) q_evr (by omega) (by omega)) ?_
    have f14 : q_sm _ := g_10_E hG ma13 ra13 (k := (p0).toNatClampNeg)
    obtain ⟨v15, ev15⟩ := q_ev ((q_I (S) a13 (p0).toNatClampNeg).toInt)
    have f16 := q_bV ev15 f14
    refine q_ok_ite (fun g17 => ?_) (fun g17 => ?_)
    · have f18 := q_eqV ev15 (show q_eqv ((0 : Int32)).toInt (0) by unfold q_eqv; decide) (q_p_eq g17)
      unfold m_X6_sizeToWrite_17
      exact q_ok_some rfl
    · have f19 := q_neV ev15 (show q_eqv ((0 : Int32)).toInt (0) by unfold q_eqv; decide) (q_n_eq g17)
      refine q_ok_b (s_X6_placeAt_9 hn hG.1 mo ro (q_wd hp0 (by decide) (by decide))) (fun r20 S21 h22 => ?_)
      obtain ⟨eS21, h22⟩ := h22
      replace eS21 := eS21.symm
      subst eS21
      have f23 := h22
      refine q_ok_atS hG (q_trI mo ro) rfl (fun mo ro => ?_)
      refine q_ok_b (s_X6_placeAt_9 hn hG.1 mo ro (q_wd (q_addBI (1) (200) hp0 (show (1 : Int) ≤ (1 : Int32).toInt ∧ (1 : Int32).toInt ≤ (1 : Int) by decide) (by decide) (by decide) (by decide) (by decide)) (by decide) (by decide))) (fun r24 S25 h26 => ?_)
      obtain ⟨eS25, h26⟩ := h26
      replace eS25 := eS25.symm
      subst eS25
      have f27 := h26
      refine q_ok_ite (fun g28 => ?_) (fun g28 => ?_)
      · have f29 := q_eqV q_evr (show q_eqv ((-1 : Int64)).toInt (-1) by unfold q_eqv; decide) (q_cp_eq g28)
        unfold m_X6_sizeToWrite_72
        unfold m_X6_sizeToWrite_77
        refine q_ok_ite (fun g30 => ?_) (fun g30 => ?_)
        · have f31 := q_eqV (show q_eqv ((1 : Int32)).toInt (1) by unfold q_eqv; decide) (show q_eqv ((0 : Int32)).toInt (0) by unfold q_eqv; decide) (q_p_eq g30)
          exfalso; omega
        · have f32 := q_neV (show q_eqv ((1 : Int32)).toInt (1) by unfold q_eqv; decide) (show q_eqv ((0 : Int32)).toInt (0) by unfold q_eqv; decide) (q_n_eq g30)
          unfold m_X6_sizeToWrite_93
          exact q_ok_some rfl
      · have f33 := q_neV q_evr (show q_eqv ((-1 : Int64)).toInt (-1) by unfold q_eqv; decide) (q_cn_eq g28)
        refine q_ok_ite (fun g34 => ?_) (fun g34 => ?_)
        · have f35 := q_eqV q_evr (show q_eqv ((-1 : Int64)).toInt (-1) by unfold q_eqv; decide) (q_cp_eq g34)
          unfold m_X6_sizeToWrite_72
          unfold m_X6_sizeToWrite_77
          refine q_ok_ite (fun g36 => ?_) (fun g36 => ?_)
          · have f37 := q_eqV (show q_eqv ((1 : Int32)).toInt (1) by unfold q_eqv; decide) (show q_eqv ((0 : Int32)).toInt (0) by unfold q_eqv; decide) (q_p_eq g36)
            exfalso; omega
          · have f38 := q_neV (show q_eqv ((1 : Int32)).toInt (1) by unfold q_eqv; decide) (show q_eqv ((0 : Int32)).toInt (0) by unfold q_eqv; decide) (q_n_eq g36)
            unfold m_X6_sizeToWrite_93
            exact q_ok_some rfl
        · have f39 := q_neV q_evr (show q_eqv ((-1 : Int64)).toInt (-1) by unfold q_eqv; decide) (q_cn_eq g34)
          refine q_ok_ite (fun g40 => ?_) (fun g40 => ?_)
          · have f41 := q_ltV q_evr q_evr (q_cp_gt g40)
            unfold m_X6_sizeToWrite_72
            unfold m_X6_sizeToWrite_77
            refine q_ok_ite (fun g42 => ?_) (fun g42 => ?_)
            · have f43 := q_eqV (show q_eqv ((1 : Int32)).toInt (1) by unfold q_eqv; decide) (show q_eqv ((0 : Int32)).toInt (0) by unfold q_eqv; decide) (q_p_eq g42)
              exfalso; omega
            · have f44 := q_neV (show q_eqv ((1 : Int32)).toInt (1) by unfold q_eqv; decide) (show q_eqv ((0 : Int32)).toInt (0) by unfold q_eqv; decide) (q_n_eq g42)
              unfold m_X6_sizeToWrite_93
              exact q_ok_some rfl
          · have f45 := q_leV q_evr q_evr (q_cn_gt g40)
            refine q_ok_atS hG (q_trI mo ro) rfl (fun mo ro => ?_)
            have t46 := g_9_R9 hG mo ro
            refine q_ok_at hG t46 rfl (fun a47 ma47 ra47 ea47 => ?_)
            have f48 : q_sm _ := g_8_I4 hG ma47 ra47
            obtain ⟨v49, ev49⟩ := q_ev (((q_I (S) a47 4).toInt64).toInt)
            obtain ⟨v50, ev50⟩ := q_ev ((q_I (S) a47 4).toInt)
            have f51 := q_bV ev50 f48
            have f52 : v49 = v50 := q_i2lV ev49 ev50
            refine q_ok_ite (fun g53 => ?_) (fun g53 => ?_)
            · have f54 := q_leV q_evr ev49 (q_cp_le g53)
              unfold m_X6_sizeToWrite_77
              refine q_ok_ite (fun g55 => ?_) (fun g55 => ?_)
              · have f56 := q_eqV (show q_eqv ((0 : Int32)).toInt (0) by unfold q_eqv; decide) (show q_eqv ((0 : Int32)).toInt (0) by unfold q_eqv; decide) (q_p_eq g55)
                unfold m_X6_sizeToWrite_93
                exact q_ok_some rfl
              · have f57 := q_neV (show q_eqv ((0 : Int32)).toInt (0) by unfold q_eqv; decide) (show q_eqv ((0 : Int32)).toInt (0) by unfold q_eqv; decide) (q_n_eq g55)
                exfalso; omega
            · have f58 := q_ltV ev49 q_evr (q_cn_le g53)
              unfold m_X6_sizeToWrite_72
              unfold m_X6_sizeToWrite_77
              refine q_ok_ite (fun g59 => ?_) (fun g59 => ?_)
              · have f60 := q_eqV (show q_eqv ((1 : Int32)).toInt (1) by unfold q_eqv; decide) (show q_eqv ((0 : Int32)).toInt (0) by unfold q_eqv; decide) (q_p_eq g59)
                exfalso; omega
              · have f61 := q_neV (show q_eqv ((1 : Int32)).toInt (1) by unfold q_eqv; decide) (show q_eqv ((0 : Int32)).toInt (0) by unfold q_eqv; decide) (q_n_eq g59)
                unfold m_X6_sizeToWrite_93
                exact q_ok_some rfl
def M_X10_findPlaces_38 : List Nat := [2688, 2752]
set_option maxHeartbeats 4000000 in
set_option maxRecDepth 100000 in
theorem s_X10_findPlaces_38_2 {ρ : Nat → Nat} {L : List Nat} {n : Nat} (hn : 18446744073709551616 ≤ n) {S0 : q_S}  : ∀ (k : Nat) (S : q_S) (l0 : Option Nat) (l1 : Int32), q_G ρ L M_X10_findPlaces_38 S0 S → q_tr ρ L l0 38 → (0 ≤ l1.toInt ∧ l1.toInt ≤ 200) → 2147483648 - l1.toInt ≤ (k : Int) → q_ok (m_X10_findPlaces_2 n k S l0 l1) (fun _ T => q_G ρ L M_X10_findPlaces_38 S0 T) := by
  intro k
  induction k with
  | zero =>
    intro S l0 l1 hG hl0 hl1 hm
    have f0 := q_rngI l1
    exfalso; omega
  | succ k ih =>
    intro S l0 l1 hG hl0 hl1 hm
    rw [m_X10_findPlaces_2]
    have z0 : (0 : Int32).toInt = 0 := rfl
    refine q_ok_at hG hl0 rfl (fun a1 ma1 ra1 ea1 => ?_)
    have t2 := g_38_R2 hG ma1 ra1
    refine q_ok_at hG t2 rfl (fun a3 ma3 ra3 ea3 => ?_)
    refine q_ok_b (s_X6_size_9 hn hG.1 ma3 ra3) (fun r4 S5 h6 => ?_)
    obtain ⟨eS5, h6⟩ := h6
    replace eS5 := eS5.symm
    subst eS5
    have f7 := h6
    refine q_ok_ite (fun g8 => ?_) (fun g8 => ?_)
    · have f9 := q_leV q_evr q_evr (q_p_ge g8)
      exact q_ok_some hG
    · have f10 := q_ltV q_evr q_evr (q_n_ge g8)
      refine q_ok_atA hG ea1 ma1 ra1 rfl ?_
      have t11 := g_38_R6 hG ma1 ra1
      have t12 := g_38_R2 hG ma1 ra1
      refine q_ok_atA hG ea3 ma3 ra3 rfl ?_
      refine q_ok_b (s_X6_sizeToWrite_9 hn hG.1 ma3 ra3 (q_oV q_evr (by omega) (by omega))) (fun r13 S14 h15 => ?_)
      have eS14 := h15
      replace eS14 := eS14.symm
      subst eS14
      refine q_ok_at hG t11 rfl (fun a16 ma16 ra16 ea16 => ?_)
      refine q_ok_if (q_inV (g_42_N hG ma16 ra16) q_evr (by omega) (by omega)) ?_
      have hG := u_42_E (k := (l1).toNatClampNeg) (x := r13) hG ma16 ra16 (by decide)
      refine q_ok_atA hG ea1 ma1 ra1 rfl ?_
      have t17 := g_38_R7 hG ma1 ra1
      have t18 := g_38_R7 hG ma1 ra1
      refine q_ok_at hG t17 rfl (fun a19 ma19 ra19 ea19 => ?_)
      refine q_ok_if (q_inV (g_43_N hG ma19 ra19) q_evr (by omega) (by omega)) ?_
      have t20 := g_38_R6 hG ma1 ra1
      have e21 : q_R (q_sI (S) a16 (l1).toNatClampNeg (r13)) a1 6 = q_R (S) a1 6 := q_skRI
      refine q_ok_atA hG (Eq.trans e21 ea16) ma16 ra16 rfl ?_
      refine q_ok_if (q_inV (g_42_N hG ma16 ra16) q_evr (by omega) (by omega)) ?_
      have t22 := g_38_R6 hG ma1 ra1
      refine q_ok_if (q_inV (g_42_N hG ma16 ra16) q_evr (by omega) (by omega)) ?_
      refine q_ok_if (q_ne0VI (show q_eqv ((2 : Int32)).toInt (2) by unfold q_eqv; decide) (by omega)) ?_
      obtain ⟨v23, ev23⟩ := q_ev ((l1 + (1 : Int32)).toInt)
      have f24 : v23 = l1.toInt + (1) := q_addVI ev23 q_evr (show q_eqv ((1 : Int32)).toInt (1) by unfold q_eqv; decide) (by omega) (by omega)
      refine q_ok_if (q_inV (g_43_N hG ma19 ra19) ev23 (by omega) (by omega)) ?_
      have hG := u_43_E (k := (l1 + (1 : Int32)).toNatClampNeg) (x := ((q_I (q_sI (S) a16 (l1).toNatClampNeg (r13)) a19 (l1).toNatClampNeg) + (q_I (q_sI (S) a16 (l1).toNatClampNeg (r13)) a16 (l1).toNatClampNeg)) + ((q_I (q_sI (S) a16 (l1).toNatClampNeg (r13)) a16 (l1).toNatClampNeg) - (q_I (q_sI (S) a16 (l1).toNatClampNeg (r13)) a16 (l1).toNatClampNeg) / (2 : Int32) * (2 : Int32))) hG ma19 ra19 (by decide)
      refine q_ok_let (fun S25 eS25 => ?_)
      rw [← eS25] at hG
      obtain ⟨v26, ev26⟩ := q_ev ((l1 + (1)).toInt)
      have f27 : v26 = l1.toInt + (1) := q_addVI ev26 q_evr (show q_eqv ((1 : Int32)).toInt (1) by unfold q_eqv; decide) (by omega) (by omega)
      exact ih _ _ _ hG hl0 (q_oV ev26 (by omega) (by omega))  (q_upV ev26 (by omega))
set_option maxHeartbeats 4000000 in
set_option maxRecDepth 100000 in
theorem s_X10_findPlaces_38 {ρ : Nat → Nat} {L : List Nat} {n : Nat} (hn : 18446744073709551616 ≤ n) {S : q_S} (hI : q_Inv ρ L S) {o : Nat} (mo : o ∈ L) (ro : ρ o = 38) : q_ok (m_X10_findPlaces n S o) (fun _ T => q_G ρ L M_X10_findPlaces_38 S T) := by
  have hG : q_G ρ L M_X10_findPlaces_38 S S := q_G_refl hI
  unfold m_X10_findPlaces
  have z0 : (0 : Int32).toInt = 0 := rfl
  exact s_X10_findPlaces_38_2 hn n _ _ _ hG (q_trI mo ro) (q_wd (show (0 : Int) ≤ (0 : Int32).toInt ∧ (0 : Int32).toInt ≤ (0 : Int) by decide) (by decide) (by decide))  (q_upV (show q_eqv ((0 : Int32)).toInt (0) by unfold q_eqv; decide) (by omega))
set_option maxHeartbeats 4000000 in
set_option maxRecDepth 100000 in
theorem s_X6_areCutShort_9 {ρ : Nat → Nat} {L : List Nat} {n : Nat} (hn : 18446744073709551616 ≤ n) {S : q_S} (hI : q_Inv ρ L S) {o : Nat} (mo : o ∈ L) (ro : ρ o = 9) : q_ok (m_X6_areCutShort n S o) (fun r T => T = S ∧ (0 ≤ r.toInt ∧ r.toInt ≤ 1)) := by
  have hG : q_G ρ L [] S S := q_G_refl hI
  unfold m_X6_areCutShort
  have z0 : (0 : Int32).toInt = 0 := rfl
  refine q_ok_atS hG (q_trI mo ro) rfl (fun mo ro => ?_)
  have f1 : q_sm _ := g_9_I6 hG mo ro
  obtain ⟨v2, ev2⟩ := q_ev ((q_I (S) o 6).toInt)
  have f3 := q_bV ev2 f1
  refine q_ok_if (q_b01V ev2 (by omega) (by omega)) ?_
  exact q_ok_some ⟨rfl, (q_wd f1 (by decide) (by decide))⟩
set_option maxHeartbeats 4000000 in
set_option maxRecDepth 100000 in
theorem s_X8_isThere_6 {ρ : Nat → Nat} {L : List Nat} {n : Nat} (hn : 18446744073709551616 ≤ n) {S : q_S} (hI : q_Inv ρ L S) {o : Nat} (mo : o ∈ L) (ro : ρ o = 6) {p0 : Int64} (hp0 : (65535 ≤ p0.toInt ∧ p0.toInt ≤ 1835104368)) : q_ok (m_X8_isThere n S o p0) (fun r T => T = S ∧ (0 ≤ r.toInt ∧ r.toInt ≤ 1)) := by
  have hG : q_G ρ L [] S S := q_G_refl hI
  unfold m_X8_isThere
  have z0 : (0 : Int32).toInt = 0 := rfl
  refine q_ok_atS hG (q_trI mo ro) rfl (fun mo ro => ?_)
  refine q_ok_b (s_X8_indexOf_6 hn hG.1 mo ro (q_wd hp0 (by decide) (by decide))) (fun r1 S2 h3 => ?_)
  obtain ⟨eS2, h3⟩ := h3
  replace eS2 := eS2.symm
  subst eS2
  have f4 := h3
  refine q_ok_ite (fun g5 => ?_) (fun g5 => ?_)
  · have f6 := q_ltV q_evr (show q_eqv ((0 : Int32)).toInt (0) by unfold q_eqv; decide) (q_p_lt g5)
    unfold m_X8_isThere_13
    refine q_ok_if (q_b01V (show q_eqv ((0 : Int32)).toInt (0) by unfold q_eqv; decide) (by omega) (by omega)) ?_
    exact q_ok_some ⟨rfl, (q_wd (show (0 : Int) ≤ (0 : Int32).toInt ∧ (0 : Int32).toInt ≤ (0 : Int) by decide) (by decide) (by decide))⟩
  · have f7 := q_leV (show q_eqv ((0 : Int32)).toInt (0) by unfold q_eqv; decide) q_evr (q_n_lt g5)
    unfold m_X8_isThere_13
    refine q_ok_if (q_b01V (show q_eqv ((1 : Int32)).toInt (1) by unfold q_eqv; decide) (by omega) (by omega)) ?_
    exact q_ok_some ⟨rfl, (q_wd (show (1 : Int) ≤ (1 : Int32).toInt ∧ (1 : Int32).toInt ≤ (1 : Int) by decide) (by decide) (by decide))⟩
set_option maxHeartbeats 4000000 in
set_option maxRecDepth 100000 in
theorem s_X10_isPossible_38 {ρ : Nat → Nat} {L : List Nat} {n : Nat} (hn : 18446744073709551616 ≤ n) {S : q_S} (hI : q_Inv ρ L S) {o : Nat} (mo : o ∈ L) (ro : ρ o = 38) : q_ok (m_X10_isPossible n S o) (fun r T => T = S ∧ (0 ≤ r.toInt ∧ r.toInt ≤ 1)) := by
  have hG : q_G ρ L [] S S := q_G_refl hI
  unfold m_X10_isPossible
  have z0 : (0 : Int32).toInt = 0 := rfl
  refine q_ok_atS hG (q_trI mo ro) rfl (fun mo ro => ?_)
  have t1 := g_38_R1 hG mo ro
  refine q_ok_at hG t1 rfl (fun a2 ma2 ra2 ea2 => ?_)
  refine q_ok_b (s_X8_isThere_6 hn hG.1 ma2 ra2 (q_wd (show (1751474532 : Int) ≤ (1751474532 : Int64).toInt ∧ (1751474532 : Int64).toInt ≤ (1751474532 : Int) by decide) (by decide) (by decide))) (fun r3 S4 h5 => ?_)
  obtain ⟨eS4, h5⟩ := h5
  replace eS4 := eS4.symm
  subst eS4
  have f6 := h5
  refine q_ok_ite (fun g7 => ?_) (fun g7 => ?_)
  · have f8 := q_eqV q_evr (show q_eqv ((0 : Int32)).toInt (0) by unfold q_eqv; decide) (q_p_eq g7)
    unfold m_X10_isPossible_84
    unfold m_X10_isPossible_85
    refine q_ok_if (q_b01V (show q_eqv ((0 : Int32)).toInt (0) by unfold q_eqv; decide) (by omega) (by omega)) ?_
    exact q_ok_some ⟨rfl, (q_wd (show (0 : Int) ≤ (0 : Int32).toInt ∧ (0 : Int32).toInt ≤ (0 : Int) by decide) (by decide) (by decide))⟩
  · have f9 := q_neV q_evr (show q_eqv ((0 : Int32)).toInt (0) by unfold q_eqv; decide) (q_n_eq g7)
    refine q_ok_atS hG (q_trI mo ro) rfl (fun mo ro => ?_)
    have t10 := g_38_R1 hG mo ro
    refine q_ok_atA hG ea2 ma2 ra2 rfl ?_
    refine q_ok_b (s_X8_isThere_6 hn hG.1 ma2 ra2 (q_wd (show (1835104368 : Int) ≤ (1835104368 : Int64).toInt ∧ (1835104368 : Int64).toInt ≤ (1835104368 : Int) by decide) (by decide) (by decide))) (fun r11 S12 h13 => ?_)
    obtain ⟨eS12, h13⟩ := h13
    replace eS12 := eS12.symm
    subst eS12
    have f14 := h13
    refine q_ok_ite (fun g15 => ?_) (fun g15 => ?_)
    · have f16 := q_eqV q_evr (show q_eqv ((0 : Int32)).toInt (0) by unfold q_eqv; decide) (q_p_eq g15)
      unfold m_X10_isPossible_84
      unfold m_X10_isPossible_85
      refine q_ok_if (q_b01V (show q_eqv ((0 : Int32)).toInt (0) by unfold q_eqv; decide) (by omega) (by omega)) ?_
      exact q_ok_some ⟨rfl, (q_wd (show (0 : Int) ≤ (0 : Int32).toInt ∧ (0 : Int32).toInt ≤ (0 : Int) by decide) (by decide) (by decide))⟩
    · have f17 := q_neV q_evr (show q_eqv ((0 : Int32)).toInt (0) by unfold q_eqv; decide) (q_n_eq g15)
      refine q_ok_atS hG (q_trI mo ro) rfl (fun mo ro => ?_)
      have t18 := g_38_R1 hG mo ro
      refine q_ok_atA hG ea2 ma2 ra2 rfl ?_
      refine q_ok_b (s_X8_isThere_6 hn hG.1 ma2 ra2 (q_wd (show (1819239265 : Int) ≤ (1819239265 : Int64).toInt ∧ (1819239265 : Int64).toInt ≤ (1819239265 : Int) by decide) (by decide) (by decide))) (fun r19 S20 h21 => ?_)
      obtain ⟨eS20, h21⟩ := h21
      replace eS20 := eS20.symm
      subst eS20
      have f22 := h21
      refine q_ok_ite (fun g23 => ?_) (fun g23 => ?_)
      · have f24 := q_eqV q_evr (show q_eqv ((0 : Int32)).toInt (0) by unfold q_eqv; decide) (q_p_eq g23)
        unfold m_X10_isPossible_84
        unfold m_X10_isPossible_85
        refine q_ok_if (q_b01V (show q_eqv ((0 : Int32)).toInt (0) by unfold q_eqv; decide) (by omega) (by omega)) ?_
        exact q_ok_some ⟨rfl, (q_wd (show (0 : Int) ≤ (0 : Int32).toInt ∧ (0 : Int32).toInt ≤ (0 : Int) by decide) (by decide) (by decide))⟩
      · have f25 := q_neV q_evr (show q_eqv ((0 : Int32)).toInt (0) by unfold q_eqv; decide) (q_n_eq g23)
        refine q_ok_atS hG (q_trI mo ro) rfl (fun mo ro => ?_)
        have t26 := g_38_R1 hG mo ro
        refine q_ok_atA hG ea2 ma2 ra2 rfl ?_
        refine q_ok_b (s_X8_isThere_6 hn hG.1 ma2 ra2 (q_wd (show (1735162214 : Int) ≤ (1735162214 : Int64).toInt ∧ (1735162214 : Int64).toInt ≤ (1735162214 : Int) by decide) (by decide) (by decide))) (fun r27 S28 h29 => ?_)
        obtain ⟨eS28, h29⟩ := h29
        replace eS28 := eS28.symm
        subst eS28
        have f30 := h29
        refine q_ok_ite (fun g31 => ?_) (fun g31 => ?_)
        · have f32 := q_eqV q_evr (show q_eqv ((0 : Int32)).toInt (0) by unfold q_eqv; decide) (q_p_eq g31)
          unfold m_X10_isPossible_84
          unfold m_X10_isPossible_85
          refine q_ok_if (q_b01V (show q_eqv ((0 : Int32)).toInt (0) by unfold q_eqv; decide) (by omega) (by omega)) ?_
          exact q_ok_some ⟨rfl, (q_wd (show (0 : Int) ≤ (0 : Int32).toInt ∧ (0 : Int32).toInt ≤ (0 : Int) by decide) (by decide) (by decide))⟩
        · have f33 := q_neV q_evr (show q_eqv ((0 : Int32)).toInt (0) by unfold q_eqv; decide) (q_n_eq g31)
          refine q_ok_atS hG (q_trI mo ro) rfl (fun mo ro => ?_)
          have t34 := g_38_R1 hG mo ro
          refine q_ok_atA hG ea2 ma2 ra2 rfl ?_
          refine q_ok_b (s_X8_first_6 hn hG.1 ma2 ra2 (q_wd (show (1751474532 : Int) ≤ (1751474532 : Int64).toInt ∧ (1751474532 : Int64).toInt ≤ (1751474532 : Int) by decide) (by decide) (by decide))) (fun r35 S36 h37 => ?_)
          obtain ⟨eS36, h37⟩ := h37
          replace eS36 := eS36.symm
          subst eS36
          refine q_ok_atS hG (q_trI h37.1 h37.2) rfl (fun mr35 rr35 => ?_)
          have f38 : q_sm _ := g_8_I4 hG mr35 rr35
          obtain ⟨v39, ev39⟩ := q_ev ((q_I (S) r35 4).toInt)
          have f40 := q_bV ev39 f38
          refine q_ok_ite (fun g41 => ?_) (fun g41 => ?_)
          · have f42 := q_ltV ev39 (show q_eqv ((52 : Int32)).toInt (52) by unfold q_eqv; decide) (q_p_lt g41)
            unfold m_X10_isPossible_84
            unfold m_X10_isPossible_85
            refine q_ok_if (q_b01V (show q_eqv ((0 : Int32)).toInt (0) by unfold q_eqv; decide) (by omega) (by omega)) ?_
            exact q_ok_some ⟨rfl, (q_wd (show (0 : Int) ≤ (0 : Int32).toInt ∧ (0 : Int32).toInt ≤ (0 : Int) by decide) (by decide) (by decide))⟩
          · have f43 := q_leV (show q_eqv ((52 : Int32)).toInt (52) by unfold q_eqv; decide) ev39 (q_n_lt g41)
            refine q_ok_atS hG (q_trI mo ro) rfl (fun mo ro => ?_)
            have t44 := g_38_R2 hG mo ro
            refine q_ok_at hG t44 rfl (fun a45 ma45 ra45 ea45 => ?_)
            refine q_ok_b (s_X6_areCutShort_9 hn hG.1 ma45 ra45) (fun r46 S47 h48 => ?_)
            obtain ⟨eS47, h48⟩ := h48
            replace eS47 := eS47.symm
            subst eS47
            have f49 := h48
            refine q_ok_ite (fun g50 => ?_) (fun g50 => ?_)
            · have f51 := q_eqV q_evr (show q_eqv ((0 : Int32)).toInt (0) by unfold q_eqv; decide) (q_p_eq g50)
              unfold m_X10_isPossible_85
              refine q_ok_if (q_b01V (show q_eqv ((1 : Int32)).toInt (1) by unfold q_eqv; decide) (by omega) (by omega)) ?_
              exact q_ok_some ⟨rfl, (q_wd (show (1 : Int) ≤ (1 : Int32).toInt ∧ (1 : Int32).toInt ≤ (1 : Int) by decide) (by decide) (by decide))⟩
            · have f52 := q_neV q_evr (show q_eqv ((0 : Int32)).toInt (0) by unfold q_eqv; decide) (q_n_eq g50)
              unfold m_X10_isPossible_84
              unfold m_X10_isPossible_85
              refine q_ok_if (q_b01V (show q_eqv ((0 : Int32)).toInt (0) by unfold q_eqv; decide) (by omega) (by omega)) ?_
              exact q_ok_some ⟨rfl, (q_wd (show (0 : Int) ≤ (0 : Int32).toInt ∧ (0 : Int32).toInt ≤ (0 : Int) by decide) (by decide) (by decide))⟩
set_option maxHeartbeats 4000000 in
set_option maxRecDepth 100000 in
theorem s_X6_haveLongPlaces_9 {ρ : Nat → Nat} {L : List Nat} {n : Nat} (hn : 18446744073709551616 ≤ n) {S : q_S} (hI : q_Inv ρ L S) {o : Nat} (mo : o ∈ L) (ro : ρ o = 9) : q_ok (m_X6_haveLongPlaces n S o) (fun r T => T = S ∧ (0 ≤ r.toInt ∧ r.toInt ≤ 1)) := by
  have hG : q_G ρ L [] S S := q_G_refl hI
  unfold m_X6_haveLongPlaces
  have z0 : (0 : Int32).toInt = 0 := rfl
  refine q_ok_atS hG (q_trI mo ro) rfl (fun mo ro => ?_)
  have f1 : q_sm _ := g_9_I7 hG mo ro
  obtain ⟨v2, ev2⟩ := q_ev ((q_I (S) o 7).toInt)
  have f3 := q_bV ev2 f1
  refine q_ok_if (q_b01V ev2 (by omega) (by omega)) ?_
  exact q_ok_some ⟨rfl, (q_wd f1 (by decide) (by decide))⟩
set_option maxHeartbeats 4000000 in
set_option maxRecDepth 100000 in
theorem s_X10_newLength_38 {ρ : Nat → Nat} {L : List Nat} {n : Nat} (hn : 18446744073709551616 ≤ n) {S : q_S} (hI : q_Inv ρ L S) {o : Nat} (mo : o ∈ L) (ro : ρ o = 38) {p0 : Int32} (hp0 : (0 ≤ p0.toInt ∧ p0.toInt ≤ 23)) : q_ok (m_X10_newLength n S o p0) (fun r T => T = S) := by
  have hG : q_G ρ L [] S S := q_G_refl hI
  unfold m_X10_newLength
  have z0 : (0 : Int32).toInt = 0 := rfl
  refine q_ok_atS hG (q_trI mo ro) rfl (fun mo ro => ?_)
  have t1 := g_38_R1 hG mo ro
  refine q_ok_at hG t1 rfl (fun a2 ma2 ra2 ea2 => ?_)
  refine q_ok_b (s_X8_indexOf_6 hn hG.1 ma2 ra2 (q_wd (show (1735162214 : Int) ≤ (1735162214 : Int64).toInt ∧ (1735162214 : Int64).toInt ≤ (1735162214 : Int) by decide) (by decide) (by decide))) (fun r3 S4 h5 => ?_)
  obtain ⟨eS4, h5⟩ := h5
  replace eS4 := eS4.symm
  subst eS4
  have f6 := h5
  refine q_ok_ite (fun g7 => ?_) (fun g7 => ?_)
  · have f8 := q_eqV q_evr q_evr (q_p_eq g7)
    refine q_ok_atS hG (q_trI mo ro) rfl (fun mo ro => ?_)
    have t9 := g_38_R7 hG mo ro
    have t10 := g_38_R2 hG mo ro
    refine q_ok_at hG t10 rfl (fun a11 ma11 ra11 ea11 => ?_)
    refine q_ok_b (s_X6_size_9 hn hG.1 ma11 ra11) (fun r12 S13 h14 => ?_)
    obtain ⟨eS13, h14⟩ := h14
    replace eS13 := eS13.symm
    subst eS13
    have f15 := h14
    refine q_ok_at hG t9 rfl (fun a16 ma16 ra16 ea16 => ?_)
    refine q_ok_if (q_inV (g_43_N hG ma16 ra16) q_evr (by omega) (by omega)) ?_
    exact q_ok_some rfl
  · have f17 := q_neV q_evr q_evr (q_n_eq g7)
    refine q_ok_atS hG (q_trI mo ro) rfl (fun mo ro => ?_)
    have t18 := g_38_R1 hG mo ro
    refine q_ok_atA hG ea2 ma2 ra2 rfl ?_
    refine q_ok_b (s_X8_indexOf_6 hn hG.1 ma2 ra2 (q_wd (show (1819239265 : Int) ≤ (1819239265 : Int64).toInt ∧ (1819239265 : Int64).toInt ≤ (1819239265 : Int) by decide) (by decide) (by decide))) (fun r19 S20 h21 => ?_)
    obtain ⟨eS20, h21⟩ := h21
    replace eS20 := eS20.symm
    subst eS20
    have f22 := h21
    refine q_ok_ite (fun g23 => ?_) (fun g23 => ?_)
    · have f24 := q_eqV q_evr q_evr (q_p_eq g23)
      refine q_ok_atS hG (q_trI mo ro) rfl (fun mo ro => ?_)
      have t25 := g_38_R2 hG mo ro
      refine q_ok_at hG t25 rfl (fun a26 ma26 ra26 ea26 => ?_)
      refine q_ok_b (s_X6_size_9 hn hG.1 ma26 ra26) (fun r27 S28 h29 => ?_)
      obtain ⟨eS28, h29⟩ := h29
      replace eS28 := eS28.symm
      subst eS28
      have f30 := h29
      refine q_ok_atS hG (q_trI mo ro) rfl (fun mo ro => ?_)
      have t31 := g_38_R2 hG mo ro
      refine q_ok_atA hG ea26 ma26 ra26 rfl ?_
      refine q_ok_b (s_X6_haveLongPlaces_9 hn hG.1 ma26 ra26) (fun r32 S33 h34 => ?_)
      obtain ⟨eS33, h34⟩ := h34
      replace eS33 := eS33.symm
      subst eS33
      have f35 := h34
      refine q_ok_ite (fun g36 => ?_) (fun g36 => ?_)
      · have f37 := q_eqV q_evr (show q_eqv ((0 : Int32)).toInt (0) by unfold q_eqv; decide) (q_p_eq g36)
        unfold m_X10_newLength_65
        exact q_ok_some rfl
      · have f38 := q_neV q_evr (show q_eqv ((0 : Int32)).toInt (0) by unfold q_eqv; decide) (q_n_eq g36)
        unfold m_X10_newLength_65
        exact q_ok_some rfl
    · have f39 := q_neV q_evr q_evr (q_n_eq g23)
      refine q_ok_atS hG (q_trI mo ro) rfl (fun mo ro => ?_)
      have t40 := g_38_R1 hG mo ro
      refine q_ok_atA hG ea2 ma2 ra2 rfl ?_
      refine q_ok_b (s_X8_get_6 hn hG.1 ma2 ra2) (fun r41 S42 h43 => ?_)
      obtain ⟨eS42, h43⟩ := h43
      replace eS42 := eS42.symm
      subst eS42
      refine q_ok_atS hG (q_trI h43.1 h43.2) rfl (fun mr41 rr41 => ?_)
      have f44 : q_sm _ := g_8_I4 hG mr41 rr41
      exact q_ok_some rfl
set_option maxHeartbeats 4000000 in
set_option maxRecDepth 100000 in
theorem s_X10_padded {ρ : Nat → Nat} {L : List Nat} {n : Nat} (hn : 18446744073709551616 ≤ n) {S : q_S} (hI : q_Inv ρ L S) {p0 : Int32} : q_ok (m_X10_padded n S p0) (fun r T => T = S) := by
  have hG : q_G ρ L [] S S := q_G_refl hI
  unfold m_X10_padded
  have z0 : (0 : Int32).toInt = 0 := rfl
  refine q_ok_if (q_ne0VI (show q_eqv ((4 : Int32)).toInt (4) by unfold q_eqv; decide) (by omega)) ?_
  exact q_ok_some rfl
set_option maxHeartbeats 4000000 in
set_option maxRecDepth 100000 in
theorem s_X8_size_6 {ρ : Nat → Nat} {L : List Nat} {n : Nat} (hn : 18446744073709551616 ≤ n) {S : q_S} (hI : q_Inv ρ L S) {o : Nat} (mo : o ∈ L) (ro : ρ o = 6) : q_ok (m_X8_size n S o) (fun r T => T = S ∧ (-1 ≤ r.toInt ∧ r.toInt ≤ 24)) := by
  have hG : q_G ρ L [] S S := q_G_refl hI
  unfold m_X8_size
  have z0 : (0 : Int32).toInt = 0 := rfl
  refine q_ok_atS hG (q_trI mo ro) rfl (fun mo ro => ?_)
  have f1 : q_sm _ := g_6_I3 hG mo ro
  exact q_ok_some ⟨rfl, (q_wd f1 (by decide) (by decide))⟩
set_option maxHeartbeats 4000000 in
set_option maxRecDepth 100000 in
theorem s_X10_newSize_38_16 {ρ : Nat → Nat} {L : List Nat} {n : Nat} {S : q_S} (hn : 18446744073709551616 ≤ n) (hG : q_G ρ L [] S S)  : ∀ (k : Nat) (l0 : Option Nat) (l1 : Int32) (l2 : Int32), q_tr ρ L l0 38 → (0 ≤ l2.toInt ∧ l2.toInt ≤ 24) → 2147483648 - l2.toInt ≤ (k : Int) → q_ok (m_X10_newSize_16 n k S l0 l1 l2) (fun r T => T = S) := by
  intro k
  induction k with
  | zero =>
    intro l0 l1 l2 hl0 hl2 hm
    have f0 := q_rngI l2
    exfalso; omega
  | succ k ih =>
    intro l0 l1 l2 hl0 hl2 hm
    rw [m_X10_newSize_16]
    have z0 : (0 : Int32).toInt = 0 := rfl
    refine q_ok_at hG hl0 rfl (fun a1 ma1 ra1 ea1 => ?_)
    have t2 := g_38_R1 hG ma1 ra1
    refine q_ok_at hG t2 rfl (fun a3 ma3 ra3 ea3 => ?_)
    refine q_ok_b (s_X8_size_6 hn hG.1 ma3 ra3) (fun r4 S5 h6 => ?_)
    obtain ⟨eS5, h6⟩ := h6
    replace eS5 := eS5.symm
    subst eS5
    have f7 := h6
    refine q_ok_ite (fun g8 => ?_) (fun g8 => ?_)
    · have f9 := q_leV q_evr q_evr (q_p_ge g8)
      exact q_ok_some rfl
    · have f10 := q_ltV q_evr q_evr (q_n_ge g8)
      refine q_ok_atA hG ea1 ma1 ra1 rfl ?_
      refine q_ok_b (s_X10_newLength_38 hn hG.1 ma1 ra1 (q_oV q_evr (by omega) (by omega))) (fun r11 S12 h13 => ?_)
      have eS12 := h13
      replace eS12 := eS12.symm
      subst eS12
      refine q_ok_b (s_X10_padded hn hG.1 ) (fun r14 S15 h16 => ?_)
      have eS15 := h16
      replace eS15 := eS15.symm
      subst eS15
      obtain ⟨v17, ev17⟩ := q_ev ((l2 + (1)).toInt)
      have f18 : v17 = l2.toInt + (1) := q_addVI ev17 q_evr (show q_eqv ((1 : Int32)).toInt (1) by unfold q_eqv; decide) (by omega) (by omega)
      exact ih _ _ _ hl0 (q_oV ev17 (by omega) (by omega))  (q_upV ev17 (by omega))
set_option maxHeartbeats 4000000 in
set_option maxRecDepth 100000 in
theorem s_X10_newSize_38 {ρ : Nat → Nat} {L : List Nat} {n : Nat} (hn : 18446744073709551616 ≤ n) {S : q_S} (hI : q_Inv ρ L S) {o : Nat} (mo : o ∈ L) (ro : ρ o = 38) : q_ok (m_X10_newSize n S o) (fun r T => T = S) := by
  have hG : q_G ρ L [] S S := q_G_refl hI
  unfold m_X10_newSize
  have z0 : (0 : Int32).toInt = 0 := rfl
  refine q_ok_atS hG (q_trI mo ro) rfl (fun mo ro => ?_)
  have t1 := g_38_R1 hG mo ro
  refine q_ok_at hG t1 rfl (fun a2 ma2 ra2 ea2 => ?_)
  refine q_ok_b (s_X8_size_6 hn hG.1 ma2 ra2) (fun r3 S4 h5 => ?_)
  obtain ⟨eS4, h5⟩ := h5
  replace eS4 := eS4.symm
  subst eS4
  have f6 := h5
  exact s_X10_newSize_38_16 hn hG n _ _ _ (q_trI mo ro) (q_wd (show (0 : Int) ≤ (0 : Int32).toInt ∧ (0 : Int32).toInt ≤ (0 : Int) by decide) (by decide) (by decide))  (q_upV (show q_eqv ((0 : Int32)).toInt (0) by unfold q_eqv; decide) (by omega))
def M_X4_setFour_39 : List Nat := [2560]
set_option maxHeartbeats 4000000 in
set_option maxRecDepth 100000 in
theorem s_X4_setFour_39_51 {ρ : Nat → Nat} {L : List Nat} {n : Nat} (hn : 18446744073709551616 ≤ n) {S0 : q_S}  {k3 : q_S → Option Nat → Int32 → Int64 → Int32 → Option (Unit × q_S)} {B3 : Int} (hk3 : ∀ (S : q_S) (z0 : Option Nat) (z1 : Int32) (z2 : Int64) (z3 : Int32), q_G ρ L M_X4_setFour_39 S0 S → q_tr ρ L z0 39 → (8 ≤ z1.toInt ∧ z1.toInt ≤ 65535) → (-2147483648 ≤ z2.toInt ∧ z2.toInt ≤ 4294967295) → (0 ≤ z3.toInt ∧ z3.toInt ≤ 5) → 2147483648 - z3.toInt < B3 → q_ok (k3 S z0 z1 z2 z3) (fun _ T => q_G ρ L M_X4_setFour_39 S0 T)) (S : q_S) (l0 : Option Nat) (l1 : Int32) (l2 : Int64) (l4 : Int32) (hG : q_G ρ L M_X4_setFour_39 S0 S) (hl0 : q_tr ρ L l0 39) (hl1 : (8 ≤ l1.toInt ∧ l1.toInt ≤ 65535)) (hl2 : (-2147483648 ≤ l2.toInt ∧ l2.toInt ≤ 4294967295)) (hl4 : (0 ≤ l4.toInt ∧ l4.toInt ≤ 3)) (hm3 : 2147483648 - l4.toInt ≤ B3) : q_ok (m_X4_setFour_51 n k3 S l0 l1 l2 l4) (fun _ T => q_G ρ L M_X4_setFour_39 S0 T) := by
  unfold m_X4_setFour_51
  have z0 : (0 : Int32).toInt = 0 := rfl
  obtain ⟨v1, ev1⟩ := q_ev ((l4 + (1)).toInt)
  have f2 : v1 = l4.toInt + (1) := q_addVI ev1 q_evr (show q_eqv ((1 : Int32)).toInt (1) by unfold q_eqv; decide) (by omega) (by omega)
  exact hk3 _ _ _ _ _ hG hl0 (q_wd hl1 (by decide) (by decide)) (q_wd hl2 (by decide) (by decide)) (q_wd (q_addBI (1) (4) hl4 (show (1 : Int) ≤ (1 : Int32).toInt ∧ (1 : Int32).toInt ≤ (1 : Int) by decide) (by decide) (by decide) (by decide) (by decide)) (by decide) (by decide))  (q_upVl ev1 (by omega))
set_option maxHeartbeats 4000000 in
set_option maxRecDepth 100000 in
theorem s_X4_setFour_39_3 {ρ : Nat → Nat} {L : List Nat} {n : Nat} (hn : 18446744073709551616 ≤ n) {S0 : q_S}  : ∀ (k : Nat) (S : q_S) (l0 : Option Nat) (l1 : Int32) (l2 : Int64) (l4 : Int32), q_G ρ L M_X4_setFour_39 S0 S → q_tr ρ L l0 39 → (8 ≤ l1.toInt ∧ l1.toInt ≤ 65535) → (-2147483648 ≤ l2.toInt ∧ l2.toInt ≤ 4294967295) → (0 ≤ l4.toInt ∧ l4.toInt ≤ 5) → 2147483648 - l4.toInt ≤ (k : Int) → q_ok (m_X4_setFour_3 n k S l0 l1 l2 l4) (fun _ T => q_G ρ L M_X4_setFour_39 S0 T) := by
  intro k
  induction k with
  | zero =>
    intro S l0 l1 l2 l4 hG hl0 hl1 hl2 hl4 hm
    have f0 := q_rngI l4
    exfalso; omega
  | succ k ih =>
    intro S l0 l1 l2 l4 hG hl0 hl1 hl2 hl4 hm
    rw [m_X4_setFour_3]
    have z0 : (0 : Int32).toInt = 0 := rfl
    refine q_ok_ite (fun g1 => ?_) (fun g1 => ?_)
    · have f2 := q_leV (show q_eqv ((4 : Int32)).toInt (4) by unfold q_eqv; decide) q_evr (q_p_ge g1)
      exact q_ok_some hG
    · have f3 := q_ltV q_evr (show q_eqv ((4 : Int32)).toInt (4) by unfold q_eqv; decide) (q_n_ge g1)
      obtain ⟨v4, ev4⟩ := q_ev ((l1 + l4).toInt)
      have f5 : v4 = l1.toInt + l4.toInt := q_addVI ev4 q_evr q_evr (by omega) (by omega)
      refine q_ok_ite (fun g6 => ?_) (fun g6 => ?_)
      · have f7 := q_ltV ev4 (show q_eqv ((0 : Int32)).toInt (0) by unfold q_eqv; decide) (q_p_lt g6)
        exfalso; omega
      · have f8 := q_leV (show q_eqv ((0 : Int32)).toInt (0) by unfold q_eqv; decide) ev4 (q_n_lt g6)
        refine q_ok_at hG hl0 rfl (fun a9 ma9 ra9 ea9 => ?_)
        have f10 : q_sm _ := g_39_I1 hG ma9 ra9
        obtain ⟨v11, ev11⟩ := q_ev ((q_I (S) a9 1).toInt)
        have f12 := q_bV ev11 f10
        refine q_ok_ite (fun g13 => ?_) (fun g13 => ?_)
        · have f14 := q_leV ev11 ev4 (q_p_ge g13)
          exact s_X4_setFour_39_51 hn (B3 := (k : Int) + 1) (fun S9 z0 z1 z2 z3 hG9 hz0 hz1 hz2 hz3  hm9 => ih S9 z0 z1 z2 z3 hG9 hz0 hz1 hz2 hz3  (by omega)) _ _ _ _ _ hG hl0 (q_wd hl1 (by decide) (by decide)) (q_wd hl2 (by decide) (by decide)) (q_oV q_evr (by omega) (by omega)) (q_upV q_evr (by omega))
        · have f15 := q_ltV ev4 ev11 (q_n_ge g13)
          have t16 := g_39_R0 hG ma9 ra9
          refine q_ok_at hG t16 rfl (fun a17 ma17 ra17 ea17 => ?_)
          refine q_ok_if (q_inV (g_40_N hG ma17 ra17) ev4 (by omega) (by omega)) ?_
          obtain ⟨v18, ev18⟩ := q_ev ((((l2 >>> ((((24 : Int32) - ((8 : Int32) * l4))).toInt64 &&& 63)).toInt32) &&& (255 : Int32)).toInt)
          have f19 := q_andRVI ev18 (show q_eqv ((255 : Int32)).toInt (255) by unfold q_eqv; decide) (by omega)
          have hG := u_40_E (k := (l1 + l4).toNatClampNeg) (x := ((l2 >>> ((((24 : Int32) - ((8 : Int32) * l4))).toInt64 &&& 63)).toInt32) &&& (255 : Int32)) hG ma17 ra17 (by decide) (q_oV ev18 (by omega) (by omega))
          exact s_X4_setFour_39_51 hn (B3 := (k : Int) + 1) (fun S9 z0 z1 z2 z3 hG9 hz0 hz1 hz2 hz3  hm9 => ih S9 z0 z1 z2 z3 hG9 hz0 hz1 hz2 hz3  (by omega)) _ _ _ _ _ hG hl0 (q_wd hl1 (by decide) (by decide)) (q_wd hl2 (by decide) (by decide)) (q_oV q_evr (by omega) (by omega)) (q_upV q_evr (by omega))
set_option maxHeartbeats 4000000 in
set_option maxRecDepth 100000 in
theorem s_X4_setFour_39 {ρ : Nat → Nat} {L : List Nat} {n : Nat} (hn : 18446744073709551616 ≤ n) {S : q_S} (hI : q_Inv ρ L S) {o : Nat} (mo : o ∈ L) (ro : ρ o = 39) {p0 : Int32} (hp0 : (8 ≤ p0.toInt ∧ p0.toInt ≤ 65535)) {p1 : Int64} (hp1 : (-2147483648 ≤ p1.toInt ∧ p1.toInt ≤ 4294967295)) : q_ok (m_X4_setFour n S o p0 p1) (fun _ T => q_G ρ L M_X4_setFour_39 S T) := by
  have hG : q_G ρ L M_X4_setFour_39 S S := q_G_refl hI
  unfold m_X4_setFour
  have z0 : (0 : Int32).toInt = 0 := rfl
  exact s_X4_setFour_39_3 hn n _ _ _ _ _ hG (q_trI mo ro) (q_wd hp0 (by decide) (by decide)) (q_wd hp1 (by decide) (by decide)) (q_wd (show (0 : Int) ≤ (0 : Int32).toInt ∧ (0 : Int32).toInt ≤ (0 : Int) by decide) (by decide) (by decide))  (q_upV (show q_eqv ((0 : Int32)).toInt (0) by unfold q_eqv; decide) (by omega))
set_option maxHeartbeats 4000000 in
set_option maxRecDepth 100000 in
theorem s_X4_size_39 {ρ : Nat → Nat} {L : List Nat} {n : Nat} (hn : 18446744073709551616 ≤ n) {S : q_S} (hI : q_Inv ρ L S) {o : Nat} (mo : o ∈ L) (ro : ρ o = 39) : q_ok (m_X4_size n S o) (fun r T => T = S ∧ (0 ≤ r.toInt ∧ r.toInt ≤ 2400)) := by
  have hG : q_G ρ L [] S S := q_G_refl hI
  unfold m_X4_size
  have z0 : (0 : Int32).toInt = 0 := rfl
  refine q_ok_atS hG (q_trI mo ro) rfl (fun mo ro => ?_)
  have f1 : q_sm _ := g_39_I1 hG mo ro
  exact q_ok_some ⟨rfl, (q_wd f1 (by decide) (by decide))⟩
def M_X7_set_44 : List Nat := [2817, 2818, 2819, 2820]
set_option maxHeartbeats 4000000 in
set_option maxRecDepth 100000 in
theorem s_X7_set_44 {ρ : Nat → Nat} {L : List Nat} {n : Nat} (hn : 18446744073709551616 ≤ n) {S : q_S} (hI : q_Inv ρ L S) {o : Nat} (mo : o ∈ L) (ro : ρ o = 44) {p0 : Int64} (hp0 : (-1 ≤ p0.toInt ∧ p0.toInt ≤ 4294967295)) {p1 : Int64} (hp1 : (0 ≤ p1.toInt ∧ p1.toInt ≤ 0)) {p2 : Int32} (hp2 : (0 ≤ p2.toInt ∧ p2.toInt ≤ 2400)) {p3 : Int32} (hp3 : (-2147483648 ≤ p3.toInt ∧ p3.toInt ≤ 2400)) : q_ok (m_X7_set n S o p0 p1 p2 p3) (fun _ T => q_G ρ L M_X7_set_44 S T) := by
  have hG : q_G ρ L M_X7_set_44 S S := q_G_refl hI
  unfold m_X7_set
  have z0 : (0 : Int32).toInt = 0 := rfl
  refine q_ok_atS hG (q_trI mo ro) rfl (fun mo ro => ?_)
  have hG := u_44_J1 (x := p0) hG mo ro (by decide) (q_wd hp0 (by decide) (by decide))
  have hG := u_44_J2 (x := p1) hG mo ro (by decide) (q_wd hp1 (by decide) (by decide))
  refine q_ok_let (fun S1 eS1 => ?_)
  rw [← eS1] at hG
  have hG := u_44_I3 (x := p2) hG mo ro (by decide) (q_wd hp2 (by decide) (by decide))
  have hG := u_44_I4 (x := p3) hG mo ro (by decide) (q_wd hp3 (by decide) (by decide))
  exact q_ok_some hG
set_option maxHeartbeats 4000000 in
set_option maxRecDepth 100000 in
theorem s_X4_one_39 {ρ : Nat → Nat} {L : List Nat} {n : Nat} (hn : 18446744073709551616 ≤ n) {S : q_S} (hI : q_Inv ρ L S) {o : Nat} (mo : o ∈ L) (ro : ρ o = 39) {p0 : Int64} (hp0 : (-2147483648 ≤ p0.toInt ∧ p0.toInt ≤ 2147483647)) {p1 : Int64} (hp1 : (-2147483648 ≤ p1.toInt ∧ p1.toInt ≤ 65535)) : q_ok (m_X4_one n S o p0 p1) (fun r T => T = S ∧ (-1 ≤ r.toInt ∧ r.toInt ≤ 255)) := by
  have hG : q_G ρ L [] S S := q_G_refl hI
  unfold m_X4_one
  have z0 : (0 : Int32).toInt = 0 := rfl
  refine q_ok_ite (fun g1 => ?_) (fun g1 => ?_)
  · have f2 := q_ltV q_evr (show q_eqv ((0 : Int64)).toInt (0) by unfold q_eqv; decide) (q_cp_lt g1)
    unfold m_X4_one_32
    unfold m_X4_one_33
    exact q_ok_some ⟨rfl, (q_wd (show (-1 : Int) ≤ (-1 : Int32).toInt ∧ (-1 : Int32).toInt ≤ (-1 : Int) by decide) (by decide) (by decide))⟩
  · have f3 := q_leV (show q_eqv ((0 : Int64)).toInt (0) by unfold q_eqv; decide) q_evr (q_cn_lt g1)
    refine q_ok_ite (fun g4 => ?_) (fun g4 => ?_)
    · have f5 := q_leV q_evr q_evr (q_cp_ge g4)
      unfold m_X4_one_32
      unfold m_X4_one_33
      exact q_ok_some ⟨rfl, (q_wd (show (-1 : Int) ≤ (-1 : Int32).toInt ∧ (-1 : Int32).toInt ≤ (-1 : Int) by decide) (by decide) (by decide))⟩
    · have f6 := q_ltV q_evr q_evr (q_cn_ge g4)
      refine q_ok_atS hG (q_trI mo ro) rfl (fun mo ro => ?_)
      have f7 : q_sm _ := g_39_I1 hG mo ro
      obtain ⟨v8, ev8⟩ := q_ev (((q_I (S) o 1).toInt64).toInt)
      obtain ⟨v9, ev9⟩ := q_ev ((q_I (S) o 1).toInt)
      have f10 := q_bV ev9 f7
      have f11 : v8 = v9 := q_i2lV ev8 ev9
      refine q_ok_ite (fun g12 => ?_) (fun g12 => ?_)
      · have f13 := q_leV ev8 q_evr (q_cp_ge g12)
        unfold m_X4_one_32
        unfold m_X4_one_33
        exact q_ok_some ⟨rfl, (q_wd (show (-1 : Int) ≤ (-1 : Int32).toInt ∧ (-1 : Int32).toInt ≤ (-1 : Int) by decide) (by decide) (by decide))⟩
      · have f14 := q_ltV q_evr ev8 (q_cn_ge g12)
        have t15 := g_39_R0 hG mo ro
        refine q_ok_at hG t15 rfl (fun a16 ma16 ra16 ea16 => ?_)
        obtain ⟨v17, ev17⟩ := q_ev ((p0.toInt32).toInt)
        have f18 : v17 = p0.toInt := q_l2iV ev17 q_evr (by omega) (by omega)
        refine q_ok_if (q_inV (g_40_N hG ma16 ra16) ev17 (by omega) (by omega)) ?_
        have f19 : q_sm _ := g_40_E hG ma16 ra16 (k := (p0.toInt32).toNatClampNeg)
        unfold m_X4_one_33
        exact q_ok_some ⟨rfl, (q_wd f19 (by decide) (by decide))⟩
set_option maxHeartbeats 4000000 in
set_option maxRecDepth 100000 in
theorem s_X7_end_44 {ρ : Nat → Nat} {L : List Nat} {n : Nat} (hn : 18446744073709551616 ≤ n) {S : q_S} (hI : q_Inv ρ L S) {o : Nat} (mo : o ∈ L) (ro : ρ o = 44) : q_ok (m_X7_end n S o) (fun r T => T = S ∧ (-2147483648 ≤ r.toInt ∧ r.toInt ≤ 65535)) := by
  have hG : q_G ρ L [] S S := q_G_refl hI
  unfold m_X7_end
  have z0 : (0 : Int32).toInt = 0 := rfl
  refine q_ok_atS hG (q_trI mo ro) rfl (fun mo ro => ?_)
  have f1 : q_sm _ := g_44_I3 hG mo ro
  have f2 : q_sm _ := g_44_I4 hG mo ro
  exact q_ok_some ⟨rfl, (q_wd (q_addBJ (-2147483648) (4800) (q_i2lB f1) (q_i2lB f2) (by decide) (by decide) (by decide) (by decide)) (by decide) (by decide))⟩
set_option maxHeartbeats 4000000 in
set_option maxRecDepth 100000 in
theorem s_X7_one_44 {ρ : Nat → Nat} {L : List Nat} {n : Nat} (hn : 18446744073709551616 ≤ n) {S : q_S} (hI : q_Inv ρ L S) {o : Nat} (mo : o ∈ L) (ro : ρ o = 44) {p0 : Int64} (hp0 : (0 ≤ p0.toInt ∧ p0.toInt ≤ 2400)) : q_ok (m_X7_one n S o p0) (fun r T => T = S ∧ (-1 ≤ r.toInt ∧ r.toInt ≤ 255)) := by
  have hG : q_G ρ L [] S S := q_G_refl hI
  unfold m_X7_one
  have z0 : (0 : Int32).toInt = 0 := rfl
  refine q_ok_ite (fun g1 => ?_) (fun g1 => ?_)
  · have f2 := q_leV (show q_eqv ((0 : Int64)).toInt (0) by unfold q_eqv; decide) q_evr (q_cp_ge g1)
    refine q_ok_atS hG (q_trI mo ro) rfl (fun mo ro => ?_)
    have t3 := g_44_R0 hG mo ro
    have f4 : q_sm _ := g_44_I3 hG mo ro
    refine q_ok_b (s_X7_end_44 hn hG.1 mo ro) (fun r5 S6 h7 => ?_)
    obtain ⟨eS6, h7⟩ := h7
    replace eS6 := eS6.symm
    subst eS6
    have f8 := h7
    refine q_ok_at hG t3 rfl (fun a9 ma9 ra9 ea9 => ?_)
    refine q_ok_b (s_X4_one_39 hn hG.1 ma9 ra9 (q_wd (q_addBJ (0) (4800) (q_i2lB f4) hp0 (by decide) (by decide) (by decide) (by decide)) (by decide) (by decide)) (q_wd f8 (by decide) (by decide))) (fun r10 S11 h12 => ?_)
    obtain ⟨eS11, h12⟩ := h12
    replace eS11 := eS11.symm
    subst eS11
    have f13 := h12
    unfold m_X7_one_28
    exact q_ok_some ⟨rfl, (q_wd f13 (by decide) (by decide))⟩
  · have f14 := q_ltV q_evr (show q_eqv ((0 : Int64)).toInt (0) by unfold q_eqv; decide) (q_cn_ge g1)
    exfalso; omega
