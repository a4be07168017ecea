def M_X5_make_14 : List Nat := [194, 256, 320, 905, 964, 965, 1024, 1088, 1152, 1216, 1664, 1728, 1856, 1921, 1922, 1923, 1924, 1925, 1926, 1927, 1928, 1929, 1930, 1931, 1932, 1933, 1985, 1986, 1987, 1988, 1989, 1990, 1991, 1992, 1993, 1994, 1995, 1996, 1997, 2049, 2050, 2051, 2052, 2053, 2054, 2055, 2056, 2057, 2058, 2059, 2060, 2061, 2113, 2114, 2115, 2116, 2117, 2118, 2119, 2120, 2121, 2122, 2123, 2124, 2125, 2177, 2178, 2179, 2180, 2181, 2182, 2183, 2184, 2185, 2186, 2187, 2188, 2189, 2241, 2242, 2243, 2244, 2245, 2246, 2247, 2248, 2249, 2250, 2251, 2252, 2253]
set_option maxHeartbeats 4000000 in
set_option maxRecDepth 100000 in
theorem s_X5_make_14 {ρ : Nat → Nat} {L : List Nat} {n : Nat} (hn : 18446744073709551616 ≤ n) {S : q_S} (hI : q_Inv ρ L S) {o : Nat} (mo : o ∈ L) (ro : ρ o = 14) {p0 : Int32} : q_ok (m_X5_make n S o p0) (fun _ T => q_G ρ L M_X5_make_14 S T) := by
  have hG : q_G ρ L M_X5_make_14 S S := q_G_refl hI
  unfold m_X5_make
  have z0 : (0 : Int32).toInt = 0 := rfl
  refine q_ok_atS hG (q_trI mo ro) rfl (fun mo ro => ?_)
  have t1 := g_14_R2 hG mo ro
  refine q_ok_at hG t1 rfl (fun a2 ma2 ra2 ea2 => ?_)
  refine q_ok_b (s_X3_keep_15 hn hG.1 ma2 ra2 (q_wd (show (0 : Int) ≤ (0 : Int32).toInt ∧ (0 : Int32).toInt ≤ (0 : Int) by decide) (by decide) (by decide)) (q_wd (show (0 : Int) ≤ (0 : Int32).toInt ∧ (0 : Int32).toInt ≤ (0 : Int) by decide) (by decide) (by decide))) (fun r3 S4 h5 => ?_)
  have hG := q_G_call hG h5 (by decide)
  refine q_ok_atS hG (q_trI mo ro) rfl (fun mo ro => ?_)
  have t6 := g_14_R0 hG mo ro
  refine q_ok_at hG t6 rfl (fun a7 ma7 ra7 ea7 => ?_)
  refine q_ok_b (s_X6_has_9 hn hG.1 ma7 ra7) (fun r8 S9 h10 => ?_)
  obtain ⟨eS9, h10⟩ := h10
  replace eS9 := eS9.symm
  subst eS9
  have f11 := h10
  have f12 := q_rVI (x := p0) q_evr
  obtain ⟨v13, ev13⟩ := q_ev ((q_I (S4) a7 5).toInt)
  have f14 := q_bV ev13 (g_9_I5 hG ma7 ra7)
  have f15 : r8.toInt = 1 → (0) ≤ p0.toInt := fun h9 => q_leV (show q_eqv ((0 : Int32)).toInt (0) by unfold q_eqv; decide) q_evr (f11.2 h9).1
  have f16 : r8.toInt = 1 → p0.toInt < v13 := fun h9 => q_ltV q_evr ev13 (f11.2 h9).2
  refine q_ok_ite (fun g17 => ?_) (fun g17 => ?_)
  · have f18 := q_eqV q_evr (show q_eqv ((0 : Int32)).toInt (0) by unfold q_eqv; decide) (q_p_eq g17)
    unfold m_X5_make_26
    exact q_ok_some hG
  · have f19 := q_neV q_evr (show q_eqv ((0 : Int32)).toInt (0) by unfold q_eqv; decide) (q_n_eq g17)
    refine q_ok_atS hG (q_trI mo ro) rfl (fun mo ro => ?_)
    refine q_ok_b (s_X5_shape_14_k0 hn hG.1 mo ro (q_wd (show (0 : Int) ≤ (0 : Int32).toInt ∧ (0 : Int32).toInt ≤ (0 : Int) by decide) (by decide) (by decide)) (q_oV q_evr (by omega) (by omega))) (fun r20 S21 h22 => ?_)
    have hG := q_G_call hG h22 (by decide)
    unfold m_X5_make_26
    exact q_ok_some hG
def M_X11_run_0 : List Nat := [194, 256, 320, 905, 964, 965, 1024, 1088, 1152, 1216, 1664, 1728, 1856, 1921, 1922, 1923, 1924, 1925, 1926, 1927, 1928, 1929, 1930, 1931, 1932, 1933, 1985, 1986, 1987, 1988, 1989, 1990, 1991, 1992, 1993, 1994, 1995, 1996, 1997, 2049, 2050, 2051, 2052, 2053, 2054, 2055, 2056, 2057, 2058, 2059, 2060, 2061, 2113, 2114, 2115, 2116, 2117, 2118, 2119, 2120, 2121, 2122, 2123, 2124, 2125, 2177, 2178, 2179, 2180, 2181, 2182, 2183, 2184, 2185, 2186, 2187, 2188, 2189, 2241, 2242, 2243, 2244, 2245, 2246, 2247, 2248, 2249, 2250, 2251, 2252, 2253, 2305, 2306, 2307, 2368]
set_option maxHeartbeats 4000000 in
set_option maxRecDepth 100000 in
theorem s_X11_run_0 {ρ : Nat → Nat} {L : List Nat} {n : Nat} (hn : 18446744073709551616 ≤ n) {S : q_S} (hI : q_Inv ρ L S) {o : Nat} (mo : o ∈ L) (ro : ρ o = 0) {p0 : Int32} : q_ok (m_X11_run n S o p0) (fun r T => q_G ρ L M_X11_run_0 S T ∧ (-1 ≤ r.toInt ∧ r.toInt ≤ 120)) := by
  have hG : q_G ρ L M_X11_run_0 S S := q_G_refl hI
  unfold m_X11_run
  have z0 : (0 : Int32).toInt = 0 := rfl
  refine q_ok_atS hG (q_trI mo ro) rfl (fun mo ro => ?_)
  have t1 := g_0_R1 hG mo ro
  refine q_ok_at hG t1 rfl (fun a2 ma2 ra2 ea2 => ?_)
  refine q_ok_b (s_X9_clear_3 hn hG.1 ma2 ra2) (fun r3 S4 h5 => ?_)
  have hG := q_G_call hG h5 (by decide)
  refine q_ok_atS hG (q_trI mo ro) rfl (fun mo ro => ?_)
  have t6 := g_0_R5 hG mo ro
  refine q_ok_at hG t6 rfl (fun a7 ma7 ra7 ea7 => ?_)
  refine q_ok_b (s_X5_make_14 hn hG.1 ma7 ra7) (fun r8 S9 h10 => ?_)
  have hG := q_G_call hG h10 (by decide)
  refine q_ok_atS hG (q_trI mo ro) rfl (fun mo ro => ?_)
  have t11 := g_0_R6 hG mo ro
  have t12 := g_0_R5 hG mo ro
  have e13 : q_R (S9) o 5 = q_R (S4) o 5 := (q_unR h10 mo ro (by decide))
  refine q_ok_atA hG (Eq.trans e13 ea7) ma7 ra7 rfl ?_
  refine q_ok_b (s_X5_points_14 hn hG.1 ma7 ra7) (fun r14 S15 h16 => ?_)
  obtain ⟨eS15, h16⟩ := h16
  replace eS15 := eS15.symm
  subst eS15
  refine q_ok_at hG t11 rfl (fun a17 ma17 ra17 ea17 => ?_)
  refine q_ok_b (s_X2_trace_36_15 hn hG.1 ma17 ra17 (q_trI h16.1 h16.2)) (fun r18 S19 h20 => ?_)
  have hG := q_G_call hG h20 (by decide)
  refine q_ok_atS hG (q_trI mo ro) rfl (fun mo ro => ?_)
  have t21 := g_0_R3 hG mo ro
  refine q_ok_at hG t21 rfl (fun a22 ma22 ra22 ea22 => ?_)
  refine q_ok_b (s_X6_has_9 hn hG.1 ma22 ra22) (fun r23 S24 h25 => ?_)
  obtain ⟨eS24, h25⟩ := h25
  replace eS24 := eS24.symm
  subst eS24
  have f26 := h25
  have f27 := q_rVI (x := p0) q_evr
  obtain ⟨v28, ev28⟩ := q_ev ((q_I (S19) a22 5).toInt)
  have f29 := q_bV ev28 (g_9_I5 hG ma22 ra22)
  have f30 : r23.toInt = 1 → (0) ≤ p0.toInt := fun h9 => q_leV (show q_eqv ((0 : Int32)).toInt (0) by unfold q_eqv; decide) q_evr (f26.2 h9).1
  have f31 : r23.toInt = 1 → p0.toInt < v28 := fun h9 => q_ltV q_evr ev28 (f26.2 h9).2
  refine q_ok_ite (fun g32 => ?_) (fun g32 => ?_)
  · have f33 := q_eqV q_evr (show q_eqv ((0 : Int32)).toInt (0) by unfold q_eqv; decide) (q_p_eq g32)
    unfold m_X11_run_51
    exact q_ok_some ⟨hG, (q_wd (show (-1 : Int) ≤ (-1 : Int32).toInt ∧ (-1 : Int32).toInt ≤ (-1 : Int) by decide) (by decide) (by decide))⟩
  · have f34 := q_neV q_evr (show q_eqv ((0 : Int32)).toInt (0) by unfold q_eqv; decide) (q_n_eq g32)
    refine q_ok_atS hG (q_trI mo ro) rfl (fun mo ro => ?_)
    have t35 := g_0_R6 hG mo ro
    have e36 : q_R (S19) o 6 = q_R (S9) o 6 := (q_unR h20 mo ro (by decide))
    refine q_ok_atA hG (Eq.trans e36 ea17) ma17 ra17 rfl ?_
    refine q_ok_b (s_X2_size_36 hn hG.1 ma17 ra17) (fun r37 S38 h39 => ?_)
    obtain ⟨eS38, h39⟩ := h39
    replace eS38 := eS38.symm
    subst eS38
    have f40 := h39
    unfold m_X11_run_51
    exact q_ok_some ⟨hG, (q_wd f40 (by decide) (by decide))⟩
set_option maxHeartbeats 4000000 in
set_option maxRecDepth 100000 in
theorem s_X11_scaled_0 {ρ : Nat → Nat} {L : List Nat} {n : Nat} (hn : 18446744073709551616 ≤ n) {S : q_S} (hI : q_Inv ρ L S) {o : Nat} (mo : o ∈ L) (ro : ρ o = 0) {p0 : Int32} {p1 : Int32} : q_ok (m_X11_scaled n S o p0 p1) (fun r T => T = S) := by
  have hG : q_G ρ L [] S S := q_G_refl hI
  unfold m_X11_scaled
  have z0 : (0 : Int32).toInt = 0 := rfl
  have f1 := q_rVI (x := p1) q_evr
  refine q_ok_ite (fun g2 => ?_) (fun g2 => ?_)
  · have f3 := q_ltV q_evr (show q_eqv ((0 : Int32)).toInt (0) by unfold q_eqv; decide) (q_p_lt g2)
    unfold m_X11_scaled_11
    exact q_ok_some rfl
  · have f4 := q_leV (show q_eqv ((0 : Int32)).toInt (0) by unfold q_eqv; decide) q_evr (q_n_lt g2)
    refine q_ok_ite (fun g5 => ?_) (fun g5 => ?_)
    · have f6 := q_leV q_evr (show q_eqv ((1000 : Int32)).toInt (1000) by unfold q_eqv; decide) (q_p_le g5)
      refine q_ok_atS hG (q_trI mo ro) rfl (fun mo ro => ?_)
      have t7 := g_0_R2 hG mo ro
      refine q_ok_at hG t7 rfl (fun a8 ma8 ra8 ea8 => ?_)
      refine q_ok_b (s_X8_first_6 hn hG.1 ma8 ra8 (q_wd (show (1751474532 : Int) ≤ (1751474532 : Int64).toInt ∧ (1751474532 : Int64).toInt ≤ (1751474532 : Int) by decide) (by decide) (by decide))) (fun r9 S10 h11 => ?_)
      obtain ⟨eS10, h11⟩ := h11
      replace eS10 := eS10.symm
      subst eS10
      refine q_ok_atS hG (q_trI h11.1 h11.2) rfl (fun mr9 rr9 => ?_)
      refine q_ok_b (s_X7_two_8 hn hG.1 mr9 rr9 (q_wd (show (18 : Int) ≤ (18 : Int64).toInt ∧ (18 : Int64).toInt ≤ (18 : Int) by decide) (by decide) (by decide))) (fun r12 S13 h14 => ?_)
      obtain ⟨eS13, h14⟩ := h14
      replace eS13 := eS13.symm
      subst eS13
      have f15 := h14
      refine q_ok_ite (fun g16 => ?_) (fun g16 => ?_)
      · have f17 := q_ltV (show q_eqv ((0 : Int32)).toInt (0) by unfold q_eqv; decide) q_evr (q_p_gt g16)
        obtain ⟨v21, ev21⟩ := q_ev (((2 : Int64) * (r12.toInt64)).toInt)
        obtain ⟨v22, ev22⟩ := q_ev ((r12.toInt64).toInt)
        have f23 : v22 = r12.toInt := q_i2lV ev22 q_evr
        have f24 : v21 = (2) * v22 := q_mulVJ ev21 (show q_eqv ((2 : Int64)).toInt (2) by unfold q_eqv; decide) ev22 (by omega) (by omega)
        refine q_ok_b (s_J9_floorDiv_f86c9 hn hG.1 (q_oV ev21 (by omega) (by omega))) (fun r18 S19 h20 => ?_)
        have eS19 := h20
        replace eS19 := eS19.symm
        subst eS19
        exact q_ok_some rfl
      · have f25 := q_leV q_evr (show q_eqv ((0 : Int32)).toInt (0) by unfold q_eqv; decide) (q_n_gt g16)
        exact q_ok_some rfl
    · have f26 := q_ltV (show q_eqv ((1000 : Int32)).toInt (1000) by unfold q_eqv; decide) q_evr (q_n_le g5)
      unfold m_X11_scaled_11
      exact q_ok_some rfl
set_option maxHeartbeats 4000000 in
set_option maxRecDepth 100000 in
theorem s_X11_sum_0 {ρ : Nat → Nat} {L : List Nat} {n : Nat} (hn : 18446744073709551616 ≤ n) {S : q_S} (hI : q_Inv ρ L S) {o : Nat} (mo : o ∈ L) (ro : ρ o = 0) {p0 : Int32} : q_ok (m_X11_sum n S o p0) (fun r T => T = S ∧ (-1 ≤ r.toInt ∧ r.toInt ≤ 4294967295)) := by
  have hG : q_G ρ L [] S S := q_G_refl hI
  unfold m_X11_sum
  have z0 : (0 : Int32).toInt = 0 := rfl
  refine q_ok_atS hG (q_trI mo ro) rfl (fun mo ro => ?_)
  have t1 := g_0_R2 hG mo ro
  refine q_ok_at hG t1 rfl (fun a2 ma2 ra2 ea2 => ?_)
  refine q_ok_b (s_X8_has_6 hn hG.1 ma2 ra2) (fun r3 S4 h5 => ?_)
  obtain ⟨eS4, h5⟩ := h5
  replace eS4 := eS4.symm
  subst eS4
  have f6 := h5
  have f7 := q_rVI (x := p0) q_evr
  obtain ⟨v8, ev8⟩ := q_ev ((q_I (S) a2 3).toInt)
  have f9 := q_bV ev8 (g_6_I3 hG ma2 ra2)
  have f10 : r3.toInt = 1 → (0) ≤ p0.toInt := fun h9 => q_leV (show q_eqv ((0 : Int32)).toInt (0) by unfold q_eqv; decide) q_evr (f6.2 h9).1
  have f11 : r3.toInt = 1 → p0.toInt < v8 := fun h9 => q_ltV q_evr ev8 (f6.2 h9).2
  refine q_ok_ite (fun g12 => ?_) (fun g12 => ?_)
  · have f13 := q_eqV q_evr (show q_eqv ((0 : Int32)).toInt (0) by unfold q_eqv; decide) (q_p_eq g12)
    unfold m_X11_sum_25
    exact q_ok_some ⟨rfl, (q_wd (show (-1 : Int) ≤ (-1 : Int64).toInt ∧ (-1 : Int64).toInt ≤ (-1 : Int) by decide) (by decide) (by decide))⟩
  · have f14 := q_neV q_evr (show q_eqv ((0 : Int32)).toInt (0) by unfold q_eqv; decide) (q_n_eq g12)
    refine q_ok_atS hG (q_trI mo ro) rfl (fun mo ro => ?_)
    have t15 := g_0_R2 hG mo ro
    refine q_ok_atA hG ea2 ma2 ra2 rfl ?_
    refine q_ok_b (s_X8_totalOf_6 hn hG.1 ma2 ra2 (q_oV q_evr (by omega) (by omega))) (fun r16 S17 h18 => ?_)
    obtain ⟨eS17, h18⟩ := h18
    replace eS17 := eS17.symm
    subst eS17
    have f19 := h18
    unfold m_X11_sum_25
    exact q_ok_some ⟨rfl, (q_wd f19 (by decide) (by decide))⟩
set_option maxHeartbeats 4000000 in
set_option maxRecDepth 100000 in
theorem s_X9_has_3 {ρ : Nat → Nat} {L : List Nat} {n : Nat} (hn : 18446744073709551616 ≤ n) {S : q_S} (hI : q_Inv ρ L S) {o : Nat} (mo : o ∈ L) (ro : ρ o = 3) {p0 : Int32} {p1 : Int32} : q_ok (m_X9_has n S o p0 p1) (fun r T => T = S ∧ (0 ≤ r.toInt ∧ r.toInt ≤ 1) ∧ q_sm ((r.toInt = 1 → (0 : Int32).toInt ≤ p0.toInt ∧ p0.toInt < (q_I (S) o 2).toInt))) := by
  have hG : q_G ρ L [] S S := q_G_refl hI
  unfold m_X9_has
  have z0 : (0 : Int32).toInt = 0 := rfl
  have f1 := q_rVI (x := p0) q_evr
  refine q_ok_ite (fun g2 => ?_) (fun g2 => ?_)
  · have f3 := q_ltV q_evr (show q_eqv ((0 : Int32)).toInt (0) by unfold q_eqv; decide) (q_p_lt g2)
    unfold m_X9_has_25
    unfold m_X9_has_26
    refine q_ok_if (q_b01V (show q_eqv ((0 : Int32)).toInt (0) by unfold q_eqv; decide) (by omega) (by omega)) ?_
    obtain ⟨v4, ev4⟩ := q_ev ((q_I (S) o 2).toInt)
    have f5 := q_rVI (x := q_I (S) o 2) ev4
    exact q_ok_some ⟨rfl, (q_wd (show (0 : Int) ≤ (0 : Int32).toInt ∧ (0 : Int32).toInt ≤ (0 : Int) by decide) (by decide) (by decide)), fun h9 => absurd h9 (by decide)⟩
  · have f6 := q_leV (show q_eqv ((0 : Int32)).toInt (0) by unfold q_eqv; decide) q_evr (q_n_lt g2)
    refine q_ok_atS hG (q_trI mo ro) rfl (fun mo ro => ?_)
    have f7 : q_sm _ := g_3_I2 hG mo ro
    obtain ⟨v8, ev8⟩ := q_ev ((q_I (S) o 2).toInt)
    have f9 := q_bV ev8 f7
    refine q_ok_ite (fun g10 => ?_) (fun g10 => ?_)
    · have f11 := q_leV ev8 q_evr (q_p_ge g10)
      unfold m_X9_has_25
      unfold m_X9_has_26
      refine q_ok_if (q_b01V (show q_eqv ((0 : Int32)).toInt (0) by unfold q_eqv; decide) (by omega) (by omega)) ?_
      exact q_ok_some ⟨rfl, (q_wd (show (0 : Int) ≤ (0 : Int32).toInt ∧ (0 : Int32).toInt ≤ (0 : Int) by decide) (by decide) (by decide)), fun h9 => absurd h9 (by decide)⟩
    · have f12 := q_ltV q_evr ev8 (q_n_ge g10)
      have f13 := q_rVI (x := p1) q_evr
      refine q_ok_ite (fun g14 => ?_) (fun g14 => ?_)
      · have f15 := q_eqV q_evr (show q_eqv ((0 : Int32)).toInt (0) by unfold q_eqv; decide) (q_p_eq g14)
        unfold m_X9_has_21
        unfold m_X9_has_26
        refine q_ok_if (q_b01V (show q_eqv ((1 : Int32)).toInt (1) by unfold q_eqv; decide) (by omega) (by omega)) ?_
        exact q_ok_some ⟨rfl, (q_wd (show (1 : Int) ≤ (1 : Int32).toInt ∧ (1 : Int32).toInt ≤ (1 : Int) by decide) (by decide) (by decide)), fun _ => ⟨(q_geW q_evr (show q_eqv ((0 : Int32)).toInt (0) by unfold q_eqv; decide) (by omega)), (q_ltW q_evr ev8 (by omega))⟩⟩
      · have f16 := q_neV q_evr (show q_eqv ((0 : Int32)).toInt (0) by unfold q_eqv; decide) (q_n_eq g14)
        refine q_ok_ite (fun g17 => ?_) (fun g17 => ?_)
        · have f18 := q_eqV q_evr (show q_eqv ((1 : Int32)).toInt (1) by unfold q_eqv; decide) (q_p_eq g17)
          unfold m_X9_has_21
          unfold m_X9_has_26
          refine q_ok_if (q_b01V (show q_eqv ((1 : Int32)).toInt (1) by unfold q_eqv; decide) (by omega) (by omega)) ?_
          exact q_ok_some ⟨rfl, (q_wd (show (1 : Int) ≤ (1 : Int32).toInt ∧ (1 : Int32).toInt ≤ (1 : Int) by decide) (by decide) (by decide)), fun _ => ⟨(q_geW q_evr (show q_eqv ((0 : Int32)).toInt (0) by unfold q_eqv; decide) (by omega)), (q_ltW q_evr ev8 (by omega))⟩⟩
        · have f19 := q_neV q_evr (show q_eqv ((1 : Int32)).toInt (1) by unfold q_eqv; decide) (q_n_eq g17)
          unfold m_X9_has_25
          unfold m_X9_has_26
          refine q_ok_if (q_b01V (show q_eqv ((0 : Int32)).toInt (0) by unfold q_eqv; decide) (by omega) (by omega)) ?_
          exact q_ok_some ⟨rfl, (q_wd (show (0 : Int) ≤ (0 : Int32).toInt ∧ (0 : Int32).toInt ≤ (0 : Int) by decide) (by decide) (by decide)), fun h9 => absurd h9 (by decide)⟩
set_option maxHeartbeats 4000000 in
set_option maxRecDepth 100000 in
theorem s_X9_get_3 {ρ : Nat → Nat} {L : List Nat} {n : Nat} (hn : 18446744073709551616 ≤ n) {S : q_S} (hI : q_Inv ρ L S) {o : Nat} (mo : o ∈ L) (ro : ρ o = 3) {p0 : Int32} (hp0 : (0 ≤ p0.toInt ∧ p0.toInt ≤ 100)) {p1 : Int32} : q_ok (m_X9_get n S o p0 p1) (fun r T => T = S ∧ (0 ≤ r.toInt ∧ r.toInt ≤ 65535)) := by
  have hG : q_G ρ L [] S S := q_G_refl hI
  unfold m_X9_get
  have z0 : (0 : Int32).toInt = 0 := rfl
  refine q_ok_atS hG (q_trI mo ro) rfl (fun mo ro => ?_)
  refine q_ok_b (s_X9_has_3 hn hG.1 mo ro) (fun r1 S2 h3 => ?_)
  obtain ⟨eS2, h3⟩ := h3
  replace eS2 := eS2.symm
  subst eS2
  have f4 := h3
  obtain ⟨v5, ev5⟩ := q_ev ((q_I (S) o 2).toInt)
  have f6 := q_bV ev5 (g_3_I2 hG mo ro)
  have f7 : r1.toInt = 1 → (0) ≤ p0.toInt := fun h9 => q_leV (show q_eqv ((0 : Int32)).toInt (0) by unfold q_eqv; decide) q_evr (f4.2 h9).1
  have f8 : r1.toInt = 1 → p0.toInt < v5 := fun h9 => q_ltV q_evr ev5 (f4.2 h9).2
  refine q_ok_ite (fun g9 => ?_) (fun g9 => ?_)
  · have f10 := q_eqV q_evr (show q_eqv ((0 : Int32)).toInt (0) by unfold q_eqv; decide) (q_p_eq g9)
    exact q_ok_some ⟨rfl, (q_wd (show (0 : Int) ≤ (0 : Int32).toInt ∧ (0 : Int32).toInt ≤ (0 : Int) by decide) (by decide) (by decide))⟩
  · have f11 := q_neV q_evr (show q_eqv ((0 : Int32)).toInt (0) by unfold q_eqv; decide) (q_n_eq g9)
    have f12 := q_rVI (x := p1) q_evr
    refine q_ok_ite (fun g13 => ?_) (fun g13 => ?_)
    · have f14 := q_eqV q_evr (show q_eqv ((0 : Int32)).toInt (0) by unfold q_eqv; decide) (q_p_eq g13)
      refine q_ok_atS hG (q_trI mo ro) rfl (fun mo ro => ?_)
      have t15 := g_3_R0 hG mo ro
      refine q_ok_at hG t15 rfl (fun a16 ma16 ra16 ea16 => ?_)
      refine q_ok_if (q_inV (g_4_N hG ma16 ra16) q_evr (by omega) (by omega)) ?_
      have f17 : q_sm _ := g_4_E hG ma16 ra16 (k := (p0).toNatClampNeg)
      unfold m_X9_get_30
      exact q_ok_some ⟨rfl, (q_wd f17 (by decide) (by decide))⟩
    · have f18 := q_neV q_evr (show q_eqv ((0 : Int32)).toInt (0) by unfold q_eqv; decide) (q_n_eq g13)
      refine q_ok_atS hG (q_trI mo ro) rfl (fun mo ro => ?_)
      have t19 := g_3_R1 hG mo ro
      refine q_ok_at hG t19 rfl (fun a20 ma20 ra20 ea20 => ?_)
      refine q_ok_if (q_inV (g_5_N hG ma20 ra20) q_evr (by omega) (by omega)) ?_
      have f21 : q_sm _ := g_5_E hG ma20 ra20 (k := (p0).toNatClampNeg)
      unfold m_X9_get_30
      exact q_ok_some ⟨rfl, (q_wd f21 (by decide) (by decide))⟩
set_option maxHeartbeats 4000000 in
set_option maxRecDepth 100000 in
theorem s_X9_size_3 {ρ : Nat → Nat} {L : List Nat} {n : Nat} (hn : 18446744073709551616 ≤ n) {S : q_S} (hI : q_Inv ρ L S) {o : Nat} (mo : o ∈ L) (ro : ρ o = 3) : q_ok (m_X9_size n S o) (fun r T => T = S ∧ (0 ≤ r.toInt ∧ r.toInt ≤ 100)) := by
  have hG : q_G ρ L [] S S := q_G_refl hI
  unfold m_X9_size
  have z0 : (0 : Int32).toInt = 0 := rfl
  refine q_ok_atS hG (q_trI mo ro) rfl (fun mo ro => ?_)
  have f1 : q_sm _ := g_3_I2 hG mo ro
  exact q_ok_some ⟨rfl, (q_wd f1 (by decide) (by decide))⟩
set_option maxHeartbeats 4000000 in
set_option maxRecDepth 100000 in
theorem s_X11_told_0 {ρ : Nat → Nat} {L : List Nat} {n : Nat} (hn : 18446744073709551616 ≤ n) {S : q_S} (hI : q_Inv ρ L S) {o : Nat} (mo : o ∈ L) (ro : ρ o = 0) {p0 : Int32} {p1 : Int32} : q_ok (m_X11_told n S o p0 p1) (fun _ T => T = S) := by
  have hG : q_G ρ L [] S S := q_G_refl hI
  unfold m_X11_told
  have z0 : (0 : Int32).toInt = 0 := rfl
  have f1 := q_rVI (x := p0) q_evr
  refine q_ok_ite (fun g2 => ?_) (fun g2 => ?_)
  · have f3 := q_eqV q_evr (show q_eqv ((-1 : Int32)).toInt (-1) by unfold q_eqv; decide) (q_p_eq g2)
    refine q_ok_atS hG (q_trI mo ro) rfl (fun mo ro => ?_)
    have t4 := g_0_R1 hG mo ro
    refine q_ok_at hG t4 rfl (fun a5 ma5 ra5 ea5 => ?_)
    refine q_ok_b (s_X9_size_3 hn hG.1 ma5 ra5) (fun r6 S7 h8 => ?_)
    obtain ⟨eS7, h8⟩ := h8
    replace eS7 := eS7.symm
    subst eS7
    have f9 := h8
    exact q_ok_some rfl
  · have f10 := q_neV q_evr (show q_eqv ((-1 : Int32)).toInt (-1) by unfold q_eqv; decide) (q_n_eq g2)
    refine q_ok_atS hG (q_trI mo ro) rfl (fun mo ro => ?_)
    have t11 := g_0_R1 hG mo ro
    refine q_ok_at hG t11 rfl (fun a12 ma12 ra12 ea12 => ?_)
    refine q_ok_b (s_X9_has_3 hn hG.1 ma12 ra12) (fun r13 S14 h15 => ?_)
    obtain ⟨eS14, h15⟩ := h15
    replace eS14 := eS14.symm
    subst eS14
    have f16 := h15
    obtain ⟨v17, ev17⟩ := q_ev ((q_I (S) a12 2).toInt)
    have f18 := q_bV ev17 (g_3_I2 hG ma12 ra12)
    have f19 : r13.toInt = 1 → (0) ≤ p0.toInt := fun h9 => q_leV (show q_eqv ((0 : Int32)).toInt (0) by unfold q_eqv; decide) q_evr (f16.2 h9).1
    have f20 : r13.toInt = 1 → p0.toInt < v17 := fun h9 => q_ltV q_evr ev17 (f16.2 h9).2
    refine q_ok_ite (fun g21 => ?_) (fun g21 => ?_)
    · have f22 := q_eqV q_evr (show q_eqv ((0 : Int32)).toInt (0) by unfold q_eqv; decide) (q_p_eq g21)
      exact q_ok_some rfl
    · have f23 := q_neV q_evr (show q_eqv ((0 : Int32)).toInt (0) by unfold q_eqv; decide) (q_n_eq g21)
      refine q_ok_atS hG (q_trI mo ro) rfl (fun mo ro => ?_)
      have t24 := g_0_R1 hG mo ro
      refine q_ok_atA hG ea12 ma12 ra12 rfl ?_
      refine q_ok_b (s_X9_get_3 hn hG.1 ma12 ra12 (q_oV q_evr (by omega) (by omega))) (fun r25 S26 h27 => ?_)
      obtain ⟨eS26, h27⟩ := h27
      replace eS26 := eS26.symm
      subst eS26
      have f28 := h27
      exact q_ok_some rfl
set_option maxHeartbeats 4000000 in
set_option maxRecDepth 100000 in
theorem s_X11_width_0 {ρ : Nat → Nat} {L : List Nat} {n : Nat} (hn : 18446744073709551616 ≤ n) {S : q_S} (hI : q_Inv ρ L S) {o : Nat} (mo : o ∈ L) (ro : ρ o = 0) {p0 : Int32} : q_ok (m_X11_width n S o p0) (fun r T => T = S ∧ (0 ≤ r.toInt ∧ r.toInt ≤ 65535)) := by
  have hG : q_G ρ L [] S S := q_G_refl hI
  unfold m_X11_width
  have z0 : (0 : Int32).toInt = 0 := rfl
  refine q_ok_atS hG (q_trI mo ro) rfl (fun mo ro => ?_)
  have t1 := g_0_R2 hG mo ro
  refine q_ok_at hG t1 rfl (fun a2 ma2 ra2 ea2 => ?_)
  refine q_ok_b (s_X8_first_6 hn hG.1 ma2 ra2 (q_wd (show (1751672161 : Int) ≤ (1751672161 : Int64).toInt ∧ (1751672161 : Int64).toInt ≤ (1751672161 : Int) by decide) (by decide) (by decide))) (fun r3 S4 h5 => ?_)
  obtain ⟨eS4, h5⟩ := h5
  replace eS4 := eS4.symm
  subst eS4
  refine q_ok_atS hG (q_trI h5.1 h5.2) rfl (fun mr3 rr3 => ?_)
  refine q_ok_b (s_X7_two_8 hn hG.1 mr3 rr3 (q_wd (show (34 : Int) ≤ (34 : Int64).toInt ∧ (34 : Int64).toInt ≤ (34 : Int) by decide) (by decide) (by decide))) (fun r6 S7 h8 => ?_)
  obtain ⟨eS7, h8⟩ := h8
  replace eS7 := eS7.symm
  subst eS7
  have f9 := h8
  refine q_ok_atS hG (q_trI mo ro) rfl (fun mo ro => ?_)
  have t10 := g_0_R3 hG mo ro
  refine q_ok_at hG t10 rfl (fun a11 ma11 ra11 ea11 => ?_)
  refine q_ok_b (s_X6_has_9 hn hG.1 ma11 ra11) (fun r12 S13 h14 => ?_)
  obtain ⟨eS13, h14⟩ := h14
  replace eS13 := eS13.symm
  subst eS13
  have f15 := h14
  have f16 := q_rVI (x := p0) q_evr
  obtain ⟨v17, ev17⟩ := q_ev ((q_I (S) a11 5).toInt)
  have f18 := q_bV ev17 (g_9_I5 hG ma11 ra11)
  have f19 : r12.toInt = 1 → (0) ≤ p0.toInt := fun h9 => q_leV (show q_eqv ((0 : Int32)).toInt (0) by unfold q_eqv; decide) q_evr (f15.2 h9).1
  have f20 : r12.toInt = 1 → p0.toInt < v17 := fun h9 => q_ltV q_evr ev17 (f15.2 h9).2
  refine q_ok_ite (fun g21 => ?_) (fun g21 => ?_)
  · have f22 := q_eqV q_evr (show q_eqv ((0 : Int32)).toInt (0) by unfold q_eqv; decide) (q_p_eq g21)
    unfold m_X11_width_32
    exact q_ok_some ⟨rfl, (q_wd (show (0 : Int) ≤ (0 : Int32).toInt ∧ (0 : Int32).toInt ≤ (0 : Int) by decide) (by decide) (by decide))⟩
  · have f23 := q_neV q_evr (show q_eqv ((0 : Int32)).toInt (0) by unfold q_eqv; decide) (q_n_eq g21)
    refine q_ok_ite (fun g24 => ?_) (fun g24 => ?_)
    · have f25 := q_ltV (show q_eqv ((0 : Int32)).toInt (0) by unfold q_eqv; decide) q_evr (q_p_gt g24)
      refine q_ok_atS hG (q_trI mo ro) rfl (fun mo ro => ?_)
      have t26 := g_0_R2 hG mo ro
      refine q_ok_atA hG ea2 ma2 ra2 rfl ?_
      refine q_ok_b (s_X8_first_6 hn hG.1 ma2 ra2 (q_wd (show (1752003704 : Int) ≤ (1752003704 : Int64).toInt ∧ (1752003704 : Int64).toInt ≤ (1752003704 : Int) by decide) (by decide) (by decide))) (fun r27 S28 h29 => ?_)
      obtain ⟨eS28, h29⟩ := h29
      replace eS28 := eS28.symm
      subst eS28
      obtain ⟨v33, ev33⟩ := q_ev ((r6 - (1 : Int32)).toInt)
      have f34 : v33 = r6.toInt - (1) := q_subVI ev33 q_evr (show q_eqv ((1 : Int32)).toInt (1) by unfold q_eqv; decide) (by omega) (by omega)
      refine q_ok_b (s_J9_min_7cf53 n _ _ _) (fun r30 S31 h32 => ?_)
      obtain ⟨eS31, h32⟩ := h32
      replace h32 := q_mmVN q_evr ev33 h32
      replace eS31 := eS31.symm
      subst eS31
      refine q_ok_atS hG (q_trI h29.1 h29.2) rfl (fun mr27 rr27 => ?_)
      obtain ⟨v38, ev38⟩ := q_ev (((4 : Int64) * (r30.toInt64)).toInt)
      obtain ⟨v39, ev39⟩ := q_ev ((r30.toInt64).toInt)
      have f40 : v39 = r30.toInt := q_i2lV ev39 q_evr
      have f41 : v38 = (4) * v39 := q_mulVJ ev38 (show q_eqv ((4 : Int64)).toInt (4) by unfold q_eqv; decide) ev39 (by omega) (by omega)
      have f42 := q_rVJ (X := (4 : Int64) * (r30.toInt64)) ev38
      refine q_ok_b (s_X7_two_8 hn hG.1 mr27 rr27 (q_oV ev38 (by omega) (by omega))) (fun r35 S36 h37 => ?_)
      obtain ⟨eS36, h37⟩ := h37
      replace eS36 := eS36.symm
      subst eS36
      have f43 := h37
      refine q_ok_ite (fun g44 => ?_) (fun g44 => ?_)
      · have f45 := q_eqV q_evr (show q_eqv ((-1 : Int32)).toInt (-1) by unfold q_eqv; decide) (q_p_eq g44)
        unfold m_X11_width_70
        exact q_ok_some ⟨rfl, (q_wd (show (0 : Int) ≤ (0 : Int32).toInt ∧ (0 : Int32).toInt ≤ (0 : Int) by decide) (by decide) (by decide))⟩
      · have f46 := q_neV q_evr (show q_eqv ((-1 : Int32)).toInt (-1) by unfold q_eqv; decide) (q_n_eq g44)
        unfold m_X11_width_70
        exact q_ok_some ⟨rfl, (q_oV q_evr (by omega) (by omega))⟩
    · have f47 := q_leV q_evr (show q_eqv ((0 : Int32)).toInt (0) by unfold q_eqv; decide) (q_n_gt g24)
      unfold m_X11_width_32
      exact q_ok_some ⟨rfl, (q_wd (show (0 : Int) ≤ (0 : Int32).toInt ∧ (0 : Int32).toInt ≤ (0 : Int) by decide) (by decide) (by decide))⟩
def M_X11_write_0 : List Nat := [2440, 2497, 2560, 2624, 2688, 2752, 2817, 2818, 2819, 2820]
set_option maxHeartbeats 4000000 in
set_option maxRecDepth 100000 in
theorem s_X11_write_0 {ρ : Nat → Nat} {L : List Nat} {n : Nat} (hn : 18446744073709551616 ≤ n) {S : q_S} (hI : q_Inv ρ L S) {o : Nat} (mo : o ∈ L) (ro : ρ o = 0) : q_ok (m_X11_write n S o) (fun r T => q_G ρ L M_X11_write_0 S T ∧ (-1 ≤ r.toInt ∧ r.toInt ≤ 2400)) := by
  have hG : q_G ρ L M_X11_write_0 S S := q_G_refl hI
  unfold m_X11_write
  have z0 : (0 : Int32).toInt = 0 := rfl
  refine q_ok_atS hG (q_trI mo ro) rfl (fun mo ro => ?_)
  have t1 := g_0_R7 hG mo ro
  refine q_ok_at hG t1 rfl (fun a2 ma2 ra2 ea2 => ?_)
  refine q_ok_b (s_X10_make_38 hn hG.1 ma2 ra2) (fun r3 S4 h5 => ?_)
  have hG := q_G_call hG h5.1 (by decide)
  have f6 := h5.2
  exact q_ok_some ⟨hG, (q_wd f6 (by decide) (by decide))⟩
