def M_X5_shapeParts_14_31 : List Nat := [194, 256, 320, 905, 964, 965, 1024, 1088, 1152, 1216, 1664, 1728, 1856, 1986, 1987, 1990, 1991, 1992, 1993, 1994, 1995, 1996, 1997, 2049, 2050, 2051, 2052, 2053, 2054, 2055, 2056, 2057, 2058, 2059, 2060, 2061, 2113, 2114, 2115, 2116, 2117, 2118, 2119, 2120, 2121, 2122, 2123, 2124, 2125, 2177, 2178, 2179, 2180, 2181, 2182, 2183, 2184, 2185, 2186, 2187, 2188, 2189, 2241, 2242, 2243, 2244, 2245, 2246, 2247, 2248, 2249, 2250, 2251, 2252, 2253]
set_option maxHeartbeats 4000000 in
set_option maxRecDepth 100000 in
theorem s_X5_shapeParts_14_31_55 {ρ : Nat → Nat} {L : List Nat} {n : Nat} (hn : 18446744073709551616 ≤ n) {S0 : q_S}  (S : q_S) (hG : q_G ρ L M_X5_shapeParts_14_31 S0 S) : q_ok (m_X5_shapeParts_55 (m_X5_shapeD n 5) n S) (fun r T => q_G ρ L M_X5_shapeParts_14_31 S0 T ∧ (0 ≤ r.toInt ∧ r.toInt ≤ 1)) := by
  unfold m_X5_shapeParts_55
  have z0 : (0 : Int32).toInt = 0 := rfl
  refine q_ok_if (q_b01V (show q_eqv ((1 : Int32)).toInt (1) by unfold q_eqv; decide) (by omega) (by omega)) ?_
  exact q_ok_some ⟨hG, (q_wd (show (1 : Int) ≤ (1 : Int32).toInt ∧ (1 : Int32).toInt ≤ (1 : Int) by decide) (by decide) (by decide))⟩
set_option maxHeartbeats 4000000 in
set_option maxRecDepth 100000 in
theorem s_X5_shapeParts_14_31_14 {ρ : Nat → Nat} {L : List Nat} {n : Nat} (hn : 18446744073709551616 ≤ n) {dT : Option Nat} {S0 : q_S}  : ∀ (k : Nat) (S : q_S) (l0 : Option Nat) (l1 : Int32) (l2 : Option Nat) (l3 : Int32) (l4 : Int32) (l5 : Int32), q_G ρ L M_X5_shapeParts_14_31 S0 S → q_tr ρ L l0 14 → (1 ≤ l1.toInt ∧ l1.toInt ≤ 1) → q_tr ρ L l2 31 → (0 ≤ l3.toInt ∧ l3.toInt ≤ 120) → (0 ≤ l4.toInt ∧ l4.toInt ≤ 1) → (0 ≤ l5.toInt ∧ l5.toInt ≤ 1600) → q_tr ρ L dT 31 → (∀ a, dT = some a → (q_J S a 3).toInt ≤ (q_J S0 a 3).toInt + 16 * l5.toInt + 0 ∧ (q_J S0 a 3).toInt ≤ 140737488355328) → l2 = dT → 2147483648 - l5.toInt ≤ (k : Int) → q_ok (m_X5_shapeParts_14 (m_X5_shapeD n 5) n k S l0 l1 l2 l3 l4 l5) (fun r T => q_G ρ L M_X5_shapeParts_14_31 S0 T ∧ (0 ≤ r.toInt ∧ r.toInt ≤ 1)) := by
  intro k
  induction k with
  | zero =>
    intro S l0 l1 l2 l3 l4 l5 hG hl0 hl1 hl2 hl3 hl4 hl5 htT hT hd hm
    have f0 := q_rngI l5
    exfalso; omega
  | succ k ih =>
    intro S l0 l1 l2 l3 l4 l5 hG hl0 hl1 hl2 hl3 hl4 hl5 htT hT hd hm
    rw [m_X5_shapeParts_14]
    have z0 : (0 : Int32).toInt = 0 := rfl
    subst hd
    obtain ⟨aT, eaT, maT, raT⟩ := id htT
    have f1 : q_sm _ := g_31_J3 hG maT raT
    obtain ⟨v2, ev2⟩ := q_ev ((q_J (S) aT 3).toInt)
    have f3 := q_bV ev2 f1
    obtain ⟨v4, ev4⟩ := q_ev ((q_J (S0) aT 3).toInt)
    have f5 := q_rVJ (X := q_J (S0) aT 3) ev4
    have f6 := q_le3v (K9 := 16) (E9 := 0) ev2 ev4 q_evr (hT aT eaT).1
    have f7 := q_leCv ev4 (hT aT eaT).2
    refine q_ok_ite (fun g8 => ?_) (fun g8 => ?_)
    · have f9 := q_leV (show q_eqv ((1600 : Int32)).toInt (1600) by unfold q_eqv; decide) q_evr (q_p_ge g8)
      exact s_X5_shapeParts_14_31_55 hn _ hG 
    · have f10 := q_ltV q_evr (show q_eqv ((1600 : Int32)).toInt (1600) by unfold q_eqv; decide) (q_n_ge g8)
      refine q_ok_ite (fun g11 => ?_) (fun g11 => ?_)
      · have f12 := q_eqV q_evr (show q_eqv ((0 : Int32)).toInt (0) by unfold q_eqv; decide) (q_p_eq g11)
        exact s_X5_shapeParts_14_31_55 hn _ hG 
      · have f13 := q_neV q_evr (show q_eqv ((0 : Int32)).toInt (0) by unfold q_eqv; decide) (q_n_eq g11)
        refine q_ok_atA hG eaT maT raT rfl ?_
        refine q_ok_b (s_X1_nextPart_31 hn hG.1 maT raT (q_leC ev2 (by omega))) (fun r14 S15 h16 => ?_)
        have hG := q_G_call hG h16.1 (by decide)
        have f17 := h16.2.1
        have f18 : q_sm _ := g_31_J3 hG maT raT
        obtain ⟨v19, ev19⟩ := q_ev ((q_J (S15) aT 3).toInt)
        have f20 := q_bV ev19 f18
        have f21 := q_leDv ev19 ev2 (h16.2.2)
        refine q_ok_ite (fun g22 => ?_) (fun g22 => ?_)
        · have f23 := q_eqV q_evr (show q_eqv ((0 : Int32)).toInt (0) by unfold q_eqv; decide) (q_p_eq g22)
          refine q_ok_if (q_b01V (show q_eqv ((0 : Int32)).toInt (0) by unfold q_eqv; decide) (by omega) (by omega)) ?_
          exact q_ok_some ⟨hG, (q_wd (show (0 : Int) ≤ (0 : Int32).toInt ∧ (0 : Int32).toInt ≤ (0 : Int) by decide) (by decide) (by decide))⟩
        · have f24 := q_neV q_evr (show q_eqv ((0 : Int32)).toInt (0) by unfold q_eqv; decide) (q_n_eq g22)
          refine q_ok_at hG hl0 rfl (fun a25 ma25 ra25 ea25 => ?_)
          refine q_ok_b (s_X5_shapePart_14_31 hn hG.1 ma25 ra25 (q_wd hl1 (by decide) (by decide)) hl2 (q_wd hl3 (by decide) (by decide))) (fun r26 S27 h28 => ?_)
          have hG := q_G_call hG h28 (by decide)
          refine q_ok_atA hG eaT maT raT rfl ?_
          refine q_ok_b (s_X1_hasMore_31 hn hG.1 maT raT) (fun r29 S30 h31 => ?_)
          obtain ⟨eS30, h31⟩ := h31
          replace eS30 := eS30.symm
          subst eS30
          have f32 := h31
          obtain ⟨v33, ev33⟩ := q_ev ((l5 + (1)).toInt)
          have f34 : v33 = l5.toInt + (1) := q_addVI ev33 q_evr (show q_eqv ((1 : Int32)).toInt (1) by unfold q_eqv; decide) (by omega) (by omega)
          have e35 : q_J (S27) aT 3 = q_J (S15) aT 3 := (q_unJ h28 maT raT (by decide))
          obtain ⟨v36, ev36⟩ := q_ev ((q_J (S27) aT 3).toInt)
          have f37 : v36 = v19 := q_eqVJ e35 ev36 ev19
          exact ih _ _ _ _ _ _ _ hG hl0 (q_wd hl1 (by decide) (by decide)) hl2 (q_wd hl3 (by decide) (by decide)) (q_wd f32 (by decide) (by decide)) (q_oV ev33 (by omega) (by omega)) (q_trE eaT maT raT) (q_trk eaT ⟨q_le3 (K9 := 16) (E9 := 0) ev36 ev4 ev33 (by omega), q_leC ev4 (by omega)⟩) (by first | rfl | exact hd)  (q_upV ev33 (by omega))
set_option maxHeartbeats 4000000 in
set_option maxRecDepth 100000 in
theorem s_X5_shapeParts_14_31 {ρ : Nat → Nat} {L : List Nat} {n : Nat} (hn : 18446744073709551616 ≤ n) {S : q_S} (hI : q_Inv ρ L S) {o : Nat} (mo : o ∈ L) (ro : ρ o = 14) {p0 : Int32} (hp0 : (1 ≤ p0.toInt ∧ p0.toInt ≤ 1)) {p1 : Option Nat} (tp1 : q_tr ρ L p1 31) (ht : ∀ a, p1 = some a → (q_J S a 3).toInt ≤ 140737488355328) : q_ok (m_X5_shapeParts (m_X5_shapeD n 5) n S o p0 p1) (fun r T => q_G ρ L M_X5_shapeParts_14_31 S T ∧ (0 ≤ r.toInt ∧ r.toInt ≤ 1)) := by
  have hG : q_G ρ L M_X5_shapeParts_14_31 S S := q_G_refl hI
  unfold m_X5_shapeParts
  have z0 : (0 : Int32).toInt = 0 := rfl
  obtain ⟨aT, eaT, maT, raT⟩ := id tp1
  have f1 : q_sm _ := g_31_J3 hG maT raT
  obtain ⟨v2, ev2⟩ := q_ev ((q_J (S) aT 3).toInt)
  have f3 := q_bV ev2 f1
  have f4 := q_leCv ev2 (ht aT eaT)
  refine q_ok_atS hG (q_trI mo ro) rfl (fun mo ro => ?_)
  have t5 := g_14_R2 hG mo ro
  refine q_ok_at hG t5 rfl (fun a6 ma6 ra6 ea6 => ?_)
  refine q_ok_b (s_X3_size_15 hn hG.1 ma6 ra6) (fun r7 S8 h9 => ?_)
  obtain ⟨eS8, h9⟩ := h9
  replace eS8 := eS8.symm
  subst eS8
  have f10 := h9
  exact s_X5_shapeParts_14_31_14 hn n _ _ _ _ _ _ _ hG (q_trI mo ro) (q_wd hp0 (by decide) (by decide)) tp1 (q_wd f10 (by decide) (by decide)) (q_wd (show (1 : Int) ≤ (1 : Int32).toInt ∧ (1 : Int32).toInt ≤ (1 : Int) by decide) (by decide) (by decide)) (q_wd (show (0 : Int) ≤ (0 : Int32).toInt ∧ (0 : Int32).toInt ≤ (0 : Int) by decide) (by decide) (by decide)) (q_trE eaT maT raT) (q_trk eaT ⟨q_le3 (K9 := 16) (E9 := 0) ev2 ev2 (show q_eqv ((0 : Int32)).toInt (0) by unfold q_eqv; decide) (by omega), q_leC ev2 (by omega)⟩) (by first | rfl | exact hd)  (q_upV (show q_eqv ((0 : Int32)).toInt (0) by unfold q_eqv; decide) (by omega))
def M_X5_shape_14_k1 : List Nat := [194, 256, 320, 905, 964, 965, 1024, 1088, 1152, 1216, 1664, 1728, 1856, 1985, 1986, 1987, 1988, 1989, 1990, 1991, 1992, 1993, 1994, 1995, 1996, 1997, 2049, 2050, 2051, 2052, 2053, 2054, 2055, 2056, 2057, 2058, 2059, 2060, 2061, 2113, 2114, 2115, 2116, 2117, 2118, 2119, 2120, 2121, 2122, 2123, 2124, 2125, 2177, 2178, 2179, 2180, 2181, 2182, 2183, 2184, 2185, 2186, 2187, 2188, 2189, 2241, 2242, 2243, 2244, 2245, 2246, 2247, 2248, 2249, 2250, 2251, 2252, 2253]
set_option maxHeartbeats 4000000 in
set_option maxRecDepth 100000 in
theorem s_X5_shape_14_k1_130 {ρ : Nat → Nat} {L : List Nat} {n : Nat} (hn : 18446744073709551616 ≤ n) {S0 : q_S}  (S : q_S) (hG : q_G ρ L M_X5_shape_14_k1 S0 S) : q_ok (m_X5_shapeR_130 (m_X5_shapeD n 5) n S) (fun _ T => q_G ρ L M_X5_shape_14_k1 S0 T) := by
  unfold m_X5_shapeR_130
  have z0 : (0 : Int32).toInt = 0 := rfl
  exact q_ok_some hG
set_option maxHeartbeats 4000000 in
set_option maxRecDepth 100000 in
theorem s_X5_shape_14_k1 {ρ : Nat → Nat} {L : List Nat} {n : Nat} (hn : 18446744073709551616 ≤ n) {S : q_S} (hI : q_Inv ρ L S) {o : Nat} (mo : o ∈ L) (ro : ρ o = 14) {p0 : Int32} (hp0 : (1 ≤ p0.toInt ∧ p0.toInt ≤ 1)) {p1 : Int32} (hp1 : (0 ≤ p1.toInt ∧ p1.toInt ≤ 199)) : q_ok (m_X5_shapeD n 6 S o p0 p1) (fun _ T => q_G ρ L M_X5_shape_14_k1 S T) := by
  have hG : q_G ρ L M_X5_shape_14_k1 S S := q_G_refl hI
  show q_ok (m_X5_shapeD n (5 + 1) S o p0 p1) _
  rw [m_X5_shapeD]
  unfold m_X5_shapeR
  have z0 : (0 : Int32).toInt = 0 := rfl
  refine q_ok_ite (fun g1 => ?_) (fun g1 => ?_)
  · have f2 := q_ltV q_evr (show q_eqv ((0 : Int32)).toInt (0) by unfold q_eqv; decide) (q_p_lt g1)
    exfalso; omega
  · have f3 := q_leV (show q_eqv ((0 : Int32)).toInt (0) by unfold q_eqv; decide) q_evr (q_n_lt g1)
    refine q_ok_ite (fun g4 => ?_) (fun g4 => ?_)
    · have f5 := q_leV q_evr (show q_eqv ((5 : Int32)).toInt (5) by unfold q_eqv; decide) (q_p_le g4)
      refine q_ok_atS hG (q_trI mo ro) rfl (fun mo ro => ?_)
      have t6 := g_14_R4 hG mo ro
      refine q_ok_at hG t6 rfl (fun a7 ma7 ra7 ea7 => ?_)
      refine q_ok_if (q_inV (g_25_N hG ma7 ra7) q_evr (by omega) (by omega)) ?_
      have t8 := g_25_RK1 hG ma7 ra7 (k := (p0).toNatClampNeg) (q_idxK q_evr (by omega))
      have t9 := g_14_R0 hG mo ro
      refine q_ok_at hG t9 rfl (fun a10 ma10 ra10 ea10 => ?_)
      obtain ⟨a14, ea14, ma14, ra14⟩ := id t8
      have f15 : q_sm _ := g_31_J3 hG ma14 ra14
      refine q_ok_b (s_X6_open_9_31 hn hG.1 ma10 ra10 (q_wd hp1 (by decide) (by decide)) t8) (fun r11 S12 h13 => ?_)
      have hG := q_G_call hG h13.1 (by decide)
      have f16 : q_sm _ := g_31_J3 hG ma14 ra14
      obtain ⟨v17, ev17⟩ := q_ev ((q_J (S12) a14 3).toInt)
      have f18 := q_bV ev17 f16
      obtain ⟨v19, ev19⟩ := q_ev ((q_J (S) a14 3).toInt)
      have f20 := q_bV ev19 f15
      have f21 := q_leCv ev17 (h13.2 _ ea14)
      refine q_ok_atA hG ea14 ma14 ra14 rfl ?_
      refine q_ok_b (s_X1_isEmpty_31 hn hG.1 ma14 ra14) (fun r22 S23 h24 => ?_)
      obtain ⟨eS23, h24⟩ := h24
      replace eS23 := eS23.symm
      subst eS23
      have f25 := h24
      refine q_ok_ite (fun g26 => ?_) (fun g26 => ?_)
      · have f27 := q_eqV q_evr (show q_eqv ((0 : Int32)).toInt (0) by unfold q_eqv; decide) (q_p_eq g26)
        refine q_ok_atS hG (q_trI mo ro) rfl (fun mo ro => ?_)
        have t28 := g_14_R5 hG mo ro
        refine q_ok_at hG t28 rfl (fun a29 ma29 ra29 ea29 => ?_)
        refine q_ok_if (q_inV (g_26_N hG ma29 ra29) q_evr (by omega) (by omega)) ?_
        have hG := u_26_E (k := (p0).toNatClampNeg) (x := p1) hG ma29 ra29 (by decide) (q_wd hp1 (by decide) (by decide))
        have hG := u_14_I9 (x := (q_I (q_sI (S12) a29 (p0).toNatClampNeg (p1)) o 9) + (1 : Int32)) hG mo ro (by decide)
        refine q_ok_let (fun S30 eS30 => ?_)
        rw [← eS30] at hG
        have t31 := g_14_R6 hG mo ro
        have e32 : q_I (S30) o 9 = (q_I (q_sI (S12) a29 (p0).toNatClampNeg (p1)) o 9) + (1 : Int32) := (Eq.trans (q_leI eS30) q_hitI)
        refine q_ok_at hG t31 rfl (fun a33 ma33 ra33 ea33 => ?_)
        refine q_ok_if (q_inV (g_27_N hG ma33 ra33) q_evr (by omega) (by omega)) ?_
        have hG := u_27_E (k := (p0).toNatClampNeg) (x := q_I (S30) o 9) hG ma33 ra33 (by decide)
        have t34 := g_14_R2 hG mo ro
        refine q_ok_at hG t34 rfl (fun a35 ma35 ra35 ea35 => ?_)
        refine q_ok_b (s_X3_size_15 hn hG.1 ma35 ra35) (fun r36 S37 h38 => ?_)
        obtain ⟨eS37, h38⟩ := h38
        replace eS37 := eS37.symm
        subst eS37
        have f39 := h38
        refine q_ok_atS hG (q_trI mo ro) rfl (fun mo ro => ?_)
        have t40 := g_14_R2 hG mo ro
        refine q_ok_atA hG ea35 ma35 ra35 rfl ?_
        refine q_ok_b (s_X3_contours_15 hn hG.1 ma35 ra35) (fun r41 S42 h43 => ?_)
        obtain ⟨eS42, h43⟩ := h43
        replace eS42 := eS42.symm
        subst eS42
        have f44 := h43
        refine q_ok_atA hG ea14 ma14 ra14 rfl ?_
        refine q_ok_b (s_X1_hasParts_31 hn hG.1 ma14 ra14) (fun r45 S46 h47 => ?_)
        obtain ⟨eS46, h47⟩ := h47
        replace eS46 := eS46.symm
        subst eS46
        have f48 := h47
        obtain ⟨v49, ev49⟩ := q_ev ((q_I (q_sI (S30) a33 (p0).toNatClampNeg (q_I (S30) o 9)) a14 5).toInt)
        have f50 := q_bV ev49 (g_31_I5 hG ma14 ra14)
        have f51 : r45.toInt = 0 → (0) ≤ v49 := fun h9 => q_leV (show q_eqv ((0 : Int32)).toInt (0) by unfold q_eqv; decide) ev49 (f48.2.1 h9)
        have f52 : r45.toInt = 1 → v49 < (0) := fun h9 => q_ltV ev49 (show q_eqv ((0 : Int32)).toInt (0) by unfold q_eqv; decide) (f48.2.2 h9)
        refine q_ok_ite (fun g53 => ?_) (fun g53 => ?_)
        · have f54 := q_eqV q_evr (show q_eqv ((0 : Int32)).toInt (0) by unfold q_eqv; decide) (q_p_eq g53)
          refine q_ok_atS hG (q_trI mo ro) rfl (fun mo ro => ?_)
          have t55 := g_14_R2 hG mo ro
          refine q_ok_atA hG ea35 ma35 ra35 rfl ?_
          have e59 : q_J (q_sI (S30) a33 (p0).toNatClampNeg (q_I (S30) o 9)) a14 3 = q_J (S12) a14 3 := (Eq.trans q_skJI (Eq.trans (q_leJ eS30) (Eq.trans q_skJI q_skJI)))
          obtain ⟨v60, ev60⟩ := q_ev ((q_J (q_sI (S30) a33 (p0).toNatClampNeg (q_I (S30) o 9)) a14 3).toInt)
          have f61 : v60 = v17 := q_eqVJ e59 ev60 ev17
          refine q_ok_b (s_X3_take_15_31 hn hG.1 ma35 ra35 t8 (q_trk ea14 (q_leC ev60 (by omega)))) (fun r56 S57 h58 => ?_)
          have hG := q_G_call hG h58.1 (by decide)
          have f62 := h58.2.1
          have f63 : q_sm _ := g_31_J3 hG ma14 ra14
          obtain ⟨v64, ev64⟩ := q_ev ((q_J (S57) a14 3).toInt)
          have f65 := q_bV ev64 f63
          have f66 := q_leDv ev64 ev60 (h58.2.2 _ ea14)
          unfold m_X5_shapeR_103
          refine q_ok_ite (fun g67 => ?_) (fun g67 => ?_)
          · have f68 := q_eqV q_evr (show q_eqv ((0 : Int32)).toInt (0) by unfold q_eqv; decide) (q_p_eq g67)
            refine q_ok_atS hG (q_trI mo ro) rfl (fun mo ro => ?_)
            have t69 := g_14_R2 hG mo ro
            have e70 : q_R (S57) o 2 = q_R (q_sI (S30) a33 (p0).toNatClampNeg (q_I (S30) o 9)) o 2 := (q_unR h58.1 mo ro (by decide))
            refine q_ok_atA hG (Eq.trans e70 ea35) ma35 ra35 rfl ?_
            refine q_ok_b (s_X3_keep_15 hn hG.1 ma35 ra35 (q_wd f39 (by decide) (by decide)) (q_wd f44 (by decide) (by decide))) (fun r71 S72 h73 => ?_)
            have hG := q_G_call hG h73 (by decide)
            refine q_ok_atS hG (q_trI mo ro) rfl (fun mo ro => ?_)
            have t74 := g_14_R1 hG mo ro
            refine q_ok_at hG t74 rfl (fun a75 ma75 ra75 ea75 => ?_)
            refine q_ok_b (s_X9_tell_3 hn hG.1 ma75 ra75 (q_wd (show (1 : Int) ≤ (1 : Int32).toInt ∧ (1 : Int32).toInt ≤ (1 : Int) by decide) (by decide) (by decide)) (q_wd hp1 (by decide) (by decide))) (fun r76 S77 h78 => ?_)
            have hG := q_G_call hG h78 (by decide)
            exact s_X5_shape_14_k1_130 hn _ hG 
          · have f79 := q_neV q_evr (show q_eqv ((0 : Int32)).toInt (0) by unfold q_eqv; decide) (q_n_eq g67)
            exact s_X5_shape_14_k1_130 hn _ hG 
        · have f80 := q_neV q_evr (show q_eqv ((0 : Int32)).toInt (0) by unfold q_eqv; decide) (q_n_eq g53)
          refine q_ok_atS hG (q_trI mo ro) rfl (fun mo ro => ?_)
          have e84 : q_J (q_sI (S30) a33 (p0).toNatClampNeg (q_I (S30) o 9)) a14 3 = q_J (S12) a14 3 := (Eq.trans q_skJI (Eq.trans (q_leJ eS30) (Eq.trans q_skJI q_skJI)))
          obtain ⟨v85, ev85⟩ := q_ev ((q_J (q_sI (S30) a33 (p0).toNatClampNeg (q_I (S30) o 9)) a14 3).toInt)
          have f86 : v85 = v17 := q_eqVJ e84 ev85 ev17
          refine q_ok_b (s_X5_shapeParts_14_31 hn hG.1 mo ro (q_wd hp0 (by decide) (by decide)) t8 (q_trk ea14 (q_leC ev85 (by omega)))) (fun r81 S82 h83 => ?_)
          have hG := q_G_call hG h83.1 (by decide)
          have f87 := h83.2
          unfold m_X5_shapeR_103
          refine q_ok_ite (fun g88 => ?_) (fun g88 => ?_)
          · have f89 := q_eqV q_evr (show q_eqv ((0 : Int32)).toInt (0) by unfold q_eqv; decide) (q_p_eq g88)
            refine q_ok_atS hG (q_trI mo ro) rfl (fun mo ro => ?_)
            have t90 := g_14_R2 hG mo ro
            have e91 : q_R (S82) o 2 = q_R (q_sI (S30) a33 (p0).toNatClampNeg (q_I (S30) o 9)) o 2 := (q_unR h83.1 mo ro (by decide))
            refine q_ok_atA hG (Eq.trans e91 ea35) ma35 ra35 rfl ?_
            refine q_ok_b (s_X3_keep_15 hn hG.1 ma35 ra35 (q_wd f39 (by decide) (by decide)) (q_wd f44 (by decide) (by decide))) (fun r92 S93 h94 => ?_)
            have hG := q_G_call hG h94 (by decide)
            refine q_ok_atS hG (q_trI mo ro) rfl (fun mo ro => ?_)
            have t95 := g_14_R1 hG mo ro
            refine q_ok_at hG t95 rfl (fun a96 ma96 ra96 ea96 => ?_)
            refine q_ok_b (s_X9_tell_3 hn hG.1 ma96 ra96 (q_wd (show (1 : Int) ≤ (1 : Int32).toInt ∧ (1 : Int32).toInt ≤ (1 : Int) by decide) (by decide) (by decide)) (q_wd hp1 (by decide) (by decide))) (fun r97 S98 h99 => ?_)
            have hG := q_G_call hG h99 (by decide)
            exact s_X5_shape_14_k1_130 hn _ hG 
          · have f100 := q_neV q_evr (show q_eqv ((0 : Int32)).toInt (0) by unfold q_eqv; decide) (q_n_eq g88)
            exact s_X5_shape_14_k1_130 hn _ hG 
      · have f101 := q_neV q_evr (show q_eqv ((0 : Int32)).toInt (0) by unfold q_eqv; decide) (q_n_eq g26)
        exact q_ok_some hG
    · have f102 := q_ltV (show q_eqv ((5 : Int32)).toInt (5) by unfold q_eqv; decide) q_evr (q_n_le g4)
      exfalso; omega
def M_X5_shapePart_14_30 : List Nat := [194, 256, 320, 905, 964, 965, 1024, 1088, 1152, 1216, 1664, 1728, 1856, 1985, 1986, 1987, 1988, 1989, 1990, 1991, 1992, 1993, 1994, 1995, 1996, 1997, 2049, 2050, 2051, 2052, 2053, 2054, 2055, 2056, 2057, 2058, 2059, 2060, 2061, 2113, 2114, 2115, 2116, 2117, 2118, 2119, 2120, 2121, 2122, 2123, 2124, 2125, 2177, 2178, 2179, 2180, 2181, 2182, 2183, 2184, 2185, 2186, 2187, 2188, 2189, 2241, 2242, 2243, 2244, 2245, 2246, 2247, 2248, 2249, 2250, 2251, 2252, 2253]
set_option maxHeartbeats 4000000 in
set_option maxRecDepth 100000 in
theorem s_X5_shapePart_14_30_31 {ρ : Nat → Nat} {L : List Nat} {n : Nat} (hn : 18446744073709551616 ≤ n) {S0 : q_S}  (S : q_S) (l0 : Option Nat) (l2 : Option Nat) (hG : q_G ρ L M_X5_shapePart_14_30 S0 S) (hl0 : q_tr ρ L l0 14) (hl2 : q_tr ρ L l2 30) : q_ok (m_X5_shapePart_31 (m_X5_shapeD n 6) n S l0 l2) (fun _ T => q_G ρ L M_X5_shapePart_14_30 S0 T) := by
  unfold m_X5_shapePart_31
  have z0 : (0 : Int32).toInt = 0 := rfl
  refine q_ok_at hG hl0 rfl (fun a1 ma1 ra1 ea1 => ?_)
  have t2 := g_14_R1 hG ma1 ra1
  refine q_ok_at hG hl2 rfl (fun a3 ma3 ra3 ea3 => ?_)
  have f4 : q_sm _ := g_30_I7 hG ma3 ra3
  refine q_ok_at hG t2 rfl (fun a5 ma5 ra5 ea5 => ?_)
  refine q_ok_b (s_X9_tell_3 hn hG.1 ma5 ra5 (q_wd (show (4 : Int) ≤ (4 : Int32).toInt ∧ (4 : Int32).toInt ≤ (4 : Int) by decide) (by decide) (by decide)) (q_wd f4 (by decide) (by decide))) (fun r6 S7 h8 => ?_)
  have hG := q_G_call hG h8 (by decide)
  exact q_ok_some hG
set_option maxHeartbeats 4000000 in
set_option maxRecDepth 100000 in
theorem s_X5_shapePart_14_30_165 {ρ : Nat → Nat} {L : List Nat} {n : Nat} (hn : 18446744073709551616 ≤ n) {S0 : q_S}  (S : q_S) (hG : q_G ρ L M_X5_shapePart_14_30 S0 S) : q_ok (m_X5_shapePart_165 (m_X5_shapeD n 6) n S) (fun _ T => q_G ρ L M_X5_shapePart_14_30 S0 T) := by
  unfold m_X5_shapePart_165
  have z0 : (0 : Int32).toInt = 0 := rfl
  exact q_ok_some hG
set_option maxHeartbeats 4000000 in
set_option maxRecDepth 100000 in
theorem s_X5_shapePart_14_30_120 {ρ : Nat → Nat} {L : List Nat} {n : Nat} (hn : 18446744073709551616 ≤ n) {S0 : q_S}  (S : q_S) (l0 : Option Nat) (l2 : Option Nat) (l3 : Int32) (l4 : Int32) (hG : q_G ρ L M_X5_shapePart_14_30 S0 S) (hl0 : q_tr ρ L l0 14) (hl2 : q_tr ρ L l2 30) (hl3 : (0 ≤ l3.toInt ∧ l3.toInt ≤ 120)) (hl4 : (0 ≤ l4.toInt ∧ l4.toInt ≤ 120)) : q_ok (m_X5_shapePart_120 (m_X5_shapeD n 6) n S l0 l2 l3 l4) (fun _ T => q_G ρ L M_X5_shapePart_14_30 S0 T) := by
  unfold m_X5_shapePart_120
  have z0 : (0 : Int32).toInt = 0 := rfl
  refine q_ok_at hG hl0 rfl (fun a1 ma1 ra1 ea1 => ?_)
  have t2 := g_14_R2 hG ma1 ra1
  refine q_ok_at hG t2 rfl (fun a3 ma3 ra3 ea3 => ?_)
  refine q_ok_b (s_X3_scale_15_30 hn hG.1 ma3 ra3 (q_wd hl4 (by decide) (by decide)) hl2) (fun r4 S5 h6 => ?_)
  have hG := q_G_call hG h6 (by decide)
  refine q_ok_at hG hl2 rfl (fun a7 ma7 ra7 ea7 => ?_)
  refine q_ok_b (s_X1_isMoved_30 hn hG.1 ma7 ra7) (fun r8 S9 h10 => ?_)
  obtain ⟨eS9, h10⟩ := h10
  replace eS9 := eS9.symm
  subst eS9
  have f11 := h10
  refine q_ok_ite (fun g12 => ?_) (fun g12 => ?_)
  · have f13 := q_eqV q_evr (show q_eqv ((0 : Int32)).toInt (0) by unfold q_eqv; decide) (q_p_eq g12)
    refine q_ok_atA hG ea1 ma1 ra1 rfl ?_
    refine q_ok_b (s_X5_join_14_30 hn hG.1 ma1 ra1 hl2 (q_wd hl3 (by decide) (by decide)) (q_wd hl4 (by decide) (by decide))) (fun r14 S15 h16 => ?_)
    have hG := q_G_call hG h16 (by decide)
    exact s_X5_shapePart_14_30_165 hn _ hG 
  · have f17 := q_neV q_evr (show q_eqv ((0 : Int32)).toInt (0) by unfold q_eqv; decide) (q_n_eq g12)
    refine q_ok_atA hG ea1 ma1 ra1 rfl ?_
    have t18 := g_14_R2 hG ma1 ra1
    have e19 : q_R (S5) a1 2 = q_R (S) a1 2 := (q_unR h6 ma1 ra1 (by decide))
    refine q_ok_atA hG ea7 ma7 ra7 rfl ?_
    have f20 : q_sm _ := g_30_I8 hG ma7 ra7
    have f21 : q_sm _ := g_30_I9 hG ma7 ra7
    refine q_ok_atA hG (Eq.trans e19 ea3) ma3 ra3 rfl ?_
    refine q_ok_b (s_X3_move_15 hn hG.1 ma3 ra3 (q_wd hl4 (by decide) (by decide))) (fun r22 S23 h24 => ?_)
    have hG := q_G_call hG h24 (by decide)
    exact s_X5_shapePart_14_30_165 hn _ hG 
set_option maxHeartbeats 4000000 in
set_option maxRecDepth 100000 in
theorem s_X5_shapePart_14_30 {ρ : Nat → Nat} {L : List Nat} {n : Nat} (hn : 18446744073709551616 ≤ n) {S : q_S} (hI : q_Inv ρ L S) {o : Nat} (mo : o ∈ L) (ro : ρ o = 14) {p0 : Int32} (hp0 : (0 ≤ p0.toInt ∧ p0.toInt ≤ 0)) {p1 : Option Nat} (tp1 : q_tr ρ L p1 30) {p2 : Int32} (hp2 : (0 ≤ p2.toInt ∧ p2.toInt ≤ 120)) : q_ok (m_X5_shapePart (m_X5_shapeD n 6) n S o p0 p1 p2) (fun _ T => q_G ρ L M_X5_shapePart_14_30 S T) := by
  have hG : q_G ρ L M_X5_shapePart_14_30 S S := q_G_refl hI
  unfold m_X5_shapePart
  have z0 : (0 : Int32).toInt = 0 := rfl
  refine q_ok_ite (fun g1 => ?_) (fun g1 => ?_)
  · have f2 := q_leV (show q_eqv ((5 : Int32)).toInt (5) by unfold q_eqv; decide) q_evr (q_p_ge g1)
    exfalso; omega
  · have f3 := q_ltV q_evr (show q_eqv ((5 : Int32)).toInt (5) by unfold q_eqv; decide) (q_n_ge g1)
    refine q_ok_atS hG (q_trI mo ro) rfl (fun mo ro => ?_)
    have t4 := g_14_R0 hG mo ro
    refine q_ok_at hG tp1 rfl (fun a5 ma5 ra5 ea5 => ?_)
    have f6 : q_sm _ := g_30_I7 hG ma5 ra5
    refine q_ok_at hG t4 rfl (fun a7 ma7 ra7 ea7 => ?_)
    refine q_ok_b (s_X6_has_9 hn hG.1 ma7 ra7) (fun r8 S9 h10 => ?_)
    obtain ⟨eS9, h10⟩ := h10
    replace eS9 := eS9.symm
    subst eS9
    have f11 := h10
    obtain ⟨v12, ev12⟩ := q_ev ((q_I (S) a5 7).toInt)
    have f13 := q_bV ev12 f6
    obtain ⟨v14, ev14⟩ := q_ev ((q_I (S) a7 5).toInt)
    have f15 := q_bV ev14 (g_9_I5 hG ma7 ra7)
    have f16 : r8.toInt = 1 → (0) ≤ v12 := fun h9 => q_leV (show q_eqv ((0 : Int32)).toInt (0) by unfold q_eqv; decide) ev12 (f11.2 h9).1
    have f17 : r8.toInt = 1 → v12 < v14 := fun h9 => q_ltV ev12 ev14 (f11.2 h9).2
    refine q_ok_ite (fun g18 => ?_) (fun g18 => ?_)
    · have f19 := q_eqV q_evr (show q_eqv ((0 : Int32)).toInt (0) by unfold q_eqv; decide) (q_p_eq g18)
      exact s_X5_shapePart_14_30_31 hn _ _ _ hG (q_trI mo ro) tp1 
    · have f20 := q_neV q_evr (show q_eqv ((0 : Int32)).toInt (0) by unfold q_eqv; decide) (q_n_eq g18)
      refine q_ok_atA hG ea5 ma5 ra5 rfl ?_
      refine q_ok_atS hG (q_trI mo ro) rfl (fun mo ro => ?_)
      refine q_ok_b (s_X5_isOpened_14 hn hG.1 mo ro (q_wd hp0 (by decide) (by decide)) (q_oV ev12 (by omega) (by omega))) (fun r21 S22 h23 => ?_)
      obtain ⟨eS22, h23⟩ := h23
      replace eS22 := eS22.symm
      subst eS22
      have f24 := h23
      refine q_ok_ite (fun g25 => ?_) (fun g25 => ?_)
      · have f26 := q_eqV q_evr (show q_eqv ((0 : Int32)).toInt (0) by unfold q_eqv; decide) (q_p_eq g25)
        refine q_ok_atS hG (q_trI mo ro) rfl (fun mo ro => ?_)
        have t27 := g_14_R2 hG mo ro
        refine q_ok_at hG t27 rfl (fun a28 ma28 ra28 ea28 => ?_)
        refine q_ok_b (s_X3_size_15 hn hG.1 ma28 ra28) (fun r29 S30 h31 => ?_)
        obtain ⟨eS30, h31⟩ := h31
        replace eS30 := eS30.symm
        subst eS30
        have f32 := h31
        refine q_ok_atS hG (q_trI mo ro) rfl (fun mo ro => ?_)
        have t33 := g_14_R1 hG mo ro
        refine q_ok_at hG t33 rfl (fun a34 ma34 ra34 ea34 => ?_)
        refine q_ok_b (s_X9_isFull_3 hn hG.1 ma34 ra34) (fun r35 S36 h37 => ?_)
        obtain ⟨eS36, h37⟩ := h37
        replace eS36 := eS36.symm
        subst eS36
        have f38 := h37
        obtain ⟨v39, ev39⟩ := q_ev ((q_I (S) a34 2).toInt)
        have f40 := q_bV ev39 (g_3_I2 hG ma34 ra34)
        have f41 : r35.toInt = 0 → v39 < (100) := fun h9 => q_ltV ev39 (show q_eqv ((100 : Int32)).toInt (100) by unfold q_eqv; decide) (f38.2.1 h9)
        have f42 : r35.toInt = 1 → (100) ≤ v39 := fun h9 => q_leV (show q_eqv ((100 : Int32)).toInt (100) by unfold q_eqv; decide) ev39 (f38.2.2 h9)
        refine q_ok_atA hG ea5 ma5 ra5 rfl ?_
        refine q_ok_atS hG (q_trI mo ro) rfl (fun mo ro => ?_)
        refine q_ok_b (s_X5_matters_14 hn hG.1 mo ro (q_wd (q_addBI (1) (1) hp0 (show (1 : Int) ≤ (1 : Int32).toInt ∧ (1 : Int32).toInt ≤ (1 : Int) by decide) (by decide) (by decide) (by decide) (by decide)) (by decide) (by decide)) (q_oV ev12 (by omega) (by omega))) (fun r43 S44 h45 => ?_)
        obtain ⟨eS44, h45⟩ := h45
        replace eS44 := eS44.symm
        subst eS44
        have f46 := h45
        refine q_ok_ite (fun g47 => ?_) (fun g47 => ?_)
        · have f48 := q_eqV q_evr (show q_eqv ((0 : Int32)).toInt (0) by unfold q_eqv; decide) (q_p_eq g47)
          exact s_X5_shapePart_14_30_120 hn _ _ _ _ _ hG (q_trI mo ro) tp1 (q_wd hp2 (by decide) (by decide)) (q_wd f32 (by decide) (by decide)) 
        · have f49 := q_neV q_evr (show q_eqv ((0 : Int32)).toInt (0) by unfold q_eqv; decide) (q_n_eq g47)
          refine q_ok_atA hG ea5 ma5 ra5 rfl ?_
          refine q_ok_atS hG (q_trI mo ro) rfl (fun mo ro => ?_)
          refine q_ok_b (s_X5_shape_14_k1 hn hG.1 mo ro (q_wd (q_addBI (1) (1) hp0 (show (1 : Int) ≤ (1 : Int32).toInt ∧ (1 : Int32).toInt ≤ (1 : Int) by decide) (by decide) (by decide) (by decide) (by decide)) (by decide) (by decide)) (q_oV ev12 (by omega) (by omega))) (fun r50 S51 h52 => ?_)
          have hG := q_G_call hG h52 (by decide)
          refine q_ok_atA hG ea5 ma5 ra5 rfl ?_
          have f53 : q_sm _ := g_30_I7 hG ma5 ra5
          have e54 : q_I (S51) a5 7 = q_I (S) a5 7 := (q_unI h52 ma5 ra5 (by decide))
          refine q_ok_ite (fun g55 => ?_) (fun g55 => ?_)
          · have f56 := q_eqV q_evr (show q_eqv ((0 : Int32)).toInt (0) by unfold q_eqv; decide) (q_p_eq g55)
            unfold m_X5_shapePart_116
            unfold m_X5_shapePart_117
            refine q_ok_atS hG (q_trI mo ro) rfl (fun mo ro => ?_)
            obtain ⟨v60, ev60⟩ := q_ev ((q_I (S51) a5 7).toInt)
            have f61 : v60 = v12 := q_eqVI e54 ev60 ev12
            refine q_ok_b (s_X5_keepIfBarren_14 hn hG.1 mo ro (q_wd (q_addBI (1) (1) hp0 (show (1 : Int) ≤ (1 : Int32).toInt ∧ (1 : Int32).toInt ≤ (1 : Int) by decide) (by decide) (by decide) (by decide) (by decide)) (by decide) (by decide)) (q_oV ev60 (by omega) (by omega)) (q_wd (show (0 : Int) ≤ (0 : Int32).toInt ∧ (0 : Int32).toInt ≤ (0 : Int) by decide) (by decide) (by decide))) (fun r57 S58 h59 => ?_)
            have hG := q_G_call hG h59 (by decide)
            exact s_X5_shapePart_14_30_120 hn _ _ _ _ _ hG (q_trI mo ro) tp1 (q_wd hp2 (by decide) (by decide)) (q_wd f32 (by decide) (by decide)) 
          · have f62 := q_neV q_evr (show q_eqv ((0 : Int32)).toInt (0) by unfold q_eqv; decide) (q_n_eq g55)
            refine q_ok_atS hG (q_trI mo ro) rfl (fun mo ro => ?_)
            have t63 := g_14_R2 hG mo ro
            have e64 : q_R (S51) o 2 = q_R (S) o 2 := (q_unR h52 mo ro (by decide))
            refine q_ok_atA hG (Eq.trans e64 ea28) ma28 ra28 rfl ?_
            refine q_ok_b (s_X3_size_15 hn hG.1 ma28 ra28) (fun r65 S66 h67 => ?_)
            obtain ⟨eS66, h67⟩ := h67
            replace eS66 := eS66.symm
            subst eS66
            have f68 := h67
            refine q_ok_ite (fun g69 => ?_) (fun g69 => ?_)
            · have f70 := q_eqV q_evr q_evr (q_p_eq g69)
              unfold m_X5_shapePart_117
              refine q_ok_atS hG (q_trI mo ro) rfl (fun mo ro => ?_)
              obtain ⟨v74, ev74⟩ := q_ev ((q_I (S51) a5 7).toInt)
              have f75 : v74 = v12 := q_eqVI e54 ev74 ev12
              refine q_ok_b (s_X5_keepIfBarren_14 hn hG.1 mo ro (q_wd (q_addBI (1) (1) hp0 (show (1 : Int) ≤ (1 : Int32).toInt ∧ (1 : Int32).toInt ≤ (1 : Int) by decide) (by decide) (by decide) (by decide) (by decide)) (by decide) (by decide)) (q_oV ev74 (by omega) (by omega)) (q_wd (show (1 : Int) ≤ (1 : Int32).toInt ∧ (1 : Int32).toInt ≤ (1 : Int) by decide) (by decide) (by decide))) (fun r71 S72 h73 => ?_)
              have hG := q_G_call hG h73 (by decide)
              exact s_X5_shapePart_14_30_120 hn _ _ _ _ _ hG (q_trI mo ro) tp1 (q_wd hp2 (by decide) (by decide)) (q_wd f32 (by decide) (by decide)) 
            · have f76 := q_neV q_evr q_evr (q_n_eq g69)
              unfold m_X5_shapePart_116
              unfold m_X5_shapePart_117
              refine q_ok_atS hG (q_trI mo ro) rfl (fun mo ro => ?_)
              obtain ⟨v80, ev80⟩ := q_ev ((q_I (S51) a5 7).toInt)
              have f81 : v80 = v12 := q_eqVI e54 ev80 ev12
              refine q_ok_b (s_X5_keepIfBarren_14 hn hG.1 mo ro (q_wd (q_addBI (1) (1) hp0 (show (1 : Int) ≤ (1 : Int32).toInt ∧ (1 : Int32).toInt ≤ (1 : Int) by decide) (by decide) (by decide) (by decide) (by decide)) (by decide) (by decide)) (q_oV ev80 (by omega) (by omega)) (q_wd (show (0 : Int) ≤ (0 : Int32).toInt ∧ (0 : Int32).toInt ≤ (0 : Int) by decide) (by decide) (by decide))) (fun r77 S78 h79 => ?_)
              have hG := q_G_call hG h79 (by decide)
              exact s_X5_shapePart_14_30_120 hn _ _ _ _ _ hG (q_trI mo ro) tp1 (q_wd hp2 (by decide) (by decide)) (q_wd f32 (by decide) (by decide)) 
      · have f82 := q_neV q_evr (show q_eqv ((0 : Int32)).toInt (0) by unfold q_eqv; decide) (q_n_eq g25)
        exact s_X5_shapePart_14_30_31 hn _ _ _ hG (q_trI mo ro) tp1 
def M_X5_shapeParts_14_30 : List Nat := [194, 256, 320, 905, 964, 965, 1024, 1088, 1152, 1216, 1664, 1728, 1856, 1922, 1923, 1926, 1927, 1928, 1929, 1930, 1931, 1932, 1933, 1985, 1986, 1987, 1988, 1989, 1990, 1991, 1992, 1993, 1994, 1995, 1996, 1997, 2049, 2050, 2051, 2052, 2053, 2054, 2055, 2056, 2057, 2058, 2059, 2060, 2061, 2113, 2114, 2115, 2116, 2117, 2118, 2119, 2120, 2121, 2122, 2123, 2124, 2125, 2177, 2178, 2179, 2180, 2181, 2182, 2183, 2184, 2185, 2186, 2187, 2188, 2189, 2241, 2242, 2243, 2244, 2245, 2246, 2247, 2248, 2249, 2250, 2251, 2252, 2253]
set_option maxHeartbeats 4000000 in
set_option maxRecDepth 100000 in
theorem s_X5_shapeParts_14_30_55 {ρ : Nat → Nat} {L : List Nat} {n : Nat} (hn : 18446744073709551616 ≤ n) {S0 : q_S}  (S : q_S) (hG : q_G ρ L M_X5_shapeParts_14_30 S0 S) : q_ok (m_X5_shapeParts_55 (m_X5_shapeD n 6) n S) (fun r T => q_G ρ L M_X5_shapeParts_14_30 S0 T ∧ (0 ≤ r.toInt ∧ r.toInt ≤ 1)) := by
  unfold m_X5_shapeParts_55
  have z0 : (0 : Int32).toInt = 0 := rfl
  refine q_ok_if (q_b01V (show q_eqv ((1 : Int32)).toInt (1) by unfold q_eqv; decide) (by omega) (by omega)) ?_
  exact q_ok_some ⟨hG, (q_wd (show (1 : Int) ≤ (1 : Int32).toInt ∧ (1 : Int32).toInt ≤ (1 : Int) by decide) (by decide) (by decide))⟩
set_option maxHeartbeats 4000000 in
set_option maxRecDepth 100000 in
theorem s_X5_shapeParts_14_30_14 {ρ : Nat → Nat} {L : List Nat} {n : Nat} (hn : 18446744073709551616 ≤ n) {dT : Option Nat} {S0 : q_S}  : ∀ (k : Nat) (S : q_S) (l0 : Option Nat) (l1 : Int32) (l2 : Option Nat) (l3 : Int32) (l4 : Int32) (l5 : Int32), q_G ρ L M_X5_shapeParts_14_30 S0 S → q_tr ρ L l0 14 → (0 ≤ l1.toInt ∧ l1.toInt ≤ 0) → q_tr ρ L l2 30 → (0 ≤ l3.toInt ∧ l3.toInt ≤ 120) → (0 ≤ l4.toInt ∧ l4.toInt ≤ 1) → (0 ≤ l5.toInt ∧ l5.toInt ≤ 1600) → q_tr ρ L dT 30 → (∀ a, dT = some a → (q_J S a 3).toInt ≤ (q_J S0 a 3).toInt + 16 * l5.toInt + 0 ∧ (q_J S0 a 3).toInt ≤ 140737488355328) → l2 = dT → 2147483648 - l5.toInt ≤ (k : Int) → q_ok (m_X5_shapeParts_14 (m_X5_shapeD n 6) n k S l0 l1 l2 l3 l4 l5) (fun r T => q_G ρ L M_X5_shapeParts_14_30 S0 T ∧ (0 ≤ r.toInt ∧ r.toInt ≤ 1)) := by
  intro k
  induction k with
  | zero =>
    intro S l0 l1 l2 l3 l4 l5 hG hl0 hl1 hl2 hl3 hl4 hl5 htT hT hd hm
    have f0 := q_rngI l5
    exfalso; omega
  | succ k ih =>
    intro S l0 l1 l2 l3 l4 l5 hG hl0 hl1 hl2 hl3 hl4 hl5 htT hT hd hm
    rw [m_X5_shapeParts_14]
    have z0 : (0 : Int32).toInt = 0 := rfl
    subst hd
    obtain ⟨aT, eaT, maT, raT⟩ := id htT
    have f1 : q_sm _ := g_30_J3 hG maT raT
    obtain ⟨v2, ev2⟩ := q_ev ((q_J (S) aT 3).toInt)
    have f3 := q_bV ev2 f1
    obtain ⟨v4, ev4⟩ := q_ev ((q_J (S0) aT 3).toInt)
    have f5 := q_rVJ (X := q_J (S0) aT 3) ev4
    have f6 := q_le3v (K9 := 16) (E9 := 0) ev2 ev4 q_evr (hT aT eaT).1
    have f7 := q_leCv ev4 (hT aT eaT).2
    refine q_ok_ite (fun g8 => ?_) (fun g8 => ?_)
    · have f9 := q_leV (show q_eqv ((1600 : Int32)).toInt (1600) by unfold q_eqv; decide) q_evr (q_p_ge g8)
      exact s_X5_shapeParts_14_30_55 hn _ hG 
    · have f10 := q_ltV q_evr (show q_eqv ((1600 : Int32)).toInt (1600) by unfold q_eqv; decide) (q_n_ge g8)
      refine q_ok_ite (fun g11 => ?_) (fun g11 => ?_)
      · have f12 := q_eqV q_evr (show q_eqv ((0 : Int32)).toInt (0) by unfold q_eqv; decide) (q_p_eq g11)
        exact s_X5_shapeParts_14_30_55 hn _ hG 
      · have f13 := q_neV q_evr (show q_eqv ((0 : Int32)).toInt (0) by unfold q_eqv; decide) (q_n_eq g11)
        refine q_ok_atA hG eaT maT raT rfl ?_
        refine q_ok_b (s_X1_nextPart_30 hn hG.1 maT raT (q_leC ev2 (by omega))) (fun r14 S15 h16 => ?_)
        have hG := q_G_call hG h16.1 (by decide)
        have f17 := h16.2.1
        have f18 : q_sm _ := g_30_J3 hG maT raT
        obtain ⟨v19, ev19⟩ := q_ev ((q_J (S15) aT 3).toInt)
        have f20 := q_bV ev19 f18
        have f21 := q_leDv ev19 ev2 (h16.2.2)
        refine q_ok_ite (fun g22 => ?_) (fun g22 => ?_)
        · have f23 := q_eqV q_evr (show q_eqv ((0 : Int32)).toInt (0) by unfold q_eqv; decide) (q_p_eq g22)
          refine q_ok_if (q_b01V (show q_eqv ((0 : Int32)).toInt (0) by unfold q_eqv; decide) (by omega) (by omega)) ?_
          exact q_ok_some ⟨hG, (q_wd (show (0 : Int) ≤ (0 : Int32).toInt ∧ (0 : Int32).toInt ≤ (0 : Int) by decide) (by decide) (by decide))⟩
        · have f24 := q_neV q_evr (show q_eqv ((0 : Int32)).toInt (0) by unfold q_eqv; decide) (q_n_eq g22)
          refine q_ok_at hG hl0 rfl (fun a25 ma25 ra25 ea25 => ?_)
          refine q_ok_b (s_X5_shapePart_14_30 hn hG.1 ma25 ra25 (q_wd hl1 (by decide) (by decide)) hl2 (q_wd hl3 (by decide) (by decide))) (fun r26 S27 h28 => ?_)
          have hG := q_G_call hG h28 (by decide)
          refine q_ok_atA hG eaT maT raT rfl ?_
          refine q_ok_b (s_X1_hasMore_30 hn hG.1 maT raT) (fun r29 S30 h31 => ?_)
          obtain ⟨eS30, h31⟩ := h31
          replace eS30 := eS30.symm
          subst eS30
          have f32 := h31
          obtain ⟨v33, ev33⟩ := q_ev ((l5 + (1)).toInt)
          have f34 : v33 = l5.toInt + (1) := q_addVI ev33 q_evr (show q_eqv ((1 : Int32)).toInt (1) by unfold q_eqv; decide) (by omega) (by omega)
          have e35 : q_J (S27) aT 3 = q_J (S15) aT 3 := (q_unJ h28 maT raT (by decide))
          obtain ⟨v36, ev36⟩ := q_ev ((q_J (S27) aT 3).toInt)
          have f37 : v36 = v19 := q_eqVJ e35 ev36 ev19
          exact ih _ _ _ _ _ _ _ hG hl0 (q_wd hl1 (by decide) (by decide)) hl2 (q_wd hl3 (by decide) (by decide)) (q_wd f32 (by decide) (by decide)) (q_oV ev33 (by omega) (by omega)) (q_trE eaT maT raT) (q_trk eaT ⟨q_le3 (K9 := 16) (E9 := 0) ev36 ev4 ev33 (by omega), q_leC ev4 (by omega)⟩) (by first | rfl | exact hd)  (q_upV ev33 (by omega))
set_option maxHeartbeats 4000000 in
set_option maxRecDepth 100000 in
theorem s_X5_shapeParts_14_30 {ρ : Nat → Nat} {L : List Nat} {n : Nat} (hn : 18446744073709551616 ≤ n) {S : q_S} (hI : q_Inv ρ L S) {o : Nat} (mo : o ∈ L) (ro : ρ o = 14) {p0 : Int32} (hp0 : (0 ≤ p0.toInt ∧ p0.toInt ≤ 0)) {p1 : Option Nat} (tp1 : q_tr ρ L p1 30) (ht : ∀ a, p1 = some a → (q_J S a 3).toInt ≤ 140737488355328) : q_ok (m_X5_shapeParts (m_X5_shapeD n 6) n S o p0 p1) (fun r T => q_G ρ L M_X5_shapeParts_14_30 S T ∧ (0 ≤ r.toInt ∧ r.toInt ≤ 1)) := by
  have hG : q_G ρ L M_X5_shapeParts_14_30 S S := q_G_refl hI
  unfold m_X5_shapeParts
  have z0 : (0 : Int32).toInt = 0 := rfl
  obtain ⟨aT, eaT, maT, raT⟩ := id tp1
  have f1 : q_sm _ := g_30_J3 hG maT raT
  obtain ⟨v2, ev2⟩ := q_ev ((q_J (S) aT 3).toInt)
  have f3 := q_bV ev2 f1
  have f4 := q_leCv ev2 (ht aT eaT)
  refine q_ok_atS hG (q_trI mo ro) rfl (fun mo ro => ?_)
  have t5 := g_14_R2 hG mo ro
  refine q_ok_at hG t5 rfl (fun a6 ma6 ra6 ea6 => ?_)
  refine q_ok_b (s_X3_size_15 hn hG.1 ma6 ra6) (fun r7 S8 h9 => ?_)
  obtain ⟨eS8, h9⟩ := h9
  replace eS8 := eS8.symm
  subst eS8
  have f10 := h9
  exact s_X5_shapeParts_14_30_14 hn n _ _ _ _ _ _ _ hG (q_trI mo ro) (q_wd hp0 (by decide) (by decide)) tp1 (q_wd f10 (by decide) (by decide)) (q_wd (show (1 : Int) ≤ (1 : Int32).toInt ∧ (1 : Int32).toInt ≤ (1 : Int) by decide) (by decide) (by decide)) (q_wd (show (0 : Int) ≤ (0 : Int32).toInt ∧ (0 : Int32).toInt ≤ (0 : Int) by decide) (by decide) (by decide)) (q_trE eaT maT raT) (q_trk eaT ⟨q_le3 (K9 := 16) (E9 := 0) ev2 ev2 (show q_eqv ((0 : Int32)).toInt (0) by unfold q_eqv; decide) (by omega), q_leC ev2 (by omega)⟩) (by first | rfl | exact hd)  (q_upV (show q_eqv ((0 : Int32)).toInt (0) by unfold q_eqv; decide) (by omega))
def M_X1_open_30 : List Nat := [1921, 1922, 1923, 1924, 1925]
set_option maxHeartbeats 4000000 in
set_option maxRecDepth 100000 in
theorem s_X1_open_30 {ρ : Nat → Nat} {L : List Nat} {n : Nat} (hn : 18446744073709551616 ≤ n) {S : q_S} (hI : q_Inv ρ L S) {o : Nat} (mo : o ∈ L) (ro : ρ o = 30) {p0 : Int32} (hp0 : (0 ≤ p0.toInt ∧ p0.toInt ≤ 1)) {p1 : Int64} (hp1 : (0 ≤ p1.toInt ∧ p1.toInt ≤ 17179869184)) {p2 : Int64} (hp2 : (0 ≤ p2.toInt ∧ p2.toInt ≤ 65535)) : q_ok (m_X1_open n S o p0 p1 p2) (fun _ T => q_G ρ L M_X1_open_30 S T ∧ q_sm ((q_J T o 3).toInt ≤ 1099511627776)) := by
  have hG : q_G ρ L M_X1_open_30 S S := q_G_refl hI
  unfold m_X1_open
  have z0 : (0 : Int32).toInt = 0 := rfl
  have f1 : q_sm _ := g_30_J3 hG mo ro
  obtain ⟨v2, ev2⟩ := q_ev ((q_J (S) o 3).toInt)
  have f3 := q_bV ev2 f1
  refine q_ok_atS hG (q_trI mo ro) rfl (fun mo ro => ?_)
  refine q_ok_if (q_b01V q_evr (by omega) (by omega)) ?_
  have hG := u_30_I1 (x := p0) hG mo ro (by decide) (q_wd hp0 (by decide) (by decide))
  refine q_ok_if (q_b01V (show q_eqv ((0 : Int32)).toInt (0) by unfold q_eqv; decide) (by omega) (by omega)) ?_
  have hG := u_30_I2 (x := (0 : Int32)) hG mo ro (by decide) (q_wd (show (0 : Int) ≤ (0 : Int32).toInt ∧ (0 : Int32).toInt ≤ (0 : Int) by decide) (by decide) (by decide))
  refine q_ok_let (fun S4 eS4 => ?_)
  rw [← eS4] at hG
  have hG := u_30_J3 (x := p1) hG mo ro (by decide) (q_wd hp1 (by decide) (by decide))
  have hG := u_30_J4 (x := p2) hG mo ro (by decide) (q_wd hp2 (by decide) (by decide))
  refine q_ok_let (fun S5 eS5 => ?_)
  rw [← eS5] at hG
  have e9 : q_J (S5) o 3 = p1 := (Eq.trans (q_leJ eS5) (Eq.trans (q_ffJ (by decide)) q_hitJ))
  obtain ⟨v10, ev10⟩ := q_ev ((q_J (S5) o 3).toInt)
  have f11 : v10 = p1.toInt := q_eqVJ e9 ev10 q_evr
  refine q_ok_b (s_X1_signedTwo_30 hn hG.1 mo ro (q_leC ev10 (by omega))) (fun r6 S7 h8 => ?_)
  have hG := q_G_call hG h8.1 (by decide)
  have f12 := h8.2.1
  have f13 : q_sm _ := g_30_J3 hG mo ro
  obtain ⟨v14, ev14⟩ := q_ev ((q_J (S7) o 3).toInt)
  have f15 := q_bV ev14 f13
  have f16 := q_leDv ev14 ev10 (h8.2.2)
  refine q_ok_atS hG (q_trI mo ro) rfl (fun mo ro => ?_)
  have hG := u_30_I5 (x := r6) hG mo ro (by decide) (q_wd f12 (by decide) (by decide))
  have e20 : q_J (q_sI (S7) o 5 (r6)) o 3 = q_J (S7) o 3 := q_skJI
  obtain ⟨v21, ev21⟩ := q_ev ((q_J (q_sI (S7) o 5 (r6)) o 3).toInt)
  have f22 : v21 = v14 := q_eqVJ e20 ev21 ev14
  refine q_ok_b (s_X1_skip_30 hn hG.1 mo ro (q_wd (show (8 : Int) ≤ (8 : Int32).toInt ∧ (8 : Int32).toInt ≤ (8 : Int) by decide) (by decide) (by decide)) (q_leC ev21 (by omega))) (fun r17 S18 h19 => ?_)
  have hG := q_G_call hG h19.1 (by decide)
  have f23 : q_sm _ := g_30_J3 hG mo ro
  obtain ⟨v24, ev24⟩ := q_ev ((q_J (S18) o 3).toInt)
  have f25 := q_bV ev24 f23
  have f26 := q_leDv ev24 ev21 (h19.2)
  exact q_ok_some ⟨hG, (q_leC ev24 (by omega))⟩
def M_X6_open_9_30 : List Nat := [1921, 1922, 1923, 1924, 1925]
set_option maxHeartbeats 4000000 in
set_option maxRecDepth 100000 in
theorem s_X6_open_9_30 {ρ : Nat → Nat} {L : List Nat} {n : Nat} (hn : 18446744073709551616 ≤ n) {S : q_S} (hI : q_Inv ρ L S) {o : Nat} (mo : o ∈ L) (ro : ρ o = 9) {p0 : Int32} (hp0 : (0 ≤ p0.toInt ∧ p0.toInt ≤ 199)) {p1 : Option Nat} (tp1 : q_tr ρ L p1 30) : q_ok (m_X6_open n S o p0 p1) (fun _ T => q_G ρ L M_X6_open_9_30 S T ∧ q_sm (∀ a, p1 = some a → (q_J T a 3).toInt ≤ 1099511627776)) := by
  have hG : q_G ρ L M_X6_open_9_30 S S := q_G_refl hI
  unfold m_X6_open
  have z0 : (0 : Int32).toInt = 0 := rfl
  obtain ⟨aT, eaT, maT, raT⟩ := id tp1
  have f1 : q_sm _ := g_30_J3 hG maT raT
  obtain ⟨v2, ev2⟩ := q_ev ((q_J (S) aT 3).toInt)
  have f3 := q_bV ev2 f1
  refine q_ok_atS hG (q_trI mo ro) rfl (fun mo ro => ?_)
  refine q_ok_b (s_X6_placeAt_9 hn hG.1 mo ro (q_wd hp0 (by decide) (by decide))) (fun r4 S5 h6 => ?_)
  obtain ⟨eS5, h6⟩ := h6
  replace eS5 := eS5.symm
  subst eS5
  have f7 := h6
  refine q_ok_atS hG (q_trI mo ro) rfl (fun mo ro => ?_)
  refine q_ok_b (s_X6_placeAt_9 hn hG.1 mo ro (q_wd (q_addBI (1) (200) hp0 (show (1 : Int) ≤ (1 : Int32).toInt ∧ (1 : Int32).toInt ≤ (1 : Int) by decide) (by decide) (by decide) (by decide) (by decide)) (by decide) (by decide))) (fun r8 S9 h10 => ?_)
  obtain ⟨eS9, h10⟩ := h10
  replace eS9 := eS9.symm
  subst eS9
  have f11 := h10
  refine q_ok_ite (fun g12 => ?_) (fun g12 => ?_)
  · have f13 := q_eqV q_evr (show q_eqv ((-1 : Int64)).toInt (-1) by unfold q_eqv; decide) (q_cp_eq g12)
    unfold m_X6_open_32
    refine q_ok_atA hG eaT maT raT rfl ?_
    refine q_ok_b (s_X1_open_30 hn hG.1 maT raT (q_wd (show (0 : Int) ≤ (0 : Int32).toInt ∧ (0 : Int32).toInt ≤ (0 : Int) by decide) (by decide) (by decide)) (q_wd (show (0 : Int) ≤ (0 : Int64).toInt ∧ (0 : Int64).toInt ≤ (0 : Int) by decide) (by decide) (by decide)) (q_wd (show (0 : Int) ≤ (0 : Int64).toInt ∧ (0 : Int64).toInt ≤ (0 : Int) by decide) (by decide) (by decide))) (fun r14 S15 h16 => ?_)
    have hG := q_G_call hG h16.1 (by decide)
    have f17 : q_sm _ := g_30_J3 hG maT raT
    obtain ⟨v18, ev18⟩ := q_ev ((q_J (S15) aT 3).toInt)
    have f19 := q_bV ev18 f17
    have f20 := q_leCv ev18 (h16.2)
    unfold m_X6_open_89
    exact q_ok_some ⟨hG, (q_trk eaT (q_leC ev18 (by omega)))⟩
  · have f21 := q_neV q_evr (show q_eqv ((-1 : Int64)).toInt (-1) by unfold q_eqv; decide) (q_cn_eq g12)
    refine q_ok_ite (fun g22 => ?_) (fun g22 => ?_)
    · have f23 := q_eqV q_evr (show q_eqv ((-1 : Int64)).toInt (-1) by unfold q_eqv; decide) (q_cp_eq g22)
      unfold m_X6_open_32
      refine q_ok_atA hG eaT maT raT rfl ?_
      refine q_ok_b (s_X1_open_30 hn hG.1 maT raT (q_wd (show (0 : Int) ≤ (0 : Int32).toInt ∧ (0 : Int32).toInt ≤ (0 : Int) by decide) (by decide) (by decide)) (q_wd (show (0 : Int) ≤ (0 : Int64).toInt ∧ (0 : Int64).toInt ≤ (0 : Int) by decide) (by decide) (by decide)) (q_wd (show (0 : Int) ≤ (0 : Int64).toInt ∧ (0 : Int64).toInt ≤ (0 : Int) by decide) (by decide) (by decide))) (fun r24 S25 h26 => ?_)
      have hG := q_G_call hG h26.1 (by decide)
      have f27 : q_sm _ := g_30_J3 hG maT raT
      obtain ⟨v28, ev28⟩ := q_ev ((q_J (S25) aT 3).toInt)
      have f29 := q_bV ev28 f27
      have f30 := q_leCv ev28 (h26.2)
      unfold m_X6_open_89
      exact q_ok_some ⟨hG, (q_trk eaT (q_leC ev28 (by omega)))⟩
    · have f31 := q_neV q_evr (show q_eqv ((-1 : Int64)).toInt (-1) by unfold q_eqv; decide) (q_cn_eq g22)
      refine q_ok_ite (fun g32 => ?_) (fun g32 => ?_)
      · have f33 := q_eqV q_evr q_evr (q_cp_eq g32)
        unfold m_X6_open_55
        refine q_ok_atS hG (q_trI mo ro) rfl (fun mo ro => ?_)
        have t34 := g_9_R9 hG mo ro
        refine q_ok_at hG t34 rfl (fun a35 ma35 ra35 ea35 => ?_)
        have f36 : q_sm _ := g_8_I3 hG ma35 ra35
        have t37 := g_9_R9 hG mo ro
        have t38 := g_9_R9 hG mo ro
        refine q_ok_b (s_X7_end_8 hn hG.1 ma35 ra35) (fun r39 S40 h41 => ?_)
        obtain ⟨eS40, h41⟩ := h41
        replace eS40 := eS40.symm
        subst eS40
        have f42 := h41
        obtain ⟨v46, ev46⟩ := q_ev ((((q_I (S) a35 3).toInt64) + r8).toInt)
        obtain ⟨v47, ev47⟩ := q_ev (((q_I (S) a35 3).toInt64).toInt)
        obtain ⟨v48, ev48⟩ := q_ev ((q_I (S) a35 3).toInt)
        have f49 := q_bV ev48 f36
        have f50 : v47 = v48 := q_i2lV ev47 ev48
        have f51 : v46 = v47 + r8.toInt := q_addVJ ev46 ev47 q_evr (by omega) (by omega)
        refine q_ok_b (s_J9_min_f86c9 n _ _ _) (fun r43 S44 h45 => ?_)
        obtain ⟨eS44, h45⟩ := h45
        replace h45 := q_mmVN ev46 q_evr h45
        replace eS44 := eS44.symm
        subst eS44
        refine q_ok_atA hG eaT maT raT rfl ?_
        obtain ⟨v55, ev55⟩ := q_ev ((((q_I (S) a35 3).toInt64) + r4).toInt)
        have f56 : v55 = v47 + r4.toInt := q_addVJ ev55 ev47 q_evr (by omega) (by omega)
        refine q_ok_b (s_X1_open_30 hn hG.1 maT raT (q_wd (show (1 : Int) ≤ (1 : Int32).toInt ∧ (1 : Int32).toInt ≤ (1 : Int) by decide) (by decide) (by decide)) (q_oV ev55 (by omega) (by omega)) (q_oV q_evr (by omega) (by omega))) (fun r52 S53 h54 => ?_)
        have hG := q_G_call hG h54.1 (by decide)
        have f57 : q_sm _ := g_30_J3 hG maT raT
        obtain ⟨v58, ev58⟩ := q_ev ((q_J (S53) aT 3).toInt)
        have f59 := q_bV ev58 f57
        have f60 := q_leCv ev58 (h54.2)
        unfold m_X6_open_89
        exact q_ok_some ⟨hG, (q_trk eaT (q_leC ev58 (by omega)))⟩
      · have f61 := q_neV q_evr q_evr (q_cn_eq g32)
        unfold m_X6_open_55
        refine q_ok_atS hG (q_trI mo ro) rfl (fun mo ro => ?_)
        have t62 := g_9_R9 hG mo ro
        refine q_ok_at hG t62 rfl (fun a63 ma63 ra63 ea63 => ?_)
        have f64 : q_sm _ := g_8_I3 hG ma63 ra63
        have t65 := g_9_R9 hG mo ro
        have t66 := g_9_R9 hG mo ro
        refine q_ok_b (s_X7_end_8 hn hG.1 ma63 ra63) (fun r67 S68 h69 => ?_)
        obtain ⟨eS68, h69⟩ := h69
        replace eS68 := eS68.symm
        subst eS68
        have f70 := h69
        obtain ⟨v74, ev74⟩ := q_ev ((((q_I (S) a63 3).toInt64) + r8).toInt)
        obtain ⟨v75, ev75⟩ := q_ev (((q_I (S) a63 3).toInt64).toInt)
        obtain ⟨v76, ev76⟩ := q_ev ((q_I (S) a63 3).toInt)
        have f77 := q_bV ev76 f64
        have f78 : v75 = v76 := q_i2lV ev75 ev76
        have f79 : v74 = v75 + r8.toInt := q_addVJ ev74 ev75 q_evr (by omega) (by omega)
        refine q_ok_b (s_J9_min_f86c9 n _ _ _) (fun r71 S72 h73 => ?_)
        obtain ⟨eS72, h73⟩ := h73
        replace h73 := q_mmVN ev74 q_evr h73
        replace eS72 := eS72.symm
        subst eS72
        refine q_ok_atA hG eaT maT raT rfl ?_
        obtain ⟨v83, ev83⟩ := q_ev ((((q_I (S) a63 3).toInt64) + r4).toInt)
        have f84 : v83 = v75 + r4.toInt := q_addVJ ev83 ev75 q_evr (by omega) (by omega)
        refine q_ok_b (s_X1_open_30 hn hG.1 maT raT (q_wd (show (0 : Int) ≤ (0 : Int32).toInt ∧ (0 : Int32).toInt ≤ (0 : Int) by decide) (by decide) (by decide)) (q_oV ev83 (by omega) (by omega)) (q_oV q_evr (by omega) (by omega))) (fun r80 S81 h82 => ?_)
        have hG := q_G_call hG h82.1 (by decide)
        have f85 : q_sm _ := g_30_J3 hG maT raT
        obtain ⟨v86, ev86⟩ := q_ev ((q_J (S81) aT 3).toInt)
        have f87 := q_bV ev86 f85
        have f88 := q_leCv ev86 (h82.2)
        unfold m_X6_open_89
        exact q_ok_some ⟨hG, (q_trk eaT (q_leC ev86 (by omega)))⟩
def M_X5_shape_14_k0 : List Nat := [194, 256, 320, 905, 964, 965, 1024, 1088, 1152, 1216, 1664, 1728, 1856, 1921, 1922, 1923, 1924, 1925, 1926, 1927, 1928, 1929, 1930, 1931, 1932, 1933, 1985, 1986, 1987, 1988, 1989, 1990, 1991, 1992, 1993, 1994, 1995, 1996, 1997, 2049, 2050, 2051, 2052, 2053, 2054, 2055, 2056, 2057, 2058, 2059, 2060, 2061, 2113, 2114, 2115, 2116, 2117, 2118, 2119, 2120, 2121, 2122, 2123, 2124, 2125, 2177, 2178, 2179, 2180, 2181, 2182, 2183, 2184, 2185, 2186, 2187, 2188, 2189, 2241, 2242, 2243, 2244, 2245, 2246, 2247, 2248, 2249, 2250, 2251, 2252, 2253]
set_option maxHeartbeats 4000000 in
set_option maxRecDepth 100000 in
theorem s_X5_shape_14_k0_130 {ρ : Nat → Nat} {L : List Nat} {n : Nat} (hn : 18446744073709551616 ≤ n) {S0 : q_S}  (S : q_S) (hG : q_G ρ L M_X5_shape_14_k0 S0 S) : q_ok (m_X5_shapeR_130 (m_X5_shapeD n 6) n S) (fun _ T => q_G ρ L M_X5_shape_14_k0 S0 T) := by
  unfold m_X5_shapeR_130
  have z0 : (0 : Int32).toInt = 0 := rfl
  exact q_ok_some hG
set_option maxHeartbeats 4000000 in
set_option maxRecDepth 100000 in
theorem s_X5_shape_14_k0 {ρ : Nat → Nat} {L : List Nat} {n : Nat} (hn : 18446744073709551616 ≤ n) {S : q_S} (hI : q_Inv ρ L S) {o : Nat} (mo : o ∈ L) (ro : ρ o = 14) {p0 : Int32} (hp0 : (0 ≤ p0.toInt ∧ p0.toInt ≤ 0)) {p1 : Int32} (hp1 : (0 ≤ p1.toInt ∧ p1.toInt ≤ 199)) : q_ok (m_X5_shapeD n 7 S o p0 p1) (fun _ T => q_G ρ L M_X5_shape_14_k0 S T) := by
  have hG : q_G ρ L M_X5_shape_14_k0 S S := q_G_refl hI
  show q_ok (m_X5_shapeD n (6 + 1) S o p0 p1) _
  rw [m_X5_shapeD]
  unfold m_X5_shapeR
  have z0 : (0 : Int32).toInt = 0 := rfl
  refine q_ok_ite (fun g1 => ?_) (fun g1 => ?_)
  · have f2 := q_ltV q_evr (show q_eqv ((0 : Int32)).toInt (0) by unfold q_eqv; decide) (q_p_lt g1)
    exfalso; omega
  · have f3 := q_leV (show q_eqv ((0 : Int32)).toInt (0) by unfold q_eqv; decide) q_evr (q_n_lt g1)
    refine q_ok_ite (fun g4 => ?_) (fun g4 => ?_)
    · have f5 := q_leV q_evr (show q_eqv ((5 : Int32)).toInt (5) by unfold q_eqv; decide) (q_p_le g4)
      refine q_ok_atS hG (q_trI mo ro) rfl (fun mo ro => ?_)
      have t6 := g_14_R4 hG mo ro
      refine q_ok_at hG t6 rfl (fun a7 ma7 ra7 ea7 => ?_)
      refine q_ok_if (q_inV (g_25_N hG ma7 ra7) q_evr (by omega) (by omega)) ?_
      have t8 := g_25_RK0 hG ma7 ra7 (k := (p0).toNatClampNeg) (q_idxK q_evr (by omega))
      have t9 := g_14_R0 hG mo ro
      refine q_ok_at hG t9 rfl (fun a10 ma10 ra10 ea10 => ?_)
      obtain ⟨a14, ea14, ma14, ra14⟩ := id t8
      have f15 : q_sm _ := g_30_J3 hG ma14 ra14
      refine q_ok_b (s_X6_open_9_30 hn hG.1 ma10 ra10 (q_wd hp1 (by decide) (by decide)) t8) (fun r11 S12 h13 => ?_)
      have hG := q_G_call hG h13.1 (by decide)
      have f16 : q_sm _ := g_30_J3 hG ma14 ra14
      obtain ⟨v17, ev17⟩ := q_ev ((q_J (S12) a14 3).toInt)
      have f18 := q_bV ev17 f16
      obtain ⟨v19, ev19⟩ := q_ev ((q_J (S) a14 3).toInt)
      have f20 := q_bV ev19 f15
      have f21 := q_leCv ev17 (h13.2 _ ea14)
      refine q_ok_atA hG ea14 ma14 ra14 rfl ?_
      refine q_ok_b (s_X1_isEmpty_30 hn hG.1 ma14 ra14) (fun r22 S23 h24 => ?_)
      obtain ⟨eS23, h24⟩ := h24
      replace eS23 := eS23.symm
      subst eS23
      have f25 := h24
      refine q_ok_ite (fun g26 => ?_) (fun g26 => ?_)
      · have f27 := q_eqV q_evr (show q_eqv ((0 : Int32)).toInt (0) by unfold q_eqv; decide) (q_p_eq g26)
        refine q_ok_atS hG (q_trI mo ro) rfl (fun mo ro => ?_)
        have t28 := g_14_R5 hG mo ro
        refine q_ok_at hG t28 rfl (fun a29 ma29 ra29 ea29 => ?_)
        refine q_ok_if (q_inV (g_26_N hG ma29 ra29) q_evr (by omega) (by omega)) ?_
        have hG := u_26_E (k := (p0).toNatClampNeg) (x := p1) hG ma29 ra29 (by decide) (q_wd hp1 (by decide) (by decide))
        have hG := u_14_I9 (x := (q_I (q_sI (S12) a29 (p0).toNatClampNeg (p1)) o 9) + (1 : Int32)) hG mo ro (by decide)
        refine q_ok_let (fun S30 eS30 => ?_)
        rw [← eS30] at hG
        have t31 := g_14_R6 hG mo ro
        have e32 : q_I (S30) o 9 = (q_I (q_sI (S12) a29 (p0).toNatClampNeg (p1)) o 9) + (1 : Int32) := (Eq.trans (q_leI eS30) q_hitI)
        refine q_ok_at hG t31 rfl (fun a33 ma33 ra33 ea33 => ?_)
        refine q_ok_if (q_inV (g_27_N hG ma33 ra33) q_evr (by omega) (by omega)) ?_
        have hG := u_27_E (k := (p0).toNatClampNeg) (x := q_I (S30) o 9) hG ma33 ra33 (by decide)
        have t34 := g_14_R2 hG mo ro
        refine q_ok_at hG t34 rfl (fun a35 ma35 ra35 ea35 => ?_)
        refine q_ok_b (s_X3_size_15 hn hG.1 ma35 ra35) (fun r36 S37 h38 => ?_)
        obtain ⟨eS37, h38⟩ := h38
        replace eS37 := eS37.symm
        subst eS37
        have f39 := h38
        refine q_ok_atS hG (q_trI mo ro) rfl (fun mo ro => ?_)
        have t40 := g_14_R2 hG mo ro
        refine q_ok_atA hG ea35 ma35 ra35 rfl ?_
        refine q_ok_b (s_X3_contours_15 hn hG.1 ma35 ra35) (fun r41 S42 h43 => ?_)
        obtain ⟨eS42, h43⟩ := h43
        replace eS42 := eS42.symm
        subst eS42
        have f44 := h43
        refine q_ok_atA hG ea14 ma14 ra14 rfl ?_
        refine q_ok_b (s_X1_hasParts_30 hn hG.1 ma14 ra14) (fun r45 S46 h47 => ?_)
        obtain ⟨eS46, h47⟩ := h47
        replace eS46 := eS46.symm
        subst eS46
        have f48 := h47
        obtain ⟨v49, ev49⟩ := q_ev ((q_I (q_sI (S30) a33 (p0).toNatClampNeg (q_I (S30) o 9)) a14 5).toInt)
        have f50 := q_bV ev49 (g_30_I5 hG ma14 ra14)
        have f51 : r45.toInt = 0 → (0) ≤ v49 := fun h9 => q_leV (show q_eqv ((0 : Int32)).toInt (0) by unfold q_eqv; decide) ev49 (f48.2.1 h9)
        have f52 : r45.toInt = 1 → v49 < (0) := fun h9 => q_ltV ev49 (show q_eqv ((0 : Int32)).toInt (0) by unfold q_eqv; decide) (f48.2.2 h9)
        refine q_ok_ite (fun g53 => ?_) (fun g53 => ?_)
        · have f54 := q_eqV q_evr (show q_eqv ((0 : Int32)).toInt (0) by unfold q_eqv; decide) (q_p_eq g53)
          refine q_ok_atS hG (q_trI mo ro) rfl (fun mo ro => ?_)
          have t55 := g_14_R2 hG mo ro
          refine q_ok_atA hG ea35 ma35 ra35 rfl ?_
          have e59 : q_J (q_sI (S30) a33 (p0).toNatClampNeg (q_I (S30) o 9)) a14 3 = q_J (S12) a14 3 := (Eq.trans q_skJI (Eq.trans (q_leJ eS30) (Eq.trans q_skJI q_skJI)))
          obtain ⟨v60, ev60⟩ := q_ev ((q_J (q_sI (S30) a33 (p0).toNatClampNeg (q_I (S30) o 9)) a14 3).toInt)
          have f61 : v60 = v17 := q_eqVJ e59 ev60 ev17
          refine q_ok_b (s_X3_take_15_30 hn hG.1 ma35 ra35 t8 (q_trk ea14 (q_leC ev60 (by omega)))) (fun r56 S57 h58 => ?_)
          have hG := q_G_call hG h58.1 (by decide)
          have f62 := h58.2.1
          have f63 : q_sm _ := g_30_J3 hG ma14 ra14
          obtain ⟨v64, ev64⟩ := q_ev ((q_J (S57) a14 3).toInt)
          have f65 := q_bV ev64 f63
          have f66 := q_leDv ev64 ev60 (h58.2.2 _ ea14)
          unfold m_X5_shapeR_103
          refine q_ok_ite (fun g67 => ?_) (fun g67 => ?_)
          · have f68 := q_eqV q_evr (show q_eqv ((0 : Int32)).toInt (0) by unfold q_eqv; decide) (q_p_eq g67)
            refine q_ok_atS hG (q_trI mo ro) rfl (fun mo ro => ?_)
            have t69 := g_14_R2 hG mo ro
            have e70 : q_R (S57) o 2 = q_R (q_sI (S30) a33 (p0).toNatClampNeg (q_I (S30) o 9)) o 2 := (q_unR h58.1 mo ro (by decide))
            refine q_ok_atA hG (Eq.trans e70 ea35) ma35 ra35 rfl ?_
            refine q_ok_b (s_X3_keep_15 hn hG.1 ma35 ra35 (q_wd f39 (by decide) (by decide)) (q_wd f44 (by decide) (by decide))) (fun r71 S72 h73 => ?_)
            have hG := q_G_call hG h73 (by decide)
            refine q_ok_atS hG (q_trI mo ro) rfl (fun mo ro => ?_)
            have t74 := g_14_R1 hG mo ro
            refine q_ok_at hG t74 rfl (fun a75 ma75 ra75 ea75 => ?_)
            refine q_ok_b (s_X9_tell_3 hn hG.1 ma75 ra75 (q_wd (show (1 : Int) ≤ (1 : Int32).toInt ∧ (1 : Int32).toInt ≤ (1 : Int) by decide) (by decide) (by decide)) (q_wd hp1 (by decide) (by decide))) (fun r76 S77 h78 => ?_)
            have hG := q_G_call hG h78 (by decide)
            exact s_X5_shape_14_k0_130 hn _ hG 
          · have f79 := q_neV q_evr (show q_eqv ((0 : Int32)).toInt (0) by unfold q_eqv; decide) (q_n_eq g67)
            exact s_X5_shape_14_k0_130 hn _ hG 
        · have f80 := q_neV q_evr (show q_eqv ((0 : Int32)).toInt (0) by unfold q_eqv; decide) (q_n_eq g53)
          refine q_ok_atS hG (q_trI mo ro) rfl (fun mo ro => ?_)
          have e84 : q_J (q_sI (S30) a33 (p0).toNatClampNeg (q_I (S30) o 9)) a14 3 = q_J (S12) a14 3 := (Eq.trans q_skJI (Eq.trans (q_leJ eS30) (Eq.trans q_skJI q_skJI)))
          obtain ⟨v85, ev85⟩ := q_ev ((q_J (q_sI (S30) a33 (p0).toNatClampNeg (q_I (S30) o 9)) a14 3).toInt)
          have f86 : v85 = v17 := q_eqVJ e84 ev85 ev17
          refine q_ok_b (s_X5_shapeParts_14_30 hn hG.1 mo ro (q_wd hp0 (by decide) (by decide)) t8 (q_trk ea14 (q_leC ev85 (by omega)))) (fun r81 S82 h83 => ?_)
          have hG := q_G_call hG h83.1 (by decide)
          have f87 := h83.2
          unfold m_X5_shapeR_103
          refine q_ok_ite (fun g88 => ?_) (fun g88 => ?_)
          · have f89 := q_eqV q_evr (show q_eqv ((0 : Int32)).toInt (0) by unfold q_eqv; decide) (q_p_eq g88)
            refine q_ok_atS hG (q_trI mo ro) rfl (fun mo ro => ?_)
            have t90 := g_14_R2 hG mo ro
            have e91 : q_R (S82) o 2 = q_R (q_sI (S30) a33 (p0).toNatClampNeg (q_I (S30) o 9)) o 2 := (q_unR h83.1 mo ro (by decide))
            refine q_ok_atA hG (Eq.trans e91 ea35) ma35 ra35 rfl ?_
            refine q_ok_b (s_X3_keep_15 hn hG.1 ma35 ra35 (q_wd f39 (by decide) (by decide)) (q_wd f44 (by decide) (by decide))) (fun r92 S93 h94 => ?_)
            have hG := q_G_call hG h94 (by decide)
            refine q_ok_atS hG (q_trI mo ro) rfl (fun mo ro => ?_)
            have t95 := g_14_R1 hG mo ro
            refine q_ok_at hG t95 rfl (fun a96 ma96 ra96 ea96 => ?_)
            refine q_ok_b (s_X9_tell_3 hn hG.1 ma96 ra96 (q_wd (show (1 : Int) ≤ (1 : Int32).toInt ∧ (1 : Int32).toInt ≤ (1 : Int) by decide) (by decide) (by decide)) (q_wd hp1 (by decide) (by decide))) (fun r97 S98 h99 => ?_)
            have hG := q_G_call hG h99 (by decide)
            exact s_X5_shape_14_k0_130 hn _ hG 
          · have f100 := q_neV q_evr (show q_eqv ((0 : Int32)).toInt (0) by unfold q_eqv; decide) (q_n_eq g88)
            exact s_X5_shape_14_k0_130 hn _ hG 
      · have f101 := q_neV q_evr (show q_eqv ((0 : Int32)).toInt (0) by unfold q_eqv; decide) (q_n_eq g26)
        exact q_ok_some hG
    · have f102 := q_ltV (show q_eqv ((5 : Int32)).toInt (5) by unfold q_eqv; decide) q_evr (q_n_le g4)
      exfalso; omega
