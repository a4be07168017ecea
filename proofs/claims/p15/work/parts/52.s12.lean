def M_X3_take_20_35 : List Nat := [1284, 1285, 1344, 1408, 1472, 1536, 2242, 2243]
set_option maxHeartbeats 4000000 in
set_option maxRecDepth 100000 in
theorem s_X3_take_20_35 {ρ : Nat → Nat} {L : List Nat} {n : Nat} (hn : 18446744073709551616 ≤ n) {S : q_S} (hI : q_Inv ρ L S) {o : Nat} (mo : o ∈ L) (ro : ρ o = 20) {p0 : Option Nat} (tp0 : q_tr ρ L p0 35) (ht : ∀ a, p0 = some a → (q_J S a 3).toInt ≤ 140737489403904) : q_ok (m_X3_take n S o p0) (fun r T => q_G ρ L M_X3_take_20_35 S T ∧ (0 ≤ r.toInt ∧ r.toInt ≤ 1) ∧ q_sm (∀ a, p0 = some a → (q_J T a 3).toInt ≤ (q_J S a 3).toInt + 300000)) := by
  have hG : q_G ρ L M_X3_take_20_35 S S := q_G_refl hI
  unfold m_X3_take
  have z0 : (0 : Int32).toInt = 0 := rfl
  obtain ⟨aT, eaT, maT, raT⟩ := id tp0
  have f1 : q_sm _ := g_35_J3 hG maT raT
  obtain ⟨v2, ev2⟩ := q_ev ((q_J (S) aT 3).toInt)
  have f3 := q_bV ev2 f1
  have f4 := q_leCv ev2 (ht aT eaT)
  refine q_ok_atS hG (q_trI mo ro) rfl (fun mo ro => ?_)
  have f5 : q_sm _ := g_20_I4 hG mo ro
  refine q_ok_b (s_X3_takeContours_20_35 hn hG.1 mo ro tp0 (q_wd f5 (by decide) (by decide)) (q_trk eaT (q_leC ev2 (by omega)))) (fun r6 S7 h8 => ?_)
  have hG := q_G_call hG h8.1 (by decide)
  have f9 := h8.2.1
  have f10 : q_sm _ := g_35_J3 hG maT raT
  obtain ⟨v11, ev11⟩ := q_ev ((q_J (S7) aT 3).toInt)
  have f12 := q_bV ev11 f10
  have f13 := q_leDv ev11 ev2 (h8.2.2 _ eaT)
  refine q_ok_ite (fun g14 => ?_) (fun g14 => ?_)
  · have f15 := q_eqV q_evr (show q_eqv ((0 : Int32)).toInt (0) by unfold q_eqv; decide) (q_p_eq g14)
    refine q_ok_if (q_b01V (show q_eqv ((0 : Int32)).toInt (0) by unfold q_eqv; decide) (by omega) (by omega)) ?_
    exact q_ok_some ⟨hG, (q_wd (show (0 : Int) ≤ (0 : Int32).toInt ∧ (0 : Int32).toInt ≤ (0 : Int) by decide) (by decide) (by decide)), (q_trk eaT (q_leD ev11 ev2 (by omega)))⟩
  · have f16 := q_neV q_evr (show q_eqv ((0 : Int32)).toInt (0) by unfold q_eqv; decide) (q_n_eq g14)
    refine q_ok_atA hG eaT maT raT rfl ?_
    refine q_ok_b (s_X1_two_35 hn hG.1 maT raT (q_leC ev11 (by omega))) (fun r17 S18 h19 => ?_)
    have hG := q_G_call hG h19.1 (by decide)
    have f20 := h19.2.1
    have f21 : q_sm _ := g_35_J3 hG maT raT
    obtain ⟨v22, ev22⟩ := q_ev ((q_J (S18) aT 3).toInt)
    have f23 := q_bV ev22 f21
    have f24 := q_leDv ev22 ev11 (h19.2.2)
    refine q_ok_atA hG eaT maT raT rfl ?_
    refine q_ok_b (s_X1_skip_35 hn hG.1 maT raT (q_wd f20 (by decide) (by decide)) (q_leC ev22 (by omega))) (fun r25 S26 h27 => ?_)
    have hG := q_G_call hG h27.1 (by decide)
    have f28 : q_sm _ := g_35_J3 hG maT raT
    obtain ⟨v29, ev29⟩ := q_ev ((q_J (S26) aT 3).toInt)
    have f30 := q_bV ev29 f28
    have f31 := q_leDv ev29 ev22 (h27.2)
    refine q_ok_atS hG (q_trI mo ro) rfl (fun mo ro => ?_)
    refine q_ok_b (s_X3_takeFlags_20_35 hn hG.1 mo ro tp0 (q_wd f5 (by decide) (by decide)) (q_trk eaT (q_leC ev29 (by omega)))) (fun r32 S33 h34 => ?_)
    have hG := q_G_call hG h34.1 (by decide)
    have f35 := h34.2.1
    have f36 : q_sm _ := g_35_J3 hG maT raT
    obtain ⟨v37, ev37⟩ := q_ev ((q_J (S33) aT 3).toInt)
    have f38 := q_bV ev37 f36
    have f39 := q_leDv ev37 ev29 (h34.2.2 _ eaT)
    refine q_ok_ite (fun g40 => ?_) (fun g40 => ?_)
    · have f41 := q_eqV q_evr (show q_eqv ((0 : Int32)).toInt (0) by unfold q_eqv; decide) (q_p_eq g40)
      refine q_ok_if (q_b01V (show q_eqv ((0 : Int32)).toInt (0) by unfold q_eqv; decide) (by omega) (by omega)) ?_
      exact q_ok_some ⟨hG, (q_wd (show (0 : Int) ≤ (0 : Int32).toInt ∧ (0 : Int32).toInt ≤ (0 : Int) by decide) (by decide) (by decide)), (q_trk eaT (q_leD ev37 ev2 (by omega)))⟩
    · have f42 := q_neV q_evr (show q_eqv ((0 : Int32)).toInt (0) by unfold q_eqv; decide) (q_n_eq g40)
      refine q_ok_atS hG (q_trI mo ro) rfl (fun mo ro => ?_)
      have t43 := g_20_R0 hG mo ro
      refine q_ok_b (s_X3_takeAxis_20_35_21 hn hG.1 mo ro tp0 t43 (q_wd f5 (by decide) (by decide)) (q_wd (show (2 : Int) ≤ (2 : Int32).toInt ∧ (2 : Int32).toInt ≤ (2 : Int) by decide) (by decide) (by decide)) (q_wd (show (16 : Int) ≤ (16 : Int32).toInt ∧ (16 : Int32).toInt ≤ (16 : Int) by decide) (by decide) (by decide)) (q_trk eaT (q_leC ev37 (by omega)))) (fun r44 S45 h46 => ?_)
      have hG := q_G_call hG h46.1 (by decide)
      have f47 : q_sm _ := g_35_J3 hG maT raT
      obtain ⟨v48, ev48⟩ := q_ev ((q_J (S45) aT 3).toInt)
      have f49 := q_bV ev48 f47
      have f50 := q_leDv ev48 ev37 (h46.2 _ eaT)
      refine q_ok_atS hG (q_trI mo ro) rfl (fun mo ro => ?_)
      have t51 := g_20_R1 hG mo ro
      refine q_ok_b (s_X3_takeAxis_20_35_22 hn hG.1 mo ro tp0 t51 (q_wd f5 (by decide) (by decide)) (q_wd (show (4 : Int) ≤ (4 : Int32).toInt ∧ (4 : Int32).toInt ≤ (4 : Int) by decide) (by decide) (by decide)) (q_wd (show (32 : Int) ≤ (32 : Int32).toInt ∧ (32 : Int32).toInt ≤ (32 : Int) by decide) (by decide) (by decide)) (q_trk eaT (q_leC ev48 (by omega)))) (fun r52 S53 h54 => ?_)
      have hG := q_G_call hG h54.1 (by decide)
      have f55 : q_sm _ := g_35_J3 hG maT raT
      obtain ⟨v56, ev56⟩ := q_ev ((q_J (S53) aT 3).toInt)
      have f57 := q_bV ev56 f55
      have f58 := q_leDv ev56 ev48 (h54.2 _ eaT)
      refine q_ok_atA hG eaT maT raT rfl ?_
      refine q_ok_b (s_X1_isPast_35 hn hG.1 maT raT) (fun r59 S60 h61 => ?_)
      obtain ⟨eS60, h61⟩ := h61
      replace eS60 := eS60.symm
      subst eS60
      have f62 := h61
      refine q_ok_ite (fun g63 => ?_) (fun g63 => ?_)
      · have f64 := q_eqV q_evr (show q_eqv ((0 : Int32)).toInt (0) by unfold q_eqv; decide) (q_p_eq g63)
        unfold m_X3_take_73
        refine q_ok_if (q_b01V (show q_eqv ((1 : Int32)).toInt (1) by unfold q_eqv; decide) (by omega) (by omega)) ?_
        exact q_ok_some ⟨hG, (q_wd (show (1 : Int) ≤ (1 : Int32).toInt ∧ (1 : Int32).toInt ≤ (1 : Int) by decide) (by decide) (by decide)), (q_trk eaT (q_leD ev56 ev2 (by omega)))⟩
      · have f65 := q_neV q_evr (show q_eqv ((0 : Int32)).toInt (0) by unfold q_eqv; decide) (q_n_eq g63)
        unfold m_X3_take_73
        refine q_ok_if (q_b01V (show q_eqv ((0 : Int32)).toInt (0) by unfold q_eqv; decide) (by omega) (by omega)) ?_
        exact q_ok_some ⟨hG, (q_wd (show (0 : Int) ≤ (0 : Int32).toInt ∧ (0 : Int32).toInt ≤ (0 : Int) by decide) (by decide) (by decide)), (q_trk eaT (q_leD ev56 ev2 (by omega)))⟩
def M_X5_yieldOfSimple_14_35 : List Nat := [1284, 1285, 1344, 1408, 1472, 1536, 2242, 2243]
set_option maxHeartbeats 4000000 in
set_option maxRecDepth 100000 in
theorem s_X5_yieldOfSimple_14_35 {ρ : Nat → Nat} {L : List Nat} {n : Nat} (hn : 18446744073709551616 ≤ n) {S : q_S} (hI : q_Inv ρ L S) {o : Nat} (mo : o ∈ L) (ro : ρ o = 14) {p0 : Option Nat} (tp0 : q_tr ρ L p0 35) (ht : ∀ a, p0 = some a → (q_J S a 3).toInt ≤ 140737488355328) : q_ok (m_X5_yieldOfSimple n S o p0) (fun r T => q_G ρ L M_X5_yieldOfSimple_14_35 S T ∧ (0 ≤ r.toInt ∧ r.toInt ≤ 2000)) := by
  have hG : q_G ρ L M_X5_yieldOfSimple_14_35 S S := q_G_refl hI
  unfold m_X5_yieldOfSimple
  have z0 : (0 : Int32).toInt = 0 := rfl
  obtain ⟨aT, eaT, maT, raT⟩ := id tp0
  have f1 : q_sm _ := g_35_J3 hG maT raT
  obtain ⟨v2, ev2⟩ := q_ev ((q_J (S) aT 3).toInt)
  have f3 := q_bV ev2 f1
  have f4 := q_leCv ev2 (ht aT eaT)
  refine q_ok_atS hG (q_trI mo ro) rfl (fun mo ro => ?_)
  have t5 := g_14_R3 hG mo ro
  refine q_ok_at hG t5 rfl (fun a6 ma6 ra6 ea6 => ?_)
  refine q_ok_b (s_X3_keep_20 hn hG.1 ma6 ra6 (q_wd (show (0 : Int) ≤ (0 : Int32).toInt ∧ (0 : Int32).toInt ≤ (0 : Int) by decide) (by decide) (by decide)) (q_wd (show (0 : Int) ≤ (0 : Int32).toInt ∧ (0 : Int32).toInt ≤ (0 : Int) by decide) (by decide) (by decide))) (fun r7 S8 h9 => ?_)
  have hG := q_G_call hG h9 (by decide)
  refine q_ok_atS hG (q_trI mo ro) rfl (fun mo ro => ?_)
  have t10 := g_14_R3 hG mo ro
  have e11 : q_R (S8) o 3 = q_R (S) o 3 := (q_unR h9 mo ro (by decide))
  refine q_ok_atA hG (Eq.trans e11 ea6) ma6 ra6 rfl ?_
  have e15 : q_J (S8) aT 3 = q_J (S) aT 3 := (q_unJ h9 maT raT (by decide))
  obtain ⟨v16, ev16⟩ := q_ev ((q_J (S8) aT 3).toInt)
  have f17 : v16 = v2 := q_eqVJ e15 ev16 ev2
  refine q_ok_b (s_X3_take_20_35 hn hG.1 ma6 ra6 tp0 (q_trk eaT (q_leC ev16 (by omega)))) (fun r12 S13 h14 => ?_)
  have hG := q_G_call hG h14.1 (by decide)
  have f18 := h14.2.1
  have f19 : q_sm _ := g_35_J3 hG maT raT
  obtain ⟨v20, ev20⟩ := q_ev ((q_J (S13) aT 3).toInt)
  have f21 := q_bV ev20 f19
  have f22 := q_leDv ev20 ev16 (h14.2.2 _ eaT)
  refine q_ok_ite (fun g23 => ?_) (fun g23 => ?_)
  · have f24 := q_eqV q_evr (show q_eqv ((0 : Int32)).toInt (0) by unfold q_eqv; decide) (q_p_eq g23)
    exact q_ok_some ⟨hG, (q_wd (show (1000 : Int) ≤ (1000 : Int32).toInt ∧ (1000 : Int32).toInt ≤ (1000 : Int) by decide) (by decide) (by decide))⟩
  · have f25 := q_neV q_evr (show q_eqv ((0 : Int32)).toInt (0) by unfold q_eqv; decide) (q_n_eq g23)
    refine q_ok_atS hG (q_trI mo ro) rfl (fun mo ro => ?_)
    have t26 := g_14_R3 hG mo ro
    have e27 : q_R (S13) o 3 = q_R (S8) o 3 := (q_unR h14.1 mo ro (by decide))
    refine q_ok_atA hG (Eq.trans e27 (Eq.trans e11 ea6)) ma6 ra6 rfl ?_
    refine q_ok_b (s_X3_size_20 hn hG.1 ma6 ra6) (fun r28 S29 h30 => ?_)
    obtain ⟨eS29, h30⟩ := h30
    replace eS29 := eS29.symm
    subst eS29
    have f31 := h30
    refine q_ok_ite (fun g32 => ?_) (fun g32 => ?_)
    · have f33 := q_eqV q_evr (show q_eqv ((0 : Int32)).toInt (0) by unfold q_eqv; decide) (q_p_eq g32)
      unfold m_X5_yieldOfSimple_47
      exact q_ok_some ⟨hG, (q_wd (show (2000 : Int) ≤ (2000 : Int32).toInt ∧ (2000 : Int32).toInt ≤ (2000 : Int) by decide) (by decide) (by decide))⟩
    · have f34 := q_neV q_evr (show q_eqv ((0 : Int32)).toInt (0) by unfold q_eqv; decide) (q_n_eq g32)
      refine q_ok_atS hG (q_trI mo ro) rfl (fun mo ro => ?_)
      have t35 := g_14_R3 hG mo ro
      refine q_ok_atA hG (Eq.trans e27 (Eq.trans e11 ea6)) ma6 ra6 rfl ?_
      refine q_ok_b (s_X3_size_20 hn hG.1 ma6 ra6) (fun r36 S37 h38 => ?_)
      obtain ⟨eS37, h38⟩ := h38
      replace eS37 := eS37.symm
      subst eS37
      have f39 := h38
      unfold m_X5_yieldOfSimple_47
      exact q_ok_some ⟨hG, (q_wd f39 (by decide) (by decide))⟩
def M_X1_open_35 : List Nat := [2241, 2242, 2243, 2244, 2245]
set_option maxHeartbeats 4000000 in
set_option maxRecDepth 100000 in
theorem s_X1_open_35 {ρ : Nat → Nat} {L : List Nat} {n : Nat} (hn : 18446744073709551616 ≤ n) {S : q_S} (hI : q_Inv ρ L S) {o : Nat} (mo : o ∈ L) (ro : ρ o = 35) {p0 : Int32} (hp0 : (0 ≤ p0.toInt ∧ p0.toInt ≤ 1)) {p1 : Int64} (hp1 : (0 ≤ p1.toInt ∧ p1.toInt ≤ 17179869184)) {p2 : Int64} (hp2 : (0 ≤ p2.toInt ∧ p2.toInt ≤ 65535)) : q_ok (m_X1_open n S o p0 p1 p2) (fun _ T => q_G ρ L M_X1_open_35 S T ∧ q_sm ((q_J T o 3).toInt ≤ 1099511627776)) := by
  have hG : q_G ρ L M_X1_open_35 S S := q_G_refl hI
  unfold m_X1_open
  have z0 : (0 : Int32).toInt = 0 := rfl
  have f1 : q_sm _ := g_35_J3 hG mo ro
  obtain ⟨v2, ev2⟩ := q_ev ((q_J (S) o 3).toInt)
  have f3 := q_bV ev2 f1
  refine q_ok_atS hG (q_trI mo ro) rfl (fun mo ro => ?_)
  refine q_ok_if (q_b01V q_evr (by omega) (by omega)) ?_
  have hG := u_35_I1 (x := p0) hG mo ro (by decide) (q_wd hp0 (by decide) (by decide))
  refine q_ok_if (q_b01V (show q_eqv ((0 : Int32)).toInt (0) by unfold q_eqv; decide) (by omega) (by omega)) ?_
  have hG := u_35_I2 (x := (0 : Int32)) hG mo ro (by decide) (q_wd (show (0 : Int) ≤ (0 : Int32).toInt ∧ (0 : Int32).toInt ≤ (0 : Int) by decide) (by decide) (by decide))
  refine q_ok_let (fun S4 eS4 => ?_)
  rw [← eS4] at hG
  have hG := u_35_J3 (x := p1) hG mo ro (by decide) (q_wd hp1 (by decide) (by decide))
  have hG := u_35_J4 (x := p2) hG mo ro (by decide) (q_wd hp2 (by decide) (by decide))
  refine q_ok_let (fun S5 eS5 => ?_)
  rw [← eS5] at hG
  have e9 : q_J (S5) o 3 = p1 := (Eq.trans (q_leJ eS5) (Eq.trans (q_ffJ (by decide)) q_hitJ))
  obtain ⟨v10, ev10⟩ := q_ev ((q_J (S5) o 3).toInt)
  have f11 : v10 = p1.toInt := q_eqVJ e9 ev10 q_evr
  refine q_ok_b (s_X1_signedTwo_35 hn hG.1 mo ro (q_leC ev10 (by omega))) (fun r6 S7 h8 => ?_)
  have hG := q_G_call hG h8.1 (by decide)
  have f12 := h8.2.1
  have f13 : q_sm _ := g_35_J3 hG mo ro
  obtain ⟨v14, ev14⟩ := q_ev ((q_J (S7) o 3).toInt)
  have f15 := q_bV ev14 f13
  have f16 := q_leDv ev14 ev10 (h8.2.2)
  refine q_ok_atS hG (q_trI mo ro) rfl (fun mo ro => ?_)
  have hG := u_35_I5 (x := r6) hG mo ro (by decide) (q_wd f12 (by decide) (by decide))
  have e20 : q_J (q_sI (S7) o 5 (r6)) o 3 = q_J (S7) o 3 := q_skJI
  obtain ⟨v21, ev21⟩ := q_ev ((q_J (q_sI (S7) o 5 (r6)) o 3).toInt)
  have f22 : v21 = v14 := q_eqVJ e20 ev21 ev14
  refine q_ok_b (s_X1_skip_35 hn hG.1 mo ro (q_wd (show (8 : Int) ≤ (8 : Int32).toInt ∧ (8 : Int32).toInt ≤ (8 : Int) by decide) (by decide) (by decide)) (q_leC ev21 (by omega))) (fun r17 S18 h19 => ?_)
  have hG := q_G_call hG h19.1 (by decide)
  have f23 : q_sm _ := g_35_J3 hG mo ro
  obtain ⟨v24, ev24⟩ := q_ev ((q_J (S18) o 3).toInt)
  have f25 := q_bV ev24 f23
  have f26 := q_leDv ev24 ev21 (h19.2)
  exact q_ok_some ⟨hG, (q_leC ev24 (by omega))⟩
def M_X6_open_9_35 : List Nat := [2241, 2242, 2243, 2244, 2245]
set_option maxHeartbeats 4000000 in
set_option maxRecDepth 100000 in
theorem s_X6_open_9_35 {ρ : Nat → Nat} {L : List Nat} {n : Nat} (hn : 18446744073709551616 ≤ n) {S : q_S} (hI : q_Inv ρ L S) {o : Nat} (mo : o ∈ L) (ro : ρ o = 9) {p0 : Int32} (hp0 : (0 ≤ p0.toInt ∧ p0.toInt ≤ 199)) {p1 : Option Nat} (tp1 : q_tr ρ L p1 35) : q_ok (m_X6_open n S o p0 p1) (fun _ T => q_G ρ L M_X6_open_9_35 S T ∧ q_sm (∀ a, p1 = some a → (q_J T a 3).toInt ≤ 1099511627776)) := by
  have hG : q_G ρ L M_X6_open_9_35 S S := q_G_refl hI
  unfold m_X6_open
  have z0 : (0 : Int32).toInt = 0 := rfl
  obtain ⟨aT, eaT, maT, raT⟩ := id tp1
  have f1 : q_sm _ := g_35_J3 hG maT raT
  obtain ⟨v2, ev2⟩ := q_ev ((q_J (S) aT 3).toInt)
  have f3 := q_bV ev2 f1
  refine q_ok_atS hG (q_trI mo ro) rfl (fun mo ro => ?_)
  refine q_ok_b (s_X6_placeAt_9 hn hG.1 mo ro (q_wd hp0 (by decide) (by decide))) (fun r4 S5 h6 => ?_)
  obtain ⟨eS5, h6⟩ := h6
  replace eS5 := eS5.symm
  subst eS5
  have f7 := h6
  refine q_ok_atS hG (q_trI mo ro) rfl (fun mo ro => ?_)
  refine q_ok_b (s_X6_placeAt_9 hn hG.1 mo ro (q_wd (q_addBI (1) (200) hp0 (show (1 : Int) ≤ (1 : Int32).toInt ∧ (1 : Int32).toInt ≤ (1 : Int) by decide) (by decide) (by decide) (by decide) (by decide)) (by decide) (by decide))) (fun r8 S9 h10 => ?_)
  obtain ⟨eS9, h10⟩ := h10
  replace eS9 := eS9.symm
  subst eS9
  have f11 := h10
  refine q_ok_ite (fun g12 => ?_) (fun g12 => ?_)
  · have f13 := q_eqV q_evr (show q_eqv ((-1 : Int64)).toInt (-1) by unfold q_eqv; decide) (q_cp_eq g12)
    unfold m_X6_open_32
    refine q_ok_atA hG eaT maT raT rfl ?_
    refine q_ok_b (s_X1_open_35 hn hG.1 maT raT (q_wd (show (0 : Int) ≤ (0 : Int32).toInt ∧ (0 : Int32).toInt ≤ (0 : Int) by decide) (by decide) (by decide)) (q_wd (show (0 : Int) ≤ (0 : Int64).toInt ∧ (0 : Int64).toInt ≤ (0 : Int) by decide) (by decide) (by decide)) (q_wd (show (0 : Int) ≤ (0 : Int64).toInt ∧ (0 : Int64).toInt ≤ (0 : Int) by decide) (by decide) (by decide))) (fun r14 S15 h16 => ?_)
    have hG := q_G_call hG h16.1 (by decide)
    have f17 : q_sm _ := g_35_J3 hG maT raT
    obtain ⟨v18, ev18⟩ := q_ev ((q_J (S15) aT 3).toInt)
    have f19 := q_bV ev18 f17
    have f20 := q_leCv ev18 (h16.2)
    unfold m_X6_open_89
    exact q_ok_some ⟨hG, (q_trk eaT (q_leC ev18 (by omega)))⟩
  · have f21 := q_neV q_evr (show q_eqv ((-1 : Int64)).toInt (-1) by unfold q_eqv; decide) (q_cn_eq g12)
    refine q_ok_ite (fun g22 => ?_) (fun g22 => ?_)
    · have f23 := q_eqV q_evr (show q_eqv ((-1 : Int64)).toInt (-1) by unfold q_eqv; decide) (q_cp_eq g22)
      unfold m_X6_open_32
      refine q_ok_atA hG eaT maT raT rfl ?_
      refine q_ok_b (s_X1_open_35 hn hG.1 maT raT (q_wd (show (0 : Int) ≤ (0 : Int32).toInt ∧ (0 : Int32).toInt ≤ (0 : Int) by decide) (by decide) (by decide)) (q_wd (show (0 : Int) ≤ (0 : Int64).toInt ∧ (0 : Int64).toInt ≤ (0 : Int) by decide) (by decide) (by decide)) (q_wd (show (0 : Int) ≤ (0 : Int64).toInt ∧ (0 : Int64).toInt ≤ (0 : Int) by decide) (by decide) (by decide))) (fun r24 S25 h26 => ?_)
      have hG := q_G_call hG h26.1 (by decide)
      have f27 : q_sm _ := g_35_J3 hG maT raT
      obtain ⟨v28, ev28⟩ := q_ev ((q_J (S25) aT 3).toInt)
      have f29 := q_bV ev28 f27
      have f30 := q_leCv ev28 (h26.2)
      unfold m_X6_open_89
      exact q_ok_some ⟨hG, (q_trk eaT (q_leC ev28 (by omega)))⟩
    · have f31 := q_neV q_evr (show q_eqv ((-1 : Int64)).toInt (-1) by unfold q_eqv; decide) (q_cn_eq g22)
      refine q_ok_ite (fun g32 => ?_) (fun g32 => ?_)
      · have f33 := q_eqV q_evr q_evr (q_cp_eq g32)
        unfold m_X6_open_55
        refine q_ok_atS hG (q_trI mo ro) rfl (fun mo ro => ?_)
        have t34 := g_9_R9 hG mo ro
        refine q_ok_at hG t34 rfl (fun a35 ma35 ra35 ea35 => ?_)
        have f36 : q_sm _ := g_8_I3 hG ma35 ra35
        have t37 := g_9_R9 hG mo ro
        have t38 := g_9_R9 hG mo ro
        refine q_ok_b (s_X7_end_8 hn hG.1 ma35 ra35) (fun r39 S40 h41 => ?_)
        obtain ⟨eS40, h41⟩ := h41
        replace eS40 := eS40.symm
        subst eS40
        have f42 := h41
        obtain ⟨v46, ev46⟩ := q_ev ((((q_I (S) a35 3).toInt64) + r8).toInt)
        obtain ⟨v47, ev47⟩ := q_ev (((q_I (S) a35 3).toInt64).toInt)
        obtain ⟨v48, ev48⟩ := q_ev ((q_I (S) a35 3).toInt)
        have f49 := q_bV ev48 f36
        have f50 : v47 = v48 := q_i2lV ev47 ev48
        have f51 : v46 = v47 + r8.toInt := q_addVJ ev46 ev47 q_evr (by omega) (by omega)
        refine q_ok_b (s_J9_min_f86c9 n _ _ _) (fun r43 S44 h45 => ?_)
        obtain ⟨eS44, h45⟩ := h45
        replace h45 := q_mmVN ev46 q_evr h45
        replace eS44 := eS44.symm
        subst eS44
        refine q_ok_atA hG eaT maT raT rfl ?_
        obtain ⟨v55, ev55⟩ := q_ev ((((q_I (S) a35 3).toInt64) + r4).toInt)
        have f56 : v55 = v47 + r4.toInt := q_addVJ ev55 ev47 q_evr (by omega) (by omega)
        refine q_ok_b (s_X1_open_35 hn hG.1 maT raT (q_wd (show (1 : Int) ≤ (1 : Int32).toInt ∧ (1 : Int32).toInt ≤ (1 : Int) by decide) (by decide) (by decide)) (q_oV ev55 (by omega) (by omega)) (q_oV q_evr (by omega) (by omega))) (fun r52 S53 h54 => ?_)
        have hG := q_G_call hG h54.1 (by decide)
        have f57 : q_sm _ := g_35_J3 hG maT raT
        obtain ⟨v58, ev58⟩ := q_ev ((q_J (S53) aT 3).toInt)
        have f59 := q_bV ev58 f57
        have f60 := q_leCv ev58 (h54.2)
        unfold m_X6_open_89
        exact q_ok_some ⟨hG, (q_trk eaT (q_leC ev58 (by omega)))⟩
      · have f61 := q_neV q_evr q_evr (q_cn_eq g32)
        unfold m_X6_open_55
        refine q_ok_atS hG (q_trI mo ro) rfl (fun mo ro => ?_)
        have t62 := g_9_R9 hG mo ro
        refine q_ok_at hG t62 rfl (fun a63 ma63 ra63 ea63 => ?_)
        have f64 : q_sm _ := g_8_I3 hG ma63 ra63
        have t65 := g_9_R9 hG mo ro
        have t66 := g_9_R9 hG mo ro
        refine q_ok_b (s_X7_end_8 hn hG.1 ma63 ra63) (fun r67 S68 h69 => ?_)
        obtain ⟨eS68, h69⟩ := h69
        replace eS68 := eS68.symm
        subst eS68
        have f70 := h69
        obtain ⟨v74, ev74⟩ := q_ev ((((q_I (S) a63 3).toInt64) + r8).toInt)
        obtain ⟨v75, ev75⟩ := q_ev (((q_I (S) a63 3).toInt64).toInt)
        obtain ⟨v76, ev76⟩ := q_ev ((q_I (S) a63 3).toInt)
        have f77 := q_bV ev76 f64
        have f78 : v75 = v76 := q_i2lV ev75 ev76
        have f79 : v74 = v75 + r8.toInt := q_addVJ ev74 ev75 q_evr (by omega) (by omega)
        refine q_ok_b (s_J9_min_f86c9 n _ _ _) (fun r71 S72 h73 => ?_)
        obtain ⟨eS72, h73⟩ := h73
        replace h73 := q_mmVN ev74 q_evr h73
        replace eS72 := eS72.symm
        subst eS72
        refine q_ok_atA hG eaT maT raT rfl ?_
        obtain ⟨v83, ev83⟩ := q_ev ((((q_I (S) a63 3).toInt64) + r4).toInt)
        have f84 : v83 = v75 + r4.toInt := q_addVJ ev83 ev75 q_evr (by omega) (by omega)
        refine q_ok_b (s_X1_open_35 hn hG.1 maT raT (q_wd (show (0 : Int) ≤ (0 : Int32).toInt ∧ (0 : Int32).toInt ≤ (0 : Int) by decide) (by decide) (by decide)) (q_oV ev83 (by omega) (by omega)) (q_oV q_evr (by omega) (by omega))) (fun r80 S81 h82 => ?_)
        have hG := q_G_call hG h82.1 (by decide)
        have f85 : q_sm _ := g_35_J3 hG maT raT
        obtain ⟨v86, ev86⟩ := q_ev ((q_J (S81) aT 3).toInt)
        have f87 := q_bV ev86 f85
        have f88 := q_leCv ev86 (h82.2)
        unfold m_X6_open_89
        exact q_ok_some ⟨hG, (q_trk eaT (q_leC ev86 (by omega)))⟩
def M_X5_yieldOf_14_k5 : List Nat := [1284, 1285, 1344, 1408, 1472, 1536, 2241, 2242, 2243, 2244, 2245, 2246, 2247, 2248, 2249, 2250, 2251, 2252, 2253]
set_option maxHeartbeats 4000000 in
set_option maxRecDepth 100000 in
theorem s_X5_yieldOf_14_k5 {ρ : Nat → Nat} {L : List Nat} {n : Nat} (hn : 18446744073709551616 ≤ n) {S : q_S} (hI : q_Inv ρ L S) {o : Nat} (mo : o ∈ L) (ro : ρ o = 14) {p0 : Int32} (hp0 : (5 ≤ p0.toInt ∧ p0.toInt ≤ 5)) {p1 : Int32} (hp1 : (0 ≤ p1.toInt ∧ p1.toInt ≤ 199)) : q_ok (m_X5_yieldOf n S o p0 p1) (fun r T => q_G ρ L M_X5_yieldOf_14_k5 S T ∧ (0 ≤ r.toInt ∧ r.toInt ≤ 2000)) := by
  have hG : q_G ρ L M_X5_yieldOf_14_k5 S S := q_G_refl hI
  unfold m_X5_yieldOf
  have z0 : (0 : Int32).toInt = 0 := rfl
  refine q_ok_atS hG (q_trI mo ro) rfl (fun mo ro => ?_)
  have t1 := g_14_R4 hG mo ro
  refine q_ok_at hG t1 rfl (fun a2 ma2 ra2 ea2 => ?_)
  refine q_ok_if (q_inV (g_25_N hG ma2 ra2) q_evr (by omega) (by omega)) ?_
  have t3 := g_25_RK5 hG ma2 ra2 (k := (p0).toNatClampNeg) (q_idxK q_evr (by omega))
  have t4 := g_14_R0 hG mo ro
  refine q_ok_at hG t4 rfl (fun a5 ma5 ra5 ea5 => ?_)
  obtain ⟨a9, ea9, ma9, ra9⟩ := id t3
  have f10 : q_sm _ := g_35_J3 hG ma9 ra9
  refine q_ok_b (s_X6_open_9_35 hn hG.1 ma5 ra5 (q_wd hp1 (by decide) (by decide)) t3) (fun r6 S7 h8 => ?_)
  have hG := q_G_call hG h8.1 (by decide)
  have f11 : q_sm _ := g_35_J3 hG ma9 ra9
  obtain ⟨v12, ev12⟩ := q_ev ((q_J (S7) a9 3).toInt)
  have f13 := q_bV ev12 f11
  obtain ⟨v14, ev14⟩ := q_ev ((q_J (S) a9 3).toInt)
  have f15 := q_bV ev14 f10
  have f16 := q_leCv ev12 (h8.2 _ ea9)
  refine q_ok_atA hG ea9 ma9 ra9 rfl ?_
  refine q_ok_b (s_X1_isEmpty_35 hn hG.1 ma9 ra9) (fun r17 S18 h19 => ?_)
  obtain ⟨eS18, h19⟩ := h19
  replace eS18 := eS18.symm
  subst eS18
  have f20 := h19
  refine q_ok_ite (fun g21 => ?_) (fun g21 => ?_)
  · have f22 := q_eqV q_evr (show q_eqv ((0 : Int32)).toInt (0) by unfold q_eqv; decide) (q_p_eq g21)
    refine q_ok_atA hG ea9 ma9 ra9 rfl ?_
    refine q_ok_b (s_X1_hasParts_35 hn hG.1 ma9 ra9) (fun r23 S24 h25 => ?_)
    obtain ⟨eS24, h25⟩ := h25
    replace eS24 := eS24.symm
    subst eS24
    have f26 := h25
    obtain ⟨v27, ev27⟩ := q_ev ((q_I (S7) a9 5).toInt)
    have f28 := q_bV ev27 (g_35_I5 hG ma9 ra9)
    have f29 : r23.toInt = 0 → (0) ≤ v27 := fun h9 => q_leV (show q_eqv ((0 : Int32)).toInt (0) by unfold q_eqv; decide) ev27 (f26.2.1 h9)
    have f30 : r23.toInt = 1 → v27 < (0) := fun h9 => q_ltV ev27 (show q_eqv ((0 : Int32)).toInt (0) by unfold q_eqv; decide) (f26.2.2 h9)
    refine q_ok_ite (fun g31 => ?_) (fun g31 => ?_)
    · have f32 := q_eqV q_evr (show q_eqv ((0 : Int32)).toInt (0) by unfold q_eqv; decide) (q_p_eq g31)
      refine q_ok_ite (fun g33 => ?_) (fun g33 => ?_)
      · have f34 := q_leV (show q_eqv ((5 : Int32)).toInt (5) by unfold q_eqv; decide) q_evr (q_p_ge g33)
        refine q_ok_atS hG (q_trI mo ro) rfl (fun mo ro => ?_)
        refine q_ok_b (s_X5_yieldOfSimple_14_35 hn hG.1 mo ro t3 (q_trk ea9 (q_leC ev12 (by omega)))) (fun r35 S36 h37 => ?_)
        have hG := q_G_call hG h37.1 (by decide)
        have f38 := h37.2
        unfold m_X5_yieldOf_62
        exact q_ok_some ⟨hG, (q_wd f38 (by decide) (by decide))⟩
      · have f39 := q_ltV q_evr (show q_eqv ((5 : Int32)).toInt (5) by unfold q_eqv; decide) (q_n_ge g33)
        exfalso; omega
    · have f40 := q_neV q_evr (show q_eqv ((0 : Int32)).toInt (0) by unfold q_eqv; decide) (q_n_eq g31)
      refine q_ok_atS hG (q_trI mo ro) rfl (fun mo ro => ?_)
      refine q_ok_b (s_X5_yieldOfParts_14_35 hn hG.1 mo ro (q_wd hp0 (by decide) (by decide)) t3 (q_trk ea9 (q_leC ev12 (by omega)))) (fun r41 S42 h43 => ?_)
      have hG := q_G_call hG h43.1 (by decide)
      have f44 := h43.2
      exact q_ok_some ⟨hG, (q_wd f44 (by decide) (by decide))⟩
  · have f45 := q_neV q_evr (show q_eqv ((0 : Int32)).toInt (0) by unfold q_eqv; decide) (q_n_eq g21)
    exact q_ok_some ⟨hG, (q_wd (show (2000 : Int) ≤ (2000 : Int32).toInt ∧ (2000 : Int32).toInt ≤ (2000 : Int) by decide) (by decide) (by decide))⟩
def M_X5_survey_14 : List Nat := [1284, 1285, 1344, 1408, 1472, 1536, 1792, 1985, 1986, 1987, 1988, 1989, 1990, 1991, 1992, 1993, 1994, 1995, 1996, 1997, 2049, 2050, 2051, 2052, 2053, 2054, 2055, 2056, 2057, 2058, 2059, 2060, 2061, 2113, 2114, 2115, 2116, 2117, 2118, 2119, 2120, 2121, 2122, 2123, 2124, 2125, 2177, 2178, 2179, 2180, 2181, 2182, 2183, 2184, 2185, 2186, 2187, 2188, 2189, 2241, 2242, 2243, 2244, 2245, 2246, 2247, 2248, 2249, 2250, 2251, 2252, 2253]
set_option maxHeartbeats 4000000 in
set_option maxRecDepth 100000 in
theorem s_X5_survey_14_42 {ρ : Nat → Nat} {L : List Nat} {n : Nat} (hn : 18446744073709551616 ≤ n) {S0 : q_S}  {k2 : q_S → Option Nat → Int32 → Option (Unit × q_S)} {B2 : Int} (hk2 : ∀ (S : q_S) (z0 : Option Nat) (z1 : Int32), q_G ρ L M_X5_survey_14 S0 S → q_tr ρ L z0 14 → (0 ≤ z1.toInt ∧ z1.toInt ≤ 5) → z1.toInt + 2147483648 < B2 → q_ok (k2 S z0 z1) (fun _ T => q_G ρ L M_X5_survey_14 S0 T)) {k8 : q_S → Option Nat → Int32 → Int32 → Option (Unit × q_S)} {B8 : Int} (hk8 : ∀ (S : q_S) (z0 : Option Nat) (z1 : Int32) (z2 : Int32), q_G ρ L M_X5_survey_14 S0 S → q_tr ρ L z0 14 → (1 ≤ z1.toInt ∧ z1.toInt ≤ 5) → (0 ≤ z2.toInt ∧ z2.toInt ≤ 200) → z1.toInt + 2147483648 ≤ B2 → 2147483648 - z2.toInt < B8 → q_ok (k8 S z0 z1 z2) (fun _ T => q_G ρ L M_X5_survey_14 S0 T)) (S : q_S) (l0 : Option Nat) (l1 : Int32) (l2 : Int32) (hG : q_G ρ L M_X5_survey_14 S0 S) (hl0 : q_tr ρ L l0 14) (hl1 : (1 ≤ l1.toInt ∧ l1.toInt ≤ 5)) (hl2 : (0 ≤ l2.toInt ∧ l2.toInt ≤ 199)) (hm2 : l1.toInt + 2147483648 ≤ B2) (hm8 : 2147483648 - l2.toInt ≤ B8) : q_ok (m_X5_survey_42 n k2 k8 S l0 l1 l2) (fun _ T => q_G ρ L M_X5_survey_14 S0 T) := by
  unfold m_X5_survey_42
  have z0 : (0 : Int32).toInt = 0 := rfl
  obtain ⟨v1, ev1⟩ := q_ev ((l2 + (1)).toInt)
  have f2 : v1 = l2.toInt + (1) := q_addVI ev1 q_evr (show q_eqv ((1 : Int32)).toInt (1) by unfold q_eqv; decide) (by omega) (by omega)
  exact hk8 _ _ _ _ hG hl0 (q_wd hl1 (by decide) (by decide)) (q_wd (q_addBI (1) (200) hl2 (show (1 : Int) ≤ (1 : Int32).toInt ∧ (1 : Int32).toInt ≤ (1 : Int) by decide) (by decide) (by decide) (by decide) (by decide)) (by decide) (by decide)) (q_dnV q_evr (by omega)) (q_upVl ev1 (by omega))
set_option maxHeartbeats 4000000 in
set_option maxRecDepth 100000 in
theorem s_X5_survey_14_8 {ρ : Nat → Nat} {L : List Nat} {n : Nat} (hn : 18446744073709551616 ≤ n) {S0 : q_S}  {k2 : q_S → Option Nat → Int32 → Option (Unit × q_S)} {B2 : Int} (hk2 : ∀ (S : q_S) (z0 : Option Nat) (z1 : Int32), q_G ρ L M_X5_survey_14 S0 S → q_tr ρ L z0 14 → (0 ≤ z1.toInt ∧ z1.toInt ≤ 5) → z1.toInt + 2147483648 < B2 → q_ok (k2 S z0 z1) (fun _ T => q_G ρ L M_X5_survey_14 S0 T)) : ∀ (k : Nat) (S : q_S) (l0 : Option Nat) (l1 : Int32) (l2 : Int32), q_G ρ L M_X5_survey_14 S0 S → q_tr ρ L l0 14 → (1 ≤ l1.toInt ∧ l1.toInt ≤ 5) → (0 ≤ l2.toInt ∧ l2.toInt ≤ 200) → l1.toInt + 2147483648 ≤ B2 → 2147483648 - l2.toInt ≤ (k : Int) → q_ok (m_X5_survey_8 n k2 k S l0 l1 l2) (fun _ T => q_G ρ L M_X5_survey_14 S0 T) := by
  intro k
  induction k with
  | zero =>
    intro S l0 l1 l2 hG hl0 hl1 hl2 hm2 hm
    have f0 := q_rngI l2
    exfalso; omega
  | succ k ih =>
    intro S l0 l1 l2 hG hl0 hl1 hl2 hm2 hm
    rw [m_X5_survey_8]
    have z0 : (0 : Int32).toInt = 0 := rfl
    refine q_ok_at hG hl0 rfl (fun a1 ma1 ra1 ea1 => ?_)
    have t2 := g_14_R0 hG ma1 ra1
    refine q_ok_at hG t2 rfl (fun a3 ma3 ra3 ea3 => ?_)
    refine q_ok_b (s_X6_size_9 hn hG.1 ma3 ra3) (fun r4 S5 h6 => ?_)
    obtain ⟨eS5, h6⟩ := h6
    replace eS5 := eS5.symm
    subst eS5
    have f7 := h6
    refine q_ok_ite (fun g8 => ?_) (fun g8 => ?_)
    · have f9 := q_leV q_evr q_evr (q_p_ge g8)
      obtain ⟨v10, ev10⟩ := q_ev ((l1 + (-1)).toInt)
      have f11 : v10 = l1.toInt + (-1) := q_addVI ev10 q_evr (show q_eqv ((-1 : Int32)).toInt (-1) by unfold q_eqv; decide) (by omega) (by omega)
      exact hk2 _ _ _ hG hl0 (q_wd (q_addBI (0) (4) hl1 (show (-1 : Int) ≤ (-1 : Int32).toInt ∧ (-1 : Int32).toInt ≤ (-1 : Int) by decide) (by decide) (by decide) (by decide) (by decide)) (by decide) (by decide))  (q_dnVl ev10 (by omega))
    · have f12 := q_ltV q_evr q_evr (q_n_ge g8)
      refine q_ok_atA hG ea1 ma1 ra1 rfl ?_
      refine q_ok_b (s_X5_cellOf_14 hn hG.1 ma1 ra1 (q_wd hl1 (by decide) (by decide)) (q_wd hl2 (by decide) (by decide))) (fun r13 S14 h15 => ?_)
      obtain ⟨eS14, h15⟩ := h15
      replace eS14 := eS14.symm
      subst eS14
      have f16 := h15
      refine q_ok_ite (fun g17 => ?_) (fun g17 => ?_)
      · have f18 := q_ltV q_evr (show q_eqv ((0 : Int32)).toInt (0) by unfold q_eqv; decide) (q_p_lt g17)
        exact s_X5_survey_14_42 hn hk2 (B8 := (k : Int) + 1) (fun S9 z0 z1 z2 hG9 hz0 hz1 hz2 hq2 hm9 => ih S9 z0 z1 z2 hG9 hz0 hz1 hz2 hq2 (by omega)) _ _ _ _ hG hl0 (q_wd hl1 (by decide) (by decide)) (q_oV q_evr (by omega) (by omega)) (q_dnV q_evr (by omega)) (q_upV q_evr (by omega))
      · have f19 := q_leV (show q_eqv ((0 : Int32)).toInt (0) by unfold q_eqv; decide) q_evr (q_n_lt g17)
        refine q_ok_atA hG ea1 ma1 ra1 rfl ?_
        have t20 := g_14_R7 hG ma1 ra1
        rcases (show l1.toInt = 1 ∨ l1.toInt = 2 ∨ l1.toInt = 3 ∨ l1.toInt = 4 ∨ l1.toInt = 5 by omega) with f24 | f24 | f24 | f24 | f24
        · refine q_ok_b (s_X5_yieldOf_14_k1 hn hG.1 ma1 ra1 (q_oV q_evr (by omega) (by omega)) (q_oV q_evr (by omega) (by omega))) (fun r25 S26 h27 => ?_)
          have hG := q_G_call hG h27.1 (by decide)
          have f28 := h27.2
          refine q_ok_at hG t20 rfl (fun a29 ma29 ra29 ea29 => ?_)
          refine q_ok_if (q_inV (g_28_N hG ma29 ra29) q_evr (by omega) (by omega)) ?_
          have hG := u_28_E (k := (r13).toNatClampNeg) (x := r25) hG ma29 ra29 (by decide) (q_wd f28 (by decide) (by decide))
          exact s_X5_survey_14_42 hn hk2 (B8 := (k : Int) + 1) (fun S9 z0 z1 z2 hG9 hz0 hz1 hz2 hq2 hm9 => ih S9 z0 z1 z2 hG9 hz0 hz1 hz2 hq2 (by omega)) _ _ _ _ hG hl0 (q_wd hl1 (by decide) (by decide)) (q_oV q_evr (by omega) (by omega)) (q_dnV q_evr (by omega)) (q_upV q_evr (by omega))
        · refine q_ok_b (s_X5_yieldOf_14_k2 hn hG.1 ma1 ra1 (q_oV q_evr (by omega) (by omega)) (q_oV q_evr (by omega) (by omega))) (fun r30 S31 h32 => ?_)
          have hG := q_G_call hG h32.1 (by decide)
          have f33 := h32.2
          refine q_ok_at hG t20 rfl (fun a34 ma34 ra34 ea34 => ?_)
          refine q_ok_if (q_inV (g_28_N hG ma34 ra34) q_evr (by omega) (by omega)) ?_
          have hG := u_28_E (k := (r13).toNatClampNeg) (x := r30) hG ma34 ra34 (by decide) (q_wd f33 (by decide) (by decide))
          exact s_X5_survey_14_42 hn hk2 (B8 := (k : Int) + 1) (fun S9 z0 z1 z2 hG9 hz0 hz1 hz2 hq2 hm9 => ih S9 z0 z1 z2 hG9 hz0 hz1 hz2 hq2 (by omega)) _ _ _ _ hG hl0 (q_wd hl1 (by decide) (by decide)) (q_oV q_evr (by omega) (by omega)) (q_dnV q_evr (by omega)) (q_upV q_evr (by omega))
        · refine q_ok_b (s_X5_yieldOf_14_k3 hn hG.1 ma1 ra1 (q_oV q_evr (by omega) (by omega)) (q_oV q_evr (by omega) (by omega))) (fun r35 S36 h37 => ?_)
          have hG := q_G_call hG h37.1 (by decide)
          have f38 := h37.2
          refine q_ok_at hG t20 rfl (fun a39 ma39 ra39 ea39 => ?_)
          refine q_ok_if (q_inV (g_28_N hG ma39 ra39) q_evr (by omega) (by omega)) ?_
          have hG := u_28_E (k := (r13).toNatClampNeg) (x := r35) hG ma39 ra39 (by decide) (q_wd f38 (by decide) (by decide))
          exact s_X5_survey_14_42 hn hk2 (B8 := (k : Int) + 1) (fun S9 z0 z1 z2 hG9 hz0 hz1 hz2 hq2 hm9 => ih S9 z0 z1 z2 hG9 hz0 hz1 hz2 hq2 (by omega)) _ _ _ _ hG hl0 (q_wd hl1 (by decide) (by decide)) (q_oV q_evr (by omega) (by omega)) (q_dnV q_evr (by omega)) (q_upV q_evr (by omega))
        · refine q_ok_b (s_X5_yieldOf_14_k4 hn hG.1 ma1 ra1 (q_oV q_evr (by omega) (by omega)) (q_oV q_evr (by omega) (by omega))) (fun r40 S41 h42 => ?_)
          have hG := q_G_call hG h42.1 (by decide)
          have f43 := h42.2
          refine q_ok_at hG t20 rfl (fun a44 ma44 ra44 ea44 => ?_)
          refine q_ok_if (q_inV (g_28_N hG ma44 ra44) q_evr (by omega) (by omega)) ?_
          have hG := u_28_E (k := (r13).toNatClampNeg) (x := r40) hG ma44 ra44 (by decide) (q_wd f43 (by decide) (by decide))
          exact s_X5_survey_14_42 hn hk2 (B8 := (k : Int) + 1) (fun S9 z0 z1 z2 hG9 hz0 hz1 hz2 hq2 hm9 => ih S9 z0 z1 z2 hG9 hz0 hz1 hz2 hq2 (by omega)) _ _ _ _ hG hl0 (q_wd hl1 (by decide) (by decide)) (q_oV q_evr (by omega) (by omega)) (q_dnV q_evr (by omega)) (q_upV q_evr (by omega))
        · refine q_ok_b (s_X5_yieldOf_14_k5 hn hG.1 ma1 ra1 (q_oV q_evr (by omega) (by omega)) (q_oV q_evr (by omega) (by omega))) (fun r45 S46 h47 => ?_)
          have hG := q_G_call hG h47.1 (by decide)
          have f48 := h47.2
          refine q_ok_at hG t20 rfl (fun a49 ma49 ra49 ea49 => ?_)
          refine q_ok_if (q_inV (g_28_N hG ma49 ra49) q_evr (by omega) (by omega)) ?_
          have hG := u_28_E (k := (r13).toNatClampNeg) (x := r45) hG ma49 ra49 (by decide) (q_wd f48 (by decide) (by decide))
          exact s_X5_survey_14_42 hn hk2 (B8 := (k : Int) + 1) (fun S9 z0 z1 z2 hG9 hz0 hz1 hz2 hq2 hm9 => ih S9 z0 z1 z2 hG9 hz0 hz1 hz2 hq2 (by omega)) _ _ _ _ hG hl0 (q_wd hl1 (by decide) (by decide)) (q_oV q_evr (by omega) (by omega)) (q_dnV q_evr (by omega)) (q_upV q_evr (by omega))
set_option maxHeartbeats 4000000 in
set_option maxRecDepth 100000 in
theorem s_X5_survey_14_2 {ρ : Nat → Nat} {L : List Nat} {n : Nat} (hn : 18446744073709551616 ≤ n) {S0 : q_S}  : ∀ (k : Nat) (S : q_S) (l0 : Option Nat) (l1 : Int32), q_G ρ L M_X5_survey_14 S0 S → q_tr ρ L l0 14 → (0 ≤ l1.toInt ∧ l1.toInt ≤ 5) → l1.toInt + 2147483648 ≤ (k : Int) → q_ok (m_X5_survey_2 n k S l0 l1) (fun _ T => q_G ρ L M_X5_survey_14 S0 T) := by
  intro k
  induction k with
  | zero =>
    intro S l0 l1 hG hl0 hl1 hm
    have f0 := q_rngI l1
    exfalso; omega
  | succ k ih =>
    intro S l0 l1 hG hl0 hl1 hm
    rw [m_X5_survey_2]
    have z0 : (0 : Int32).toInt = 0 := rfl
    refine q_ok_ite (fun g1 => ?_) (fun g1 => ?_)
    · have f2 := q_leV q_evr (show q_eqv ((0 : Int32)).toInt (0) by unfold q_eqv; decide) (q_p_le g1)
      exact q_ok_some hG
    · have f3 := q_ltV (show q_eqv ((0 : Int32)).toInt (0) by unfold q_eqv; decide) q_evr (q_n_le g1)
      exact s_X5_survey_14_8 hn (B2 := (k : Int) + 1) (fun S9 z0 z1 hG9 hz0 hz1  hm9 => ih S9 z0 z1 hG9 hz0 hz1  (by omega)) n _ _ _ _ hG hl0 (q_oV q_evr (by omega) (by omega)) (q_wd (show (0 : Int) ≤ (0 : Int32).toInt ∧ (0 : Int32).toInt ≤ (0 : Int) by decide) (by decide) (by decide)) (q_dnV q_evr (by omega)) (q_upV (show q_eqv ((0 : Int32)).toInt (0) by unfold q_eqv; decide) (by omega))
set_option maxHeartbeats 4000000 in
set_option maxRecDepth 100000 in
theorem s_X5_survey_14 {ρ : Nat → Nat} {L : List Nat} {n : Nat} (hn : 18446744073709551616 ≤ n) {S : q_S} (hI : q_Inv ρ L S) {o : Nat} (mo : o ∈ L) (ro : ρ o = 14) : q_ok (m_X5_survey n S o) (fun _ T => q_G ρ L M_X5_survey_14 S T) := by
  have hG : q_G ρ L M_X5_survey_14 S S := q_G_refl hI
  unfold m_X5_survey
  have z0 : (0 : Int32).toInt = 0 := rfl
  exact s_X5_survey_14_2 hn n _ _ _ hG (q_trI mo ro) (q_wd (show (5 : Int) ≤ (5 : Int32).toInt ∧ (5 : Int32).toInt ≤ (5 : Int) by decide) (by decide) (by decide))  (q_dnV (show q_eqv ((5 : Int32)).toInt (5) by unfold q_eqv; decide) (by omega))
def M_X6_load_9 : List Nat := [580, 581, 582, 583, 584, 585, 640]
set_option maxHeartbeats 4000000 in
set_option maxRecDepth 100000 in
theorem s_X6_load_9_112 {ρ : Nat → Nat} {L : List Nat} {n : Nat} (hn : 18446744073709551616 ≤ n) {S0 : q_S}  : ∀ (k : Nat) (S : q_S) (l0 : Option Nat) (l2 : Int32), q_G ρ L M_X6_load_9 S0 S → q_tr ρ L l0 9 → (0 ≤ l2.toInt ∧ l2.toInt ≤ 200) → 2147483648 - l2.toInt ≤ (k : Int) → q_ok (m_X6_load_112 n k S l0 l2) (fun _ T => q_G ρ L M_X6_load_9 S0 T) := by
  intro k
  induction k with
  | zero =>
    intro S l0 l2 hG hl0 hl2 hm
    have f0 := q_rngI l2
    exfalso; omega
  | succ k ih =>
    intro S l0 l2 hG hl0 hl2 hm
    rw [m_X6_load_112]
    have z0 : (0 : Int32).toInt = 0 := rfl
    refine q_ok_ite (fun g1 => ?_) (fun g1 => ?_)
    · have f2 := q_leV (show q_eqv ((200 : Int32)).toInt (200) by unfold q_eqv; decide) q_evr (q_p_ge g1)
      exact q_ok_some hG
    · have f3 := q_ltV q_evr (show q_eqv ((200 : Int32)).toInt (200) by unfold q_eqv; decide) (q_n_ge g1)
      refine q_ok_at hG hl0 rfl (fun a4 ma4 ra4 ea4 => ?_)
      have t5 := g_9_R2 hG ma4 ra4
      refine q_ok_at hG t5 rfl (fun a6 ma6 ra6 ea6 => ?_)
      refine q_ok_if (q_inV (g_10_N hG ma6 ra6) q_evr (by omega) (by omega)) ?_
      obtain ⟨v7, ev7⟩ := q_ev ((vp_nar .boolean ((0 : Int32))).toInt)
      have f8 : v7 = (0) := q_narV ev7 (show q_eqv ((0 : Int32)).toInt (0) by unfold q_eqv; decide) (by omega) (by omega)
      have hG := u_10_E (k := (l2).toNatClampNeg) (x := vp_nar .boolean ((0 : Int32))) hG ma6 ra6 (by decide) (q_oV ev7 (by omega) (by omega))
      obtain ⟨v9, ev9⟩ := q_ev ((l2 + (1)).toInt)
      have f10 : v9 = l2.toInt + (1) := q_addVI ev9 q_evr (show q_eqv ((1 : Int32)).toInt (1) by unfold q_eqv; decide) (by omega) (by omega)
      exact ih _ _ _ hG hl0 (q_oV ev9 (by omega) (by omega))  (q_upV ev9 (by omega))
set_option maxHeartbeats 4000000 in
set_option maxRecDepth 100000 in
theorem s_X6_load_9 {ρ : Nat → Nat} {L : List Nat} {n : Nat} (hn : 18446744073709551616 ≤ n) {S : q_S} (hI : q_Inv ρ L S) {o : Nat} (mo : o ∈ L) (ro : ρ o = 9) : q_ok (m_X6_load n S o) (fun _ T => q_G ρ L M_X6_load_9 S T) := by
  have hG : q_G ρ L M_X6_load_9 S S := q_G_refl hI
  unfold m_X6_load
  have z0 : (0 : Int32).toInt = 0 := rfl
  refine q_ok_atS hG (q_trI mo ro) rfl (fun mo ro => ?_)
  have t1 := g_9_R0 hG mo ro
  refine q_ok_at hG t1 rfl (fun a2 ma2 ra2 ea2 => ?_)
  refine q_ok_b (s_X8_first_6 hn hG.1 ma2 ra2 (q_wd (show (1835104368 : Int) ≤ (1835104368 : Int64).toInt ∧ (1835104368 : Int64).toInt ≤ (1835104368 : Int) by decide) (by decide) (by decide))) (fun r3 S4 h5 => ?_)
  obtain ⟨eS4, h5⟩ := h5
  replace eS4 := eS4.symm
  subst eS4
  refine q_ok_atS hG (q_trI h5.1 h5.2) rfl (fun mr3 rr3 => ?_)
  refine q_ok_b (s_X7_two_8 hn hG.1 mr3 rr3 (q_wd (show (4 : Int) ≤ (4 : Int64).toInt ∧ (4 : Int64).toInt ≤ (4 : Int) by decide) (by decide) (by decide))) (fun r6 S7 h8 => ?_)
  obtain ⟨eS7, h8⟩ := h8
  replace eS7 := eS7.symm
  subst eS7
  have f9 := h8
  refine q_ok_b (s_J9_min_7cf53 n _ _ _) (fun r10 S11 h12 => ?_)
  obtain ⟨eS11, h12⟩ := h12
  replace h12 := q_mmVN (show q_eqv ((200 : Int32)).toInt (200) by unfold q_eqv; decide) q_evr h12
  replace eS11 := eS11.symm
  subst eS11
  refine q_ok_b (s_J9_max_7cf53 n _ _ _) (fun r13 S14 h15 => ?_)
  obtain ⟨eS14, h15⟩ := h15
  replace h15 := q_mmVX (show q_eqv ((0 : Int32)).toInt (0) by unfold q_eqv; decide) q_evr h15
  replace eS14 := eS14.symm
  subst eS14
  refine q_ok_atS hG (q_trI mo ro) rfl (fun mo ro => ?_)
  have hG := u_9_I5 (x := r13) hG mo ro (by decide) (q_oV q_evr (by omega) (by omega))
  refine q_ok_ite (fun g16 => ?_) (fun g16 => ?_)
  · have f17 := q_leV q_evr (show q_eqv ((200 : Int32)).toInt (200) by unfold q_eqv; decide) (q_p_le g16)
    unfold m_X6_load_45
    refine q_ok_atS hG (q_trI mo ro) rfl (fun mo ro => ?_)
    refine q_ok_if (q_b01V (show q_eqv ((0 : Int32)).toInt (0) by unfold q_eqv; decide) (by omega) (by omega)) ?_
    have hG := u_9_I6 (x := (0 : Int32)) hG mo ro (by decide) (q_wd (show (0 : Int) ≤ (0 : Int32).toInt ∧ (0 : Int32).toInt ≤ (0 : Int) by decide) (by decide) (by decide))
    refine q_ok_atS hG (q_trI mo ro) rfl (fun mo ro => ?_)
    have t18 := g_9_R0 hG mo ro
    have e19 : q_R (q_sI (q_sI (S) o 5 (r13)) o 6 ((0 : Int32))) o 0 = q_R (S) o 0 := (Eq.trans q_skRI q_skRI)
    refine q_ok_atA hG (Eq.trans e19 ea2) ma2 ra2 rfl ?_
    refine q_ok_b (s_X8_first_6 hn hG.1 ma2 ra2 (q_wd (show (1751474532 : Int) ≤ (1751474532 : Int64).toInt ∧ (1751474532 : Int64).toInt ≤ (1751474532 : Int) by decide) (by decide) (by decide))) (fun r20 S21 h22 => ?_)
    obtain ⟨eS21, h22⟩ := h22
    replace eS21 := eS21.symm
    subst eS21
    refine q_ok_atS hG (q_trI h22.1 h22.2) rfl (fun mr20 rr20 => ?_)
    refine q_ok_b (s_X7_two_8 hn hG.1 mr20 rr20 (q_wd (show (50 : Int) ≤ (50 : Int64).toInt ∧ (50 : Int64).toInt ≤ (50 : Int) by decide) (by decide) (by decide))) (fun r23 S24 h25 => ?_)
    obtain ⟨eS24, h25⟩ := h25
    replace eS24 := eS24.symm
    subst eS24
    have f26 := h25
    refine q_ok_ite (fun g27 => ?_) (fun g27 => ?_)
    · have f28 := q_eqV q_evr (show q_eqv ((1 : Int32)).toInt (1) by unfold q_eqv; decide) (q_p_eq g27)
      unfold m_X6_load_74
      refine q_ok_atS hG (q_trI mo ro) rfl (fun mo ro => ?_)
      refine q_ok_if (q_b01V (show q_eqv ((1 : Int32)).toInt (1) by unfold q_eqv; decide) (by omega) (by omega)) ?_
      have hG := u_9_I7 (x := (1 : Int32)) hG mo ro (by decide) (q_wd (show (1 : Int) ≤ (1 : Int32).toInt ∧ (1 : Int32).toInt ≤ (1 : Int) by decide) (by decide) (by decide))
      refine q_ok_atS hG (q_trI mo ro) rfl (fun mo ro => ?_)
      have t29 := g_9_R0 hG mo ro
      have e30 : q_R (q_sI (q_sI (q_sI (S) o 5 (r13)) o 6 ((0 : Int32))) o 7 ((1 : Int32))) o 0 = q_R (q_sI (q_sI (S) o 5 (r13)) o 6 ((0 : Int32))) o 0 := q_skRI
      refine q_ok_atA hG (Eq.trans e30 (Eq.trans e19 ea2)) ma2 ra2 rfl ?_
      refine q_ok_b (s_X8_first_6 hn hG.1 ma2 ra2 (q_wd (show (1819239265 : Int) ≤ (1819239265 : Int64).toInt ∧ (1819239265 : Int64).toInt ≤ (1819239265 : Int) by decide) (by decide) (by decide))) (fun r31 S32 h33 => ?_)
      obtain ⟨eS32, h33⟩ := h33
      replace eS32 := eS32.symm
      subst eS32
      refine q_ok_atS hG (q_trI mo ro) rfl (fun mo ro => ?_)
      have hG := u_9_R8 hG mo ro (by decide) (q_trI h33.1 h33.2)
      have t34 := g_9_R0 hG mo ro
      have e35 : q_R (q_sR (q_sI (q_sI (q_sI (S) o 5 (r13)) o 6 ((0 : Int32))) o 7 ((1 : Int32))) o 8 (some r31)) o 0 = q_R (q_sI (q_sI (q_sI (S) o 5 (r13)) o 6 ((0 : Int32))) o 7 ((1 : Int32))) o 0 := (q_ffR (by decide))
      refine q_ok_atA hG (Eq.trans e35 (Eq.trans e30 (Eq.trans e19 ea2))) ma2 ra2 rfl ?_
      refine q_ok_b (s_X8_first_6 hn hG.1 ma2 ra2 (q_wd (show (1735162214 : Int) ≤ (1735162214 : Int64).toInt ∧ (1735162214 : Int64).toInt ≤ (1735162214 : Int) by decide) (by decide) (by decide))) (fun r36 S37 h38 => ?_)
      obtain ⟨eS37, h38⟩ := h38
      replace eS37 := eS37.symm
      subst eS37
      refine q_ok_atS hG (q_trI mo ro) rfl (fun mo ro => ?_)
      have hG := u_9_R9 hG mo ro (by decide) (q_trI h38.1 h38.2)
      have hG := u_9_I4 (x := (0 : Int32)) hG mo ro (by decide) (q_wd (show (0 : Int) ≤ (0 : Int32).toInt ∧ (0 : Int32).toInt ≤ (0 : Int) by decide) (by decide) (by decide))
      exact s_X6_load_9_112 hn n _ _ _ hG (q_trI mo ro) (q_wd (show (0 : Int) ≤ (0 : Int32).toInt ∧ (0 : Int32).toInt ≤ (0 : Int) by decide) (by decide) (by decide))  (q_upV (show q_eqv ((0 : Int32)).toInt (0) by unfold q_eqv; decide) (by omega))
    · have f39 := q_neV q_evr (show q_eqv ((1 : Int32)).toInt (1) by unfold q_eqv; decide) (q_n_eq g27)
      unfold m_X6_load_74
      refine q_ok_atS hG (q_trI mo ro) rfl (fun mo ro => ?_)
      refine q_ok_if (q_b01V (show q_eqv ((0 : Int32)).toInt (0) by unfold q_eqv; decide) (by omega) (by omega)) ?_
      have hG := u_9_I7 (x := (0 : Int32)) hG mo ro (by decide) (q_wd (show (0 : Int) ≤ (0 : Int32).toInt ∧ (0 : Int32).toInt ≤ (0 : Int) by decide) (by decide) (by decide))
      refine q_ok_atS hG (q_trI mo ro) rfl (fun mo ro => ?_)
      have t40 := g_9_R0 hG mo ro
      have e41 : q_R (q_sI (q_sI (q_sI (S) o 5 (r13)) o 6 ((0 : Int32))) o 7 ((0 : Int32))) o 0 = q_R (q_sI (q_sI (S) o 5 (r13)) o 6 ((0 : Int32))) o 0 := q_skRI
      refine q_ok_atA hG (Eq.trans e41 (Eq.trans e19 ea2)) ma2 ra2 rfl ?_
      refine q_ok_b (s_X8_first_6 hn hG.1 ma2 ra2 (q_wd (show (1819239265 : Int) ≤ (1819239265 : Int64).toInt ∧ (1819239265 : Int64).toInt ≤ (1819239265 : Int) by decide) (by decide) (by decide))) (fun r42 S43 h44 => ?_)
      obtain ⟨eS43, h44⟩ := h44
      replace eS43 := eS43.symm
      subst eS43
      refine q_ok_atS hG (q_trI mo ro) rfl (fun mo ro => ?_)
      have hG := u_9_R8 hG mo ro (by decide) (q_trI h44.1 h44.2)
      have t45 := g_9_R0 hG mo ro
      have e46 : q_R (q_sR (q_sI (q_sI (q_sI (S) o 5 (r13)) o 6 ((0 : Int32))) o 7 ((0 : Int32))) o 8 (some r42)) o 0 = q_R (q_sI (q_sI (q_sI (S) o 5 (r13)) o 6 ((0 : Int32))) o 7 ((0 : Int32))) o 0 := (q_ffR (by decide))
      refine q_ok_atA hG (Eq.trans e46 (Eq.trans e41 (Eq.trans e19 ea2))) ma2 ra2 rfl ?_
      refine q_ok_b (s_X8_first_6 hn hG.1 ma2 ra2 (q_wd (show (1735162214 : Int) ≤ (1735162214 : Int64).toInt ∧ (1735162214 : Int64).toInt ≤ (1735162214 : Int) by decide) (by decide) (by decide))) (fun r47 S48 h49 => ?_)
      obtain ⟨eS48, h49⟩ := h49
      replace eS48 := eS48.symm
      subst eS48
      refine q_ok_atS hG (q_trI mo ro) rfl (fun mo ro => ?_)
      have hG := u_9_R9 hG mo ro (by decide) (q_trI h49.1 h49.2)
      have hG := u_9_I4 (x := (0 : Int32)) hG mo ro (by decide) (q_wd (show (0 : Int) ≤ (0 : Int32).toInt ∧ (0 : Int32).toInt ≤ (0 : Int) by decide) (by decide) (by decide))
      exact s_X6_load_9_112 hn n _ _ _ hG (q_trI mo ro) (q_wd (show (0 : Int) ≤ (0 : Int32).toInt ∧ (0 : Int32).toInt ≤ (0 : Int) by decide) (by decide) (by decide))  (q_upV (show q_eqv ((0 : Int32)).toInt (0) by unfold q_eqv; decide) (by omega))
  · have f50 := q_ltV (show q_eqv ((200 : Int32)).toInt (200) by unfold q_eqv; decide) q_evr (q_n_le g16)
    unfold m_X6_load_45
    refine q_ok_atS hG (q_trI mo ro) rfl (fun mo ro => ?_)
    refine q_ok_if (q_b01V (show q_eqv ((1 : Int32)).toInt (1) by unfold q_eqv; decide) (by omega) (by omega)) ?_
    have hG := u_9_I6 (x := (1 : Int32)) hG mo ro (by decide) (q_wd (show (1 : Int) ≤ (1 : Int32).toInt ∧ (1 : Int32).toInt ≤ (1 : Int) by decide) (by decide) (by decide))
    refine q_ok_atS hG (q_trI mo ro) rfl (fun mo ro => ?_)
    have t51 := g_9_R0 hG mo ro
    have e52 : q_R (q_sI (q_sI (S) o 5 (r13)) o 6 ((1 : Int32))) o 0 = q_R (S) o 0 := (Eq.trans q_skRI q_skRI)
    refine q_ok_atA hG (Eq.trans e52 ea2) ma2 ra2 rfl ?_
    refine q_ok_b (s_X8_first_6 hn hG.1 ma2 ra2 (q_wd (show (1751474532 : Int) ≤ (1751474532 : Int64).toInt ∧ (1751474532 : Int64).toInt ≤ (1751474532 : Int) by decide) (by decide) (by decide))) (fun r53 S54 h55 => ?_)
    obtain ⟨eS54, h55⟩ := h55
    replace eS54 := eS54.symm
    subst eS54
    refine q_ok_atS hG (q_trI h55.1 h55.2) rfl (fun mr53 rr53 => ?_)
    refine q_ok_b (s_X7_two_8 hn hG.1 mr53 rr53 (q_wd (show (50 : Int) ≤ (50 : Int64).toInt ∧ (50 : Int64).toInt ≤ (50 : Int) by decide) (by decide) (by decide))) (fun r56 S57 h58 => ?_)
    obtain ⟨eS57, h58⟩ := h58
    replace eS57 := eS57.symm
    subst eS57
    have f59 := h58
    refine q_ok_ite (fun g60 => ?_) (fun g60 => ?_)
    · have f61 := q_eqV q_evr (show q_eqv ((1 : Int32)).toInt (1) by unfold q_eqv; decide) (q_p_eq g60)
      unfold m_X6_load_74
      refine q_ok_atS hG (q_trI mo ro) rfl (fun mo ro => ?_)
      refine q_ok_if (q_b01V (show q_eqv ((1 : Int32)).toInt (1) by unfold q_eqv; decide) (by omega) (by omega)) ?_
      have hG := u_9_I7 (x := (1 : Int32)) hG mo ro (by decide) (q_wd (show (1 : Int) ≤ (1 : Int32).toInt ∧ (1 : Int32).toInt ≤ (1 : Int) by decide) (by decide) (by decide))
      refine q_ok_atS hG (q_trI mo ro) rfl (fun mo ro => ?_)
      have t62 := g_9_R0 hG mo ro
      have e63 : q_R (q_sI (q_sI (q_sI (S) o 5 (r13)) o 6 ((1 : Int32))) o 7 ((1 : Int32))) o 0 = q_R (q_sI (q_sI (S) o 5 (r13)) o 6 ((1 : Int32))) o 0 := q_skRI
      refine q_ok_atA hG (Eq.trans e63 (Eq.trans e52 ea2)) ma2 ra2 rfl ?_
      refine q_ok_b (s_X8_first_6 hn hG.1 ma2 ra2 (q_wd (show (1819239265 : Int) ≤ (1819239265 : Int64).toInt ∧ (1819239265 : Int64).toInt ≤ (1819239265 : Int) by decide) (by decide) (by decide))) (fun r64 S65 h66 => ?_)
      obtain ⟨eS65, h66⟩ := h66
      replace eS65 := eS65.symm
      subst eS65
      refine q_ok_atS hG (q_trI mo ro) rfl (fun mo ro => ?_)
      have hG := u_9_R8 hG mo ro (by decide) (q_trI h66.1 h66.2)
      have t67 := g_9_R0 hG mo ro
      have e68 : q_R (q_sR (q_sI (q_sI (q_sI (S) o 5 (r13)) o 6 ((1 : Int32))) o 7 ((1 : Int32))) o 8 (some r64)) o 0 = q_R (q_sI (q_sI (q_sI (S) o 5 (r13)) o 6 ((1 : Int32))) o 7 ((1 : Int32))) o 0 := (q_ffR (by decide))
      refine q_ok_atA hG (Eq.trans e68 (Eq.trans e63 (Eq.trans e52 ea2))) ma2 ra2 rfl ?_
      refine q_ok_b (s_X8_first_6 hn hG.1 ma2 ra2 (q_wd (show (1735162214 : Int) ≤ (1735162214 : Int64).toInt ∧ (1735162214 : Int64).toInt ≤ (1735162214 : Int) by decide) (by decide) (by decide))) (fun r69 S70 h71 => ?_)
      obtain ⟨eS70, h71⟩ := h71
      replace eS70 := eS70.symm
      subst eS70
      refine q_ok_atS hG (q_trI mo ro) rfl (fun mo ro => ?_)
      have hG := u_9_R9 hG mo ro (by decide) (q_trI h71.1 h71.2)
      have hG := u_9_I4 (x := (0 : Int32)) hG mo ro (by decide) (q_wd (show (0 : Int) ≤ (0 : Int32).toInt ∧ (0 : Int32).toInt ≤ (0 : Int) by decide) (by decide) (by decide))
      exact s_X6_load_9_112 hn n _ _ _ hG (q_trI mo ro) (q_wd (show (0 : Int) ≤ (0 : Int32).toInt ∧ (0 : Int32).toInt ≤ (0 : Int) by decide) (by decide) (by decide))  (q_upV (show q_eqv ((0 : Int32)).toInt (0) by unfold q_eqv; decide) (by omega))
    · have f72 := q_neV q_evr (show q_eqv ((1 : Int32)).toInt (1) by unfold q_eqv; decide) (q_n_eq g60)
      unfold m_X6_load_74
      refine q_ok_atS hG (q_trI mo ro) rfl (fun mo ro => ?_)
      refine q_ok_if (q_b01V (show q_eqv ((0 : Int32)).toInt (0) by unfold q_eqv; decide) (by omega) (by omega)) ?_
      have hG := u_9_I7 (x := (0 : Int32)) hG mo ro (by decide) (q_wd (show (0 : Int) ≤ (0 : Int32).toInt ∧ (0 : Int32).toInt ≤ (0 : Int) by decide) (by decide) (by decide))
      refine q_ok_atS hG (q_trI mo ro) rfl (fun mo ro => ?_)
      have t73 := g_9_R0 hG mo ro
      have e74 : q_R (q_sI (q_sI (q_sI (S) o 5 (r13)) o 6 ((1 : Int32))) o 7 ((0 : Int32))) o 0 = q_R (q_sI (q_sI (S) o 5 (r13)) o 6 ((1 : Int32))) o 0 := q_skRI
      refine q_ok_atA hG (Eq.trans e74 (Eq.trans e52 ea2)) ma2 ra2 rfl ?_
      refine q_ok_b (s_X8_first_6 hn hG.1 ma2 ra2 (q_wd (show (1819239265 : Int) ≤ (1819239265 : Int64).toInt ∧ (1819239265 : Int64).toInt ≤ (1819239265 : Int) by decide) (by decide) (by decide))) (fun r75 S76 h77 => ?_)
      obtain ⟨eS76, h77⟩ := h77
      replace eS76 := eS76.symm
      subst eS76
      refine q_ok_atS hG (q_trI mo ro) rfl (fun mo ro => ?_)
      have hG := u_9_R8 hG mo ro (by decide) (q_trI h77.1 h77.2)
      have t78 := g_9_R0 hG mo ro
      have e79 : q_R (q_sR (q_sI (q_sI (q_sI (S) o 5 (r13)) o 6 ((1 : Int32))) o 7 ((0 : Int32))) o 8 (some r75)) o 0 = q_R (q_sI (q_sI (q_sI (S) o 5 (r13)) o 6 ((1 : Int32))) o 7 ((0 : Int32))) o 0 := (q_ffR (by decide))
      refine q_ok_atA hG (Eq.trans e79 (Eq.trans e74 (Eq.trans e52 ea2))) ma2 ra2 rfl ?_
      refine q_ok_b (s_X8_first_6 hn hG.1 ma2 ra2 (q_wd (show (1735162214 : Int) ≤ (1735162214 : Int64).toInt ∧ (1735162214 : Int64).toInt ≤ (1735162214 : Int) by decide) (by decide) (by decide))) (fun r80 S81 h82 => ?_)
      obtain ⟨eS81, h82⟩ := h82
      replace eS81 := eS81.symm
      subst eS81
      refine q_ok_atS hG (q_trI mo ro) rfl (fun mo ro => ?_)
      have hG := u_9_R9 hG mo ro (by decide) (q_trI h82.1 h82.2)
      have hG := u_9_I4 (x := (0 : Int32)) hG mo ro (by decide) (q_wd (show (0 : Int) ≤ (0 : Int32).toInt ∧ (0 : Int32).toInt ≤ (0 : Int) by decide) (by decide) (by decide))
      exact s_X6_load_9_112 hn n _ _ _ hG (q_trI mo ro) (q_wd (show (0 : Int) ≤ (0 : Int32).toInt ∧ (0 : Int32).toInt ≤ (0 : Int) by decide) (by decide) (by decide))  (q_upV (show q_eqv ((0 : Int32)).toInt (0) by unfold q_eqv; decide) (by omega))
def M_X7_set_8 : List Nat := [513, 514, 515, 516]
set_option maxHeartbeats 4000000 in
set_option maxRecDepth 100000 in
theorem s_X7_set_8 {ρ : Nat → Nat} {L : List Nat} {n : Nat} (hn : 18446744073709551616 ≤ n) {S : q_S} (hI : q_Inv ρ L S) {o : Nat} (mo : o ∈ L) (ro : ρ o = 8) {p0 : Int64} (hp0 : (-1 ≤ p0.toInt ∧ p0.toInt ≤ 4294967295)) {p1 : Int64} (hp1 : (-1 ≤ p1.toInt ∧ p1.toInt ≤ 4294967295)) {p2 : Int32} (hp2 : (0 ≤ p2.toInt ∧ p2.toInt ≤ 1600)) {p3 : Int32} (hp3 : (0 ≤ p3.toInt ∧ p3.toInt ≤ 1600)) : q_ok (m_X7_set n S o p0 p1 p2 p3) (fun _ T => q_G ρ L M_X7_set_8 S T) := by
  have hG : q_G ρ L M_X7_set_8 S S := q_G_refl hI
  unfold m_X7_set
  have z0 : (0 : Int32).toInt = 0 := rfl
  refine q_ok_atS hG (q_trI mo ro) rfl (fun mo ro => ?_)
  have hG := u_8_J1 (x := p0) hG mo ro (by decide) (q_wd hp0 (by decide) (by decide))
  have hG := u_8_J2 (x := p1) hG mo ro (by decide) (q_wd hp1 (by decide) (by decide))
  refine q_ok_let (fun S1 eS1 => ?_)
  rw [← eS1] at hG
  have hG := u_8_I3 (x := p2) hG mo ro (by decide) (q_wd hp2 (by decide) (by decide))
  have hG := u_8_I4 (x := p3) hG mo ro (by decide) (q_wd hp3 (by decide) (by decide))
  exact q_ok_some hG
