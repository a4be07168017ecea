def M_X5_yieldOfParts_14_32 : List Nat := [2050, 2051, 2054, 2055, 2056, 2057, 2058, 2059, 2060, 2061]
set_option maxHeartbeats 4000000 in
set_option maxRecDepth 100000 in
theorem s_X5_yieldOfParts_14_32_85 {ρ : Nat → Nat} {L : List Nat} {n : Nat} (hn : 18446744073709551616 ≤ n) {S0 : q_S}  (S : q_S) (l3 : Int32) (hG : q_G ρ L M_X5_yieldOfParts_14_32 S0 S) (hl3 : (0 ≤ l3.toInt ∧ l3.toInt ≤ 2000)) : q_ok (m_X5_yieldOfParts_85 n S l3) (fun r T => q_G ρ L M_X5_yieldOfParts_14_32 S0 T ∧ (0 ≤ r.toInt ∧ r.toInt ≤ 2000)) := by
  unfold m_X5_yieldOfParts_85
  have z0 : (0 : Int32).toInt = 0 := rfl
  exact q_ok_some ⟨hG, (q_wd hl3 (by decide) (by decide))⟩
set_option maxHeartbeats 4000000 in
set_option maxRecDepth 100000 in
theorem s_X5_yieldOfParts_14_32_10 {ρ : Nat → Nat} {L : List Nat} {n : Nat} (hn : 18446744073709551616 ≤ n) {dT : Option Nat} {S0 : q_S}  : ∀ (k : Nat) (S : q_S) (l0 : Option Nat) (l1 : Int32) (l2 : Option Nat) (l3 : Int32) (l4 : Int32) (l5 : Int32), q_G ρ L M_X5_yieldOfParts_14_32 S0 S → q_tr ρ L l0 14 → (2 ≤ l1.toInt ∧ l1.toInt ≤ 2) → q_tr ρ L l2 32 → (0 ≤ l3.toInt ∧ l3.toInt ≤ 2000) → (0 ≤ l4.toInt ∧ l4.toInt ≤ 1) → (0 ≤ l5.toInt ∧ l5.toInt ≤ 1600) → q_tr ρ L dT 32 → (∀ a, dT = some a → (q_J S a 3).toInt ≤ (q_J S0 a 3).toInt + 16 * l5.toInt + 0 ∧ (q_J S0 a 3).toInt ≤ 140737488355328) → l2 = dT → 2147483648 - l5.toInt ≤ (k : Int) → q_ok (m_X5_yieldOfParts_10 n k S l0 l1 l2 l3 l4 l5) (fun r T => q_G ρ L M_X5_yieldOfParts_14_32 S0 T ∧ (0 ≤ r.toInt ∧ r.toInt ≤ 2000)) := by
  intro k
  induction k with
  | zero =>
    intro S l0 l1 l2 l3 l4 l5 hG hl0 hl1 hl2 hl3 hl4 hl5 htT hT hd hm
    have f0 := q_rngI l5
    exfalso; omega
  | succ k ih =>
    intro S l0 l1 l2 l3 l4 l5 hG hl0 hl1 hl2 hl3 hl4 hl5 htT hT hd hm
    rw [m_X5_yieldOfParts_10]
    have z0 : (0 : Int32).toInt = 0 := rfl
    subst hd
    obtain ⟨aT, eaT, maT, raT⟩ := id htT
    have f1 : q_sm _ := g_32_J3 hG maT raT
    obtain ⟨v2, ev2⟩ := q_ev ((q_J (S) aT 3).toInt)
    have f3 := q_bV ev2 f1
    obtain ⟨v4, ev4⟩ := q_ev ((q_J (S0) aT 3).toInt)
    have f5 := q_rVJ (X := q_J (S0) aT 3) ev4
    have f6 := q_le3v (K9 := 16) (E9 := 0) ev2 ev4 q_evr (hT aT eaT).1
    have f7 := q_leCv ev4 (hT aT eaT).2
    refine q_ok_ite (fun g8 => ?_) (fun g8 => ?_)
    · have f9 := q_leV (show q_eqv ((1600 : Int32)).toInt (1600) by unfold q_eqv; decide) q_evr (q_p_ge g8)
      exact s_X5_yieldOfParts_14_32_85 hn _ _ hG (q_wd hl3 (by decide) (by decide)) 
    · have f10 := q_ltV q_evr (show q_eqv ((1600 : Int32)).toInt (1600) by unfold q_eqv; decide) (q_n_ge g8)
      refine q_ok_ite (fun g11 => ?_) (fun g11 => ?_)
      · have f12 := q_eqV q_evr (show q_eqv ((0 : Int32)).toInt (0) by unfold q_eqv; decide) (q_p_eq g11)
        exact s_X5_yieldOfParts_14_32_85 hn _ _ hG (q_wd hl3 (by decide) (by decide)) 
      · have f13 := q_neV q_evr (show q_eqv ((0 : Int32)).toInt (0) by unfold q_eqv; decide) (q_n_eq g11)
        refine q_ok_atA hG eaT maT raT rfl ?_
        refine q_ok_b (s_X1_nextPart_32 hn hG.1 maT raT (q_leC ev2 (by omega))) (fun r14 S15 h16 => ?_)
        have hG := q_G_call hG h16.1 (by decide)
        have f17 := h16.2.1
        have f18 : q_sm _ := g_32_J3 hG maT raT
        obtain ⟨v19, ev19⟩ := q_ev ((q_J (S15) aT 3).toInt)
        have f20 := q_bV ev19 f18
        have f21 := q_leDv ev19 ev2 (h16.2.2)
        refine q_ok_ite (fun g22 => ?_) (fun g22 => ?_)
        · have f23 := q_eqV q_evr (show q_eqv ((0 : Int32)).toInt (0) by unfold q_eqv; decide) (q_p_eq g22)
          exact q_ok_some ⟨hG, (q_wd (show (1000 : Int) ≤ (1000 : Int32).toInt ∧ (1000 : Int32).toInt ≤ (1000 : Int) by decide) (by decide) (by decide))⟩
        · have f24 := q_neV q_evr (show q_eqv ((0 : Int32)).toInt (0) by unfold q_eqv; decide) (q_n_eq g22)
          refine q_ok_atA hG eaT maT raT rfl ?_
          refine q_ok_b (s_X1_isMoved_32 hn hG.1 maT raT) (fun r25 S26 h27 => ?_)
          obtain ⟨eS26, h27⟩ := h27
          replace eS26 := eS26.symm
          subst eS26
          have f28 := h27
          refine q_ok_ite (fun g29 => ?_) (fun g29 => ?_)
          · have f30 := q_eqV q_evr (show q_eqv ((0 : Int32)).toInt (0) by unfold q_eqv; decide) (q_p_eq g29)
            unfold m_X5_yieldOfParts_50
            refine q_ok_atA hG eaT maT raT rfl ?_
            have f31 : q_sm _ := g_32_I7 hG maT raT
            refine q_ok_at hG hl0 rfl (fun a32 ma32 ra32 ea32 => ?_)
            refine q_ok_b (s_X5_yieldAt_14 hn hG.1 ma32 ra32 (q_wd (q_addBI (3) (3) hl1 (show (1 : Int) ≤ (1 : Int32).toInt ∧ (1 : Int32).toInt ≤ (1 : Int) by decide) (by decide) (by decide) (by decide) (by decide)) (by decide) (by decide)) (q_wd f31 (by decide) (by decide))) (fun r33 S34 h35 => ?_)
            obtain ⟨eS34, h35⟩ := h35
            replace eS34 := eS34.symm
            subst eS34
            have f36 := h35
            refine q_ok_b (s_J9_min_7cf53 n _ _ _) (fun r37 S38 h39 => ?_)
            obtain ⟨eS38, h39⟩ := h39
            replace h39 := q_mmVN (show q_eqv ((1000 : Int32)).toInt (1000) by unfold q_eqv; decide) q_evr h39
            replace eS38 := eS38.symm
            subst eS38
            refine q_ok_b (s_J9_min_7cf53 n _ _ _) (fun r40 S41 h42 => ?_)
            obtain ⟨eS41, h42⟩ := h42
            replace h42 := q_mmVN q_evr q_evr h42
            replace eS41 := eS41.symm
            subst eS41
            refine q_ok_atA hG eaT maT raT rfl ?_
            refine q_ok_b (s_X1_hasMore_32 hn hG.1 maT raT) (fun r43 S44 h45 => ?_)
            obtain ⟨eS44, h45⟩ := h45
            replace eS44 := eS44.symm
            subst eS44
            have f46 := h45
            obtain ⟨v47, ev47⟩ := q_ev ((l5 + (1)).toInt)
            have f48 : v47 = l5.toInt + (1) := q_addVI ev47 q_evr (show q_eqv ((1 : Int32)).toInt (1) by unfold q_eqv; decide) (by omega) (by omega)
            exact ih _ _ _ _ _ _ _ hG hl0 (q_wd hl1 (by decide) (by decide)) hl2 (q_oV q_evr (by omega) (by omega)) (q_wd f46 (by decide) (by decide)) (q_oV ev47 (by omega) (by omega)) (q_trE eaT maT raT) (q_trk eaT ⟨q_le3 (K9 := 16) (E9 := 0) ev19 ev4 ev47 (by omega), q_leC ev4 (by omega)⟩) (by first | rfl | exact hd)  (q_upV ev47 (by omega))
          · have f49 := q_neV q_evr (show q_eqv ((0 : Int32)).toInt (0) by unfold q_eqv; decide) (q_n_eq g29)
            unfold m_X5_yieldOfParts_50
            refine q_ok_atA hG eaT maT raT rfl ?_
            have f50 : q_sm _ := g_32_I7 hG maT raT
            refine q_ok_at hG hl0 rfl (fun a51 ma51 ra51 ea51 => ?_)
            refine q_ok_b (s_X5_yieldAt_14 hn hG.1 ma51 ra51 (q_wd (q_addBI (3) (3) hl1 (show (1 : Int) ≤ (1 : Int32).toInt ∧ (1 : Int32).toInt ≤ (1 : Int) by decide) (by decide) (by decide) (by decide) (by decide)) (by decide) (by decide)) (q_wd f50 (by decide) (by decide))) (fun r52 S53 h54 => ?_)
            obtain ⟨eS53, h54⟩ := h54
            replace eS53 := eS53.symm
            subst eS53
            have f55 := h54
            refine q_ok_b (s_J9_min_7cf53 n _ _ _) (fun r56 S57 h58 => ?_)
            obtain ⟨eS57, h58⟩ := h58
            replace h58 := q_mmVN (show q_eqv ((2000 : Int32)).toInt (2000) by unfold q_eqv; decide) q_evr h58
            replace eS57 := eS57.symm
            subst eS57
            refine q_ok_b (s_J9_min_7cf53 n _ _ _) (fun r59 S60 h61 => ?_)
            obtain ⟨eS60, h61⟩ := h61
            replace h61 := q_mmVN q_evr q_evr h61
            replace eS60 := eS60.symm
            subst eS60
            refine q_ok_atA hG eaT maT raT rfl ?_
            refine q_ok_b (s_X1_hasMore_32 hn hG.1 maT raT) (fun r62 S63 h64 => ?_)
            obtain ⟨eS63, h64⟩ := h64
            replace eS63 := eS63.symm
            subst eS63
            have f65 := h64
            obtain ⟨v66, ev66⟩ := q_ev ((l5 + (1)).toInt)
            have f67 : v66 = l5.toInt + (1) := q_addVI ev66 q_evr (show q_eqv ((1 : Int32)).toInt (1) by unfold q_eqv; decide) (by omega) (by omega)
            exact ih _ _ _ _ _ _ _ hG hl0 (q_wd hl1 (by decide) (by decide)) hl2 (q_oV q_evr (by omega) (by omega)) (q_wd f65 (by decide) (by decide)) (q_oV ev66 (by omega) (by omega)) (q_trE eaT maT raT) (q_trk eaT ⟨q_le3 (K9 := 16) (E9 := 0) ev19 ev4 ev66 (by omega), q_leC ev4 (by omega)⟩) (by first | rfl | exact hd)  (q_upV ev66 (by omega))
set_option maxHeartbeats 4000000 in
set_option maxRecDepth 100000 in
theorem s_X5_yieldOfParts_14_32 {ρ : Nat → Nat} {L : List Nat} {n : Nat} (hn : 18446744073709551616 ≤ n) {S : q_S} (hI : q_Inv ρ L S) {o : Nat} (mo : o ∈ L) (ro : ρ o = 14) {p0 : Int32} (hp0 : (2 ≤ p0.toInt ∧ p0.toInt ≤ 2)) {p1 : Option Nat} (tp1 : q_tr ρ L p1 32) (ht : ∀ a, p1 = some a → (q_J S a 3).toInt ≤ 140737488355328) : q_ok (m_X5_yieldOfParts n S o p0 p1) (fun r T => q_G ρ L M_X5_yieldOfParts_14_32 S T ∧ (0 ≤ r.toInt ∧ r.toInt ≤ 2000)) := by
  have hG : q_G ρ L M_X5_yieldOfParts_14_32 S S := q_G_refl hI
  unfold m_X5_yieldOfParts
  have z0 : (0 : Int32).toInt = 0 := rfl
  obtain ⟨aT, eaT, maT, raT⟩ := id tp1
  have f1 : q_sm _ := g_32_J3 hG maT raT
  obtain ⟨v2, ev2⟩ := q_ev ((q_J (S) aT 3).toInt)
  have f3 := q_bV ev2 f1
  have f4 := q_leCv ev2 (ht aT eaT)
  exact s_X5_yieldOfParts_14_32_10 hn n _ _ _ _ _ _ _ hG (q_trI mo ro) (q_wd hp0 (by decide) (by decide)) tp1 (q_wd (show (2000 : Int) ≤ (2000 : Int32).toInt ∧ (2000 : Int32).toInt ≤ (2000 : Int) by decide) (by decide) (by decide)) (q_wd (show (1 : Int) ≤ (1 : Int32).toInt ∧ (1 : Int32).toInt ≤ (1 : Int) by decide) (by decide) (by decide)) (q_wd (show (0 : Int) ≤ (0 : Int32).toInt ∧ (0 : Int32).toInt ≤ (0 : Int) by decide) (by decide) (by decide)) (q_trE eaT maT raT) (q_trk eaT ⟨q_le3 (K9 := 16) (E9 := 0) ev2 ev2 (show q_eqv ((0 : Int32)).toInt (0) by unfold q_eqv; decide) (by omega), q_leC ev2 (by omega)⟩) (by first | rfl | exact hd)  (q_upV (show q_eqv ((0 : Int32)).toInt (0) by unfold q_eqv; decide) (by omega))
def M_X1_skip_32 : List Nat := [2050, 2051]
set_option maxHeartbeats 4000000 in
set_option maxRecDepth 100000 in
theorem s_X1_skip_32 {ρ : Nat → Nat} {L : List Nat} {n : Nat} (hn : 18446744073709551616 ≤ n) {S : q_S} (hI : q_Inv ρ L S) {o : Nat} (mo : o ∈ L) (ro : ρ o = 32) {p0 : Int32} (hp0 : (0 ≤ p0.toInt ∧ p0.toInt ≤ 65535)) (ht : (q_J S o 3).toInt ≤ 140739635838976) : q_ok (m_X1_skip n S o p0) (fun _ T => q_G ρ L M_X1_skip_32 S T ∧ q_sm ((q_J T o 3).toInt ≤ (q_J S o 3).toInt + 65535)) := by
  have hG : q_G ρ L M_X1_skip_32 S S := q_G_refl hI
  unfold m_X1_skip
  have z0 : (0 : Int32).toInt = 0 := rfl
  have f1 : q_sm _ := g_32_J3 hG mo ro
  obtain ⟨v2, ev2⟩ := q_ev ((q_J (S) o 3).toInt)
  have f3 := q_bV ev2 f1
  have f4 := q_leCv ev2 ht
  refine q_ok_atS hG (q_trI mo ro) rfl (fun mo ro => ?_)
  obtain ⟨v5, ev5⟩ := q_ev (((q_J (S) o 3) + (p0.toInt64)).toInt)
  obtain ⟨v6, ev6⟩ := q_ev ((p0.toInt64).toInt)
  have f7 : v6 = p0.toInt := q_i2lV ev6 q_evr
  have f8 : v5 = v2 + v6 := q_addVJ ev5 ev2 ev6 (by omega) (by omega)
  have hG := u_32_J3 (x := (q_J (S) o 3) + (p0.toInt64)) hG mo ro (by decide) (q_oV ev5 (by omega) (by omega))
  have f9 : q_sm _ := g_32_I2 hG mo ro
  obtain ⟨v10, ev10⟩ := q_ev ((q_I (q_sJ (S) o 3 ((q_J (S) o 3) + (p0.toInt64))) o 2).toInt)
  have f11 := q_bV ev10 f9
  refine q_ok_ite (fun g12 => ?_) (fun g12 => ?_)
  · have f13 := q_eqV ev10 (show q_eqv ((0 : Int32)).toInt (0) by unfold q_eqv; decide) (q_p_eq g12)
    have f14 : q_sm _ := g_32_J3 hG mo ro
    have e15 : q_J (q_sJ (S) o 3 ((q_J (S) o 3) + (p0.toInt64))) o 3 = (q_J (S) o 3) + (p0.toInt64) := q_hitJ
    have f16 : q_sm _ := g_32_J4 hG mo ro
    obtain ⟨v17, ev17⟩ := q_ev ((q_J (q_sJ (S) o 3 ((q_J (S) o 3) + (p0.toInt64))) o 3).toInt)
    have f18 : v17 = v5 := q_eqVJ e15 ev17 ev5
    obtain ⟨v19, ev19⟩ := q_ev ((q_J (q_sJ (S) o 3 ((q_J (S) o 3) + (p0.toInt64))) o 4).toInt)
    have f20 := q_bV ev19 f16
    refine q_ok_ite (fun g21 => ?_) (fun g21 => ?_)
    · have f22 := q_leV ev17 ev19 (q_cp_le g21)
      unfold m_X1_skip_36
      refine q_ok_atS hG (q_trI mo ro) rfl (fun mo ro => ?_)
      refine q_ok_if (q_b01V (show q_eqv ((0 : Int32)).toInt (0) by unfold q_eqv; decide) (by omega) (by omega)) ?_
      have hG := u_32_I2 (x := (0 : Int32)) hG mo ro (by decide) (q_wd (show (0 : Int) ≤ (0 : Int32).toInt ∧ (0 : Int32).toInt ≤ (0 : Int) by decide) (by decide) (by decide))
      have e23 : q_J (q_sI (q_sJ (S) o 3 ((q_J (S) o 3) + (p0.toInt64))) o 2 ((0 : Int32))) o 3 = q_J (q_sJ (S) o 3 ((q_J (S) o 3) + (p0.toInt64))) o 3 := q_skJI
      obtain ⟨v24, ev24⟩ := q_ev ((q_J (q_sI (q_sJ (S) o 3 ((q_J (S) o 3) + (p0.toInt64))) o 2 ((0 : Int32))) o 3).toInt)
      have f25 : v24 = v17 := q_eqVJ e23 ev24 ev17
      exact q_ok_some ⟨hG, (q_leD ev24 ev2 (by omega))⟩
    · have f26 := q_ltV ev19 ev17 (q_cn_le g21)
      unfold m_X1_skip_31
      unfold m_X1_skip_36
      refine q_ok_atS hG (q_trI mo ro) rfl (fun mo ro => ?_)
      refine q_ok_if (q_b01V (show q_eqv ((1 : Int32)).toInt (1) by unfold q_eqv; decide) (by omega) (by omega)) ?_
      have hG := u_32_I2 (x := (1 : Int32)) hG mo ro (by decide) (q_wd (show (1 : Int) ≤ (1 : Int32).toInt ∧ (1 : Int32).toInt ≤ (1 : Int) by decide) (by decide) (by decide))
      have e27 : q_J (q_sI (q_sJ (S) o 3 ((q_J (S) o 3) + (p0.toInt64))) o 2 ((1 : Int32))) o 3 = q_J (q_sJ (S) o 3 ((q_J (S) o 3) + (p0.toInt64))) o 3 := q_skJI
      obtain ⟨v28, ev28⟩ := q_ev ((q_J (q_sI (q_sJ (S) o 3 ((q_J (S) o 3) + (p0.toInt64))) o 2 ((1 : Int32))) o 3).toInt)
      have f29 : v28 = v17 := q_eqVJ e27 ev28 ev17
      exact q_ok_some ⟨hG, (q_leD ev28 ev2 (by omega))⟩
  · have f30 := q_neV ev10 (show q_eqv ((0 : Int32)).toInt (0) by unfold q_eqv; decide) (q_n_eq g12)
    unfold m_X1_skip_31
    unfold m_X1_skip_36
    refine q_ok_atS hG (q_trI mo ro) rfl (fun mo ro => ?_)
    refine q_ok_if (q_b01V (show q_eqv ((1 : Int32)).toInt (1) by unfold q_eqv; decide) (by omega) (by omega)) ?_
    have hG := u_32_I2 (x := (1 : Int32)) hG mo ro (by decide) (q_wd (show (1 : Int) ≤ (1 : Int32).toInt ∧ (1 : Int32).toInt ≤ (1 : Int) by decide) (by decide) (by decide))
    have e31 : q_J (q_sI (q_sJ (S) o 3 ((q_J (S) o 3) + (p0.toInt64))) o 2 ((1 : Int32))) o 3 = (q_J (S) o 3) + (p0.toInt64) := (Eq.trans q_skJI q_hitJ)
    obtain ⟨v32, ev32⟩ := q_ev ((q_J (q_sI (q_sJ (S) o 3 ((q_J (S) o 3) + (p0.toInt64))) o 2 ((1 : Int32))) o 3).toInt)
    have f33 : v32 = v5 := q_eqVJ e31 ev32 ev5
    exact q_ok_some ⟨hG, (q_leD ev32 ev2 (by omega))⟩
def M_X1_open_32 : List Nat := [2049, 2050, 2051, 2052, 2053]
set_option maxHeartbeats 4000000 in
set_option maxRecDepth 100000 in
theorem s_X1_open_32 {ρ : Nat → Nat} {L : List Nat} {n : Nat} (hn : 18446744073709551616 ≤ n) {S : q_S} (hI : q_Inv ρ L S) {o : Nat} (mo : o ∈ L) (ro : ρ o = 32) {p0 : Int32} (hp0 : (0 ≤ p0.toInt ∧ p0.toInt ≤ 1)) {p1 : Int64} (hp1 : (0 ≤ p1.toInt ∧ p1.toInt ≤ 17179869184)) {p2 : Int64} (hp2 : (0 ≤ p2.toInt ∧ p2.toInt ≤ 65535)) : q_ok (m_X1_open n S o p0 p1 p2) (fun _ T => q_G ρ L M_X1_open_32 S T ∧ q_sm ((q_J T o 3).toInt ≤ 1099511627776)) := by
  have hG : q_G ρ L M_X1_open_32 S S := q_G_refl hI
  unfold m_X1_open
  have z0 : (0 : Int32).toInt = 0 := rfl
  have f1 : q_sm _ := g_32_J3 hG mo ro
  obtain ⟨v2, ev2⟩ := q_ev ((q_J (S) o 3).toInt)
  have f3 := q_bV ev2 f1
  refine q_ok_atS hG (q_trI mo ro) rfl (fun mo ro => ?_)
  refine q_ok_if (q_b01V q_evr (by omega) (by omega)) ?_
  have hG := u_32_I1 (x := p0) hG mo ro (by decide) (q_wd hp0 (by decide) (by decide))
  refine q_ok_if (q_b01V (show q_eqv ((0 : Int32)).toInt (0) by unfold q_eqv; decide) (by omega) (by omega)) ?_
  have hG := u_32_I2 (x := (0 : Int32)) hG mo ro (by decide) (q_wd (show (0 : Int) ≤ (0 : Int32).toInt ∧ (0 : Int32).toInt ≤ (0 : Int) by decide) (by decide) (by decide))
  refine q_ok_let (fun S4 eS4 => ?_)
  rw [← eS4] at hG
  have hG := u_32_J3 (x := p1) hG mo ro (by decide) (q_wd hp1 (by decide) (by decide))
  have hG := u_32_J4 (x := p2) hG mo ro (by decide) (q_wd hp2 (by decide) (by decide))
  refine q_ok_let (fun S5 eS5 => ?_)
  rw [← eS5] at hG
  have e9 : q_J (S5) o 3 = p1 := (Eq.trans (q_leJ eS5) (Eq.trans (q_ffJ (by decide)) q_hitJ))
  obtain ⟨v10, ev10⟩ := q_ev ((q_J (S5) o 3).toInt)
  have f11 : v10 = p1.toInt := q_eqVJ e9 ev10 q_evr
  refine q_ok_b (s_X1_signedTwo_32 hn hG.1 mo ro (q_leC ev10 (by omega))) (fun r6 S7 h8 => ?_)
  have hG := q_G_call hG h8.1 (by decide)
  have f12 := h8.2.1
  have f13 : q_sm _ := g_32_J3 hG mo ro
  obtain ⟨v14, ev14⟩ := q_ev ((q_J (S7) o 3).toInt)
  have f15 := q_bV ev14 f13
  have f16 := q_leDv ev14 ev10 (h8.2.2)
  refine q_ok_atS hG (q_trI mo ro) rfl (fun mo ro => ?_)
  have hG := u_32_I5 (x := r6) hG mo ro (by decide) (q_wd f12 (by decide) (by decide))
  have e20 : q_J (q_sI (S7) o 5 (r6)) o 3 = q_J (S7) o 3 := q_skJI
  obtain ⟨v21, ev21⟩ := q_ev ((q_J (q_sI (S7) o 5 (r6)) o 3).toInt)
  have f22 : v21 = v14 := q_eqVJ e20 ev21 ev14
  refine q_ok_b (s_X1_skip_32 hn hG.1 mo ro (q_wd (show (8 : Int) ≤ (8 : Int32).toInt ∧ (8 : Int32).toInt ≤ (8 : Int) by decide) (by decide) (by decide)) (q_leC ev21 (by omega))) (fun r17 S18 h19 => ?_)
  have hG := q_G_call hG h19.1 (by decide)
  have f23 : q_sm _ := g_32_J3 hG mo ro
  obtain ⟨v24, ev24⟩ := q_ev ((q_J (S18) o 3).toInt)
  have f25 := q_bV ev24 f23
  have f26 := q_leDv ev24 ev21 (h19.2)
  exact q_ok_some ⟨hG, (q_leC ev24 (by omega))⟩
def M_X6_open_9_32 : List Nat := [2049, 2050, 2051, 2052, 2053]
set_option maxHeartbeats 4000000 in
set_option maxRecDepth 100000 in
theorem s_X6_open_9_32 {ρ : Nat → Nat} {L : List Nat} {n : Nat} (hn : 18446744073709551616 ≤ n) {S : q_S} (hI : q_Inv ρ L S) {o : Nat} (mo : o ∈ L) (ro : ρ o = 9) {p0 : Int32} (hp0 : (0 ≤ p0.toInt ∧ p0.toInt ≤ 199)) {p1 : Option Nat} (tp1 : q_tr ρ L p1 32) : q_ok (m_X6_open n S o p0 p1) (fun _ T => q_G ρ L M_X6_open_9_32 S T ∧ q_sm (∀ a, p1 = some a → (q_J T a 3).toInt ≤ 1099511627776)) := by
  have hG : q_G ρ L M_X6_open_9_32 S S := q_G_refl hI
  unfold m_X6_open
  have z0 : (0 : Int32).toInt = 0 := rfl
  obtain ⟨aT, eaT, maT, raT⟩ := id tp1
  have f1 : q_sm _ := g_32_J3 hG maT raT
  obtain ⟨v2, ev2⟩ := q_ev ((q_J (S) aT 3).toInt)
  have f3 := q_bV ev2 f1
  refine q_ok_atS hG (q_trI mo ro) rfl (fun mo ro => ?_)
  refine q_ok_b (s_X6_placeAt_9 hn hG.1 mo ro (q_wd hp0 (by decide) (by decide))) (fun r4 S5 h6 => ?_)
  obtain ⟨eS5, h6⟩ := h6
  replace eS5 := eS5.symm
  subst eS5
  have f7 := h6
  refine q_ok_atS hG (q_trI mo ro) rfl (fun mo ro => ?_)
  refine q_ok_b (s_X6_placeAt_9 hn hG.1 mo ro (q_wd (q_addBI (1) (200) hp0 (show (1 : Int) ≤ (1 : Int32).toInt ∧ (1 : Int32).toInt ≤ (1 : Int) by decide) (by decide) (by decide) (by decide) (by decide)) (by decide) (by decide))) (fun r8 S9 h10 => ?_)
  obtain ⟨eS9, h10⟩ := h10
  replace eS9 := eS9.symm
  subst eS9
  have f11 := h10
  refine q_ok_ite (fun g12 => ?_) (fun g12 => ?_)
  · have f13 := q_eqV q_evr (show q_eqv ((-1 : Int64)).toInt (-1) by unfold q_eqv; decide) (q_cp_eq g12)
    unfold m_X6_open_32
    refine q_ok_atA hG eaT maT raT rfl ?_
    refine q_ok_b (s_X1_open_32 hn hG.1 maT raT (q_wd (show (0 : Int) ≤ (0 : Int32).toInt ∧ (0 : Int32).toInt ≤ (0 : Int) by decide) (by decide) (by decide)) (q_wd (show (0 : Int) ≤ (0 : Int64).toInt ∧ (0 : Int64).toInt ≤ (0 : Int) by decide) (by decide) (by decide)) (q_wd (show (0 : Int) ≤ (0 : Int64).toInt ∧ (0 : Int64).toInt ≤ (0 : Int) by decide) (by decide) (by decide))) (fun r14 S15 h16 => ?_)
    have hG := q_G_call hG h16.1 (by decide)
    have f17 : q_sm _ := g_32_J3 hG maT raT
    obtain ⟨v18, ev18⟩ := q_ev ((q_J (S15) aT 3).toInt)
    have f19 := q_bV ev18 f17
    have f20 := q_leCv ev18 (h16.2)
    unfold m_X6_open_89
    exact q_ok_some ⟨hG, (q_trk eaT (q_leC ev18 (by omega)))⟩
  · have f21 := q_neV q_evr (show q_eqv ((-1 : Int64)).toInt (-1) by unfold q_eqv; decide) (q_cn_eq g12)
    refine q_ok_ite (fun g22 => ?_) (fun g22 => ?_)
    · have f23 := q_eqV q_evr (show q_eqv ((-1 : Int64)).toInt (-1) by unfold q_eqv; decide) (q_cp_eq g22)
      unfold m_X6_open_32
      refine q_ok_atA hG eaT maT raT rfl ?_
      refine q_ok_b (s_X1_open_32 hn hG.1 maT raT (q_wd (show (0 : Int) ≤ (0 : Int32).toInt ∧ (0 : Int32).toInt ≤ (0 : Int) by decide) (by decide) (by decide)) (q_wd (show (0 : Int) ≤ (0 : Int64).toInt ∧ (0 : Int64).toInt ≤ (0 : Int) by decide) (by decide) (by decide)) (q_wd (show (0 : Int) ≤ (0 : Int64).toInt ∧ (0 : Int64).toInt ≤ (0 : Int) by decide) (by decide) (by decide))) (fun r24 S25 h26 => ?_)
      have hG := q_G_call hG h26.1 (by decide)
      have f27 : q_sm _ := g_32_J3 hG maT raT
      obtain ⟨v28, ev28⟩ := q_ev ((q_J (S25) aT 3).toInt)
      have f29 := q_bV ev28 f27
      have f30 := q_leCv ev28 (h26.2)
      unfold m_X6_open_89
      exact q_ok_some ⟨hG, (q_trk eaT (q_leC ev28 (by omega)))⟩
    · have f31 := q_neV q_evr (show q_eqv ((-1 : Int64)).toInt (-1) by unfold q_eqv; decide) (q_cn_eq g22)
      refine q_ok_ite (fun g32 => ?_) (fun g32 => ?_)
      · have f33 := q_eqV q_evr q_evr (q_cp_eq g32)
        unfold m_X6_open_55
        refine q_ok_atS hG (q_trI mo ro) rfl (fun mo ro => ?_)
        have t34 := g_9_R9 hG mo ro
        refine q_ok_at hG t34 rfl (fun a35 ma35 ra35 ea35 => ?_)
        have f36 : q_sm _ := g_8_I3 hG ma35 ra35
        have t37 := g_9_R9 hG mo ro
        have t38 := g_9_R9 hG mo ro
        refine q_ok_b (s_X7_end_8 hn hG.1 ma35 ra35) (fun r39 S40 h41 => ?_)
        obtain ⟨eS40, h41⟩ := h41
        replace eS40 := eS40.symm
        subst eS40
        have f42 := h41
        obtain ⟨v46, ev46⟩ := q_ev ((((q_I (S) a35 3).toInt64) + r8).toInt)
        obtain ⟨v47, ev47⟩ := q_ev (((q_I (S) a35 3).toInt64).toInt)
        obtain ⟨v48, ev48⟩ := q_ev ((q_I (S) a35 3).toInt)
        have f49 := q_bV ev48 f36
        have f50 : v47 = v48 := q_i2lV ev47 ev48
        have f51 : v46 = v47 + r8.toInt := q_addVJ ev46 ev47 q_evr (by omega) (by omega)
        refine q_ok_b (s_J9_min_f86c9 n _ _ _) (fun r43 S44 h45 => ?_)
        obtain ⟨eS44, h45⟩ := h45
        replace h45 := q_mmVN ev46 q_evr h45
        replace eS44 := eS44.symm
        subst eS44
        refine q_ok_atA hG eaT maT raT rfl ?_
        obtain ⟨v55, ev55⟩ := q_ev ((((q_I (S) a35 3).toInt64) + r4).toInt)
        have f56 : v55 = v47 + r4.toInt := q_addVJ ev55 ev47 q_evr (by omega) (by omega)
        refine q_ok_b (s_X1_open_32 hn hG.1 maT raT (q_wd (show (1 : Int) ≤ (1 : Int32).toInt ∧ (1 : Int32).toInt ≤ (1 : Int) by decide) (by decide) (by decide)) (q_oV ev55 (by omega) (by omega)) (q_oV q_evr (by omega) (by omega))) (fun r52 S53 h54 => ?_)
        have hG := q_G_call hG h54.1 (by decide)
        have f57 : q_sm _ := g_32_J3 hG maT raT
        obtain ⟨v58, ev58⟩ := q_ev ((q_J (S53) aT 3).toInt)
        have f59 := q_bV ev58 f57
        have f60 := q_leCv ev58 (h54.2)
        unfold m_X6_open_89
        exact q_ok_some ⟨hG, (q_trk eaT (q_leC ev58 (by omega)))⟩
      · have f61 := q_neV q_evr q_evr (q_cn_eq g32)
        unfold m_X6_open_55
        refine q_ok_atS hG (q_trI mo ro) rfl (fun mo ro => ?_)
        have t62 := g_9_R9 hG mo ro
        refine q_ok_at hG t62 rfl (fun a63 ma63 ra63 ea63 => ?_)
        have f64 : q_sm _ := g_8_I3 hG ma63 ra63
        have t65 := g_9_R9 hG mo ro
        have t66 := g_9_R9 hG mo ro
        refine q_ok_b (s_X7_end_8 hn hG.1 ma63 ra63) (fun r67 S68 h69 => ?_)
        obtain ⟨eS68, h69⟩ := h69
        replace eS68 := eS68.symm
        subst eS68
        have f70 := h69
        obtain ⟨v74, ev74⟩ := q_ev ((((q_I (S) a63 3).toInt64) + r8).toInt)
        obtain ⟨v75, ev75⟩ := q_ev (((q_I (S) a63 3).toInt64).toInt)
        obtain ⟨v76, ev76⟩ := q_ev ((q_I (S) a63 3).toInt)
        have f77 := q_bV ev76 f64
        have f78 : v75 = v76 := q_i2lV ev75 ev76
        have f79 : v74 = v75 + r8.toInt := q_addVJ ev74 ev75 q_evr (by omega) (by omega)
        refine q_ok_b (s_J9_min_f86c9 n _ _ _) (fun r71 S72 h73 => ?_)
        obtain ⟨eS72, h73⟩ := h73
        replace h73 := q_mmVN ev74 q_evr h73
        replace eS72 := eS72.symm
        subst eS72
        refine q_ok_atA hG eaT maT raT rfl ?_
        obtain ⟨v83, ev83⟩ := q_ev ((((q_I (S) a63 3).toInt64) + r4).toInt)
        have f84 : v83 = v75 + r4.toInt := q_addVJ ev83 ev75 q_evr (by omega) (by omega)
        refine q_ok_b (s_X1_open_32 hn hG.1 maT raT (q_wd (show (0 : Int) ≤ (0 : Int32).toInt ∧ (0 : Int32).toInt ≤ (0 : Int) by decide) (by decide) (by decide)) (q_oV ev83 (by omega) (by omega)) (q_oV q_evr (by omega) (by omega))) (fun r80 S81 h82 => ?_)
        have hG := q_G_call hG h82.1 (by decide)
        have f85 : q_sm _ := g_32_J3 hG maT raT
        obtain ⟨v86, ev86⟩ := q_ev ((q_J (S81) aT 3).toInt)
        have f87 := q_bV ev86 f85
        have f88 := q_leCv ev86 (h82.2)
        unfold m_X6_open_89
        exact q_ok_some ⟨hG, (q_trk eaT (q_leC ev86 (by omega)))⟩
def M_X5_yieldOf_14_k2 : List Nat := [2049, 2050, 2051, 2052, 2053, 2054, 2055, 2056, 2057, 2058, 2059, 2060, 2061]
set_option maxHeartbeats 4000000 in
set_option maxRecDepth 100000 in
theorem s_X5_yieldOf_14_k2 {ρ : Nat → Nat} {L : List Nat} {n : Nat} (hn : 18446744073709551616 ≤ n) {S : q_S} (hI : q_Inv ρ L S) {o : Nat} (mo : o ∈ L) (ro : ρ o = 14) {p0 : Int32} (hp0 : (2 ≤ p0.toInt ∧ p0.toInt ≤ 2)) {p1 : Int32} (hp1 : (0 ≤ p1.toInt ∧ p1.toInt ≤ 199)) : q_ok (m_X5_yieldOf n S o p0 p1) (fun r T => q_G ρ L M_X5_yieldOf_14_k2 S T ∧ (0 ≤ r.toInt ∧ r.toInt ≤ 2000)) := by
  have hG : q_G ρ L M_X5_yieldOf_14_k2 S S := q_G_refl hI
  unfold m_X5_yieldOf
  have z0 : (0 : Int32).toInt = 0 := rfl
  refine q_ok_atS hG (q_trI mo ro) rfl (fun mo ro => ?_)
  have t1 := g_14_R4 hG mo ro
  refine q_ok_at hG t1 rfl (fun a2 ma2 ra2 ea2 => ?_)
  refine q_ok_if (q_inV (g_25_N hG ma2 ra2) q_evr (by omega) (by omega)) ?_
  have t3 := g_25_RK2 hG ma2 ra2 (k := (p0).toNatClampNeg) (q_idxK q_evr (by omega))
  have t4 := g_14_R0 hG mo ro
  refine q_ok_at hG t4 rfl (fun a5 ma5 ra5 ea5 => ?_)
  obtain ⟨a9, ea9, ma9, ra9⟩ := id t3
  have f10 : q_sm _ := g_32_J3 hG ma9 ra9
  refine q_ok_b (s_X6_open_9_32 hn hG.1 ma5 ra5 (q_wd hp1 (by decide) (by decide)) t3) (fun r6 S7 h8 => ?_)
  have hG := q_G_call hG h8.1 (by decide)
  have f11 : q_sm _ := g_32_J3 hG ma9 ra9
  obtain ⟨v12, ev12⟩ := q_ev ((q_J (S7) a9 3).toInt)
  have f13 := q_bV ev12 f11
  obtain ⟨v14, ev14⟩ := q_ev ((q_J (S) a9 3).toInt)
  have f15 := q_bV ev14 f10
  have f16 := q_leCv ev12 (h8.2 _ ea9)
  refine q_ok_atA hG ea9 ma9 ra9 rfl ?_
  refine q_ok_b (s_X1_isEmpty_32 hn hG.1 ma9 ra9) (fun r17 S18 h19 => ?_)
  obtain ⟨eS18, h19⟩ := h19
  replace eS18 := eS18.symm
  subst eS18
  have f20 := h19
  refine q_ok_ite (fun g21 => ?_) (fun g21 => ?_)
  · have f22 := q_eqV q_evr (show q_eqv ((0 : Int32)).toInt (0) by unfold q_eqv; decide) (q_p_eq g21)
    refine q_ok_atA hG ea9 ma9 ra9 rfl ?_
    refine q_ok_b (s_X1_hasParts_32 hn hG.1 ma9 ra9) (fun r23 S24 h25 => ?_)
    obtain ⟨eS24, h25⟩ := h25
    replace eS24 := eS24.symm
    subst eS24
    have f26 := h25
    obtain ⟨v27, ev27⟩ := q_ev ((q_I (S7) a9 5).toInt)
    have f28 := q_bV ev27 (g_32_I5 hG ma9 ra9)
    have f29 : r23.toInt = 0 → (0) ≤ v27 := fun h9 => q_leV (show q_eqv ((0 : Int32)).toInt (0) by unfold q_eqv; decide) ev27 (f26.2.1 h9)
    have f30 : r23.toInt = 1 → v27 < (0) := fun h9 => q_ltV ev27 (show q_eqv ((0 : Int32)).toInt (0) by unfold q_eqv; decide) (f26.2.2 h9)
    refine q_ok_ite (fun g31 => ?_) (fun g31 => ?_)
    · have f32 := q_eqV q_evr (show q_eqv ((0 : Int32)).toInt (0) by unfold q_eqv; decide) (q_p_eq g31)
      refine q_ok_ite (fun g33 => ?_) (fun g33 => ?_)
      · have f34 := q_leV (show q_eqv ((5 : Int32)).toInt (5) by unfold q_eqv; decide) q_evr (q_p_ge g33)
        exfalso; omega
      · have f35 := q_ltV q_evr (show q_eqv ((5 : Int32)).toInt (5) by unfold q_eqv; decide) (q_n_ge g33)
        refine q_ok_atS hG (q_trI mo ro) rfl (fun mo ro => ?_)
        refine q_ok_b (s_X5_yieldAt_14 hn hG.1 mo ro (q_wd (q_addBI (3) (3) hp0 (show (1 : Int) ≤ (1 : Int32).toInt ∧ (1 : Int32).toInt ≤ (1 : Int) by decide) (by decide) (by decide) (by decide) (by decide)) (by decide) (by decide)) (q_wd hp1 (by decide) (by decide))) (fun r36 S37 h38 => ?_)
        obtain ⟨eS37, h38⟩ := h38
        replace eS37 := eS37.symm
        subst eS37
        have f39 := h38
        unfold m_X5_yieldOf_62
        exact q_ok_some ⟨hG, (q_wd f39 (by decide) (by decide))⟩
    · have f40 := q_neV q_evr (show q_eqv ((0 : Int32)).toInt (0) by unfold q_eqv; decide) (q_n_eq g31)
      refine q_ok_atS hG (q_trI mo ro) rfl (fun mo ro => ?_)
      refine q_ok_b (s_X5_yieldOfParts_14_32 hn hG.1 mo ro (q_wd hp0 (by decide) (by decide)) t3 (q_trk ea9 (q_leC ev12 (by omega)))) (fun r41 S42 h43 => ?_)
      have hG := q_G_call hG h43.1 (by decide)
      have f44 := h43.2
      exact q_ok_some ⟨hG, (q_wd f44 (by decide) (by decide))⟩
  · have f45 := q_neV q_evr (show q_eqv ((0 : Int32)).toInt (0) by unfold q_eqv; decide) (q_n_eq g21)
    exact q_ok_some ⟨hG, (q_wd (show (2000 : Int) ≤ (2000 : Int32).toInt ∧ (2000 : Int32).toInt ≤ (2000 : Int) by decide) (by decide) (by decide))⟩
set_option maxHeartbeats 4000000 in
set_option maxRecDepth 100000 in
theorem s_X1_hasParts_33 {ρ : Nat → Nat} {L : List Nat} {n : Nat} (hn : 18446744073709551616 ≤ n) {S : q_S} (hI : q_Inv ρ L S) {o : Nat} (mo : o ∈ L) (ro : ρ o = 33) : q_ok (m_X1_hasParts n S o) (fun r T => T = S ∧ (0 ≤ r.toInt ∧ r.toInt ≤ 1) ∧ q_sm ((r.toInt = 0 → (0 : Int32).toInt ≤ (q_I (S) o 5).toInt) ∧ (r.toInt = 1 → (q_I (S) o 5).toInt < (0 : Int32).toInt))) := by
  have hG : q_G ρ L [] S S := q_G_refl hI
  unfold m_X1_hasParts
  have z0 : (0 : Int32).toInt = 0 := rfl
  refine q_ok_atS hG (q_trI mo ro) rfl (fun mo ro => ?_)
  have f1 : q_sm _ := g_33_I5 hG mo ro
  obtain ⟨v2, ev2⟩ := q_ev ((q_I (S) o 5).toInt)
  have f3 := q_bV ev2 f1
  refine q_ok_ite (fun g4 => ?_) (fun g4 => ?_)
  · have f5 := q_leV (show q_eqv ((0 : Int32)).toInt (0) by unfold q_eqv; decide) ev2 (q_p_ge g4)
    unfold m_X1_hasParts_12
    refine q_ok_if (q_b01V (show q_eqv ((0 : Int32)).toInt (0) by unfold q_eqv; decide) (by omega) (by omega)) ?_
    exact q_ok_some ⟨rfl, (q_wd (show (0 : Int) ≤ (0 : Int32).toInt ∧ (0 : Int32).toInt ≤ (0 : Int) by decide) (by decide) (by decide)), ⟨fun _ => (q_geW ev2 (show q_eqv ((0 : Int32)).toInt (0) by unfold q_eqv; decide) (by omega)), fun h9 => absurd h9 (by decide)⟩⟩
  · have f6 := q_ltV ev2 (show q_eqv ((0 : Int32)).toInt (0) by unfold q_eqv; decide) (q_n_ge g4)
    unfold m_X1_hasParts_12
    refine q_ok_if (q_b01V (show q_eqv ((1 : Int32)).toInt (1) by unfold q_eqv; decide) (by omega) (by omega)) ?_
    exact q_ok_some ⟨rfl, (q_wd (show (1 : Int) ≤ (1 : Int32).toInt ∧ (1 : Int32).toInt ≤ (1 : Int) by decide) (by decide) (by decide)), ⟨fun h9 => absurd h9 (by decide), fun _ => (q_ltW ev2 (show q_eqv ((0 : Int32)).toInt (0) by unfold q_eqv; decide) (by omega))⟩⟩
set_option maxHeartbeats 4000000 in
set_option maxRecDepth 100000 in
theorem s_X1_isEmpty_33 {ρ : Nat → Nat} {L : List Nat} {n : Nat} (hn : 18446744073709551616 ≤ n) {S : q_S} (hI : q_Inv ρ L S) {o : Nat} (mo : o ∈ L) (ro : ρ o = 33) : q_ok (m_X1_isEmpty n S o) (fun r T => T = S ∧ (0 ≤ r.toInt ∧ r.toInt ≤ 1)) := by
  have hG : q_G ρ L [] S S := q_G_refl hI
  unfold m_X1_isEmpty
  have z0 : (0 : Int32).toInt = 0 := rfl
  refine q_ok_atS hG (q_trI mo ro) rfl (fun mo ro => ?_)
  have f1 : q_sm _ := g_33_I1 hG mo ro
  obtain ⟨v2, ev2⟩ := q_ev ((q_I (S) o 1).toInt)
  have f3 := q_bV ev2 f1
  refine q_ok_if (q_b01V ev2 (by omega) (by omega)) ?_
  exact q_ok_some ⟨rfl, (q_wd f1 (by decide) (by decide))⟩
set_option maxHeartbeats 4000000 in
set_option maxRecDepth 100000 in
theorem s_X1_hasMore_33 {ρ : Nat → Nat} {L : List Nat} {n : Nat} (hn : 18446744073709551616 ≤ n) {S : q_S} (hI : q_Inv ρ L S) {o : Nat} (mo : o ∈ L) (ro : ρ o = 33) : q_ok (m_X1_hasMore n S o) (fun r T => T = S ∧ (0 ≤ r.toInt ∧ r.toInt ≤ 1)) := by
  have hG : q_G ρ L [] S S := q_G_refl hI
  unfold m_X1_hasMore
  have z0 : (0 : Int32).toInt = 0 := rfl
  refine q_ok_atS hG (q_trI mo ro) rfl (fun mo ro => ?_)
  have f1 : q_sm _ := g_33_I6 hG mo ro
  obtain ⟨v2, ev2⟩ := q_ev (((q_I (S) o 6) &&& (32 : Int32)).toInt)
  have f3 := q_andRVI ev2 (show q_eqv ((32 : Int32)).toInt (32) by unfold q_eqv; decide) (by omega)
  refine q_ok_ite (fun g4 => ?_) (fun g4 => ?_)
  · have f5 := q_eqV ev2 (show q_eqv ((0 : Int32)).toInt (0) by unfold q_eqv; decide) (q_p_eq g4)
    unfold m_X1_hasMore_15
    refine q_ok_if (q_b01V (show q_eqv ((0 : Int32)).toInt (0) by unfold q_eqv; decide) (by omega) (by omega)) ?_
    exact q_ok_some ⟨rfl, (q_wd (show (0 : Int) ≤ (0 : Int32).toInt ∧ (0 : Int32).toInt ≤ (0 : Int) by decide) (by decide) (by decide))⟩
  · have f6 := q_neV ev2 (show q_eqv ((0 : Int32)).toInt (0) by unfold q_eqv; decide) (q_n_eq g4)
    unfold m_X1_hasMore_15
    refine q_ok_if (q_b01V (show q_eqv ((1 : Int32)).toInt (1) by unfold q_eqv; decide) (by omega) (by omega)) ?_
    exact q_ok_some ⟨rfl, (q_wd (show (1 : Int) ≤ (1 : Int32).toInt ∧ (1 : Int32).toInt ≤ (1 : Int) by decide) (by decide) (by decide))⟩
set_option maxHeartbeats 4000000 in
set_option maxRecDepth 100000 in
theorem s_X1_isMoved_33 {ρ : Nat → Nat} {L : List Nat} {n : Nat} (hn : 18446744073709551616 ≤ n) {S : q_S} (hI : q_Inv ρ L S) {o : Nat} (mo : o ∈ L) (ro : ρ o = 33) : q_ok (m_X1_isMoved n S o) (fun r T => T = S ∧ (0 ≤ r.toInt ∧ r.toInt ≤ 1)) := by
  have hG : q_G ρ L [] S S := q_G_refl hI
  unfold m_X1_isMoved
  have z0 : (0 : Int32).toInt = 0 := rfl
  refine q_ok_atS hG (q_trI mo ro) rfl (fun mo ro => ?_)
  have f1 : q_sm _ := g_33_I6 hG mo ro
  obtain ⟨v2, ev2⟩ := q_ev (((q_I (S) o 6) &&& (2 : Int32)).toInt)
  have f3 := q_andRVI ev2 (show q_eqv ((2 : Int32)).toInt (2) by unfold q_eqv; decide) (by omega)
  refine q_ok_ite (fun g4 => ?_) (fun g4 => ?_)
  · have f5 := q_eqV ev2 (show q_eqv ((0 : Int32)).toInt (0) by unfold q_eqv; decide) (q_p_eq g4)
    unfold m_X1_isMoved_14
    refine q_ok_if (q_b01V (show q_eqv ((0 : Int32)).toInt (0) by unfold q_eqv; decide) (by omega) (by omega)) ?_
    exact q_ok_some ⟨rfl, (q_wd (show (0 : Int) ≤ (0 : Int32).toInt ∧ (0 : Int32).toInt ≤ (0 : Int) by decide) (by decide) (by decide))⟩
  · have f6 := q_neV ev2 (show q_eqv ((0 : Int32)).toInt (0) by unfold q_eqv; decide) (q_n_eq g4)
    unfold m_X1_isMoved_14
    refine q_ok_if (q_b01V (show q_eqv ((1 : Int32)).toInt (1) by unfold q_eqv; decide) (by omega) (by omega)) ?_
    exact q_ok_some ⟨rfl, (q_wd (show (1 : Int) ≤ (1 : Int32).toInt ∧ (1 : Int32).toInt ≤ (1 : Int) by decide) (by decide) (by decide))⟩
def M_X1_seen_33 : List Nat := [2114, 2115]
set_option maxHeartbeats 4000000 in
set_option maxRecDepth 100000 in
theorem s_X1_seen_33 {ρ : Nat → Nat} {L : List Nat} {n : Nat} (hn : 18446744073709551616 ≤ n) {S : q_S} (hI : q_Inv ρ L S) {o : Nat} (mo : o ∈ L) (ro : ρ o = 33) {p0 : Int32} (hp0 : (-1 ≤ p0.toInt ∧ p0.toInt ≤ 65535)) {p1 : Int32} (hp1 : (1 ≤ p1.toInt ∧ p1.toInt ≤ 2)) (ht : (q_J S o 3).toInt ≤ 140739635838976) : q_ok (m_X1_seen n S o p0 p1) (fun r T => q_G ρ L M_X1_seen_33 S T ∧ (0 ≤ r.toInt ∧ r.toInt ≤ 65535) ∧ q_sm ((q_J T o 3).toInt ≤ (q_J S o 3).toInt + 2)) := by
  have hG : q_G ρ L M_X1_seen_33 S S := q_G_refl hI
  unfold m_X1_seen
  have z0 : (0 : Int32).toInt = 0 := rfl
  have f1 : q_sm _ := g_33_J3 hG mo ro
  obtain ⟨v2, ev2⟩ := q_ev ((q_J (S) o 3).toInt)
  have f3 := q_bV ev2 f1
  have f4 := q_leCv ev2 ht
  refine q_ok_atS hG (q_trI mo ro) rfl (fun mo ro => ?_)
  obtain ⟨v5, ev5⟩ := q_ev (((q_J (S) o 3) + (p1.toInt64)).toInt)
  obtain ⟨v6, ev6⟩ := q_ev ((p1.toInt64).toInt)
  have f7 : v6 = p1.toInt := q_i2lV ev6 q_evr
  have f8 : v5 = v2 + v6 := q_addVJ ev5 ev2 ev6 (by omega) (by omega)
  have hG := u_33_J3 (x := (q_J (S) o 3) + (p1.toInt64)) hG mo ro (by decide) (q_oV ev5 (by omega) (by omega))
  have f9 : q_sm _ := g_33_I2 hG mo ro
  obtain ⟨v10, ev10⟩ := q_ev ((q_I (q_sJ (S) o 3 ((q_J (S) o 3) + (p1.toInt64))) o 2).toInt)
  have f11 := q_bV ev10 f9
  refine q_ok_ite (fun g12 => ?_) (fun g12 => ?_)
  · have f13 := q_eqV ev10 (show q_eqv ((0 : Int32)).toInt (0) by unfold q_eqv; decide) (q_p_eq g12)
    refine q_ok_ite (fun g14 => ?_) (fun g14 => ?_)
    · have f15 := q_eqV q_evr (show q_eqv ((-1 : Int32)).toInt (-1) by unfold q_eqv; decide) (q_p_eq g14)
      unfold m_X1_seen_24
      unfold m_X1_seen_29
      refine q_ok_atS hG (q_trI mo ro) rfl (fun mo ro => ?_)
      refine q_ok_if (q_b01V (show q_eqv ((1 : Int32)).toInt (1) by unfold q_eqv; decide) (by omega) (by omega)) ?_
      have hG := u_33_I2 (x := (1 : Int32)) hG mo ro (by decide) (q_wd (show (1 : Int) ≤ (1 : Int32).toInt ∧ (1 : Int32).toInt ≤ (1 : Int) by decide) (by decide) (by decide))
      refine q_ok_ite (fun g16 => ?_) (fun g16 => ?_)
      · have f17 := q_eqV q_evr (show q_eqv ((-1 : Int32)).toInt (-1) by unfold q_eqv; decide) (q_p_eq g16)
        unfold m_X1_seen_42
        have e18 : q_J (q_sI (q_sJ (S) o 3 ((q_J (S) o 3) + (p1.toInt64))) o 2 ((1 : Int32))) o 3 = (q_J (S) o 3) + (p1.toInt64) := (Eq.trans q_skJI q_hitJ)
        obtain ⟨v19, ev19⟩ := q_ev ((q_J (q_sI (q_sJ (S) o 3 ((q_J (S) o 3) + (p1.toInt64))) o 2 ((1 : Int32))) o 3).toInt)
        have f20 : v19 = v5 := q_eqVJ e18 ev19 ev5
        exact q_ok_some ⟨hG, (q_wd (show (0 : Int) ≤ (0 : Int32).toInt ∧ (0 : Int32).toInt ≤ (0 : Int) by decide) (by decide) (by decide)), (q_leD ev19 ev2 (by omega))⟩
      · have f21 := q_neV q_evr (show q_eqv ((-1 : Int32)).toInt (-1) by unfold q_eqv; decide) (q_n_eq g16)
        exfalso; omega
    · have f22 := q_neV q_evr (show q_eqv ((-1 : Int32)).toInt (-1) by unfold q_eqv; decide) (q_n_eq g14)
      unfold m_X1_seen_29
      refine q_ok_atS hG (q_trI mo ro) rfl (fun mo ro => ?_)
      refine q_ok_if (q_b01V (show q_eqv ((0 : Int32)).toInt (0) by unfold q_eqv; decide) (by omega) (by omega)) ?_
      have hG := u_33_I2 (x := (0 : Int32)) hG mo ro (by decide) (q_wd (show (0 : Int) ≤ (0 : Int32).toInt ∧ (0 : Int32).toInt ≤ (0 : Int) by decide) (by decide) (by decide))
      refine q_ok_ite (fun g23 => ?_) (fun g23 => ?_)
      · have f24 := q_eqV q_evr (show q_eqv ((-1 : Int32)).toInt (-1) by unfold q_eqv; decide) (q_p_eq g23)
        exfalso; omega
      · have f25 := q_neV q_evr (show q_eqv ((-1 : Int32)).toInt (-1) by unfold q_eqv; decide) (q_n_eq g23)
        unfold m_X1_seen_42
        have e26 : q_J (q_sI (q_sJ (S) o 3 ((q_J (S) o 3) + (p1.toInt64))) o 2 ((0 : Int32))) o 3 = (q_J (S) o 3) + (p1.toInt64) := (Eq.trans q_skJI q_hitJ)
        obtain ⟨v27, ev27⟩ := q_ev ((q_J (q_sI (q_sJ (S) o 3 ((q_J (S) o 3) + (p1.toInt64))) o 2 ((0 : Int32))) o 3).toInt)
        have f28 : v27 = v5 := q_eqVJ e26 ev27 ev5
        exact q_ok_some ⟨hG, (q_oV q_evr (by omega) (by omega)), (q_leD ev27 ev2 (by omega))⟩
  · have f29 := q_neV ev10 (show q_eqv ((0 : Int32)).toInt (0) by unfold q_eqv; decide) (q_n_eq g12)
    unfold m_X1_seen_24
    unfold m_X1_seen_29
    refine q_ok_atS hG (q_trI mo ro) rfl (fun mo ro => ?_)
    refine q_ok_if (q_b01V (show q_eqv ((1 : Int32)).toInt (1) by unfold q_eqv; decide) (by omega) (by omega)) ?_
    have hG := u_33_I2 (x := (1 : Int32)) hG mo ro (by decide) (q_wd (show (1 : Int) ≤ (1 : Int32).toInt ∧ (1 : Int32).toInt ≤ (1 : Int) by decide) (by decide) (by decide))
    refine q_ok_ite (fun g30 => ?_) (fun g30 => ?_)
    · have f31 := q_eqV q_evr (show q_eqv ((-1 : Int32)).toInt (-1) by unfold q_eqv; decide) (q_p_eq g30)
      unfold m_X1_seen_42
      have e32 : q_J (q_sI (q_sJ (S) o 3 ((q_J (S) o 3) + (p1.toInt64))) o 2 ((1 : Int32))) o 3 = (q_J (S) o 3) + (p1.toInt64) := (Eq.trans q_skJI q_hitJ)
      obtain ⟨v33, ev33⟩ := q_ev ((q_J (q_sI (q_sJ (S) o 3 ((q_J (S) o 3) + (p1.toInt64))) o 2 ((1 : Int32))) o 3).toInt)
      have f34 : v33 = v5 := q_eqVJ e32 ev33 ev5
      exact q_ok_some ⟨hG, (q_wd (show (0 : Int) ≤ (0 : Int32).toInt ∧ (0 : Int32).toInt ≤ (0 : Int) by decide) (by decide) (by decide)), (q_leD ev33 ev2 (by omega))⟩
    · have f35 := q_neV q_evr (show q_eqv ((-1 : Int32)).toInt (-1) by unfold q_eqv; decide) (q_n_eq g30)
      unfold m_X1_seen_42
      have e36 : q_J (q_sI (q_sJ (S) o 3 ((q_J (S) o 3) + (p1.toInt64))) o 2 ((1 : Int32))) o 3 = (q_J (S) o 3) + (p1.toInt64) := (Eq.trans q_skJI q_hitJ)
      obtain ⟨v37, ev37⟩ := q_ev ((q_J (q_sI (q_sJ (S) o 3 ((q_J (S) o 3) + (p1.toInt64))) o 2 ((1 : Int32))) o 3).toInt)
      have f38 : v37 = v5 := q_eqVJ e36 ev37 ev5
      exact q_ok_some ⟨hG, (q_oV q_evr (by omega) (by omega)), (q_leD ev37 ev2 (by omega))⟩
def M_X1_one_33 : List Nat := [2114, 2115]
set_option maxHeartbeats 4000000 in
set_option maxRecDepth 100000 in
theorem s_X1_one_33 {ρ : Nat → Nat} {L : List Nat} {n : Nat} (hn : 18446744073709551616 ≤ n) {S : q_S} (hI : q_Inv ρ L S) {o : Nat} (mo : o ∈ L) (ro : ρ o = 33) (ht : (q_J S o 3).toInt ≤ 140738562097152) : q_ok (m_X1_one n S o) (fun r T => q_G ρ L M_X1_one_33 S T ∧ (0 ≤ r.toInt ∧ r.toInt ≤ 65535) ∧ q_sm ((q_J T o 3).toInt ≤ (q_J S o 3).toInt + 2)) := by
  have hG : q_G ρ L M_X1_one_33 S S := q_G_refl hI
  unfold m_X1_one
  have z0 : (0 : Int32).toInt = 0 := rfl
  have f1 : q_sm _ := g_33_J3 hG mo ro
  obtain ⟨v2, ev2⟩ := q_ev ((q_J (S) o 3).toInt)
  have f3 := q_bV ev2 f1
  have f4 := q_leCv ev2 ht
  refine q_ok_atS hG (q_trI mo ro) rfl (fun mo ro => ?_)
  have t5 := g_33_R0 hG mo ro
  have f6 : q_sm _ := g_33_J4 hG mo ro
  refine q_ok_at hG t5 rfl (fun a7 ma7 ra7 ea7 => ?_)
  refine q_ok_b (s_X4_one_1 hn hG.1 ma7 ra7 (q_wd f1 (by decide) (by decide)) (q_wd f6 (by decide) (by decide))) (fun r8 S9 h10 => ?_)
  obtain ⟨eS9, h10⟩ := h10
  replace eS9 := eS9.symm
  subst eS9
  have f11 := h10
  refine q_ok_atS hG (q_trI mo ro) rfl (fun mo ro => ?_)
  refine q_ok_b (s_X1_seen_33 hn hG.1 mo ro (q_wd f11 (by decide) (by decide)) (q_wd (show (1 : Int) ≤ (1 : Int32).toInt ∧ (1 : Int32).toInt ≤ (1 : Int) by decide) (by decide) (by decide)) (q_leC ev2 (by omega))) (fun r12 S13 h14 => ?_)
  have hG := q_G_call hG h14.1 (by decide)
  have f15 := h14.2.1
  have f16 : q_sm _ := g_33_J3 hG mo ro
  obtain ⟨v17, ev17⟩ := q_ev ((q_J (S13) o 3).toInt)
  have f18 := q_bV ev17 f16
  have f19 := q_leDv ev17 ev2 (h14.2.2)
  exact q_ok_some ⟨hG, (q_wd f15 (by decide) (by decide)), (q_leD ev17 ev2 (by omega))⟩
def M_X1_two_33 : List Nat := [2114, 2115]
set_option maxHeartbeats 4000000 in
set_option maxRecDepth 100000 in
theorem s_X1_two_33 {ρ : Nat → Nat} {L : List Nat} {n : Nat} (hn : 18446744073709551616 ≤ n) {S : q_S} (hI : q_Inv ρ L S) {o : Nat} (mo : o ∈ L) (ro : ρ o = 33) (ht : (q_J S o 3).toInt ≤ 140738562097152) : q_ok (m_X1_two n S o) (fun r T => q_G ρ L M_X1_two_33 S T ∧ (0 ≤ r.toInt ∧ r.toInt ≤ 65535) ∧ q_sm ((q_J T o 3).toInt ≤ (q_J S o 3).toInt + 2)) := by
  have hG : q_G ρ L M_X1_two_33 S S := q_G_refl hI
  unfold m_X1_two
  have z0 : (0 : Int32).toInt = 0 := rfl
  have f1 : q_sm _ := g_33_J3 hG mo ro
  obtain ⟨v2, ev2⟩ := q_ev ((q_J (S) o 3).toInt)
  have f3 := q_bV ev2 f1
  have f4 := q_leCv ev2 ht
  refine q_ok_atS hG (q_trI mo ro) rfl (fun mo ro => ?_)
  have t5 := g_33_R0 hG mo ro
  have f6 : q_sm _ := g_33_J4 hG mo ro
  refine q_ok_at hG t5 rfl (fun a7 ma7 ra7 ea7 => ?_)
  refine q_ok_b (s_X4_two_1 hn hG.1 ma7 ra7 (q_wd f1 (by decide) (by decide)) (q_wd f6 (by decide) (by decide))) (fun r8 S9 h10 => ?_)
  obtain ⟨eS9, h10⟩ := h10
  replace eS9 := eS9.symm
  subst eS9
  have f11 := h10
  refine q_ok_atS hG (q_trI mo ro) rfl (fun mo ro => ?_)
  refine q_ok_b (s_X1_seen_33 hn hG.1 mo ro (q_wd f11 (by decide) (by decide)) (q_wd (show (2 : Int) ≤ (2 : Int32).toInt ∧ (2 : Int32).toInt ≤ (2 : Int) by decide) (by decide) (by decide)) (q_leC ev2 (by omega))) (fun r12 S13 h14 => ?_)
  have hG := q_G_call hG h14.1 (by decide)
  have f15 := h14.2.1
  have f16 : q_sm _ := g_33_J3 hG mo ro
  obtain ⟨v17, ev17⟩ := q_ev ((q_J (S13) o 3).toInt)
  have f18 := q_bV ev17 f16
  have f19 := q_leDv ev17 ev2 (h14.2.2)
  exact q_ok_some ⟨hG, (q_wd f15 (by decide) (by decide)), (q_leD ev17 ev2 (by omega))⟩
def M_X1_nextNumber_33 : List Nat := [2114, 2115]
set_option maxHeartbeats 4000000 in
set_option maxRecDepth 100000 in
theorem s_X1_nextNumber_33 {ρ : Nat → Nat} {L : List Nat} {n : Nat} (hn : 18446744073709551616 ≤ n) {S : q_S} (hI : q_Inv ρ L S) {o : Nat} (mo : o ∈ L) (ro : ρ o = 33) (ht : (q_J S o 3).toInt ≤ 140738025226240) : q_ok (m_X1_nextNumber n S o) (fun r T => q_G ρ L M_X1_nextNumber_33 S T ∧ (-32768 ≤ r.toInt ∧ r.toInt ≤ 65535) ∧ q_sm ((q_J T o 3).toInt ≤ (q_J S o 3).toInt + 2)) := by
  have hG : q_G ρ L M_X1_nextNumber_33 S S := q_G_refl hI
  unfold m_X1_nextNumber
  have z0 : (0 : Int32).toInt = 0 := rfl
  have f1 : q_sm _ := g_33_J3 hG mo ro
  obtain ⟨v2, ev2⟩ := q_ev ((q_J (S) o 3).toInt)
  have f3 := q_bV ev2 f1
  have f4 := q_leCv ev2 ht
  refine q_ok_atS hG (q_trI mo ro) rfl (fun mo ro => ?_)
  have f5 : q_sm _ := g_33_I6 hG mo ro
  obtain ⟨v6, ev6⟩ := q_ev (((q_I (S) o 6) &&& (1 : Int32)).toInt)
  have f7 := q_andRVI ev6 (show q_eqv ((1 : Int32)).toInt (1) by unfold q_eqv; decide) (by omega)
  refine q_ok_ite (fun g8 => ?_) (fun g8 => ?_)
  · have f9 := q_eqV ev6 (show q_eqv ((0 : Int32)).toInt (0) by unfold q_eqv; decide) (q_p_eq g8)
    unfold m_X1_nextNumber_14
    refine q_ok_ite (fun g10 => ?_) (fun g10 => ?_)
    · have f11 := q_eqV (show q_eqv ((0 : Int32)).toInt (0) by unfold q_eqv; decide) (show q_eqv ((0 : Int32)).toInt (0) by unfold q_eqv; decide) (q_p_eq g10)
      refine q_ok_atS hG (q_trI mo ro) rfl (fun mo ro => ?_)
      refine q_ok_b (s_X1_one_33 hn hG.1 mo ro (q_leC ev2 (by omega))) (fun r12 S13 h14 => ?_)
      have hG := q_G_call hG h14.1 (by decide)
      have f15 := h14.2.1
      have f16 : q_sm _ := g_33_J3 hG mo ro
      obtain ⟨v17, ev17⟩ := q_ev ((q_J (S13) o 3).toInt)
      have f18 := q_bV ev17 f16
      have f19 := q_leDv ev17 ev2 (h14.2.2)
      unfold m_X1_nextNumber_30
      refine q_ok_ite (fun g20 => ?_) (fun g20 => ?_)
      · have f21 := q_eqV (show q_eqv ((0 : Int32)).toInt (0) by unfold q_eqv; decide) (show q_eqv ((0 : Int32)).toInt (0) by unfold q_eqv; decide) (q_p_eq g20)
        unfold m_X1_nextNumber_43
        refine q_ok_atS hG (q_trI mo ro) rfl (fun mo ro => ?_)
        refine q_ok_b (s_X1_isMoved_33 hn hG.1 mo ro) (fun r22 S23 h24 => ?_)
        obtain ⟨eS23, h24⟩ := h24
        replace eS23 := eS23.symm
        subst eS23
        have f25 := h24
        refine q_ok_ite (fun g26 => ?_) (fun g26 => ?_)
        · have f27 := q_eqV q_evr (show q_eqv ((0 : Int32)).toInt (0) by unfold q_eqv; decide) (q_p_eq g26)
          unfold m_X1_nextNumber_64
          unfold m_X1_nextNumber_65
          exact q_ok_some ⟨hG, (q_wd f15 (by decide) (by decide)), (q_leD ev17 ev2 (by omega))⟩
        · have f28 := q_neV q_evr (show q_eqv ((0 : Int32)).toInt (0) by unfold q_eqv; decide) (q_n_eq g26)
          refine q_ok_ite (fun g29 => ?_) (fun g29 => ?_)
          · have f30 := q_ltV q_evr (show q_eqv ((128 : Int32)).toInt (128) by unfold q_eqv; decide) (q_p_lt g29)
            unfold m_X1_nextNumber_64
            unfold m_X1_nextNumber_65
            exact q_ok_some ⟨hG, (q_wd f15 (by decide) (by decide)), (q_leD ev17 ev2 (by omega))⟩
          · have f31 := q_leV (show q_eqv ((128 : Int32)).toInt (128) by unfold q_eqv; decide) q_evr (q_n_lt g29)
            unfold m_X1_nextNumber_65
            obtain ⟨v32, ev32⟩ := q_ev ((r12 - ((2 : Int32) * (128 : Int32))).toInt)
            obtain ⟨v33, ev33⟩ := q_ev (((2 : Int32) * (128 : Int32)).toInt)
            have f34 : v33 = (2) * (128) := q_mulVI ev33 (show q_eqv ((2 : Int32)).toInt (2) by unfold q_eqv; decide) (show q_eqv ((128 : Int32)).toInt (128) by unfold q_eqv; decide) (by omega) (by omega)
            have f35 : v32 = r12.toInt - v33 := q_subVI ev32 q_evr ev33 (by omega) (by omega)
            exact q_ok_some ⟨hG, (q_oV ev32 (by omega) (by omega)), (q_leD ev17 ev2 (by omega))⟩
      · have f36 := q_neV (show q_eqv ((0 : Int32)).toInt (0) by unfold q_eqv; decide) (show q_eqv ((0 : Int32)).toInt (0) by unfold q_eqv; decide) (q_n_eq g20)
        exfalso; omega
    · have f37 := q_neV (show q_eqv ((0 : Int32)).toInt (0) by unfold q_eqv; decide) (show q_eqv ((0 : Int32)).toInt (0) by unfold q_eqv; decide) (q_n_eq g10)
      exfalso; omega
  · have f38 := q_neV ev6 (show q_eqv ((0 : Int32)).toInt (0) by unfold q_eqv; decide) (q_n_eq g8)
    unfold m_X1_nextNumber_14
    refine q_ok_ite (fun g39 => ?_) (fun g39 => ?_)
    · have f40 := q_eqV (show q_eqv ((1 : Int32)).toInt (1) by unfold q_eqv; decide) (show q_eqv ((0 : Int32)).toInt (0) by unfold q_eqv; decide) (q_p_eq g39)
      exfalso; omega
    · have f41 := q_neV (show q_eqv ((1 : Int32)).toInt (1) by unfold q_eqv; decide) (show q_eqv ((0 : Int32)).toInt (0) by unfold q_eqv; decide) (q_n_eq g39)
      refine q_ok_atS hG (q_trI mo ro) rfl (fun mo ro => ?_)
      refine q_ok_b (s_X1_two_33 hn hG.1 mo ro (q_leC ev2 (by omega))) (fun r42 S43 h44 => ?_)
      have hG := q_G_call hG h44.1 (by decide)
      have f45 := h44.2.1
      have f46 : q_sm _ := g_33_J3 hG mo ro
      obtain ⟨v47, ev47⟩ := q_ev ((q_J (S43) o 3).toInt)
      have f48 := q_bV ev47 f46
      have f49 := q_leDv ev47 ev2 (h44.2.2)
      unfold m_X1_nextNumber_30
      refine q_ok_ite (fun g50 => ?_) (fun g50 => ?_)
      · have f51 := q_eqV (show q_eqv ((1 : Int32)).toInt (1) by unfold q_eqv; decide) (show q_eqv ((0 : Int32)).toInt (0) by unfold q_eqv; decide) (q_p_eq g50)
        exfalso; omega
      · have f52 := q_neV (show q_eqv ((1 : Int32)).toInt (1) by unfold q_eqv; decide) (show q_eqv ((0 : Int32)).toInt (0) by unfold q_eqv; decide) (q_n_eq g50)
        unfold m_X1_nextNumber_43
        refine q_ok_atS hG (q_trI mo ro) rfl (fun mo ro => ?_)
        refine q_ok_b (s_X1_isMoved_33 hn hG.1 mo ro) (fun r53 S54 h55 => ?_)
        obtain ⟨eS54, h55⟩ := h55
        replace eS54 := eS54.symm
        subst eS54
        have f56 := h55
        refine q_ok_ite (fun g57 => ?_) (fun g57 => ?_)
        · have f58 := q_eqV q_evr (show q_eqv ((0 : Int32)).toInt (0) by unfold q_eqv; decide) (q_p_eq g57)
          unfold m_X1_nextNumber_64
          unfold m_X1_nextNumber_65
          exact q_ok_some ⟨hG, (q_wd f45 (by decide) (by decide)), (q_leD ev47 ev2 (by omega))⟩
        · have f59 := q_neV q_evr (show q_eqv ((0 : Int32)).toInt (0) by unfold q_eqv; decide) (q_n_eq g57)
          refine q_ok_ite (fun g60 => ?_) (fun g60 => ?_)
          · have f61 := q_ltV q_evr (show q_eqv ((32768 : Int32)).toInt (32768) by unfold q_eqv; decide) (q_p_lt g60)
            unfold m_X1_nextNumber_64
            unfold m_X1_nextNumber_65
            exact q_ok_some ⟨hG, (q_wd f45 (by decide) (by decide)), (q_leD ev47 ev2 (by omega))⟩
          · have f62 := q_leV (show q_eqv ((32768 : Int32)).toInt (32768) by unfold q_eqv; decide) q_evr (q_n_lt g60)
            unfold m_X1_nextNumber_65
            obtain ⟨v63, ev63⟩ := q_ev ((r42 - ((2 : Int32) * (32768 : Int32))).toInt)
            obtain ⟨v64, ev64⟩ := q_ev (((2 : Int32) * (32768 : Int32)).toInt)
            have f65 : v64 = (2) * (32768) := q_mulVI ev64 (show q_eqv ((2 : Int32)).toInt (2) by unfold q_eqv; decide) (show q_eqv ((32768 : Int32)).toInt (32768) by unfold q_eqv; decide) (by omega) (by omega)
            have f66 : v63 = r42.toInt - v64 := q_subVI ev63 q_evr ev64 (by omega) (by omega)
            exact q_ok_some ⟨hG, (q_oV ev63 (by omega) (by omega)), (q_leD ev47 ev2 (by omega))⟩
def M_X1_signedTwo_33 : List Nat := [2114, 2115]
set_option maxHeartbeats 4000000 in
set_option maxRecDepth 100000 in
theorem s_X1_signedTwo_33 {ρ : Nat → Nat} {L : List Nat} {n : Nat} (hn : 18446744073709551616 ≤ n) {S : q_S} (hI : q_Inv ρ L S) {o : Nat} (mo : o ∈ L) (ro : ρ o = 33) (ht : (q_J S o 3).toInt ≤ 140738562097152) : q_ok (m_X1_signedTwo n S o) (fun r T => q_G ρ L M_X1_signedTwo_33 S T ∧ (-32768 ≤ r.toInt ∧ r.toInt ≤ 32767) ∧ q_sm ((q_J T o 3).toInt ≤ (q_J S o 3).toInt + 2)) := by
  have hG : q_G ρ L M_X1_signedTwo_33 S S := q_G_refl hI
  unfold m_X1_signedTwo
  have z0 : (0 : Int32).toInt = 0 := rfl
  have f1 : q_sm _ := g_33_J3 hG mo ro
  obtain ⟨v2, ev2⟩ := q_ev ((q_J (S) o 3).toInt)
  have f3 := q_bV ev2 f1
  have f4 := q_leCv ev2 ht
  refine q_ok_atS hG (q_trI mo ro) rfl (fun mo ro => ?_)
  have t5 := g_33_R0 hG mo ro
  have f6 : q_sm _ := g_33_J4 hG mo ro
  refine q_ok_at hG t5 rfl (fun a7 ma7 ra7 ea7 => ?_)
  refine q_ok_b (s_X4_two_1 hn hG.1 ma7 ra7 (q_wd f1 (by decide) (by decide)) (q_wd f6 (by decide) (by decide))) (fun r8 S9 h10 => ?_)
  obtain ⟨eS9, h10⟩ := h10
  replace eS9 := eS9.symm
  subst eS9
  have f11 := h10
  refine q_ok_atS hG (q_trI mo ro) rfl (fun mo ro => ?_)
  refine q_ok_b (s_X1_seen_33 hn hG.1 mo ro (q_wd f11 (by decide) (by decide)) (q_wd (show (2 : Int) ≤ (2 : Int32).toInt ∧ (2 : Int32).toInt ≤ (2 : Int) by decide) (by decide) (by decide)) (q_leC ev2 (by omega))) (fun r12 S13 h14 => ?_)
  have hG := q_G_call hG h14.1 (by decide)
  have f15 := h14.2.1
  have f16 : q_sm _ := g_33_J3 hG mo ro
  obtain ⟨v17, ev17⟩ := q_ev ((q_J (S13) o 3).toInt)
  have f18 := q_bV ev17 f16
  have f19 := q_leDv ev17 ev2 (h14.2.2)
  refine q_ok_b (s_X11_signed hn hG.1 (q_wd f15 (by decide) (by decide))) (fun r20 S21 h22 => ?_)
  obtain ⟨eS21, h22⟩ := h22
  replace eS21 := eS21.symm
  subst eS21
  have f23 := h22
  exact q_ok_some ⟨hG, (q_wd f23 (by decide) (by decide)), (q_leD ev17 ev2 (by omega))⟩
