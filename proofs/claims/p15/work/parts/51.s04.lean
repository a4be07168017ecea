def M_X1_nextPart_12 : List Nat := [770, 771, 774, 775, 776, 777, 778, 779, 780, 781]
set_option maxHeartbeats 4000000 in
set_option maxRecDepth 100000 in
theorem s_X1_nextPart_12 {ρ : Nat → Nat} {L : List Nat} {n : Nat} (hn : 18446744073709551616 ≤ n) {S : q_S} (hI : q_Inv ρ L S) {o : Nat} (mo : o ∈ L) (ro : ρ o = 12) (ht : (q_J S o 3).toInt ≤ 140737622573056) : q_ok (m_X1_nextPart n S o) (fun r T => q_G ρ L M_X1_nextPart_12 S T ∧ (0 ≤ r.toInt ∧ r.toInt ≤ 1) ∧ q_sm ((q_J T o 3).toInt ≤ (q_J S o 3).toInt + 16)) := by
  have hG : q_G ρ L M_X1_nextPart_12 S S := q_G_refl hI
  unfold m_X1_nextPart
  have z0 : (0 : Int32).toInt = 0 := rfl
  have f1 : q_sm _ := g_12_J3 hG mo ro
  obtain ⟨v2, ev2⟩ := q_ev ((q_J (S) o 3).toInt)
  have f3 := q_bV ev2 f1
  have f4 := q_leCv ev2 ht
  refine q_ok_atS hG (q_trI mo ro) rfl (fun mo ro => ?_)
  refine q_ok_b (s_X1_two_12 hn hG.1 mo ro (q_leC ev2 (by omega))) (fun r5 S6 h7 => ?_)
  have hG := q_G_call hG h7.1 (by decide)
  have f8 := h7.2.1
  have f9 : q_sm _ := g_12_J3 hG mo ro
  obtain ⟨v10, ev10⟩ := q_ev ((q_J (S6) o 3).toInt)
  have f11 := q_bV ev10 f9
  have f12 := q_leDv ev10 ev2 (h7.2.2)
  refine q_ok_atS hG (q_trI mo ro) rfl (fun mo ro => ?_)
  have hG := u_12_I6 (x := r5) hG mo ro (by decide) (q_wd f8 (by decide) (by decide))
  have e16 : q_J (q_sI (S6) o 6 (r5)) o 3 = q_J (S6) o 3 := q_skJI
  obtain ⟨v17, ev17⟩ := q_ev ((q_J (q_sI (S6) o 6 (r5)) o 3).toInt)
  have f18 : v17 = v10 := q_eqVJ e16 ev17 ev10
  refine q_ok_b (s_X1_two_12 hn hG.1 mo ro (q_leC ev17 (by omega))) (fun r13 S14 h15 => ?_)
  have hG := q_G_call hG h15.1 (by decide)
  have f19 := h15.2.1
  have f20 : q_sm _ := g_12_J3 hG mo ro
  obtain ⟨v21, ev21⟩ := q_ev ((q_J (S14) o 3).toInt)
  have f22 := q_bV ev21 f20
  have f23 := q_leDv ev21 ev17 (h15.2.2)
  refine q_ok_atS hG (q_trI mo ro) rfl (fun mo ro => ?_)
  have hG := u_12_I7 (x := r13) hG mo ro (by decide) (q_wd f19 (by decide) (by decide))
  have e27 : q_J (q_sI (S14) o 7 (r13)) o 3 = q_J (S14) o 3 := q_skJI
  obtain ⟨v28, ev28⟩ := q_ev ((q_J (q_sI (S14) o 7 (r13)) o 3).toInt)
  have f29 : v28 = v21 := q_eqVJ e27 ev28 ev21
  refine q_ok_b (s_X1_nextNumber_12 hn hG.1 mo ro (q_leC ev28 (by omega))) (fun r24 S25 h26 => ?_)
  have hG := q_G_call hG h26.1 (by decide)
  have f30 := h26.2.1
  have f31 : q_sm _ := g_12_J3 hG mo ro
  obtain ⟨v32, ev32⟩ := q_ev ((q_J (S25) o 3).toInt)
  have f33 := q_bV ev32 f31
  have f34 := q_leDv ev32 ev28 (h26.2.2)
  refine q_ok_atS hG (q_trI mo ro) rfl (fun mo ro => ?_)
  have hG := u_12_I8 (x := r24) hG mo ro (by decide) (q_wd f30 (by decide) (by decide))
  have e38 : q_J (q_sI (S25) o 8 (r24)) o 3 = q_J (S25) o 3 := q_skJI
  obtain ⟨v39, ev39⟩ := q_ev ((q_J (q_sI (S25) o 8 (r24)) o 3).toInt)
  have f40 : v39 = v32 := q_eqVJ e38 ev39 ev32
  refine q_ok_b (s_X1_nextNumber_12 hn hG.1 mo ro (q_leC ev39 (by omega))) (fun r35 S36 h37 => ?_)
  have hG := q_G_call hG h37.1 (by decide)
  have f41 := h37.2.1
  have f42 : q_sm _ := g_12_J3 hG mo ro
  obtain ⟨v43, ev43⟩ := q_ev ((q_J (S36) o 3).toInt)
  have f44 := q_bV ev43 f42
  have f45 := q_leDv ev43 ev39 (h37.2.2)
  refine q_ok_atS hG (q_trI mo ro) rfl (fun mo ro => ?_)
  have hG := u_12_I9 (x := r35) hG mo ro (by decide) (q_wd f41 (by decide) (by decide))
  have e49 : q_J (q_sI (S36) o 9 (r35)) o 3 = q_J (S36) o 3 := q_skJI
  obtain ⟨v50, ev50⟩ := q_ev ((q_J (q_sI (S36) o 9 (r35)) o 3).toInt)
  have f51 : v50 = v43 := q_eqVJ e49 ev50 ev43
  refine q_ok_b (s_X1_nextScales_12 hn hG.1 mo ro (q_leC ev50 (by omega))) (fun r46 S47 h48 => ?_)
  have hG := q_G_call hG h48.1 (by decide)
  have f52 : q_sm _ := g_12_J3 hG mo ro
  obtain ⟨v53, ev53⟩ := q_ev ((q_J (S47) o 3).toInt)
  have f54 := q_bV ev53 f52
  have f55 := q_leDv ev53 ev50 (h48.2)
  refine q_ok_atS hG (q_trI mo ro) rfl (fun mo ro => ?_)
  have f56 : q_sm _ := g_12_I2 hG mo ro
  obtain ⟨v57, ev57⟩ := q_ev ((q_I (S47) o 2).toInt)
  have f58 := q_bV ev57 f56
  refine q_ok_ite (fun g59 => ?_) (fun g59 => ?_)
  · have f60 := q_eqV ev57 (show q_eqv ((0 : Int32)).toInt (0) by unfold q_eqv; decide) (q_p_eq g59)
    unfold m_X1_nextPart_48
    refine q_ok_if (q_b01V (show q_eqv ((1 : Int32)).toInt (1) by unfold q_eqv; decide) (by omega) (by omega)) ?_
    exact q_ok_some ⟨hG, (q_wd (show (1 : Int) ≤ (1 : Int32).toInt ∧ (1 : Int32).toInt ≤ (1 : Int) by decide) (by decide) (by decide)), (q_leD ev53 ev2 (by omega))⟩
  · have f61 := q_neV ev57 (show q_eqv ((0 : Int32)).toInt (0) by unfold q_eqv; decide) (q_n_eq g59)
    unfold m_X1_nextPart_48
    refine q_ok_if (q_b01V (show q_eqv ((0 : Int32)).toInt (0) by unfold q_eqv; decide) (by omega) (by omega)) ?_
    exact q_ok_some ⟨hG, (q_wd (show (0 : Int) ≤ (0 : Int32).toInt ∧ (0 : Int32).toInt ≤ (0 : Int) by decide) (by decide) (by decide)), (q_leD ev53 ev2 (by omega))⟩
def M_X1_skip_12 : List Nat := [770, 771]
set_option maxHeartbeats 4000000 in
set_option maxRecDepth 100000 in
theorem s_X1_skip_12 {ρ : Nat → Nat} {L : List Nat} {n : Nat} (hn : 18446744073709551616 ≤ n) {S : q_S} (hI : q_Inv ρ L S) {o : Nat} (mo : o ∈ L) (ro : ρ o = 12) {p0 : Int32} (hp0 : (8 ≤ p0.toInt ∧ p0.toInt ≤ 8)) (ht : (q_J S o 3).toInt ≤ 140739635838976) : q_ok (m_X1_skip n S o p0) (fun _ T => q_G ρ L M_X1_skip_12 S T ∧ q_sm ((q_J T o 3).toInt ≤ (q_J S o 3).toInt + 65535)) := by
  have hG : q_G ρ L M_X1_skip_12 S S := q_G_refl hI
  unfold m_X1_skip
  have z0 : (0 : Int32).toInt = 0 := rfl
  have f1 : q_sm _ := g_12_J3 hG mo ro
  obtain ⟨v2, ev2⟩ := q_ev ((q_J (S) o 3).toInt)
  have f3 := q_bV ev2 f1
  have f4 := q_leCv ev2 ht
  refine q_ok_atS hG (q_trI mo ro) rfl (fun mo ro => ?_)
  obtain ⟨v5, ev5⟩ := q_ev (((q_J (S) o 3) + (p0.toInt64)).toInt)
  obtain ⟨v6, ev6⟩ := q_ev ((p0.toInt64).toInt)
  have f7 : v6 = p0.toInt := q_i2lV ev6 q_evr
  have f8 : v5 = v2 + v6 := q_addVJ ev5 ev2 ev6 (by omega) (by omega)
  have hG := u_12_J3 (x := (q_J (S) o 3) + (p0.toInt64)) hG mo ro (by decide) (q_oV ev5 (by omega) (by omega))
  have f9 : q_sm _ := g_12_I2 hG mo ro
  obtain ⟨v10, ev10⟩ := q_ev ((q_I (q_sJ (S) o 3 ((q_J (S) o 3) + (p0.toInt64))) o 2).toInt)
  have f11 := q_bV ev10 f9
  refine q_ok_ite (fun g12 => ?_) (fun g12 => ?_)
  · have f13 := q_eqV ev10 (show q_eqv ((0 : Int32)).toInt (0) by unfold q_eqv; decide) (q_p_eq g12)
    have f14 : q_sm _ := g_12_J3 hG mo ro
    have e15 : q_J (q_sJ (S) o 3 ((q_J (S) o 3) + (p0.toInt64))) o 3 = (q_J (S) o 3) + (p0.toInt64) := q_hitJ
    have f16 : q_sm _ := g_12_J4 hG mo ro
    obtain ⟨v17, ev17⟩ := q_ev ((q_J (q_sJ (S) o 3 ((q_J (S) o 3) + (p0.toInt64))) o 3).toInt)
    have f18 : v17 = v5 := q_eqVJ e15 ev17 ev5
    obtain ⟨v19, ev19⟩ := q_ev ((q_J (q_sJ (S) o 3 ((q_J (S) o 3) + (p0.toInt64))) o 4).toInt)
    have f20 := q_bV ev19 f16
    refine q_ok_ite (fun g21 => ?_) (fun g21 => ?_)
    · have f22 := q_leV ev17 ev19 (q_cp_le g21)
      unfold m_X1_skip_36
      refine q_ok_atS hG (q_trI mo ro) rfl (fun mo ro => ?_)
      refine q_ok_if (q_b01V (show q_eqv ((0 : Int32)).toInt (0) by unfold q_eqv; decide) (by omega) (by omega)) ?_
      have hG := u_12_I2 (x := (0 : Int32)) hG mo ro (by decide) (q_wd (show (0 : Int) ≤ (0 : Int32).toInt ∧ (0 : Int32).toInt ≤ (0 : Int) by decide) (by decide) (by decide))
      have e23 : q_J (q_sI (q_sJ (S) o 3 ((q_J (S) o 3) + (p0.toInt64))) o 2 ((0 : Int32))) o 3 = q_J (q_sJ (S) o 3 ((q_J (S) o 3) + (p0.toInt64))) o 3 := q_skJI
      obtain ⟨v24, ev24⟩ := q_ev ((q_J (q_sI (q_sJ (S) o 3 ((q_J (S) o 3) + (p0.toInt64))) o 2 ((0 : Int32))) o 3).toInt)
      have f25 : v24 = v17 := q_eqVJ e23 ev24 ev17
      exact q_ok_some ⟨hG, (q_leD ev24 ev2 (by omega))⟩
    · have f26 := q_ltV ev19 ev17 (q_cn_le g21)
      unfold m_X1_skip_31
      unfold m_X1_skip_36
      refine q_ok_atS hG (q_trI mo ro) rfl (fun mo ro => ?_)
      refine q_ok_if (q_b01V (show q_eqv ((1 : Int32)).toInt (1) by unfold q_eqv; decide) (by omega) (by omega)) ?_
      have hG := u_12_I2 (x := (1 : Int32)) hG mo ro (by decide) (q_wd (show (1 : Int) ≤ (1 : Int32).toInt ∧ (1 : Int32).toInt ≤ (1 : Int) by decide) (by decide) (by decide))
      have e27 : q_J (q_sI (q_sJ (S) o 3 ((q_J (S) o 3) + (p0.toInt64))) o 2 ((1 : Int32))) o 3 = q_J (q_sJ (S) o 3 ((q_J (S) o 3) + (p0.toInt64))) o 3 := q_skJI
      obtain ⟨v28, ev28⟩ := q_ev ((q_J (q_sI (q_sJ (S) o 3 ((q_J (S) o 3) + (p0.toInt64))) o 2 ((1 : Int32))) o 3).toInt)
      have f29 : v28 = v17 := q_eqVJ e27 ev28 ev17
      exact q_ok_some ⟨hG, (q_leD ev28 ev2 (by omega))⟩
  · have f30 := q_neV ev10 (show q_eqv ((0 : Int32)).toInt (0) by unfold q_eqv; decide) (q_n_eq g12)
    unfold m_X1_skip_31
    unfold m_X1_skip_36
    refine q_ok_atS hG (q_trI mo ro) rfl (fun mo ro => ?_)
    refine q_ok_if (q_b01V (show q_eqv ((1 : Int32)).toInt (1) by unfold q_eqv; decide) (by omega) (by omega)) ?_
    have hG := u_12_I2 (x := (1 : Int32)) hG mo ro (by decide) (q_wd (show (1 : Int) ≤ (1 : Int32).toInt ∧ (1 : Int32).toInt ≤ (1 : Int) by decide) (by decide) (by decide))
    have e31 : q_J (q_sI (q_sJ (S) o 3 ((q_J (S) o 3) + (p0.toInt64))) o 2 ((1 : Int32))) o 3 = (q_J (S) o 3) + (p0.toInt64) := (Eq.trans q_skJI q_hitJ)
    obtain ⟨v32, ev32⟩ := q_ev ((q_J (q_sI (q_sJ (S) o 3 ((q_J (S) o 3) + (p0.toInt64))) o 2 ((1 : Int32))) o 3).toInt)
    have f33 : v32 = v5 := q_eqVJ e31 ev32 ev5
    exact q_ok_some ⟨hG, (q_leD ev32 ev2 (by omega))⟩
def M_X1_open_12 : List Nat := [769, 770, 771, 772, 773]
set_option maxHeartbeats 4000000 in
set_option maxRecDepth 100000 in
theorem s_X1_open_12 {ρ : Nat → Nat} {L : List Nat} {n : Nat} (hn : 18446744073709551616 ≤ n) {S : q_S} (hI : q_Inv ρ L S) {o : Nat} (mo : o ∈ L) (ro : ρ o = 12) {p0 : Int32} (hp0 : (0 ≤ p0.toInt ∧ p0.toInt ≤ 1)) {p1 : Int64} (hp1 : (0 ≤ p1.toInt ∧ p1.toInt ≤ 17179869184)) {p2 : Int64} (hp2 : (0 ≤ p2.toInt ∧ p2.toInt ≤ 65535)) : q_ok (m_X1_open n S o p0 p1 p2) (fun _ T => q_G ρ L M_X1_open_12 S T ∧ q_sm ((q_J T o 3).toInt ≤ 1099511627776)) := by
  have hG : q_G ρ L M_X1_open_12 S S := q_G_refl hI
  unfold m_X1_open
  have z0 : (0 : Int32).toInt = 0 := rfl
  have f1 : q_sm _ := g_12_J3 hG mo ro
  obtain ⟨v2, ev2⟩ := q_ev ((q_J (S) o 3).toInt)
  have f3 := q_bV ev2 f1
  refine q_ok_atS hG (q_trI mo ro) rfl (fun mo ro => ?_)
  refine q_ok_if (q_b01V q_evr (by omega) (by omega)) ?_
  have hG := u_12_I1 (x := p0) hG mo ro (by decide) (q_wd hp0 (by decide) (by decide))
  refine q_ok_if (q_b01V (show q_eqv ((0 : Int32)).toInt (0) by unfold q_eqv; decide) (by omega) (by omega)) ?_
  have hG := u_12_I2 (x := (0 : Int32)) hG mo ro (by decide) (q_wd (show (0 : Int) ≤ (0 : Int32).toInt ∧ (0 : Int32).toInt ≤ (0 : Int) by decide) (by decide) (by decide))
  refine q_ok_let (fun S4 eS4 => ?_)
  rw [← eS4] at hG
  have hG := u_12_J3 (x := p1) hG mo ro (by decide) (q_wd hp1 (by decide) (by decide))
  have hG := u_12_J4 (x := p2) hG mo ro (by decide) (q_wd hp2 (by decide) (by decide))
  refine q_ok_let (fun S5 eS5 => ?_)
  rw [← eS5] at hG
  have e9 : q_J (S5) o 3 = p1 := (Eq.trans (q_leJ eS5) (Eq.trans (q_ffJ (by decide)) q_hitJ))
  obtain ⟨v10, ev10⟩ := q_ev ((q_J (S5) o 3).toInt)
  have f11 : v10 = p1.toInt := q_eqVJ e9 ev10 q_evr
  refine q_ok_b (s_X1_signedTwo_12 hn hG.1 mo ro (q_leC ev10 (by omega))) (fun r6 S7 h8 => ?_)
  have hG := q_G_call hG h8.1 (by decide)
  have f12 := h8.2.1
  have f13 : q_sm _ := g_12_J3 hG mo ro
  obtain ⟨v14, ev14⟩ := q_ev ((q_J (S7) o 3).toInt)
  have f15 := q_bV ev14 f13
  have f16 := q_leDv ev14 ev10 (h8.2.2)
  refine q_ok_atS hG (q_trI mo ro) rfl (fun mo ro => ?_)
  have hG := u_12_I5 (x := r6) hG mo ro (by decide) (q_wd f12 (by decide) (by decide))
  have e20 : q_J (q_sI (S7) o 5 (r6)) o 3 = q_J (S7) o 3 := q_skJI
  obtain ⟨v21, ev21⟩ := q_ev ((q_J (q_sI (S7) o 5 (r6)) o 3).toInt)
  have f22 : v21 = v14 := q_eqVJ e20 ev21 ev14
  refine q_ok_b (s_X1_skip_12 hn hG.1 mo ro (q_wd (show (8 : Int) ≤ (8 : Int32).toInt ∧ (8 : Int32).toInt ≤ (8 : Int) by decide) (by decide) (by decide)) (q_leC ev21 (by omega))) (fun r17 S18 h19 => ?_)
  have hG := q_G_call hG h19.1 (by decide)
  have f23 : q_sm _ := g_12_J3 hG mo ro
  obtain ⟨v24, ev24⟩ := q_ev ((q_J (S18) o 3).toInt)
  have f25 := q_bV ev24 f23
  have f26 := q_leDv ev24 ev21 (h19.2)
  exact q_ok_some ⟨hG, (q_leC ev24 (by omega))⟩
def M_X6_open_9_12 : List Nat := [769, 770, 771, 772, 773]
set_option maxHeartbeats 4000000 in
set_option maxRecDepth 100000 in
theorem s_X6_open_9_12 {ρ : Nat → Nat} {L : List Nat} {n : Nat} (hn : 18446744073709551616 ≤ n) {S : q_S} (hI : q_Inv ρ L S) {o : Nat} (mo : o ∈ L) (ro : ρ o = 9) {p0 : Int32} (hp0 : (0 ≤ p0.toInt ∧ p0.toInt ≤ 199)) {p1 : Option Nat} (tp1 : q_tr ρ L p1 12) : q_ok (m_X6_open n S o p0 p1) (fun _ T => q_G ρ L M_X6_open_9_12 S T ∧ q_sm (∀ a, p1 = some a → (q_J T a 3).toInt ≤ 1099511627776)) := by
  have hG : q_G ρ L M_X6_open_9_12 S S := q_G_refl hI
  unfold m_X6_open
  have z0 : (0 : Int32).toInt = 0 := rfl
  obtain ⟨aT, eaT, maT, raT⟩ := id tp1
  have f1 : q_sm _ := g_12_J3 hG maT raT
  obtain ⟨v2, ev2⟩ := q_ev ((q_J (S) aT 3).toInt)
  have f3 := q_bV ev2 f1
  refine q_ok_atS hG (q_trI mo ro) rfl (fun mo ro => ?_)
  refine q_ok_b (s_X6_placeAt_9 hn hG.1 mo ro (q_wd hp0 (by decide) (by decide))) (fun r4 S5 h6 => ?_)
  obtain ⟨eS5, h6⟩ := h6
  replace eS5 := eS5.symm
  subst eS5
  have f7 := h6
  refine q_ok_atS hG (q_trI mo ro) rfl (fun mo ro => ?_)
  refine q_ok_b (s_X6_placeAt_9 hn hG.1 mo ro (q_wd (q_addBI (1) (200) hp0 (show (1 : Int) ≤ (1 : Int32).toInt ∧ (1 : Int32).toInt ≤ (1 : Int) by decide) (by decide) (by decide) (by decide) (by decide)) (by decide) (by decide))) (fun r8 S9 h10 => ?_)
  obtain ⟨eS9, h10⟩ := h10
  replace eS9 := eS9.symm
  subst eS9
  have f11 := h10
  refine q_ok_ite (fun g12 => ?_) (fun g12 => ?_)
  · have f13 := q_eqV q_evr (show q_eqv ((-1 : Int64)).toInt (-1) by unfold q_eqv; decide) (q_cp_eq g12)
    unfold m_X6_open_32
    refine q_ok_atA hG eaT maT raT rfl ?_
    refine q_ok_b (s_X1_open_12 hn hG.1 maT raT (q_wd (show (0 : Int) ≤ (0 : Int32).toInt ∧ (0 : Int32).toInt ≤ (0 : Int) by decide) (by decide) (by decide)) (q_wd (show (0 : Int) ≤ (0 : Int64).toInt ∧ (0 : Int64).toInt ≤ (0 : Int) by decide) (by decide) (by decide)) (q_wd (show (0 : Int) ≤ (0 : Int64).toInt ∧ (0 : Int64).toInt ≤ (0 : Int) by decide) (by decide) (by decide))) (fun r14 S15 h16 => ?_)
    have hG := q_G_call hG h16.1 (by decide)
    have f17 : q_sm _ := g_12_J3 hG maT raT
    obtain ⟨v18, ev18⟩ := q_ev ((q_J (S15) aT 3).toInt)
    have f19 := q_bV ev18 f17
    have f20 := q_leCv ev18 (h16.2)
    unfold m_X6_open_89
    exact q_ok_some ⟨hG, (q_trk eaT (q_leC ev18 (by omega)))⟩
  · have f21 := q_neV q_evr (show q_eqv ((-1 : Int64)).toInt (-1) by unfold q_eqv; decide) (q_cn_eq g12)
    refine q_ok_ite (fun g22 => ?_) (fun g22 => ?_)
    · have f23 := q_eqV q_evr (show q_eqv ((-1 : Int64)).toInt (-1) by unfold q_eqv; decide) (q_cp_eq g22)
      unfold m_X6_open_32
      refine q_ok_atA hG eaT maT raT rfl ?_
      refine q_ok_b (s_X1_open_12 hn hG.1 maT raT (q_wd (show (0 : Int) ≤ (0 : Int32).toInt ∧ (0 : Int32).toInt ≤ (0 : Int) by decide) (by decide) (by decide)) (q_wd (show (0 : Int) ≤ (0 : Int64).toInt ∧ (0 : Int64).toInt ≤ (0 : Int) by decide) (by decide) (by decide)) (q_wd (show (0 : Int) ≤ (0 : Int64).toInt ∧ (0 : Int64).toInt ≤ (0 : Int) by decide) (by decide) (by decide))) (fun r24 S25 h26 => ?_)
      have hG := q_G_call hG h26.1 (by decide)
      have f27 : q_sm _ := g_12_J3 hG maT raT
      obtain ⟨v28, ev28⟩ := q_ev ((q_J (S25) aT 3).toInt)
      have f29 := q_bV ev28 f27
      have f30 := q_leCv ev28 (h26.2)
      unfold m_X6_open_89
      exact q_ok_some ⟨hG, (q_trk eaT (q_leC ev28 (by omega)))⟩
    · have f31 := q_neV q_evr (show q_eqv ((-1 : Int64)).toInt (-1) by unfold q_eqv; decide) (q_cn_eq g22)
      refine q_ok_ite (fun g32 => ?_) (fun g32 => ?_)
      · have f33 := q_eqV q_evr q_evr (q_cp_eq g32)
        unfold m_X6_open_55
        refine q_ok_atS hG (q_trI mo ro) rfl (fun mo ro => ?_)
        have t34 := g_9_R9 hG mo ro
        refine q_ok_at hG t34 rfl (fun a35 ma35 ra35 ea35 => ?_)
        have f36 : q_sm _ := g_8_I3 hG ma35 ra35
        have t37 := g_9_R9 hG mo ro
        have t38 := g_9_R9 hG mo ro
        refine q_ok_b (s_X7_end_8 hn hG.1 ma35 ra35) (fun r39 S40 h41 => ?_)
        obtain ⟨eS40, h41⟩ := h41
        replace eS40 := eS40.symm
        subst eS40
        have f42 := h41
        obtain ⟨v46, ev46⟩ := q_ev ((((q_I (S) a35 3).toInt64) + r8).toInt)
        obtain ⟨v47, ev47⟩ := q_ev (((q_I (S) a35 3).toInt64).toInt)
        obtain ⟨v48, ev48⟩ := q_ev ((q_I (S) a35 3).toInt)
        have f49 := q_bV ev48 f36
        have f50 : v47 = v48 := q_i2lV ev47 ev48
        have f51 : v46 = v47 + r8.toInt := q_addVJ ev46 ev47 q_evr (by omega) (by omega)
        refine q_ok_b (s_J9_min_f86c9 n _ _ _) (fun r43 S44 h45 => ?_)
        obtain ⟨eS44, h45⟩ := h45
        replace h45 := q_mmVN ev46 q_evr h45
        replace eS44 := eS44.symm
        subst eS44
        refine q_ok_atA hG eaT maT raT rfl ?_
        obtain ⟨v55, ev55⟩ := q_ev ((((q_I (S) a35 3).toInt64) + r4).toInt)
        have f56 : v55 = v47 + r4.toInt := q_addVJ ev55 ev47 q_evr (by omega) (by omega)
        refine q_ok_b (s_X1_open_12 hn hG.1 maT raT (q_wd (show (1 : Int) ≤ (1 : Int32).toInt ∧ (1 : Int32).toInt ≤ (1 : Int) by decide) (by decide) (by decide)) (q_oV ev55 (by omega) (by omega)) (q_oV q_evr (by omega) (by omega))) (fun r52 S53 h54 => ?_)
        have hG := q_G_call hG h54.1 (by decide)
        have f57 : q_sm _ := g_12_J3 hG maT raT
        obtain ⟨v58, ev58⟩ := q_ev ((q_J (S53) aT 3).toInt)
        have f59 := q_bV ev58 f57
        have f60 := q_leCv ev58 (h54.2)
        unfold m_X6_open_89
        exact q_ok_some ⟨hG, (q_trk eaT (q_leC ev58 (by omega)))⟩
      · have f61 := q_neV q_evr q_evr (q_cn_eq g32)
        unfold m_X6_open_55
        refine q_ok_atS hG (q_trI mo ro) rfl (fun mo ro => ?_)
        have t62 := g_9_R9 hG mo ro
        refine q_ok_at hG t62 rfl (fun a63 ma63 ra63 ea63 => ?_)
        have f64 : q_sm _ := g_8_I3 hG ma63 ra63
        have t65 := g_9_R9 hG mo ro
        have t66 := g_9_R9 hG mo ro
        refine q_ok_b (s_X7_end_8 hn hG.1 ma63 ra63) (fun r67 S68 h69 => ?_)
        obtain ⟨eS68, h69⟩ := h69
        replace eS68 := eS68.symm
        subst eS68
        have f70 := h69
        obtain ⟨v74, ev74⟩ := q_ev ((((q_I (S) a63 3).toInt64) + r8).toInt)
        obtain ⟨v75, ev75⟩ := q_ev (((q_I (S) a63 3).toInt64).toInt)
        obtain ⟨v76, ev76⟩ := q_ev ((q_I (S) a63 3).toInt)
        have f77 := q_bV ev76 f64
        have f78 : v75 = v76 := q_i2lV ev75 ev76
        have f79 : v74 = v75 + r8.toInt := q_addVJ ev74 ev75 q_evr (by omega) (by omega)
        refine q_ok_b (s_J9_min_f86c9 n _ _ _) (fun r71 S72 h73 => ?_)
        obtain ⟨eS72, h73⟩ := h73
        replace h73 := q_mmVN ev74 q_evr h73
        replace eS72 := eS72.symm
        subst eS72
        refine q_ok_atA hG eaT maT raT rfl ?_
        obtain ⟨v83, ev83⟩ := q_ev ((((q_I (S) a63 3).toInt64) + r4).toInt)
        have f84 : v83 = v75 + r4.toInt := q_addVJ ev83 ev75 q_evr (by omega) (by omega)
        refine q_ok_b (s_X1_open_12 hn hG.1 maT raT (q_wd (show (0 : Int) ≤ (0 : Int32).toInt ∧ (0 : Int32).toInt ≤ (0 : Int) by decide) (by decide) (by decide)) (q_oV ev83 (by omega) (by omega)) (q_oV q_evr (by omega) (by omega))) (fun r80 S81 h82 => ?_)
        have hG := q_G_call hG h82.1 (by decide)
        have f85 : q_sm _ := g_12_J3 hG maT raT
        obtain ⟨v86, ev86⟩ := q_ev ((q_J (S81) aT 3).toInt)
        have f87 := q_bV ev86 f85
        have f88 := q_leCv ev86 (h82.2)
        unfold m_X6_open_89
        exact q_ok_some ⟨hG, (q_trk eaT (q_leC ev86 (by omega)))⟩
def M_X6_markPartsOf_9 : List Nat := [580, 640, 704, 769, 770, 771, 772, 773, 774, 775, 776, 777, 778, 779, 780, 781]
set_option maxHeartbeats 4000000 in
set_option maxRecDepth 100000 in
theorem s_X6_markPartsOf_9_29 {ρ : Nat → Nat} {L : List Nat} {n : Nat} (hn : 18446744073709551616 ≤ n) {S0 : q_S}  (S : q_S) (hG : q_G ρ L M_X6_markPartsOf_9 S0 S) : q_ok (m_X6_markPartsOf_29 n S) (fun _ T => q_G ρ L M_X6_markPartsOf_9 S0 T) := by
  unfold m_X6_markPartsOf_29
  have z0 : (0 : Int32).toInt = 0 := rfl
  exact q_ok_some hG
set_option maxHeartbeats 4000000 in
set_option maxRecDepth 100000 in
theorem s_X6_markPartsOf_9_80 {ρ : Nat → Nat} {L : List Nat} {n : Nat} (hn : 18446744073709551616 ≤ n) {S0 : q_S}  (S : q_S) (hG : q_G ρ L M_X6_markPartsOf_9 S0 S) : q_ok (m_X6_markPartsOf_80 n S) (fun _ T => q_G ρ L M_X6_markPartsOf_9 S0 T) := by
  unfold m_X6_markPartsOf_80
  have z0 : (0 : Int32).toInt = 0 := rfl
  exact q_ok_some hG
set_option maxHeartbeats 4000000 in
set_option maxRecDepth 100000 in
theorem s_X6_markPartsOf_9_34 {ρ : Nat → Nat} {L : List Nat} {n : Nat} (hn : 18446744073709551616 ≤ n) {S0 : q_S}  : ∀ (k : Nat) (S : q_S) (l0 : Option Nat) (l2 : Int32) (l3 : Int32), q_G ρ L M_X6_markPartsOf_9 S0 S → q_tr ρ L l0 9 → (0 ≤ l2.toInt ∧ l2.toInt ≤ 1) → (0 ≤ l3.toInt ∧ l3.toInt ≤ 1600) → (∀ a b, l0 = some a → q_R S a 1 = some b → (q_J S b 3).toInt ≤ 1099511628776 + 16 * l3.toInt) → 2147483648 - l3.toInt ≤ (k : Int) → q_ok (m_X6_markPartsOf_34 n k S l0 l2 l3) (fun _ T => q_G ρ L M_X6_markPartsOf_9 S0 T) := by
  intro k
  induction k with
  | zero =>
    intro S l0 l2 l3 hG hl0 hl2 hl3 hF hm
    have f0 := q_rngI l3
    exfalso; omega
  | succ k ih =>
    intro S l0 l2 l3 hG hl0 hl2 hl3 hF hm
    rw [m_X6_markPartsOf_34]
    have z0 : (0 : Int32).toInt = 0 := rfl
    obtain ⟨aT, eaT, maT, raT⟩ := id hl0
    have t1 := g_9_R1 hG maT raT
    obtain ⟨bT, ebT, mbT, rbT⟩ := id t1
    have f2 : q_sm _ := g_12_J3 hG mbT rbT
    obtain ⟨v3, ev3⟩ := q_ev ((q_J (S) bT 3).toInt)
    have f4 := q_bV ev3 f2
    have f5 := q_leAv (K9 := 16) (B9 := 1099511628776) ev3 q_evr (hF aT bT eaT ebT)
    refine q_ok_ite (fun g6 => ?_) (fun g6 => ?_)
    · have f7 := q_leV (show q_eqv ((1600 : Int32)).toInt (1600) by unfold q_eqv; decide) q_evr (q_p_ge g6)
      exact s_X6_markPartsOf_9_80 hn _ hG 
    · have f8 := q_ltV q_evr (show q_eqv ((1600 : Int32)).toInt (1600) by unfold q_eqv; decide) (q_n_ge g6)
      refine q_ok_ite (fun g9 => ?_) (fun g9 => ?_)
      · have f10 := q_eqV q_evr (show q_eqv ((0 : Int32)).toInt (0) by unfold q_eqv; decide) (q_p_eq g9)
        exact s_X6_markPartsOf_9_80 hn _ hG 
      · have f11 := q_neV q_evr (show q_eqv ((0 : Int32)).toInt (0) by unfold q_eqv; decide) (q_n_eq g9)
        refine q_ok_atA hG eaT maT raT rfl ?_
        have t12 := g_9_R1 hG maT raT
        refine q_ok_atA hG ebT mbT rbT rfl ?_
        refine q_ok_b (s_X1_nextPart_12 hn hG.1 mbT rbT (q_leC ev3 (by omega))) (fun r13 S14 h15 => ?_)
        have hG := q_G_call hG h15.1 (by decide)
        have f16 := h15.2.1
        have f17 : q_sm _ := g_12_J3 hG mbT rbT
        obtain ⟨v18, ev18⟩ := q_ev ((q_J (S14) bT 3).toInt)
        have f19 := q_bV ev18 f17
        have f20 := q_leDv ev18 ev3 (h15.2.2)
        refine q_ok_ite (fun g21 => ?_) (fun g21 => ?_)
        · have f22 := q_eqV q_evr (show q_eqv ((0 : Int32)).toInt (0) by unfold q_eqv; decide) (q_p_eq g21)
          exact s_X6_markPartsOf_9_80 hn _ hG 
        · have f23 := q_neV q_evr (show q_eqv ((0 : Int32)).toInt (0) by unfold q_eqv; decide) (q_n_eq g21)
          refine q_ok_atA hG eaT maT raT rfl ?_
          have t24 := g_9_R1 hG maT raT
          have e25 : q_R (S14) aT 1 = q_R (S) aT 1 := (q_unR h15.1 maT raT (by decide))
          refine q_ok_atA hG (Eq.trans e25 ebT) mbT rbT rfl ?_
          have f26 : q_sm _ := g_12_I7 hG mbT rbT
          refine q_ok_b (s_X6_mark_9 hn hG.1 maT raT (q_wd f26 (by decide) (by decide))) (fun r27 S28 h29 => ?_)
          have hG := q_G_call hG h29 (by decide)
          refine q_ok_atA hG eaT maT raT rfl ?_
          have t30 := g_9_R1 hG maT raT
          have e31 : q_R (S28) aT 1 = q_R (S14) aT 1 := (q_unR h29 maT raT (by decide))
          refine q_ok_atA hG (Eq.trans e31 (Eq.trans e25 ebT)) mbT rbT rfl ?_
          refine q_ok_b (s_X1_hasMore_12 hn hG.1 mbT rbT) (fun r32 S33 h34 => ?_)
          obtain ⟨eS33, h34⟩ := h34
          replace eS33 := eS33.symm
          subst eS33
          have f35 := h34
          obtain ⟨v36, ev36⟩ := q_ev ((l3 + (1)).toInt)
          have f37 : v36 = l3.toInt + (1) := q_addVI ev36 q_evr (show q_eqv ((1 : Int32)).toInt (1) by unfold q_eqv; decide) (by omega) (by omega)
          have t38 := g_9_R1 hG maT raT
          have e39 : q_J (S28) bT 3 = q_J (S14) bT 3 := (q_unJ h29 mbT rbT (by decide))
          obtain ⟨v40, ev40⟩ := q_ev ((q_J (S28) bT 3).toInt)
          have f41 : v40 = v18 := q_eqVJ e39 ev40 ev18
          exact ih _ _ _ _ hG hl0 (q_wd f35 (by decide) (by decide)) (q_oV ev36 (by omega) (by omega)) (q_trk2 eaT (Eq.trans e31 (Eq.trans e25 ebT)) (q_leA (K9 := 16) (B9 := 1099511628776) ev40 ev36 (by omega)))  (q_upV ev36 (by omega))
set_option maxHeartbeats 4000000 in
set_option maxRecDepth 100000 in
theorem s_X6_markPartsOf_9 {ρ : Nat → Nat} {L : List Nat} {n : Nat} (hn : 18446744073709551616 ≤ n) {S : q_S} (hI : q_Inv ρ L S) {o : Nat} (mo : o ∈ L) (ro : ρ o = 9) {p0 : Int32} (hp0 : (0 ≤ p0.toInt ∧ p0.toInt ≤ 199)) : q_ok (m_X6_markPartsOf n S o p0) (fun _ T => q_G ρ L M_X6_markPartsOf_9 S T) := by
  have hG : q_G ρ L M_X6_markPartsOf_9 S S := q_G_refl hI
  unfold m_X6_markPartsOf
  have z0 : (0 : Int32).toInt = 0 := rfl
  refine q_ok_atS hG (q_trI mo ro) rfl (fun mo ro => ?_)
  have t1 := g_9_R1 hG mo ro
  obtain ⟨a5, ea5, ma5, ra5⟩ := id t1
  have f6 : q_sm _ := g_12_J3 hG ma5 ra5
  refine q_ok_b (s_X6_open_9_12 hn hG.1 mo ro (q_wd hp0 (by decide) (by decide)) t1) (fun r2 S3 h4 => ?_)
  have hG := q_G_call hG h4.1 (by decide)
  have f7 : q_sm _ := g_12_J3 hG ma5 ra5
  obtain ⟨v8, ev8⟩ := q_ev ((q_J (S3) a5 3).toInt)
  have f9 := q_bV ev8 f7
  obtain ⟨v10, ev10⟩ := q_ev ((q_J (S) a5 3).toInt)
  have f11 := q_bV ev10 f6
  have f12 := q_leCv ev8 (h4.2 _ ea5)
  refine q_ok_atS hG (q_trI mo ro) rfl (fun mo ro => ?_)
  have t13 := g_9_R1 hG mo ro
  have e14 : q_R (S3) o 1 = q_R (S) o 1 := (q_unR h4.1 mo ro (by decide))
  refine q_ok_atA hG (Eq.trans e14 ea5) ma5 ra5 rfl ?_
  refine q_ok_b (s_X1_isEmpty_12 hn hG.1 ma5 ra5) (fun r15 S16 h17 => ?_)
  obtain ⟨eS16, h17⟩ := h17
  replace eS16 := eS16.symm
  subst eS16
  have f18 := h17
  refine q_ok_ite (fun g19 => ?_) (fun g19 => ?_)
  · have f20 := q_eqV q_evr (show q_eqv ((0 : Int32)).toInt (0) by unfold q_eqv; decide) (q_p_eq g19)
    refine q_ok_atS hG (q_trI mo ro) rfl (fun mo ro => ?_)
    have t21 := g_9_R1 hG mo ro
    refine q_ok_atA hG (Eq.trans e14 ea5) ma5 ra5 rfl ?_
    refine q_ok_b (s_X1_hasParts_12 hn hG.1 ma5 ra5) (fun r22 S23 h24 => ?_)
    obtain ⟨eS23, h24⟩ := h24
    replace eS23 := eS23.symm
    subst eS23
    have f25 := h24
    obtain ⟨v26, ev26⟩ := q_ev ((q_I (S3) a5 5).toInt)
    have f27 := q_bV ev26 (g_12_I5 hG ma5 ra5)
    have f28 : r22.toInt = 0 → (0) ≤ v26 := fun h9 => q_leV (show q_eqv ((0 : Int32)).toInt (0) by unfold q_eqv; decide) ev26 (f25.2.1 h9)
    have f29 : r22.toInt = 1 → v26 < (0) := fun h9 => q_ltV ev26 (show q_eqv ((0 : Int32)).toInt (0) by unfold q_eqv; decide) (f25.2.2 h9)
    refine q_ok_ite (fun g30 => ?_) (fun g30 => ?_)
    · have f31 := q_eqV q_evr (show q_eqv ((0 : Int32)).toInt (0) by unfold q_eqv; decide) (q_p_eq g30)
      exact s_X6_markPartsOf_9_29 hn _ hG 
    · have f32 := q_neV q_evr (show q_eqv ((0 : Int32)).toInt (0) by unfold q_eqv; decide) (q_n_eq g30)
      have t33 := g_9_R1 hG mo ro
      exact s_X6_markPartsOf_9_34 hn n _ _ _ _ hG (q_trI mo ro) (q_wd (show (1 : Int) ≤ (1 : Int32).toInt ∧ (1 : Int32).toInt ≤ (1 : Int) by decide) (by decide) (by decide)) (q_wd (show (0 : Int) ≤ (0 : Int32).toInt ∧ (0 : Int32).toInt ≤ (0 : Int) by decide) (by decide) (by decide)) (q_trk2 rfl (Eq.trans e14 ea5) (q_leA (K9 := 16) (B9 := 1099511628776) ev8 (show q_eqv ((0 : Int32)).toInt (0) by unfold q_eqv; decide) (by omega)))  (q_upV (show q_eqv ((0 : Int32)).toInt (0) by unfold q_eqv; decide) (by omega))
  · have f34 := q_neV q_evr (show q_eqv ((0 : Int32)).toInt (0) by unfold q_eqv; decide) (q_n_eq g19)
    exact s_X6_markPartsOf_9_29 hn _ hG 
def M_X6_use_9 : List Nat := [580, 640, 704, 769, 770, 771, 772, 773, 774, 775, 776, 777, 778, 779, 780, 781]
set_option maxHeartbeats 4000000 in
set_option maxRecDepth 100000 in
theorem s_X6_use_9_43 {ρ : Nat → Nat} {L : List Nat} {n : Nat} (hn : 18446744073709551616 ≤ n) {S0 : q_S}  (S : q_S) (hG : q_G ρ L M_X6_use_9 S0 S) : q_ok (m_X6_use_43 n S) (fun _ T => q_G ρ L M_X6_use_9 S0 T) := by
  unfold m_X6_use_43
  have z0 : (0 : Int32).toInt = 0 := rfl
  exact q_ok_some hG
set_option maxHeartbeats 4000000 in
set_option maxRecDepth 100000 in
theorem s_X6_use_9_12 {ρ : Nat → Nat} {L : List Nat} {n : Nat} (hn : 18446744073709551616 ≤ n) {S0 : q_S}  : ∀ (k : Nat) (S : q_S) (l0 : Option Nat) (l3 : Int32), q_G ρ L M_X6_use_9 S0 S → q_tr ρ L l0 9 → (0 ≤ l3.toInt ∧ l3.toInt ≤ 200) → 2147483648 - l3.toInt ≤ (k : Int) → q_ok (m_X6_use_12 n k S l0 l3) (fun _ T => q_G ρ L M_X6_use_9 S0 T) := by
  intro k
  induction k with
  | zero =>
    intro S l0 l3 hG hl0 hl3 hm
    have f0 := q_rngI l3
    exfalso; omega
  | succ k ih =>
    intro S l0 l3 hG hl0 hl3 hm
    rw [m_X6_use_12]
    have z0 : (0 : Int32).toInt = 0 := rfl
    refine q_ok_at hG hl0 rfl (fun a1 ma1 ra1 ea1 => ?_)
    have f2 : q_sm _ := g_9_I4 hG ma1 ra1
    obtain ⟨v3, ev3⟩ := q_ev ((q_I (S) a1 4).toInt)
    have f4 := q_bV ev3 f2
    refine q_ok_ite (fun g5 => ?_) (fun g5 => ?_)
    · have f6 := q_leV ev3 q_evr (q_p_ge g5)
      exact s_X6_use_9_43 hn _ hG 
    · have f7 := q_ltV q_evr ev3 (q_n_ge g5)
      refine q_ok_ite (fun g8 => ?_) (fun g8 => ?_)
      · have f9 := q_leV (show q_eqv ((200 : Int32)).toInt (200) by unfold q_eqv; decide) q_evr (q_p_ge g8)
        exfalso; omega
      · have f10 := q_ltV q_evr (show q_eqv ((200 : Int32)).toInt (200) by unfold q_eqv; decide) (q_n_ge g8)
        have t11 := g_9_R3 hG ma1 ra1
        refine q_ok_at hG t11 rfl (fun a12 ma12 ra12 ea12 => ?_)
        refine q_ok_if (q_inV (g_11_N hG ma12 ra12) q_evr (by omega) (by omega)) ?_
        have f13 : q_sm _ := g_11_E hG ma12 ra12 (k := (l3).toNatClampNeg)
        refine q_ok_b (s_X6_markPartsOf_9 hn hG.1 ma1 ra1 (q_wd f13 (by decide) (by decide))) (fun r14 S15 h16 => ?_)
        have hG := q_G_call hG h16 (by decide)
        obtain ⟨v17, ev17⟩ := q_ev ((l3 + (1)).toInt)
        have f18 : v17 = l3.toInt + (1) := q_addVI ev17 q_evr (show q_eqv ((1 : Int32)).toInt (1) by unfold q_eqv; decide) (by omega) (by omega)
        exact ih _ _ _ hG hl0 (q_oV ev17 (by omega) (by omega))  (q_upV ev17 (by omega))
set_option maxHeartbeats 4000000 in
set_option maxRecDepth 100000 in
theorem s_X6_use_9 {ρ : Nat → Nat} {L : List Nat} {n : Nat} (hn : 18446744073709551616 ≤ n) {S : q_S} (hI : q_Inv ρ L S) {o : Nat} (mo : o ∈ L) (ro : ρ o = 9) {p0 : Int32} (hp0 : (0 ≤ p0.toInt ∧ p0.toInt ≤ 199)) : q_ok (m_X6_use n S o p0) (fun _ T => q_G ρ L M_X6_use_9 S T) := by
  have hG : q_G ρ L M_X6_use_9 S S := q_G_refl hI
  unfold m_X6_use
  have z0 : (0 : Int32).toInt = 0 := rfl
  refine q_ok_atS hG (q_trI mo ro) rfl (fun mo ro => ?_)
  have f1 : q_sm _ := g_9_I4 hG mo ro
  refine q_ok_b (s_X6_mark_9 hn hG.1 mo ro (q_wd hp0 (by decide) (by decide))) (fun r2 S3 h4 => ?_)
  have hG := q_G_call hG h4 (by decide)
  obtain ⟨v5, ev5⟩ := q_ev ((q_I (S) o 4).toInt)
  have f6 := q_bV ev5 f1
  exact s_X6_use_9_12 hn n _ _ _ hG (q_trI mo ro) (q_wd f1 (by decide) (by decide))  (q_upV ev5 (by omega))
def M_X11_cut_0 : List Nat := [580, 640, 704, 769, 770, 771, 772, 773, 774, 775, 776, 777, 778, 779, 780, 781]
set_option maxHeartbeats 4000000 in
set_option maxRecDepth 100000 in
theorem s_X11_cut_0 {ρ : Nat → Nat} {L : List Nat} {n : Nat} (hn : 18446744073709551616 ≤ n) {S : q_S} (hI : q_Inv ρ L S) {o : Nat} (mo : o ∈ L) (ro : ρ o = 0) {p0 : Int32} : q_ok (m_X11_cut n S o p0) (fun r T => q_G ρ L M_X11_cut_0 S T ∧ (-1 ≤ r.toInt ∧ r.toInt ≤ 200)) := by
  have hG : q_G ρ L M_X11_cut_0 S S := q_G_refl hI
  unfold m_X11_cut
  have z0 : (0 : Int32).toInt = 0 := rfl
  refine q_ok_atS hG (q_trI mo ro) rfl (fun mo ro => ?_)
  have t1 := g_0_R3 hG mo ro
  refine q_ok_at hG t1 rfl (fun a2 ma2 ra2 ea2 => ?_)
  refine q_ok_b (s_X6_has_9 hn hG.1 ma2 ra2) (fun r3 S4 h5 => ?_)
  obtain ⟨eS4, h5⟩ := h5
  replace eS4 := eS4.symm
  subst eS4
  have f6 := h5
  have f7 := q_rVI (x := p0) q_evr
  obtain ⟨v8, ev8⟩ := q_ev ((q_I (S) a2 5).toInt)
  have f9 := q_bV ev8 (g_9_I5 hG ma2 ra2)
  have f10 : r3.toInt = 1 → (0) ≤ p0.toInt := fun h9 => q_leV (show q_eqv ((0 : Int32)).toInt (0) by unfold q_eqv; decide) q_evr (f6.2 h9).1
  have f11 : r3.toInt = 1 → p0.toInt < v8 := fun h9 => q_ltV q_evr ev8 (f6.2 h9).2
  refine q_ok_ite (fun g12 => ?_) (fun g12 => ?_)
  · have f13 := q_eqV q_evr (show q_eqv ((0 : Int32)).toInt (0) by unfold q_eqv; decide) (q_p_eq g12)
    exact q_ok_some ⟨hG, (q_wd (show (-1 : Int) ≤ (-1 : Int32).toInt ∧ (-1 : Int32).toInt ≤ (-1 : Int) by decide) (by decide) (by decide))⟩
  · have f14 := q_neV q_evr (show q_eqv ((0 : Int32)).toInt (0) by unfold q_eqv; decide) (q_n_eq g12)
    refine q_ok_atS hG (q_trI mo ro) rfl (fun mo ro => ?_)
    have t15 := g_0_R3 hG mo ro
    refine q_ok_atA hG ea2 ma2 ra2 rfl ?_
    refine q_ok_b (s_X6_use_9 hn hG.1 ma2 ra2 (q_oV q_evr (by omega) (by omega))) (fun r16 S17 h18 => ?_)
    have hG := q_G_call hG h18 (by decide)
    refine q_ok_atS hG (q_trI mo ro) rfl (fun mo ro => ?_)
    have t19 := g_0_R3 hG mo ro
    have e20 : q_R (S17) o 3 = q_R (S) o 3 := (q_unR h18 mo ro (by decide))
    refine q_ok_atA hG (Eq.trans e20 ea2) ma2 ra2 rfl ?_
    refine q_ok_b (s_X6_used_9 hn hG.1 ma2 ra2) (fun r21 S22 h23 => ?_)
    obtain ⟨eS22, h23⟩ := h23
    replace eS22 := eS22.symm
    subst eS22
    have f24 := h23
    exact q_ok_some ⟨hG, (q_wd f24 (by decide) (by decide))⟩
set_option maxHeartbeats 4000000 in
set_option maxRecDepth 100000 in
theorem s_X11_kern_0_89 {ρ : Nat → Nat} {L : List Nat} {n : Nat} {S : q_S} (hn : 18446744073709551616 ≤ n) (hG : q_G ρ L [] S S)  {k23 : q_S → Int32 → Int32 → Option Nat → Int32 → Int32 → Option (Int32 × q_S)} {B23 : Int} (hk23 : ∀ (z0 : Int32) (z1 : Int32) (z2 : Option Nat) (z3 : Int32) (z4 : Int32), q_tr ρ L z2 8 → (-1 ≤ z3.toInt ∧ z3.toInt ≤ 65535) → (0 ≤ z4.toInt ∧ z4.toInt ≤ 2147483647) → 2147483648 - z4.toInt < B23 → q_ok (k23 S z0 z1 z2 z3 z4) (fun r T => T = S ∧ (-32768 ≤ r.toInt ∧ r.toInt ≤ 32767))) (l1 : Int32) (l2 : Int32) (l3 : Option Nat) (l4 : Int32) (l5 : Int32) (hl3 : q_tr ρ L l3 8) (hl4 : (1 ≤ l4.toInt ∧ l4.toInt ≤ 65535)) (hl5 : (0 ≤ l5.toInt ∧ l5.toInt ≤ 65535)) (hm23 : 2147483648 - l5.toInt ≤ B23) : q_ok (m_X11_kern_89 n k23 S l1 l2 l3 l4 l5) (fun r T => T = S ∧ (-32768 ≤ r.toInt ∧ r.toInt ≤ 32767)) := by
  unfold m_X11_kern_89
  have z0 : (0 : Int32).toInt = 0 := rfl
  obtain ⟨v1, ev1⟩ := q_ev ((l5 + (1)).toInt)
  have f2 : v1 = l5.toInt + (1) := q_addVI ev1 q_evr (show q_eqv ((1 : Int32)).toInt (1) by unfold q_eqv; decide) (by omega) (by omega)
  exact hk23 _ _ _ _ _ hl3 (q_wd hl4 (by decide) (by decide)) (q_wd (q_addBI (1) (65536) hl5 (show (1 : Int) ≤ (1 : Int32).toInt ∧ (1 : Int32).toInt ≤ (1 : Int) by decide) (by decide) (by decide) (by decide) (by decide)) (by decide) (by decide))  (q_upVl ev1 (by omega))
set_option maxHeartbeats 4000000 in
set_option maxRecDepth 100000 in
theorem s_X11_kern_0_23 {ρ : Nat → Nat} {L : List Nat} {n : Nat} {S : q_S} (hn : 18446744073709551616 ≤ n) (hG : q_G ρ L [] S S)  : ∀ (k : Nat) (l1 : Int32) (l2 : Int32) (l3 : Option Nat) (l4 : Int32) (l5 : Int32), q_tr ρ L l3 8 → (-1 ≤ l4.toInt ∧ l4.toInt ≤ 65535) → (0 ≤ l5.toInt ∧ l5.toInt ≤ 2147483647) → 2147483648 - l5.toInt ≤ (k : Int) → q_ok (m_X11_kern_23 n k S l1 l2 l3 l4 l5) (fun r T => T = S ∧ (-32768 ≤ r.toInt ∧ r.toInt ≤ 32767)) := by
  intro k
  induction k with
  | zero =>
    intro l1 l2 l3 l4 l5 hl3 hl4 hl5 hm
    have f0 := q_rngI l5
    exfalso; omega
  | succ k ih =>
    intro l1 l2 l3 l4 l5 hl3 hl4 hl5 hm
    rw [m_X11_kern_23]
    have z0 : (0 : Int32).toInt = 0 := rfl
    have f1 := q_rVI (x := l5) q_evr
    refine q_ok_ite (fun g2 => ?_) (fun g2 => ?_)
    · have f3 := q_leV q_evr q_evr (q_p_ge g2)
      exact q_ok_some ⟨rfl, (q_wd (show (0 : Int) ≤ (0 : Int32).toInt ∧ (0 : Int32).toInt ≤ (0 : Int) by decide) (by decide) (by decide))⟩
    · have f4 := q_ltV q_evr q_evr (q_n_ge g2)
      refine q_ok_at hG hl3 rfl (fun a5 ma5 ra5 ea5 => ?_)
      obtain ⟨v9, ev9⟩ := q_ev (((((18 : Int32) + ((6 : Int32) * l5)) + (4 : Int32)).toInt64).toInt)
      obtain ⟨v10, ev10⟩ := q_ev ((((18 : Int32) + ((6 : Int32) * l5)) + (4 : Int32)).toInt)
      obtain ⟨v11, ev11⟩ := q_ev (((18 : Int32) + ((6 : Int32) * l5)).toInt)
      obtain ⟨v12, ev12⟩ := q_ev (((6 : Int32) * l5).toInt)
      have f13 : v12 = (6) * l5.toInt := q_mulVI ev12 (show q_eqv ((6 : Int32)).toInt (6) by unfold q_eqv; decide) q_evr (by omega) (by omega)
      have f14 : v11 = (18) + v12 := q_addVI ev11 (show q_eqv ((18 : Int32)).toInt (18) by unfold q_eqv; decide) ev12 (by omega) (by omega)
      have f15 : v10 = v11 + (4) := q_addVI ev10 ev11 (show q_eqv ((4 : Int32)).toInt (4) by unfold q_eqv; decide) (by omega) (by omega)
      have f16 : v9 = v10 := q_i2lV ev9 ev10
      have f17 := q_rVJ (X := (((18 : Int32) + ((6 : Int32) * l5)) + (4 : Int32)).toInt64) ev9
      refine q_ok_b (s_X7_two_8 hn hG.1 ma5 ra5 (q_oV ev9 (by omega) (by omega))) (fun r6 S7 h8 => ?_)
      obtain ⟨eS7, h8⟩ := h8
      replace eS7 := eS7.symm
      subst eS7
      have f18 := h8
      refine q_ok_ite (fun g19 => ?_) (fun g19 => ?_)
      · have f20 := q_eqV q_evr (show q_eqv ((-1 : Int32)).toInt (-1) by unfold q_eqv; decide) (q_p_eq g19)
        exact q_ok_some ⟨rfl, (q_wd (show (0 : Int) ≤ (0 : Int32).toInt ∧ (0 : Int32).toInt ≤ (0 : Int) by decide) (by decide) (by decide))⟩
      · have f21 := q_neV q_evr (show q_eqv ((-1 : Int32)).toInt (-1) by unfold q_eqv; decide) (q_n_eq g19)
        refine q_ok_atA hG ea5 ma5 ra5 rfl ?_
        obtain ⟨v25, ev25⟩ := q_ev ((((18 : Int32) + ((6 : Int32) * l5)).toInt64).toInt)
        have f26 : v25 = v11 := q_i2lV ev25 ev11
        have f27 := q_rVJ (X := ((18 : Int32) + ((6 : Int32) * l5)).toInt64) ev25
        refine q_ok_b (s_X7_two_8 hn hG.1 ma5 ra5 (q_oV ev25 (by omega) (by omega))) (fun r22 S23 h24 => ?_)
        obtain ⟨eS23, h24⟩ := h24
        replace eS23 := eS23.symm
        subst eS23
        have f28 := h24
        have f29 := q_rVI (x := l1) q_evr
        refine q_ok_ite (fun g30 => ?_) (fun g30 => ?_)
        · have f31 := q_eqV q_evr q_evr (q_p_eq g30)
          refine q_ok_atA hG ea5 ma5 ra5 rfl ?_
          obtain ⟨v35, ev35⟩ := q_ev (((((18 : Int32) + ((6 : Int32) * l5)) + (2 : Int32)).toInt64).toInt)
          obtain ⟨v36, ev36⟩ := q_ev ((((18 : Int32) + ((6 : Int32) * l5)) + (2 : Int32)).toInt)
          have f37 : v36 = v11 + (2) := q_addVI ev36 ev11 (show q_eqv ((2 : Int32)).toInt (2) by unfold q_eqv; decide) (by omega) (by omega)
          have f38 : v35 = v36 := q_i2lV ev35 ev36
          have f39 := q_rVJ (X := (((18 : Int32) + ((6 : Int32) * l5)) + (2 : Int32)).toInt64) ev35
          refine q_ok_b (s_X7_two_8 hn hG.1 ma5 ra5 (q_oV ev35 (by omega) (by omega))) (fun r32 S33 h34 => ?_)
          obtain ⟨eS33, h34⟩ := h34
          replace eS33 := eS33.symm
          subst eS33
          have f40 := h34
          have f41 := q_rVI (x := l2) q_evr
          refine q_ok_ite (fun g42 => ?_) (fun g42 => ?_)
          · have f43 := q_eqV q_evr q_evr (q_p_eq g42)
            refine q_ok_b (s_X11_signed hn hG.1 (q_oV q_evr (by omega) (by omega))) (fun r44 S45 h46 => ?_)
            obtain ⟨eS45, h46⟩ := h46
            replace eS45 := eS45.symm
            subst eS45
            have f47 := h46
            exact q_ok_some ⟨rfl, (q_wd f47 (by decide) (by decide))⟩
          · have f48 := q_neV q_evr q_evr (q_n_eq g42)
            exact s_X11_kern_0_89 hn hG (B23 := (k : Int) + 1) (fun z0 z1 z2 z3 z4 hz2 hz3 hz4  hm9 => ih z0 z1 z2 z3 z4 hz2 hz3 hz4  (by omega)) _ _ _ _ _ hl3 (q_oV q_evr (by omega) (by omega)) (q_oV q_evr (by omega) (by omega)) (q_upV q_evr (by omega))
        · have f49 := q_neV q_evr q_evr (q_n_eq g30)
          exact s_X11_kern_0_89 hn hG (B23 := (k : Int) + 1) (fun z0 z1 z2 z3 z4 hz2 hz3 hz4  hm9 => ih z0 z1 z2 z3 z4 hz2 hz3 hz4  (by omega)) _ _ _ _ _ hl3 (q_oV q_evr (by omega) (by omega)) (q_oV q_evr (by omega) (by omega)) (q_upV q_evr (by omega))
set_option maxHeartbeats 4000000 in
set_option maxRecDepth 100000 in
theorem s_X11_kern_0 {ρ : Nat → Nat} {L : List Nat} {n : Nat} (hn : 18446744073709551616 ≤ n) {S : q_S} (hI : q_Inv ρ L S) {o : Nat} (mo : o ∈ L) (ro : ρ o = 0) {p0 : Int32} {p1 : Int32} : q_ok (m_X11_kern n S o p0 p1) (fun r T => T = S ∧ (-32768 ≤ r.toInt ∧ r.toInt ≤ 32767)) := by
  have hG : q_G ρ L [] S S := q_G_refl hI
  unfold m_X11_kern
  have z0 : (0 : Int32).toInt = 0 := rfl
  refine q_ok_atS hG (q_trI mo ro) rfl (fun mo ro => ?_)
  have t1 := g_0_R2 hG mo ro
  refine q_ok_at hG t1 rfl (fun a2 ma2 ra2 ea2 => ?_)
  refine q_ok_b (s_X8_first_6 hn hG.1 ma2 ra2 (q_wd (show (1801810542 : Int) ≤ (1801810542 : Int64).toInt ∧ (1801810542 : Int64).toInt ≤ (1801810542 : Int) by decide) (by decide) (by decide))) (fun r3 S4 h5 => ?_)
  obtain ⟨eS4, h5⟩ := h5
  replace eS4 := eS4.symm
  subst eS4
  refine q_ok_atS hG (q_trI h5.1 h5.2) rfl (fun mr3 rr3 => ?_)
  refine q_ok_b (s_X7_two_8 hn hG.1 mr3 rr3 (q_wd (show (10 : Int) ≤ (10 : Int64).toInt ∧ (10 : Int64).toInt ≤ (10 : Int) by decide) (by decide) (by decide))) (fun r6 S7 h8 => ?_)
  obtain ⟨eS7, h8⟩ := h8
  replace eS7 := eS7.symm
  subst eS7
  have f9 := h8
  exact s_X11_kern_0_23 hn hG n _ _ _ _ _ (q_trI h5.1 h5.2) (q_wd f9 (by decide) (by decide)) (q_wd (show (0 : Int) ≤ (0 : Int32).toInt ∧ (0 : Int32).toInt ≤ (0 : Int) by decide) (by decide) (by decide))  (q_upV (show q_eqv ((0 : Int32)).toInt (0) by unfold q_eqv; decide) (by omega))
def M_X11_map_0 : List Nat := [833, 834]
set_option maxHeartbeats 4000000 in
set_option maxRecDepth 100000 in
theorem s_X11_map_0 {ρ : Nat → Nat} {L : List Nat} {n : Nat} (hn : 18446744073709551616 ≤ n) {S : q_S} (hI : q_Inv ρ L S) {o : Nat} (mo : o ∈ L) (ro : ρ o = 0) {p0 : Int32} : q_ok (m_X11_map n S o p0) (fun r T => q_G ρ L M_X11_map_0 S T ∧ (0 ≤ r.toInt ∧ r.toInt ≤ 199)) := by
  have hG : q_G ρ L M_X11_map_0 S S := q_G_refl hI
  unfold m_X11_map
  have z0 : (0 : Int32).toInt = 0 := rfl
  have f1 := q_rVI (x := p0) q_evr
  refine q_ok_ite (fun g2 => ?_) (fun g2 => ?_)
  · have f3 := q_leV (show q_eqv ((0 : Int32)).toInt (0) by unfold q_eqv; decide) q_evr (q_p_ge g2)
    refine q_ok_atS hG (q_trI mo ro) rfl (fun mo ro => ?_)
    have t4 := g_0_R4 hG mo ro
    refine q_ok_at hG t4 rfl (fun a5 ma5 ra5 ea5 => ?_)
    have f9 := q_rVI (x := p0) q_evr
    refine q_ok_b (s_X0_find_13 hn hG.1 ma5 ra5 (q_oV q_evr (by omega) (by omega))) (fun r6 S7 h8 => ?_)
    have hG := q_G_call hG h8.1 (by decide)
    have f10 := h8.2
    unfold m_X11_map_16
    refine q_ok_ite (fun g11 => ?_) (fun g11 => ?_)
    · have f12 := q_leV q_evr (show q_eqv ((0 : Int64)).toInt (0) by unfold q_eqv; decide) (q_cp_le g11)
      unfold m_X11_map_41
      unfold m_X11_map_42
      exact q_ok_some ⟨hG, (q_wd (show (0 : Int) ≤ (0 : Int32).toInt ∧ (0 : Int32).toInt ≤ (0 : Int) by decide) (by decide) (by decide))⟩
    · have f13 := q_ltV (show q_eqv ((0 : Int64)).toInt (0) by unfold q_eqv; decide) q_evr (q_cn_le g11)
      refine q_ok_atS hG (q_trI mo ro) rfl (fun mo ro => ?_)
      have t14 := g_0_R3 hG mo ro
      refine q_ok_at hG t14 rfl (fun a15 ma15 ra15 ea15 => ?_)
      refine q_ok_b (s_X6_size_9 hn hG.1 ma15 ra15) (fun r16 S17 h18 => ?_)
      obtain ⟨eS17, h18⟩ := h18
      replace eS17 := eS17.symm
      subst eS17
      have f19 := h18
      obtain ⟨v20, ev20⟩ := q_ev ((r16.toInt64).toInt)
      have f21 : v20 = r16.toInt := q_i2lV ev20 q_evr
      refine q_ok_ite (fun g22 => ?_) (fun g22 => ?_)
      · have f23 := q_leV ev20 q_evr (q_cp_ge g22)
        unfold m_X11_map_41
        unfold m_X11_map_42
        exact q_ok_some ⟨hG, (q_wd (show (0 : Int) ≤ (0 : Int32).toInt ∧ (0 : Int32).toInt ≤ (0 : Int) by decide) (by decide) (by decide))⟩
      · have f24 := q_ltV q_evr ev20 (q_cn_ge g22)
        unfold m_X11_map_42
        obtain ⟨v25, ev25⟩ := q_ev ((r6.toInt32).toInt)
        have f26 : v25 = r6.toInt := q_l2iV ev25 q_evr (by omega) (by omega)
        exact q_ok_some ⟨hG, (q_oV ev25 (by omega) (by omega))⟩
  · have f27 := q_ltV q_evr (show q_eqv ((0 : Int32)).toInt (0) by unfold q_eqv; decide) (q_n_ge g2)
    unfold m_X11_map_16
    refine q_ok_ite (fun g28 => ?_) (fun g28 => ?_)
    · have f29 := q_leV (show q_eqv ((0 : Int64)).toInt (0) by unfold q_eqv; decide) (show q_eqv ((0 : Int64)).toInt (0) by unfold q_eqv; decide) (q_cp_le g28)
      unfold m_X11_map_41
      unfold m_X11_map_42
      exact q_ok_some ⟨hG, (q_wd (show (0 : Int) ≤ (0 : Int32).toInt ∧ (0 : Int32).toInt ≤ (0 : Int) by decide) (by decide) (by decide))⟩
    · have f30 := q_ltV (show q_eqv ((0 : Int64)).toInt (0) by unfold q_eqv; decide) (show q_eqv ((0 : Int64)).toInt (0) by unfold q_eqv; decide) (q_cn_le g28)
      exfalso; omega
set_option maxHeartbeats 4000000 in
set_option maxRecDepth 100000 in
theorem s_X11_octet_0 {ρ : Nat → Nat} {L : List Nat} {n : Nat} (hn : 18446744073709551616 ≤ n) {S : q_S} (hI : q_Inv ρ L S) {o : Nat} (mo : o ∈ L) (ro : ρ o = 0) {p0 : Int32} {p1 : Int32} : q_ok (m_X11_octet n S o p0 p1) (fun _ T => T = S) := by
  have hG : q_G ρ L [] S S := q_G_refl hI
  unfold m_X11_octet
  have z0 : (0 : Int32).toInt = 0 := rfl
  refine q_ok_atS hG (q_trI mo ro) rfl (fun mo ro => ?_)
  have t1 := g_0_R2 hG mo ro
  refine q_ok_at hG t1 rfl (fun a2 ma2 ra2 ea2 => ?_)
  refine q_ok_b (s_X8_get_6 hn hG.1 ma2 ra2) (fun r3 S4 h5 => ?_)
  obtain ⟨eS4, h5⟩ := h5
  replace eS4 := eS4.symm
  subst eS4
  refine q_ok_atS hG (q_trI h5.1 h5.2) rfl (fun mr3 rr3 => ?_)
  obtain ⟨v9, ev9⟩ := q_ev ((p1.toInt64).toInt)
  have f10 := q_rVI (x := p1) q_evr
  have f11 : v9 = p1.toInt := q_i2lV ev9 q_evr
  refine q_ok_b (s_X7_one_8 hn hG.1 mr3 rr3 (q_oV ev9 (by omega) (by omega))) (fun r6 S7 h8 => ?_)
  obtain ⟨eS7, h8⟩ := h8
  replace eS7 := eS7.symm
  subst eS7
  have f12 := h8
  refine q_ok_ite (fun g13 => ?_) (fun g13 => ?_)
  · have f14 := q_eqV q_evr (show q_eqv ((-1 : Int32)).toInt (-1) by unfold q_eqv; decide) (q_p_eq g13)
    exact q_ok_some rfl
  · have f15 := q_neV q_evr (show q_eqv ((-1 : Int32)).toInt (-1) by unfold q_eqv; decide) (q_n_eq g13)
    exact q_ok_some rfl
set_option maxHeartbeats 4000000 in
set_option maxRecDepth 100000 in
theorem s_X2_has_36 {ρ : Nat → Nat} {L : List Nat} {n : Nat} (hn : 18446744073709551616 ≤ n) {S : q_S} (hI : q_Inv ρ L S) {o : Nat} (mo : o ∈ L) (ro : ρ o = 36) {p0 : Int32} {p1 : Int32} : q_ok (m_X2_has n S o p0 p1) (fun r T => T = S ∧ (0 ≤ r.toInt ∧ r.toInt ≤ 1) ∧ q_sm ((r.toInt = 1 → (0 : Int32).toInt ≤ p0.toInt ∧ p0.toInt < (q_I (S) o 1).toInt ∧ (0 : Int32).toInt ≤ p1.toInt ∧ p1.toInt < (8 : Int32).toInt))) := by
  have hG : q_G ρ L [] S S := q_G_refl hI
  unfold m_X2_has
  have z0 : (0 : Int32).toInt = 0 := rfl
  have f1 := q_rVI (x := p0) q_evr
  refine q_ok_ite (fun g2 => ?_) (fun g2 => ?_)
  · have f3 := q_ltV q_evr (show q_eqv ((0 : Int32)).toInt (0) by unfold q_eqv; decide) (q_p_lt g2)
    unfold m_X2_has_26
    unfold m_X2_has_27
    refine q_ok_if (q_b01V (show q_eqv ((0 : Int32)).toInt (0) by unfold q_eqv; decide) (by omega) (by omega)) ?_
    obtain ⟨v4, ev4⟩ := q_ev ((q_I (S) o 1).toInt)
    have f5 := q_rVI (x := q_I (S) o 1) ev4
    have f6 := q_rVI (x := p1) q_evr
    exact q_ok_some ⟨rfl, (q_wd (show (0 : Int) ≤ (0 : Int32).toInt ∧ (0 : Int32).toInt ≤ (0 : Int) by decide) (by decide) (by decide)), fun h9 => absurd h9 (by decide)⟩
  · have f7 := q_leV (show q_eqv ((0 : Int32)).toInt (0) by unfold q_eqv; decide) q_evr (q_n_lt g2)
    refine q_ok_atS hG (q_trI mo ro) rfl (fun mo ro => ?_)
    have f8 : q_sm _ := g_36_I1 hG mo ro
    obtain ⟨v9, ev9⟩ := q_ev ((q_I (S) o 1).toInt)
    have f10 := q_bV ev9 f8
    refine q_ok_ite (fun g11 => ?_) (fun g11 => ?_)
    · have f12 := q_leV ev9 q_evr (q_p_ge g11)
      unfold m_X2_has_26
      unfold m_X2_has_27
      refine q_ok_if (q_b01V (show q_eqv ((0 : Int32)).toInt (0) by unfold q_eqv; decide) (by omega) (by omega)) ?_
      have f13 := q_rVI (x := p1) q_evr
      exact q_ok_some ⟨rfl, (q_wd (show (0 : Int) ≤ (0 : Int32).toInt ∧ (0 : Int32).toInt ≤ (0 : Int) by decide) (by decide) (by decide)), fun h9 => absurd h9 (by decide)⟩
    · have f14 := q_ltV q_evr ev9 (q_n_ge g11)
      have f15 := q_rVI (x := p1) q_evr
      refine q_ok_ite (fun g16 => ?_) (fun g16 => ?_)
      · have f17 := q_ltV q_evr (show q_eqv ((0 : Int32)).toInt (0) by unfold q_eqv; decide) (q_p_lt g16)
        unfold m_X2_has_26
        unfold m_X2_has_27
        refine q_ok_if (q_b01V (show q_eqv ((0 : Int32)).toInt (0) by unfold q_eqv; decide) (by omega) (by omega)) ?_
        exact q_ok_some ⟨rfl, (q_wd (show (0 : Int) ≤ (0 : Int32).toInt ∧ (0 : Int32).toInt ≤ (0 : Int) by decide) (by decide) (by decide)), fun h9 => absurd h9 (by decide)⟩
      · have f18 := q_leV (show q_eqv ((0 : Int32)).toInt (0) by unfold q_eqv; decide) q_evr (q_n_lt g16)
        refine q_ok_ite (fun g19 => ?_) (fun g19 => ?_)
        · have f20 := q_leV (show q_eqv ((8 : Int32)).toInt (8) by unfold q_eqv; decide) q_evr (q_p_ge g19)
          unfold m_X2_has_26
          unfold m_X2_has_27
          refine q_ok_if (q_b01V (show q_eqv ((0 : Int32)).toInt (0) by unfold q_eqv; decide) (by omega) (by omega)) ?_
          exact q_ok_some ⟨rfl, (q_wd (show (0 : Int) ≤ (0 : Int32).toInt ∧ (0 : Int32).toInt ≤ (0 : Int) by decide) (by decide) (by decide)), fun h9 => absurd h9 (by decide)⟩
        · have f21 := q_ltV q_evr (show q_eqv ((8 : Int32)).toInt (8) by unfold q_eqv; decide) (q_n_ge g19)
          unfold m_X2_has_27
          refine q_ok_if (q_b01V (show q_eqv ((1 : Int32)).toInt (1) by unfold q_eqv; decide) (by omega) (by omega)) ?_
          exact q_ok_some ⟨rfl, (q_wd (show (1 : Int) ≤ (1 : Int32).toInt ∧ (1 : Int32).toInt ≤ (1 : Int) by decide) (by decide) (by decide)), fun _ => ⟨(q_geW q_evr (show q_eqv ((0 : Int32)).toInt (0) by unfold q_eqv; decide) (by omega)), (q_ltW q_evr ev9 (by omega)), (q_geW q_evr (show q_eqv ((0 : Int32)).toInt (0) by unfold q_eqv; decide) (by omega)), (q_ltW q_evr (show q_eqv ((8 : Int32)).toInt (8) by unfold q_eqv; decide) (by omega))⟩⟩
set_option maxHeartbeats 4000000 in
set_option maxRecDepth 100000 in
theorem s_X2_get_36 {ρ : Nat → Nat} {L : List Nat} {n : Nat} (hn : 18446744073709551616 ≤ n) {S : q_S} (hI : q_Inv ρ L S) {o : Nat} (mo : o ∈ L) (ro : ρ o = 36) {p0 : Int32} (hp0 : (0 ≤ p0.toInt ∧ p0.toInt ≤ 119)) {p1 : Int32} (hp1 : (0 ≤ p1.toInt ∧ p1.toInt ≤ 7)) : q_ok (m_X2_get n S o p0 p1) (fun r T => T = S) := by
  have hG : q_G ρ L [] S S := q_G_refl hI
  unfold m_X2_get
  have z0 : (0 : Int32).toInt = 0 := rfl
  refine q_ok_atS hG (q_trI mo ro) rfl (fun mo ro => ?_)
  refine q_ok_b (s_X2_has_36 hn hG.1 mo ro) (fun r1 S2 h3 => ?_)
  obtain ⟨eS2, h3⟩ := h3
  replace eS2 := eS2.symm
  subst eS2
  have f4 := h3
  obtain ⟨v5, ev5⟩ := q_ev ((q_I (S) o 1).toInt)
  have f6 := q_bV ev5 (g_36_I1 hG mo ro)
  have f7 : r1.toInt = 1 → (0) ≤ p0.toInt := fun h9 => q_leV (show q_eqv ((0 : Int32)).toInt (0) by unfold q_eqv; decide) q_evr (f4.2 h9).1
  have f8 : r1.toInt = 1 → p0.toInt < v5 := fun h9 => q_ltV q_evr ev5 (f4.2 h9).2.1
  have f9 : r1.toInt = 1 → (0) ≤ p1.toInt := fun h9 => q_leV (show q_eqv ((0 : Int32)).toInt (0) by unfold q_eqv; decide) q_evr (f4.2 h9).2.2.1
  have f10 : r1.toInt = 1 → p1.toInt < (8) := fun h9 => q_ltV q_evr (show q_eqv ((8 : Int32)).toInt (8) by unfold q_eqv; decide) (f4.2 h9).2.2.2
  refine q_ok_ite (fun g11 => ?_) (fun g11 => ?_)
  · have f12 := q_eqV q_evr (show q_eqv ((0 : Int32)).toInt (0) by unfold q_eqv; decide) (q_p_eq g11)
    unfold m_X2_get_24
    exact q_ok_some rfl
  · have f13 := q_neV q_evr (show q_eqv ((0 : Int32)).toInt (0) by unfold q_eqv; decide) (q_n_eq g11)
    refine q_ok_atS hG (q_trI mo ro) rfl (fun mo ro => ?_)
    have t14 := g_36_R0 hG mo ro
    refine q_ok_at hG t14 rfl (fun a15 ma15 ra15 ea15 => ?_)
    obtain ⟨v16, ev16⟩ := q_ev ((((8 : Int32) * p0) + p1).toInt)
    obtain ⟨v17, ev17⟩ := q_ev (((8 : Int32) * p0).toInt)
    have f18 : v17 = (8) * p0.toInt := q_mulVI ev17 (show q_eqv ((8 : Int32)).toInt (8) by unfold q_eqv; decide) q_evr (by omega) (by omega)
    have f19 : v16 = v17 + p1.toInt := q_addVI ev16 ev17 q_evr (by omega) (by omega)
    refine q_ok_if (q_inV (g_37_N hG ma15 ra15) ev16 (by omega) (by omega)) ?_
    unfold m_X2_get_24
    exact q_ok_some rfl
set_option maxHeartbeats 4000000 in
set_option maxRecDepth 100000 in
theorem s_X11_piece_0 {ρ : Nat → Nat} {L : List Nat} {n : Nat} (hn : 18446744073709551616 ≤ n) {S : q_S} (hI : q_Inv ρ L S) {o : Nat} (mo : o ∈ L) (ro : ρ o = 0) {p0 : Int32} {p1 : Int32} : q_ok (m_X11_piece n S o p0 p1) (fun _ T => T = S) := by
  have hG : q_G ρ L [] S S := q_G_refl hI
  unfold m_X11_piece
  have z0 : (0 : Int32).toInt = 0 := rfl
  refine q_ok_atS hG (q_trI mo ro) rfl (fun mo ro => ?_)
  have t1 := g_0_R6 hG mo ro
  refine q_ok_at hG t1 rfl (fun a2 ma2 ra2 ea2 => ?_)
  refine q_ok_b (s_X2_has_36 hn hG.1 ma2 ra2) (fun r3 S4 h5 => ?_)
  obtain ⟨eS4, h5⟩ := h5
  replace eS4 := eS4.symm
  subst eS4
  have f6 := h5
  have f7 := q_rVI (x := p0) q_evr
  obtain ⟨v8, ev8⟩ := q_ev ((q_I (S) a2 1).toInt)
  have f9 := q_bV ev8 (g_36_I1 hG ma2 ra2)
  have f10 := q_rVI (x := p1) q_evr
  have f11 : r3.toInt = 1 → (0) ≤ p0.toInt := fun h9 => q_leV (show q_eqv ((0 : Int32)).toInt (0) by unfold q_eqv; decide) q_evr (f6.2 h9).1
  have f12 : r3.toInt = 1 → p0.toInt < v8 := fun h9 => q_ltV q_evr ev8 (f6.2 h9).2.1
  have f13 : r3.toInt = 1 → (0) ≤ p1.toInt := fun h9 => q_leV (show q_eqv ((0 : Int32)).toInt (0) by unfold q_eqv; decide) q_evr (f6.2 h9).2.2.1
  have f14 : r3.toInt = 1 → p1.toInt < (8) := fun h9 => q_ltV q_evr (show q_eqv ((8 : Int32)).toInt (8) by unfold q_eqv; decide) (f6.2 h9).2.2.2
  refine q_ok_ite (fun g15 => ?_) (fun g15 => ?_)
  · have f16 := q_eqV q_evr (show q_eqv ((0 : Int32)).toInt (0) by unfold q_eqv; decide) (q_p_eq g15)
    exact q_ok_some rfl
  · have f17 := q_neV q_evr (show q_eqv ((0 : Int32)).toInt (0) by unfold q_eqv; decide) (q_n_eq g15)
    refine q_ok_atS hG (q_trI mo ro) rfl (fun mo ro => ?_)
    have t18 := g_0_R6 hG mo ro
    refine q_ok_atA hG ea2 ma2 ra2 rfl ?_
    refine q_ok_b (s_X2_get_36 hn hG.1 ma2 ra2 (q_oV q_evr (by omega) (by omega)) (q_oV q_evr (by omega) (by omega))) (fun r19 S20 h21 => ?_)
    have eS20 := h21
    replace eS20 := eS20.symm
    subst eS20
    exact q_ok_some rfl
set_option maxHeartbeats 4000000 in
set_option maxRecDepth 100000 in
theorem s_X5_cellOf_14 {ρ : Nat → Nat} {L : List Nat} {n : Nat} (hn : 18446744073709551616 ≤ n) {S : q_S} (hI : q_Inv ρ L S) {o : Nat} (mo : o ∈ L) (ro : ρ o = 14) {p0 : Int32} (hp0 : (1 ≤ p0.toInt ∧ p0.toInt ≤ 6)) {p1 : Int32} (hp1 : (0 ≤ p1.toInt ∧ p1.toInt ≤ 65535)) : q_ok (m_X5_cellOf n S o p0 p1) (fun r T => T = S ∧ (-1 ≤ r.toInt ∧ r.toInt ≤ 1199)) := by
  have hG : q_G ρ L [] S S := q_G_refl hI
  unfold m_X5_cellOf
  have z0 : (0 : Int32).toInt = 0 := rfl
  refine q_ok_ite (fun g1 => ?_) (fun g1 => ?_)
  · have f2 := q_leV q_evr (show q_eqv ((0 : Int32)).toInt (0) by unfold q_eqv; decide) (q_p_le g1)
    exfalso; omega
  · have f3 := q_ltV (show q_eqv ((0 : Int32)).toInt (0) by unfold q_eqv; decide) q_evr (q_n_le g1)
    refine q_ok_ite (fun g4 => ?_) (fun g4 => ?_)
    · have f5 := q_ltV (show q_eqv ((5 : Int32)).toInt (5) by unfold q_eqv; decide) q_evr (q_p_gt g4)
      unfold m_X5_cellOf_24
      unfold m_X5_cellOf_25
      refine q_ok_ite (fun g6 => ?_) (fun g6 => ?_)
      · have f7 := q_eqV (show q_eqv ((0 : Int32)).toInt (0) by unfold q_eqv; decide) (show q_eqv ((0 : Int32)).toInt (0) by unfold q_eqv; decide) (q_p_eq g6)
        unfold m_X5_cellOf_41
        exact q_ok_some ⟨rfl, (q_wd (show (-1 : Int) ≤ (-1 : Int32).toInt ∧ (-1 : Int32).toInt ≤ (-1 : Int) by decide) (by decide) (by decide))⟩
      · have f8 := q_neV (show q_eqv ((0 : Int32)).toInt (0) by unfold q_eqv; decide) (show q_eqv ((0 : Int32)).toInt (0) by unfold q_eqv; decide) (q_n_eq g6)
        exfalso; omega
    · have f9 := q_leV q_evr (show q_eqv ((5 : Int32)).toInt (5) by unfold q_eqv; decide) (q_n_gt g4)
      refine q_ok_atS hG (q_trI mo ro) rfl (fun mo ro => ?_)
      have t10 := g_14_R0 hG mo ro
      refine q_ok_at hG t10 rfl (fun a11 ma11 ra11 ea11 => ?_)
      refine q_ok_b (s_X6_has_9 hn hG.1 ma11 ra11) (fun r12 S13 h14 => ?_)
      obtain ⟨eS13, h14⟩ := h14
      replace eS13 := eS13.symm
      subst eS13
      have f15 := h14
      obtain ⟨v16, ev16⟩ := q_ev ((q_I (S) a11 5).toInt)
      have f17 := q_bV ev16 (g_9_I5 hG ma11 ra11)
      have f18 : r12.toInt = 1 → (0) ≤ p1.toInt := fun h9 => q_leV (show q_eqv ((0 : Int32)).toInt (0) by unfold q_eqv; decide) q_evr (f15.2 h9).1
      have f19 : r12.toInt = 1 → p1.toInt < v16 := fun h9 => q_ltV q_evr ev16 (f15.2 h9).2
      refine q_ok_ite (fun g20 => ?_) (fun g20 => ?_)
      · have f21 := q_eqV q_evr (show q_eqv ((0 : Int32)).toInt (0) by unfold q_eqv; decide) (q_p_eq g20)
        unfold m_X5_cellOf_24
        unfold m_X5_cellOf_25
        refine q_ok_ite (fun g22 => ?_) (fun g22 => ?_)
        · have f23 := q_eqV (show q_eqv ((0 : Int32)).toInt (0) by unfold q_eqv; decide) (show q_eqv ((0 : Int32)).toInt (0) by unfold q_eqv; decide) (q_p_eq g22)
          unfold m_X5_cellOf_41
          exact q_ok_some ⟨rfl, (q_wd (show (-1 : Int) ≤ (-1 : Int32).toInt ∧ (-1 : Int32).toInt ≤ (-1 : Int) by decide) (by decide) (by decide))⟩
        · have f24 := q_neV (show q_eqv ((0 : Int32)).toInt (0) by unfold q_eqv; decide) (show q_eqv ((0 : Int32)).toInt (0) by unfold q_eqv; decide) (q_n_eq g22)
          exfalso; omega
      · have f25 := q_neV q_evr (show q_eqv ((0 : Int32)).toInt (0) by unfold q_eqv; decide) (q_n_eq g20)
        unfold m_X5_cellOf_25
        refine q_ok_ite (fun g26 => ?_) (fun g26 => ?_)
        · have f27 := q_eqV (show q_eqv ((1 : Int32)).toInt (1) by unfold q_eqv; decide) (show q_eqv ((0 : Int32)).toInt (0) by unfold q_eqv; decide) (q_p_eq g26)
          exfalso; omega
        · have f28 := q_neV (show q_eqv ((1 : Int32)).toInt (1) by unfold q_eqv; decide) (show q_eqv ((0 : Int32)).toInt (0) by unfold q_eqv; decide) (q_n_eq g26)
          unfold m_X5_cellOf_41
          obtain ⟨v29, ev29⟩ := q_ev (((p0 * (200 : Int32)) + p1).toInt)
          obtain ⟨v30, ev30⟩ := q_ev ((p0 * (200 : Int32)).toInt)
          have f31 : v30 = p0.toInt * (200) := q_mulVI ev30 q_evr (show q_eqv ((200 : Int32)).toInt (200) by unfold q_eqv; decide) (by omega) (by omega)
          have f32 : v29 = v30 + p1.toInt := q_addVI ev29 ev30 q_evr (by omega) (by omega)
          exact q_ok_some ⟨rfl, (q_oV ev29 (by omega) (by omega))⟩
