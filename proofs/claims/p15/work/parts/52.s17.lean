def M_X3_takeContours_15_31 : List Nat := [964, 965, 1216, 1986, 1987]
set_option maxHeartbeats 4000000 in
set_option maxRecDepth 100000 in
theorem s_X3_takeContours_15_31_62 {ρ : Nat → Nat} {L : List Nat} {n : Nat} (hn : 18446744073709551616 ≤ n) {dT : Option Nat} {S0 : q_S}  (S : q_S) (hG : q_G ρ L M_X3_takeContours_15_31 S0 S) (htT : q_tr ρ L dT 31) (hT : (∀ a, dT = some a → (q_J S a 3).toInt ≤ (q_J S0 a 3).toInt + 0 * (0 : Int32).toInt + 140000 ∧ (q_J S0 a 3).toInt ≤ 140737555464192)) : q_ok (m_X3_takeContours_62 n S) (fun r T => q_G ρ L M_X3_takeContours_15_31 S0 T ∧ (0 ≤ r.toInt ∧ r.toInt ≤ 1) ∧ q_sm (∀ a, dT = some a → (q_J T a 3).toInt ≤ (q_J S0 a 3).toInt + 140000)) := by
  unfold m_X3_takeContours_62
  have z0 : (0 : Int32).toInt = 0 := rfl
  obtain ⟨aT, eaT, maT, raT⟩ := id htT
  have f1 : q_sm _ := g_31_J3 hG maT raT
  obtain ⟨v2, ev2⟩ := q_ev ((q_J (S) aT 3).toInt)
  have f3 := q_bV ev2 f1
  obtain ⟨v4, ev4⟩ := q_ev ((q_J (S0) aT 3).toInt)
  have f5 := q_rVJ (X := q_J (S0) aT 3) ev4
  have f6 := q_le3v (K9 := 0) (E9 := 140000) ev2 ev4 (show q_eqv ((0 : Int32)).toInt (0) by unfold q_eqv; decide) (hT aT eaT).1
  have f7 := q_leCv ev4 (hT aT eaT).2
  refine q_ok_if (q_b01V (show q_eqv ((0 : Int32)).toInt (0) by unfold q_eqv; decide) (by omega) (by omega)) ?_
  exact q_ok_some ⟨hG, (q_wd (show (0 : Int) ≤ (0 : Int32).toInt ∧ (0 : Int32).toInt ≤ (0 : Int) by decide) (by decide) (by decide)), (q_trk eaT (q_leD ev2 ev4 (by omega)))⟩
set_option maxHeartbeats 4000000 in
set_option maxRecDepth 100000 in
theorem s_X3_takeContours_15_31_45 {ρ : Nat → Nat} {L : List Nat} {n : Nat} (hn : 18446744073709551616 ≤ n) {dT : Option Nat} {S0 : q_S}  {k2 : q_S → Option Nat → Option Nat → Int32 → Int32 → Option (Int32 × q_S)} {B2 : Int} (hk2 : ∀ (S : q_S) (z0 : Option Nat) (z1 : Option Nat) (z2 : Int32) (z3 : Int32), q_G ρ L M_X3_takeContours_15_31 S0 S → q_tr ρ L z0 15 → q_tr ρ L z1 31 → (0 ≤ z2.toInt ∧ z2.toInt ≤ 120) → (0 ≤ z3.toInt ∧ z3.toInt ≤ 65535) → q_tr ρ L dT 31 → (∀ a, dT = some a → (q_J S a 3).toInt ≤ (q_J S0 a 3).toInt + 2 * z3.toInt + 0 ∧ (q_J S0 a 3).toInt ≤ 140737555464192) → z1 = dT → 2147483648 - z3.toInt < B2 → q_ok (k2 S z0 z1 z2 z3) (fun r T => q_G ρ L M_X3_takeContours_15_31 S0 T ∧ (0 ≤ r.toInt ∧ r.toInt ≤ 1) ∧ q_sm (∀ a, dT = some a → (q_J T a 3).toInt ≤ (q_J S0 a 3).toInt + 140000))) (S : q_S) (l0 : Option Nat) (l1 : Option Nat) (l2 : Int32) (l3 : Int32) (l4 : Int32) (hG : q_G ρ L M_X3_takeContours_15_31 S0 S) (hl0 : q_tr ρ L l0 15) (hl1 : q_tr ρ L l1 31) (hl2 : (0 ≤ l2.toInt ∧ l2.toInt ≤ 120)) (hl3 : (0 ≤ l3.toInt ∧ l3.toInt ≤ 65535)) (hl4 : (0 ≤ l4.toInt ∧ l4.toInt ≤ 65655)) (htT : q_tr ρ L dT 31) (hT : (∀ a, dT = some a → (q_J S a 3).toInt ≤ (q_J S0 a 3).toInt + 2 * l3.toInt + 2 ∧ (q_J S0 a 3).toInt ≤ 140737555464192)) (hd : l1 = dT) (hm2 : 2147483648 - l3.toInt ≤ B2) : q_ok (m_X3_takeContours_45 n k2 S l0 l1 l2 l3 l4) (fun r T => q_G ρ L M_X3_takeContours_15_31 S0 T ∧ (0 ≤ r.toInt ∧ r.toInt ≤ 1) ∧ q_sm (∀ a, dT = some a → (q_J T a 3).toInt ≤ (q_J S0 a 3).toInt + 140000)) := by
  unfold m_X3_takeContours_45
  have z0 : (0 : Int32).toInt = 0 := rfl
  subst hd
  obtain ⟨aT, eaT, maT, raT⟩ := id htT
  have f1 : q_sm _ := g_31_J3 hG maT raT
  obtain ⟨v2, ev2⟩ := q_ev ((q_J (S) aT 3).toInt)
  have f3 := q_bV ev2 f1
  obtain ⟨v4, ev4⟩ := q_ev ((q_J (S0) aT 3).toInt)
  have f5 := q_rVJ (X := q_J (S0) aT 3) ev4
  have f6 := q_le3v (K9 := 2) (E9 := 2) ev2 ev4 q_evr (hT aT eaT).1
  have f7 := q_leCv ev4 (hT aT eaT).2
  unfold m_X3_takeContours_46
  refine q_ok_ite (fun g8 => ?_) (fun g8 => ?_)
  · have f9 := q_eqV (show q_eqv ((0 : Int32)).toInt (0) by unfold q_eqv; decide) (show q_eqv ((0 : Int32)).toInt (0) by unfold q_eqv; decide) (q_p_eq g8)
    exact s_X3_takeContours_15_31_62 hn _ hG (q_trE eaT maT raT) (q_trk eaT ⟨q_le3 (K9 := 0) (E9 := 140000) ev2 ev4 (show q_eqv ((0 : Int32)).toInt (0) by unfold q_eqv; decide) (by omega), q_leC ev4 (by omega)⟩) 
  · have f10 := q_neV (show q_eqv ((0 : Int32)).toInt (0) by unfold q_eqv; decide) (show q_eqv ((0 : Int32)).toInt (0) by unfold q_eqv; decide) (q_n_eq g8)
    exfalso; omega
set_option maxHeartbeats 4000000 in
set_option maxRecDepth 100000 in
theorem s_X3_takeContours_15_31_2 {ρ : Nat → Nat} {L : List Nat} {n : Nat} (hn : 18446744073709551616 ≤ n) {dT : Option Nat} {S0 : q_S}  : ∀ (k : Nat) (S : q_S) (l0 : Option Nat) (l1 : Option Nat) (l2 : Int32) (l3 : Int32), q_G ρ L M_X3_takeContours_15_31 S0 S → q_tr ρ L l0 15 → q_tr ρ L l1 31 → (0 ≤ l2.toInt ∧ l2.toInt ≤ 120) → (0 ≤ l3.toInt ∧ l3.toInt ≤ 65535) → q_tr ρ L dT 31 → (∀ a, dT = some a → (q_J S a 3).toInt ≤ (q_J S0 a 3).toInt + 2 * l3.toInt + 0 ∧ (q_J S0 a 3).toInt ≤ 140737555464192) → l1 = dT → 2147483648 - l3.toInt ≤ (k : Int) → q_ok (m_X3_takeContours_2 n k S l0 l1 l2 l3) (fun r T => q_G ρ L M_X3_takeContours_15_31 S0 T ∧ (0 ≤ r.toInt ∧ r.toInt ≤ 1) ∧ q_sm (∀ a, dT = some a → (q_J T a 3).toInt ≤ (q_J S0 a 3).toInt + 140000)) := by
  intro k
  induction k with
  | zero =>
    intro S l0 l1 l2 l3 hG hl0 hl1 hl2 hl3 htT hT hd hm
    have f0 := q_rngI l3
    exfalso; omega
  | succ k ih =>
    intro S l0 l1 l2 l3 hG hl0 hl1 hl2 hl3 htT hT hd hm
    rw [m_X3_takeContours_2]
    have z0 : (0 : Int32).toInt = 0 := rfl
    subst hd
    obtain ⟨aT, eaT, maT, raT⟩ := id htT
    have f1 : q_sm _ := g_31_J3 hG maT raT
    obtain ⟨v2, ev2⟩ := q_ev ((q_J (S) aT 3).toInt)
    have f3 := q_bV ev2 f1
    obtain ⟨v4, ev4⟩ := q_ev ((q_J (S0) aT 3).toInt)
    have f5 := q_rVJ (X := q_J (S0) aT 3) ev4
    have f6 := q_le3v (K9 := 2) (E9 := 0) ev2 ev4 q_evr (hT aT eaT).1
    have f7 := q_leCv ev4 (hT aT eaT).2
    refine q_ok_atA hG eaT maT raT rfl ?_
    have f8 : q_sm _ := g_31_I5 hG maT raT
    obtain ⟨v9, ev9⟩ := q_ev ((q_I (S) aT 5).toInt)
    have f10 := q_bV ev9 f8
    refine q_ok_ite (fun g11 => ?_) (fun g11 => ?_)
    · have f12 := q_leV ev9 q_evr (q_p_ge g11)
      refine q_ok_if (q_b01V (show q_eqv ((1 : Int32)).toInt (1) by unfold q_eqv; decide) (by omega) (by omega)) ?_
      exact q_ok_some ⟨hG, (q_wd (show (1 : Int) ≤ (1 : Int32).toInt ∧ (1 : Int32).toInt ≤ (1 : Int) by decide) (by decide) (by decide)), (q_trk eaT (q_leD ev2 ev4 (by omega)))⟩
    · have f13 := q_ltV q_evr ev9 (q_n_ge g11)
      refine q_ok_b (s_X1_two_31 hn hG.1 maT raT (q_leC ev2 (by omega))) (fun r14 S15 h16 => ?_)
      have hG := q_G_call hG h16.1 (by decide)
      have f17 := h16.2.1
      have f18 : q_sm _ := g_31_J3 hG maT raT
      obtain ⟨v19, ev19⟩ := q_ev ((q_J (S15) aT 3).toInt)
      have f20 := q_bV ev19 f18
      have f21 := q_leDv ev19 ev2 (h16.2.2)
      refine q_ok_atA hG eaT maT raT rfl ?_
      refine q_ok_b (s_X1_isPast_31 hn hG.1 maT raT) (fun r22 S23 h24 => ?_)
      obtain ⟨eS23, h24⟩ := h24
      replace eS23 := eS23.symm
      subst eS23
      have f25 := h24
      refine q_ok_ite (fun g26 => ?_) (fun g26 => ?_)
      · have f27 := q_eqV q_evr (show q_eqv ((0 : Int32)).toInt (0) by unfold q_eqv; decide) (q_p_eq g26)
        refine q_ok_at hG hl0 rfl (fun a28 ma28 ra28 ea28 => ?_)
        have f29 : q_sm _ := g_15_I4 hG ma28 ra28
        obtain ⟨v30, ev30⟩ := q_ev ((l2 + r14).toInt)
        have f31 : v30 = l2.toInt + r14.toInt := q_addVI ev30 q_evr q_evr (by omega) (by omega)
        obtain ⟨v32, ev32⟩ := q_ev ((q_I (S15) a28 4).toInt)
        have f33 := q_bV ev32 f29
        refine q_ok_ite (fun g34 => ?_) (fun g34 => ?_)
        · have f35 := q_ltV ev30 ev32 (q_p_lt g34)
          exact s_X3_takeContours_15_31_45 hn (B2 := (k : Int) + 1) (fun S9 z0 z1 z2 z3 hG9 hz0 hz1 hz2 hz3 hzt hzT hzd  hm9 => ih S9 z0 z1 z2 z3 hG9 hz0 hz1 hz2 hz3 hzt hzT hzd  (by omega)) _ _ _ _ _ _ hG hl0 hl1 (q_wd hl2 (by decide) (by decide)) (q_wd hl3 (by decide) (by decide)) (q_wd (q_addBI (0) (65655) hl2 f17 (by decide) (by decide) (by decide) (by decide)) (by decide) (by decide)) (q_trE eaT maT raT) (q_trk eaT ⟨q_le3 (K9 := 2) (E9 := 2) ev19 ev4 q_evr (by omega), q_leC ev4 (by omega)⟩) (by first | rfl | exact hd) (q_upV q_evr (by omega))
        · have f36 := q_leV ev32 ev30 (q_n_lt g34)
          refine q_ok_ite (fun g37 => ?_) (fun g37 => ?_)
          · have f38 := q_leV (show q_eqv ((120 : Int32)).toInt (120) by unfold q_eqv; decide) ev30 (q_p_ge g37)
            exact s_X3_takeContours_15_31_45 hn (B2 := (k : Int) + 1) (fun S9 z0 z1 z2 z3 hG9 hz0 hz1 hz2 hz3 hzt hzT hzd  hm9 => ih S9 z0 z1 z2 z3 hG9 hz0 hz1 hz2 hz3 hzt hzT hzd  (by omega)) _ _ _ _ _ _ hG hl0 hl1 (q_wd hl2 (by decide) (by decide)) (q_wd hl3 (by decide) (by decide)) (q_wd (q_addBI (0) (65655) hl2 f17 (by decide) (by decide) (by decide) (by decide)) (by decide) (by decide)) (q_trE eaT maT raT) (q_trk eaT ⟨q_le3 (K9 := 2) (E9 := 2) ev19 ev4 q_evr (by omega), q_leC ev4 (by omega)⟩) (by first | rfl | exact hd) (q_upV q_evr (by omega))
          · have f39 := q_ltV ev30 (show q_eqv ((120 : Int32)).toInt (120) by unfold q_eqv; decide) (q_n_ge g37)
            unfold m_X3_takeContours_46
            refine q_ok_ite (fun g40 => ?_) (fun g40 => ?_)
            · have f41 := q_eqV (show q_eqv ((1 : Int32)).toInt (1) by unfold q_eqv; decide) (show q_eqv ((0 : Int32)).toInt (0) by unfold q_eqv; decide) (q_p_eq g40)
              exfalso; omega
            · have f42 := q_neV (show q_eqv ((1 : Int32)).toInt (1) by unfold q_eqv; decide) (show q_eqv ((0 : Int32)).toInt (0) by unfold q_eqv; decide) (q_n_eq g40)
              refine q_ok_atA hG ea28 ma28 ra28 rfl ?_
              have f43 : q_sm _ := g_15_I5 hG ma28 ra28
              obtain ⟨v44, ev44⟩ := q_ev ((q_I (S15) a28 5).toInt)
              have f45 := q_bV ev44 f43
              refine q_ok_ite (fun g46 => ?_) (fun g46 => ?_)
              · have f47 := q_ltV ev44 (show q_eqv ((120 : Int32)).toInt (120) by unfold q_eqv; decide) (q_p_lt g46)
                have t48 := g_15_R3 hG ma28 ra28
                refine q_ok_at hG t48 rfl (fun a49 ma49 ra49 ea49 => ?_)
                refine q_ok_if (q_inV (g_19_N hG ma49 ra49) ev44 (by omega) (by omega)) ?_
                have hG := u_19_E (k := (q_I (S15) a28 5).toNatClampNeg) (x := l2 + r14) hG ma49 ra49 (by decide) (q_oV ev30 (by omega) (by omega))
                have f50 : q_sm _ := g_15_I5 hG ma28 ra28
                have e51 : q_I (q_sI (S15) a49 (q_I (S15) a28 5).toNatClampNeg (l2 + r14)) a28 5 = q_I (S15) a28 5 := (q_fwI ra28 ra49 (by decide))
                obtain ⟨v52, ev52⟩ := q_ev (((q_I (q_sI (S15) a49 (q_I (S15) a28 5).toNatClampNeg (l2 + r14)) a28 5) + (1 : Int32)).toInt)
                obtain ⟨v53, ev53⟩ := q_ev ((q_I (q_sI (S15) a49 (q_I (S15) a28 5).toNatClampNeg (l2 + r14)) a28 5).toInt)
                have f54 : v53 = v44 := q_eqVI e51 ev53 ev44
                have f55 : v52 = v53 + (1) := q_addVI ev52 ev53 (show q_eqv ((1 : Int32)).toInt (1) by unfold q_eqv; decide) (by omega) (by omega)
                have hG := u_15_I5 (x := (q_I (q_sI (S15) a49 (q_I (S15) a28 5).toNatClampNeg (l2 + r14)) a28 5) + (1 : Int32)) hG ma28 ra28 (by decide) (q_oV ev52 (by omega) (by omega))
                refine q_ok_let (fun S56 eS56 => ?_)
                rw [← eS56] at hG
                obtain ⟨v57, ev57⟩ := q_ev (((l2 + r14) + (1 : Int32)).toInt)
                have f58 : v57 = v30 + (1) := q_addVI ev57 ev30 (show q_eqv ((1 : Int32)).toInt (1) by unfold q_eqv; decide) (by omega) (by omega)
                have hG := u_15_I4 (x := (l2 + r14) + (1 : Int32)) hG ma28 ra28 (by decide) (q_oV ev57 (by omega) (by omega))
                obtain ⟨v59, ev59⟩ := q_ev ((l3 + (1)).toInt)
                have f60 : v59 = l3.toInt + (1) := q_addVI ev59 q_evr (show q_eqv ((1 : Int32)).toInt (1) by unfold q_eqv; decide) (by omega) (by omega)
                have e61 : q_J (q_sI (S56) a28 4 ((l2 + r14) + (1 : Int32))) aT 3 = q_J (S15) aT 3 := (Eq.trans q_skJI (Eq.trans (q_leJ eS56) (Eq.trans q_skJI q_skJI)))
                obtain ⟨v62, ev62⟩ := q_ev ((q_J (q_sI (S56) a28 4 ((l2 + r14) + (1 : Int32))) aT 3).toInt)
                have f63 : v62 = v19 := q_eqVJ e61 ev62 ev19
                exact ih _ _ _ _ _ hG hl0 hl1 (q_wd hl2 (by decide) (by decide)) (q_oV ev59 (by omega) (by omega)) (q_trE eaT maT raT) (q_trk eaT ⟨q_le3 (K9 := 2) (E9 := 0) ev62 ev4 ev59 (by omega), q_leC ev4 (by omega)⟩) (by first | rfl | exact hd)  (q_upV ev59 (by omega))
              · have f64 := q_leV (show q_eqv ((120 : Int32)).toInt (120) by unfold q_eqv; decide) ev44 (q_n_lt g46)
                exact s_X3_takeContours_15_31_62 hn _ hG (q_trE eaT maT raT) (q_trk eaT ⟨q_le3 (K9 := 0) (E9 := 140000) ev19 ev4 (show q_eqv ((0 : Int32)).toInt (0) by unfold q_eqv; decide) (by omega), q_leC ev4 (by omega)⟩) 
      · have f65 := q_neV q_evr (show q_eqv ((0 : Int32)).toInt (0) by unfold q_eqv; decide) (q_n_eq g26)
        exact s_X3_takeContours_15_31_45 hn (B2 := (k : Int) + 1) (fun S9 z0 z1 z2 z3 hG9 hz0 hz1 hz2 hz3 hzt hzT hzd  hm9 => ih S9 z0 z1 z2 z3 hG9 hz0 hz1 hz2 hz3 hzt hzT hzd  (by omega)) _ _ _ _ _ _ hG hl0 hl1 (q_wd hl2 (by decide) (by decide)) (q_wd hl3 (by decide) (by decide)) (q_wd (q_addBI (0) (65655) hl2 f17 (by decide) (by decide) (by decide) (by decide)) (by decide) (by decide)) (q_trE eaT maT raT) (q_trk eaT ⟨q_le3 (K9 := 2) (E9 := 2) ev19 ev4 q_evr (by omega), q_leC ev4 (by omega)⟩) (by first | rfl | exact hd) (q_upV q_evr (by omega))
set_option maxHeartbeats 4000000 in
set_option maxRecDepth 100000 in
theorem s_X3_takeContours_15_31 {ρ : Nat → Nat} {L : List Nat} {n : Nat} (hn : 18446744073709551616 ≤ n) {S : q_S} (hI : q_Inv ρ L S) {o : Nat} (mo : o ∈ L) (ro : ρ o = 15) {p0 : Option Nat} (tp0 : q_tr ρ L p0 31) {p1 : Int32} (hp1 : (0 ≤ p1.toInt ∧ p1.toInt ≤ 120)) (ht : ∀ a, p0 = some a → (q_J S a 3).toInt ≤ 140737555464192) : q_ok (m_X3_takeContours n S o p0 p1) (fun r T => q_G ρ L M_X3_takeContours_15_31 S T ∧ (0 ≤ r.toInt ∧ r.toInt ≤ 1) ∧ q_sm (∀ a, p0 = some a → (q_J T a 3).toInt ≤ (q_J S a 3).toInt + 140000)) := by
  have hG : q_G ρ L M_X3_takeContours_15_31 S S := q_G_refl hI
  unfold m_X3_takeContours
  have z0 : (0 : Int32).toInt = 0 := rfl
  obtain ⟨aT, eaT, maT, raT⟩ := id tp0
  have f1 : q_sm _ := g_31_J3 hG maT raT
  obtain ⟨v2, ev2⟩ := q_ev ((q_J (S) aT 3).toInt)
  have f3 := q_bV ev2 f1
  have f4 := q_leCv ev2 (ht aT eaT)
  exact s_X3_takeContours_15_31_2 hn n _ _ _ _ _ hG (q_trI mo ro) tp0 (q_wd hp1 (by decide) (by decide)) (q_wd (show (0 : Int) ≤ (0 : Int32).toInt ∧ (0 : Int32).toInt ≤ (0 : Int) by decide) (by decide) (by decide)) (q_trE eaT maT raT) (q_trk eaT ⟨q_le3 (K9 := 2) (E9 := 0) ev2 ev2 (show q_eqv ((0 : Int32)).toInt (0) by unfold q_eqv; decide) (by omega), q_leC ev2 (by omega)⟩) (by first | rfl | exact hd)  (q_upV (show q_eqv ((0 : Int32)).toInt (0) by unfold q_eqv; decide) (by omega))
def M_X3_takeFlags_15_31 : List Nat := [1152, 1986, 1987]
set_option maxHeartbeats 4000000 in
set_option maxRecDepth 100000 in
theorem s_X3_takeFlags_15_31_80 {ρ : Nat → Nat} {L : List Nat} {n : Nat} (hn : 18446744073709551616 ≤ n) {dT : Option Nat} {S0 : q_S}  (S : q_S) (hG : q_G ρ L M_X3_takeFlags_15_31 S0 S) (htT : q_tr ρ L dT 31) (hT : (∀ a, dT = some a → (q_J S a 3).toInt ≤ (q_J S0 a 3).toInt + 0 * (0 : Int32).toInt + 600 ∧ (q_J S0 a 3).toInt ≤ 140737555464192)) : q_ok (m_X3_takeFlags_80 n S) (fun r T => q_G ρ L M_X3_takeFlags_15_31 S0 T ∧ (0 ≤ r.toInt ∧ r.toInt ≤ 1) ∧ q_sm (∀ a, dT = some a → (q_J T a 3).toInt ≤ (q_J S0 a 3).toInt + 600)) := by
  unfold m_X3_takeFlags_80
  have z0 : (0 : Int32).toInt = 0 := rfl
  obtain ⟨aT, eaT, maT, raT⟩ := id htT
  have f1 : q_sm _ := g_31_J3 hG maT raT
  obtain ⟨v2, ev2⟩ := q_ev ((q_J (S) aT 3).toInt)
  have f3 := q_bV ev2 f1
  obtain ⟨v4, ev4⟩ := q_ev ((q_J (S0) aT 3).toInt)
  have f5 := q_rVJ (X := q_J (S0) aT 3) ev4
  have f6 := q_le3v (K9 := 0) (E9 := 600) ev2 ev4 (show q_eqv ((0 : Int32)).toInt (0) by unfold q_eqv; decide) (hT aT eaT).1
  have f7 := q_leCv ev4 (hT aT eaT).2
  unfold m_X3_takeFlags_81
  refine q_ok_if (q_b01V (show q_eqv ((0 : Int32)).toInt (0) by unfold q_eqv; decide) (by omega) (by omega)) ?_
  exact q_ok_some ⟨hG, (q_wd (show (0 : Int) ≤ (0 : Int32).toInt ∧ (0 : Int32).toInt ≤ (0 : Int) by decide) (by decide) (by decide)), (q_trk eaT (q_leD ev2 ev4 (by omega)))⟩
set_option maxHeartbeats 4000000 in
set_option maxRecDepth 100000 in
theorem s_X3_takeFlags_15_31_50 {ρ : Nat → Nat} {L : List Nat} {n : Nat} (hn : 18446744073709551616 ≤ n) {dT : Option Nat} {S0 : q_S}  {k8 : q_S → Option Nat → Option Nat → Int32 → Int32 → Int32 → Option (Int32 × q_S)} {B8 : Int} (hk8 : ∀ (S : q_S) (z0 : Option Nat) (z1 : Option Nat) (z2 : Int32) (z3 : Int32) (z4 : Int32), q_G ρ L M_X3_takeFlags_15_31 S0 S → q_tr ρ L z0 15 → q_tr ρ L z1 31 → (0 ≤ z2.toInt ∧ z2.toInt ≤ 65535) → (0 ≤ z3.toInt ∧ z3.toInt ≤ 65535) → (0 ≤ z4.toInt ∧ z4.toInt ≤ 120) → q_tr ρ L dT 31 → (∀ a, dT = some a → (q_J S a 3).toInt ≤ (q_J S0 a 3).toInt + 4 * z4.toInt + 0 ∧ (q_J S0 a 3).toInt ≤ 140737555464192) → z1 = dT → 2147483648 - z4.toInt < B8 → q_ok (k8 S z0 z1 z2 z3 z4) (fun r T => q_G ρ L M_X3_takeFlags_15_31 S0 T ∧ (0 ≤ r.toInt ∧ r.toInt ≤ 1) ∧ q_sm (∀ a, dT = some a → (q_J T a 3).toInt ≤ (q_J S0 a 3).toInt + 600))) (S : q_S) (l0 : Option Nat) (l1 : Option Nat) (l3 : Int32) (l4 : Int32) (l5 : Int32) (hG : q_G ρ L M_X3_takeFlags_15_31 S0 S) (hl0 : q_tr ρ L l0 15) (hl1 : q_tr ρ L l1 31) (hl3 : (0 ≤ l3.toInt ∧ l3.toInt ≤ 65535)) (hl4 : (0 ≤ l4.toInt ∧ l4.toInt ≤ 65535)) (hl5 : (0 ≤ l5.toInt ∧ l5.toInt ≤ 119)) (htT : q_tr ρ L dT 31) (hT : (∀ a, dT = some a → (q_J S a 3).toInt ≤ (q_J S0 a 3).toInt + 4 * l5.toInt + 4 ∧ (q_J S0 a 3).toInt ≤ 140737555464192)) (hd : l1 = dT) (hm8 : 2147483648 - l5.toInt ≤ B8) : q_ok (m_X3_takeFlags_50 n k8 S l0 l1 l3 l4 l5) (fun r T => q_G ρ L M_X3_takeFlags_15_31 S0 T ∧ (0 ≤ r.toInt ∧ r.toInt ≤ 1) ∧ q_sm (∀ a, dT = some a → (q_J T a 3).toInt ≤ (q_J S0 a 3).toInt + 600)) := by
  unfold m_X3_takeFlags_50
  have z0 : (0 : Int32).toInt = 0 := rfl
  subst hd
  obtain ⟨aT, eaT, maT, raT⟩ := id htT
  have f1 : q_sm _ := g_31_J3 hG maT raT
  obtain ⟨v2, ev2⟩ := q_ev ((q_J (S) aT 3).toInt)
  have f3 := q_bV ev2 f1
  obtain ⟨v4, ev4⟩ := q_ev ((q_J (S0) aT 3).toInt)
  have f5 := q_rVJ (X := q_J (S0) aT 3) ev4
  have f6 := q_le3v (K9 := 4) (E9 := 4) ev2 ev4 q_evr (hT aT eaT).1
  have f7 := q_leCv ev4 (hT aT eaT).2
  refine q_ok_at hG hl0 rfl (fun a8 ma8 ra8 ea8 => ?_)
  have t9 := g_15_R2 hG ma8 ra8
  refine q_ok_at hG t9 rfl (fun a10 ma10 ra10 ea10 => ?_)
  refine q_ok_if (q_inV (g_18_N hG ma10 ra10) q_evr (by omega) (by omega)) ?_
  have hG := u_18_E (k := (l5).toNatClampNeg) (x := l4) hG ma10 ra10 (by decide) (q_wd hl4 (by decide) (by decide))
  have e11 : q_J (q_sI (S) a10 (l5).toNatClampNeg (l4)) aT 3 = q_J (S) aT 3 := q_skJI
  obtain ⟨v12, ev12⟩ := q_ev ((q_J (q_sI (S) a10 (l5).toNatClampNeg (l4)) aT 3).toInt)
  have f13 : v12 = v2 := q_eqVJ e11 ev12 ev2
  obtain ⟨v14, ev14⟩ := q_ev ((l5 + (1)).toInt)
  have f15 : v14 = l5.toInt + (1) := q_addVI ev14 q_evr (show q_eqv ((1 : Int32)).toInt (1) by unfold q_eqv; decide) (by omega) (by omega)
  exact hk8 _ _ _ _ _ _ hG hl0 hl1 (q_wd hl3 (by decide) (by decide)) (q_wd hl4 (by decide) (by decide)) (q_wd (q_addBI (1) (120) hl5 (show (1 : Int) ≤ (1 : Int32).toInt ∧ (1 : Int32).toInt ≤ (1 : Int) by decide) (by decide) (by decide) (by decide) (by decide)) (by decide) (by decide)) (q_trE eaT maT raT) (q_trk eaT ⟨q_le3 (K9 := 4) (E9 := 0) ev12 ev4 ev14 (by omega), q_leC ev4 (by omega)⟩) (by first | rfl | exact hd)  (q_upVl ev14 (by omega))
set_option maxHeartbeats 4000000 in
set_option maxRecDepth 100000 in
theorem s_X3_takeFlags_15_31_8 {ρ : Nat → Nat} {L : List Nat} {n : Nat} (hn : 18446744073709551616 ≤ n) {dT : Option Nat} {S0 : q_S}  : ∀ (k : Nat) (S : q_S) (l0 : Option Nat) (l1 : Option Nat) (l3 : Int32) (l4 : Int32) (l5 : Int32), q_G ρ L M_X3_takeFlags_15_31 S0 S → q_tr ρ L l0 15 → q_tr ρ L l1 31 → (0 ≤ l3.toInt ∧ l3.toInt ≤ 65535) → (0 ≤ l4.toInt ∧ l4.toInt ≤ 65535) → (0 ≤ l5.toInt ∧ l5.toInt ≤ 120) → q_tr ρ L dT 31 → (∀ a, dT = some a → (q_J S a 3).toInt ≤ (q_J S0 a 3).toInt + 4 * l5.toInt + 0 ∧ (q_J S0 a 3).toInt ≤ 140737555464192) → l1 = dT → 2147483648 - l5.toInt ≤ (k : Int) → q_ok (m_X3_takeFlags_8 n k S l0 l1 l3 l4 l5) (fun r T => q_G ρ L M_X3_takeFlags_15_31 S0 T ∧ (0 ≤ r.toInt ∧ r.toInt ≤ 1) ∧ q_sm (∀ a, dT = some a → (q_J T a 3).toInt ≤ (q_J S0 a 3).toInt + 600)) := by
  intro k
  induction k with
  | zero =>
    intro S l0 l1 l3 l4 l5 hG hl0 hl1 hl3 hl4 hl5 htT hT hd hm
    have f0 := q_rngI l5
    exfalso; omega
  | succ k ih =>
    intro S l0 l1 l3 l4 l5 hG hl0 hl1 hl3 hl4 hl5 htT hT hd hm
    rw [m_X3_takeFlags_8]
    have z0 : (0 : Int32).toInt = 0 := rfl
    subst hd
    obtain ⟨aT, eaT, maT, raT⟩ := id htT
    have f1 : q_sm _ := g_31_J3 hG maT raT
    obtain ⟨v2, ev2⟩ := q_ev ((q_J (S) aT 3).toInt)
    have f3 := q_bV ev2 f1
    obtain ⟨v4, ev4⟩ := q_ev ((q_J (S0) aT 3).toInt)
    have f5 := q_rVJ (X := q_J (S0) aT 3) ev4
    have f6 := q_le3v (K9 := 4) (E9 := 0) ev2 ev4 q_evr (hT aT eaT).1
    have f7 := q_leCv ev4 (hT aT eaT).2
    refine q_ok_at hG hl0 rfl (fun a8 ma8 ra8 ea8 => ?_)
    have f9 : q_sm _ := g_15_I4 hG ma8 ra8
    obtain ⟨v10, ev10⟩ := q_ev ((q_I (S) a8 4).toInt)
    have f11 := q_bV ev10 f9
    refine q_ok_ite (fun g12 => ?_) (fun g12 => ?_)
    · have f13 := q_leV ev10 q_evr (q_p_ge g12)
      refine q_ok_ite (fun g14 => ?_) (fun g14 => ?_)
      · have f15 := q_eqV q_evr (show q_eqv ((0 : Int32)).toInt (0) by unfold q_eqv; decide) (q_p_eq g14)
        refine q_ok_atA hG eaT maT raT rfl ?_
        refine q_ok_b (s_X1_isPast_31 hn hG.1 maT raT) (fun r16 S17 h18 => ?_)
        obtain ⟨eS17, h18⟩ := h18
        replace eS17 := eS17.symm
        subst eS17
        have f19 := h18
        refine q_ok_ite (fun g20 => ?_) (fun g20 => ?_)
        · have f21 := q_eqV q_evr (show q_eqv ((0 : Int32)).toInt (0) by unfold q_eqv; decide) (q_p_eq g20)
          unfold m_X3_takeFlags_81
          refine q_ok_if (q_b01V (show q_eqv ((1 : Int32)).toInt (1) by unfold q_eqv; decide) (by omega) (by omega)) ?_
          exact q_ok_some ⟨hG, (q_wd (show (1 : Int) ≤ (1 : Int32).toInt ∧ (1 : Int32).toInt ≤ (1 : Int) by decide) (by decide) (by decide)), (q_trk eaT (q_leD ev2 ev4 (by omega)))⟩
        · have f22 := q_neV q_evr (show q_eqv ((0 : Int32)).toInt (0) by unfold q_eqv; decide) (q_n_eq g20)
          exact s_X3_takeFlags_15_31_80 hn _ hG (q_trE eaT maT raT) (q_trk eaT ⟨q_le3 (K9 := 0) (E9 := 600) ev2 ev4 (show q_eqv ((0 : Int32)).toInt (0) by unfold q_eqv; decide) (by omega), q_leC ev4 (by omega)⟩) 
      · have f23 := q_neV q_evr (show q_eqv ((0 : Int32)).toInt (0) by unfold q_eqv; decide) (q_n_eq g14)
        exact s_X3_takeFlags_15_31_80 hn _ hG (q_trE eaT maT raT) (q_trk eaT ⟨q_le3 (K9 := 0) (E9 := 600) ev2 ev4 (show q_eqv ((0 : Int32)).toInt (0) by unfold q_eqv; decide) (by omega), q_leC ev4 (by omega)⟩) 
    · have f24 := q_ltV q_evr ev10 (q_n_ge g12)
      refine q_ok_ite (fun g25 => ?_) (fun g25 => ?_)
      · have f26 := q_leV q_evr (show q_eqv ((0 : Int32)).toInt (0) by unfold q_eqv; decide) (q_p_le g25)
        refine q_ok_atA hG eaT maT raT rfl ?_
        refine q_ok_b (s_X1_one_31 hn hG.1 maT raT (q_leC ev2 (by omega))) (fun r27 S28 h29 => ?_)
        have hG := q_G_call hG h29.1 (by decide)
        have f30 := h29.2.1
        have f31 : q_sm _ := g_31_J3 hG maT raT
        obtain ⟨v32, ev32⟩ := q_ev ((q_J (S28) aT 3).toInt)
        have f33 := q_bV ev32 f31
        have f34 := q_leDv ev32 ev2 (h29.2.2)
        obtain ⟨v35, ev35⟩ := q_ev ((r27 &&& (8 : Int32)).toInt)
        have f36 := q_andRVI ev35 (show q_eqv ((8 : Int32)).toInt (8) by unfold q_eqv; decide) (by omega)
        refine q_ok_ite (fun g37 => ?_) (fun g37 => ?_)
        · have f38 := q_eqV ev35 (show q_eqv ((0 : Int32)).toInt (0) by unfold q_eqv; decide) (q_p_eq g37)
          unfold m_X3_takeFlags_49
          exact s_X3_takeFlags_15_31_50 hn (B8 := (k : Int) + 1) (fun S9 z0 z1 z2 z3 z4 hG9 hz0 hz1 hz2 hz3 hz4 hzt hzT hzd  hm9 => ih S9 z0 z1 z2 z3 z4 hG9 hz0 hz1 hz2 hz3 hz4 hzt hzT hzd  (by omega)) _ _ _ _ _ _ hG hl0 hl1 (q_wd (show (0 : Int) ≤ (0 : Int32).toInt ∧ (0 : Int32).toInt ≤ (0 : Int) by decide) (by decide) (by decide)) (q_wd f30 (by decide) (by decide)) (q_oV q_evr (by omega) (by omega)) (q_trE eaT maT raT) (q_trk eaT ⟨q_le3 (K9 := 4) (E9 := 4) ev32 ev4 q_evr (by omega), q_leC ev4 (by omega)⟩) (by first | rfl | exact hd) (q_upV q_evr (by omega))
        · have f39 := q_neV ev35 (show q_eqv ((0 : Int32)).toInt (0) by unfold q_eqv; decide) (q_n_eq g37)
          refine q_ok_atA hG eaT maT raT rfl ?_
          refine q_ok_b (s_X1_one_31 hn hG.1 maT raT (q_leC ev32 (by omega))) (fun r40 S41 h42 => ?_)
          have hG := q_G_call hG h42.1 (by decide)
          have f43 := h42.2.1
          have f44 : q_sm _ := g_31_J3 hG maT raT
          obtain ⟨v45, ev45⟩ := q_ev ((q_J (S41) aT 3).toInt)
          have f46 := q_bV ev45 f44
          have f47 := q_leDv ev45 ev32 (h42.2.2)
          unfold m_X3_takeFlags_49
          exact s_X3_takeFlags_15_31_50 hn (B8 := (k : Int) + 1) (fun S9 z0 z1 z2 z3 z4 hG9 hz0 hz1 hz2 hz3 hz4 hzt hzT hzd  hm9 => ih S9 z0 z1 z2 z3 z4 hG9 hz0 hz1 hz2 hz3 hz4 hzt hzT hzd  (by omega)) _ _ _ _ _ _ hG hl0 hl1 (q_wd f43 (by decide) (by decide)) (q_wd f30 (by decide) (by decide)) (q_oV q_evr (by omega) (by omega)) (q_trE eaT maT raT) (q_trk eaT ⟨q_le3 (K9 := 4) (E9 := 4) ev45 ev4 q_evr (by omega), q_leC ev4 (by omega)⟩) (by first | rfl | exact hd) (q_upV q_evr (by omega))
      · have f48 := q_ltV (show q_eqv ((0 : Int32)).toInt (0) by unfold q_eqv; decide) q_evr (q_n_le g25)
        obtain ⟨v49, ev49⟩ := q_ev ((l3 + (-1)).toInt)
        have f50 : v49 = l3.toInt + (-1) := q_addVI ev49 q_evr (show q_eqv ((-1 : Int32)).toInt (-1) by unfold q_eqv; decide) (by omega) (by omega)
        exact s_X3_takeFlags_15_31_50 hn (B8 := (k : Int) + 1) (fun S9 z0 z1 z2 z3 z4 hG9 hz0 hz1 hz2 hz3 hz4 hzt hzT hzd  hm9 => ih S9 z0 z1 z2 z3 z4 hG9 hz0 hz1 hz2 hz3 hz4 hzt hzT hzd  (by omega)) _ _ _ _ _ _ hG hl0 hl1 (q_oV ev49 (by omega) (by omega)) (q_wd hl4 (by decide) (by decide)) (q_oV q_evr (by omega) (by omega)) (q_trE eaT maT raT) (q_trk eaT ⟨q_le3 (K9 := 4) (E9 := 4) ev2 ev4 q_evr (by omega), q_leC ev4 (by omega)⟩) (by first | rfl | exact hd) (q_upV q_evr (by omega))
set_option maxHeartbeats 4000000 in
set_option maxRecDepth 100000 in
theorem s_X3_takeFlags_15_31 {ρ : Nat → Nat} {L : List Nat} {n : Nat} (hn : 18446744073709551616 ≤ n) {S : q_S} (hI : q_Inv ρ L S) {o : Nat} (mo : o ∈ L) (ro : ρ o = 15) {p0 : Option Nat} (tp0 : q_tr ρ L p0 31) {p1 : Int32} (hp1 : (0 ≤ p1.toInt ∧ p1.toInt ≤ 120)) (ht : ∀ a, p0 = some a → (q_J S a 3).toInt ≤ 140737555464192) : q_ok (m_X3_takeFlags n S o p0 p1) (fun r T => q_G ρ L M_X3_takeFlags_15_31 S T ∧ (0 ≤ r.toInt ∧ r.toInt ≤ 1) ∧ q_sm (∀ a, p0 = some a → (q_J T a 3).toInt ≤ (q_J S a 3).toInt + 600)) := by
  have hG : q_G ρ L M_X3_takeFlags_15_31 S S := q_G_refl hI
  unfold m_X3_takeFlags
  have z0 : (0 : Int32).toInt = 0 := rfl
  obtain ⟨aT, eaT, maT, raT⟩ := id tp0
  have f1 : q_sm _ := g_31_J3 hG maT raT
  obtain ⟨v2, ev2⟩ := q_ev ((q_J (S) aT 3).toInt)
  have f3 := q_bV ev2 f1
  have f4 := q_leCv ev2 (ht aT eaT)
  exact s_X3_takeFlags_15_31_8 hn n _ _ _ _ _ _ hG (q_trI mo ro) tp0 (q_wd (show (0 : Int) ≤ (0 : Int32).toInt ∧ (0 : Int32).toInt ≤ (0 : Int) by decide) (by decide) (by decide)) (q_wd (show (0 : Int) ≤ (0 : Int32).toInt ∧ (0 : Int32).toInt ≤ (0 : Int) by decide) (by decide) (by decide)) (q_wd hp1 (by decide) (by decide)) (q_trE eaT maT raT) (q_trk eaT ⟨q_le3 (K9 := 4) (E9 := 0) ev2 ev2 q_evr (by omega), q_leC ev2 (by omega)⟩) (by first | rfl | exact hd)  (q_upV q_evr (by omega))
def M_X3_take_15_31 : List Nat := [964, 965, 1024, 1088, 1152, 1216, 1986, 1987]
set_option maxHeartbeats 4000000 in
set_option maxRecDepth 100000 in
theorem s_X3_take_15_31 {ρ : Nat → Nat} {L : List Nat} {n : Nat} (hn : 18446744073709551616 ≤ n) {S : q_S} (hI : q_Inv ρ L S) {o : Nat} (mo : o ∈ L) (ro : ρ o = 15) {p0 : Option Nat} (tp0 : q_tr ρ L p0 31) (ht : ∀ a, p0 = some a → (q_J S a 3).toInt ≤ 140737489403904) : q_ok (m_X3_take n S o p0) (fun r T => q_G ρ L M_X3_take_15_31 S T ∧ (0 ≤ r.toInt ∧ r.toInt ≤ 1) ∧ q_sm (∀ a, p0 = some a → (q_J T a 3).toInt ≤ (q_J S a 3).toInt + 300000)) := by
  have hG : q_G ρ L M_X3_take_15_31 S S := q_G_refl hI
  unfold m_X3_take
  have z0 : (0 : Int32).toInt = 0 := rfl
  obtain ⟨aT, eaT, maT, raT⟩ := id tp0
  have f1 : q_sm _ := g_31_J3 hG maT raT
  obtain ⟨v2, ev2⟩ := q_ev ((q_J (S) aT 3).toInt)
  have f3 := q_bV ev2 f1
  have f4 := q_leCv ev2 (ht aT eaT)
  refine q_ok_atS hG (q_trI mo ro) rfl (fun mo ro => ?_)
  have f5 : q_sm _ := g_15_I4 hG mo ro
  refine q_ok_b (s_X3_takeContours_15_31 hn hG.1 mo ro tp0 (q_wd f5 (by decide) (by decide)) (q_trk eaT (q_leC ev2 (by omega)))) (fun r6 S7 h8 => ?_)
  have hG := q_G_call hG h8.1 (by decide)
  have f9 := h8.2.1
  have f10 : q_sm _ := g_31_J3 hG maT raT
  obtain ⟨v11, ev11⟩ := q_ev ((q_J (S7) aT 3).toInt)
  have f12 := q_bV ev11 f10
  have f13 := q_leDv ev11 ev2 (h8.2.2 _ eaT)
  refine q_ok_ite (fun g14 => ?_) (fun g14 => ?_)
  · have f15 := q_eqV q_evr (show q_eqv ((0 : Int32)).toInt (0) by unfold q_eqv; decide) (q_p_eq g14)
    refine q_ok_if (q_b01V (show q_eqv ((0 : Int32)).toInt (0) by unfold q_eqv; decide) (by omega) (by omega)) ?_
    exact q_ok_some ⟨hG, (q_wd (show (0 : Int) ≤ (0 : Int32).toInt ∧ (0 : Int32).toInt ≤ (0 : Int) by decide) (by decide) (by decide)), (q_trk eaT (q_leD ev11 ev2 (by omega)))⟩
  · have f16 := q_neV q_evr (show q_eqv ((0 : Int32)).toInt (0) by unfold q_eqv; decide) (q_n_eq g14)
    refine q_ok_atA hG eaT maT raT rfl ?_
    refine q_ok_b (s_X1_two_31 hn hG.1 maT raT (q_leC ev11 (by omega))) (fun r17 S18 h19 => ?_)
    have hG := q_G_call hG h19.1 (by decide)
    have f20 := h19.2.1
    have f21 : q_sm _ := g_31_J3 hG maT raT
    obtain ⟨v22, ev22⟩ := q_ev ((q_J (S18) aT 3).toInt)
    have f23 := q_bV ev22 f21
    have f24 := q_leDv ev22 ev11 (h19.2.2)
    refine q_ok_atA hG eaT maT raT rfl ?_
    refine q_ok_b (s_X1_skip_31 hn hG.1 maT raT (q_wd f20 (by decide) (by decide)) (q_leC ev22 (by omega))) (fun r25 S26 h27 => ?_)
    have hG := q_G_call hG h27.1 (by decide)
    have f28 : q_sm _ := g_31_J3 hG maT raT
    obtain ⟨v29, ev29⟩ := q_ev ((q_J (S26) aT 3).toInt)
    have f30 := q_bV ev29 f28
    have f31 := q_leDv ev29 ev22 (h27.2)
    refine q_ok_atS hG (q_trI mo ro) rfl (fun mo ro => ?_)
    refine q_ok_b (s_X3_takeFlags_15_31 hn hG.1 mo ro tp0 (q_wd f5 (by decide) (by decide)) (q_trk eaT (q_leC ev29 (by omega)))) (fun r32 S33 h34 => ?_)
    have hG := q_G_call hG h34.1 (by decide)
    have f35 := h34.2.1
    have f36 : q_sm _ := g_31_J3 hG maT raT
    obtain ⟨v37, ev37⟩ := q_ev ((q_J (S33) aT 3).toInt)
    have f38 := q_bV ev37 f36
    have f39 := q_leDv ev37 ev29 (h34.2.2 _ eaT)
    refine q_ok_ite (fun g40 => ?_) (fun g40 => ?_)
    · have f41 := q_eqV q_evr (show q_eqv ((0 : Int32)).toInt (0) by unfold q_eqv; decide) (q_p_eq g40)
      refine q_ok_if (q_b01V (show q_eqv ((0 : Int32)).toInt (0) by unfold q_eqv; decide) (by omega) (by omega)) ?_
      exact q_ok_some ⟨hG, (q_wd (show (0 : Int) ≤ (0 : Int32).toInt ∧ (0 : Int32).toInt ≤ (0 : Int) by decide) (by decide) (by decide)), (q_trk eaT (q_leD ev37 ev2 (by omega)))⟩
    · have f42 := q_neV q_evr (show q_eqv ((0 : Int32)).toInt (0) by unfold q_eqv; decide) (q_n_eq g40)
      refine q_ok_atS hG (q_trI mo ro) rfl (fun mo ro => ?_)
      have t43 := g_15_R0 hG mo ro
      refine q_ok_b (s_X3_takeAxis_15_31_16 hn hG.1 mo ro tp0 t43 (q_wd f5 (by decide) (by decide)) (q_wd (show (2 : Int) ≤ (2 : Int32).toInt ∧ (2 : Int32).toInt ≤ (2 : Int) by decide) (by decide) (by decide)) (q_wd (show (16 : Int) ≤ (16 : Int32).toInt ∧ (16 : Int32).toInt ≤ (16 : Int) by decide) (by decide) (by decide)) (q_trk eaT (q_leC ev37 (by omega)))) (fun r44 S45 h46 => ?_)
      have hG := q_G_call hG h46.1 (by decide)
      have f47 : q_sm _ := g_31_J3 hG maT raT
      obtain ⟨v48, ev48⟩ := q_ev ((q_J (S45) aT 3).toInt)
      have f49 := q_bV ev48 f47
      have f50 := q_leDv ev48 ev37 (h46.2 _ eaT)
      refine q_ok_atS hG (q_trI mo ro) rfl (fun mo ro => ?_)
      have t51 := g_15_R1 hG mo ro
      refine q_ok_b (s_X3_takeAxis_15_31_17 hn hG.1 mo ro tp0 t51 (q_wd f5 (by decide) (by decide)) (q_wd (show (4 : Int) ≤ (4 : Int32).toInt ∧ (4 : Int32).toInt ≤ (4 : Int) by decide) (by decide) (by decide)) (q_wd (show (32 : Int) ≤ (32 : Int32).toInt ∧ (32 : Int32).toInt ≤ (32 : Int) by decide) (by decide) (by decide)) (q_trk eaT (q_leC ev48 (by omega)))) (fun r52 S53 h54 => ?_)
      have hG := q_G_call hG h54.1 (by decide)
      have f55 : q_sm _ := g_31_J3 hG maT raT
      obtain ⟨v56, ev56⟩ := q_ev ((q_J (S53) aT 3).toInt)
      have f57 := q_bV ev56 f55
      have f58 := q_leDv ev56 ev48 (h54.2 _ eaT)
      refine q_ok_atA hG eaT maT raT rfl ?_
      refine q_ok_b (s_X1_isPast_31 hn hG.1 maT raT) (fun r59 S60 h61 => ?_)
      obtain ⟨eS60, h61⟩ := h61
      replace eS60 := eS60.symm
      subst eS60
      have f62 := h61
      refine q_ok_ite (fun g63 => ?_) (fun g63 => ?_)
      · have f64 := q_eqV q_evr (show q_eqv ((0 : Int32)).toInt (0) by unfold q_eqv; decide) (q_p_eq g63)
        unfold m_X3_take_73
        refine q_ok_if (q_b01V (show q_eqv ((1 : Int32)).toInt (1) by unfold q_eqv; decide) (by omega) (by omega)) ?_
        exact q_ok_some ⟨hG, (q_wd (show (1 : Int) ≤ (1 : Int32).toInt ∧ (1 : Int32).toInt ≤ (1 : Int) by decide) (by decide) (by decide)), (q_trk eaT (q_leD ev56 ev2 (by omega)))⟩
      · have f65 := q_neV q_evr (show q_eqv ((0 : Int32)).toInt (0) by unfold q_eqv; decide) (q_n_eq g63)
        unfold m_X3_take_73
        refine q_ok_if (q_b01V (show q_eqv ((0 : Int32)).toInt (0) by unfold q_eqv; decide) (by omega) (by omega)) ?_
        exact q_ok_some ⟨hG, (q_wd (show (0 : Int) ≤ (0 : Int32).toInt ∧ (0 : Int32).toInt ≤ (0 : Int) by decide) (by decide) (by decide)), (q_trk eaT (q_leD ev56 ev2 (by omega)))⟩
def M_X3_scale_15_31 : List Nat := [1024, 1088]
set_option maxHeartbeats 4000000 in
set_option maxRecDepth 100000 in
theorem s_X3_scale_15_31_6 {ρ : Nat → Nat} {L : List Nat} {n : Nat} (hn : 18446744073709551616 ≤ n) {S0 : q_S}  : ∀ (k : Nat) (S : q_S) (l0 : Option Nat) (l2 : Option Nat) (l3 : Int32), q_G ρ L M_X3_scale_15_31 S0 S → q_tr ρ L l0 15 → q_tr ρ L l2 31 → (0 ≤ l3.toInt ∧ l3.toInt ≤ 120) → 2147483648 - l3.toInt ≤ (k : Int) → q_ok (m_X3_scale_6 n k S l0 l2 l3) (fun _ T => q_G ρ L M_X3_scale_15_31 S0 T) := by
  intro k
  induction k with
  | zero =>
    intro S l0 l2 l3 hG hl0 hl2 hl3 hm
    have f0 := q_rngI l3
    exfalso; omega
  | succ k ih =>
    intro S l0 l2 l3 hG hl0 hl2 hl3 hm
    rw [m_X3_scale_6]
    have z0 : (0 : Int32).toInt = 0 := rfl
    refine q_ok_at hG hl0 rfl (fun a1 ma1 ra1 ea1 => ?_)
    have f2 : q_sm _ := g_15_I4 hG ma1 ra1
    obtain ⟨v3, ev3⟩ := q_ev ((q_I (S) a1 4).toInt)
    have f4 := q_bV ev3 f2
    refine q_ok_ite (fun g5 => ?_) (fun g5 => ?_)
    · have f6 := q_leV ev3 q_evr (q_p_ge g5)
      exact q_ok_some hG
    · have f7 := q_ltV q_evr ev3 (q_n_ge g5)
      have t8 := g_15_R0 hG ma1 ra1
      refine q_ok_at hG t8 rfl (fun a9 ma9 ra9 ea9 => ?_)
      refine q_ok_if (q_inV (g_16_N hG ma9 ra9) q_evr (by omega) (by omega)) ?_
      have t10 := g_15_R1 hG ma1 ra1
      refine q_ok_at hG t10 rfl (fun a11 ma11 ra11 ea11 => ?_)
      refine q_ok_if (q_inV (g_17_N hG ma11 ra11) q_evr (by omega) (by omega)) ?_
      have t12 := g_15_R0 hG ma1 ra1
      refine q_ok_at hG hl2 rfl (fun a13 ma13 ra13 ea13 => ?_)
      have f14 : q_sm _ := g_31_I10 hG ma13 ra13
      have f15 : q_sm _ := g_31_I12 hG ma13 ra13
      refine q_ok_b (s_X3_wholes hn hG.1 ) (fun r16 S17 h18 => ?_)
      have eS17 := h18
      replace eS17 := eS17.symm
      subst eS17
      refine q_ok_atA hG ea9 ma9 ra9 rfl ?_
      refine q_ok_if (q_inV (g_16_N hG ma9 ra9) q_evr (by omega) (by omega)) ?_
      have hG := u_16_E (k := (l3).toNatClampNeg) (x := r16) hG ma9 ra9 (by decide)
      refine q_ok_atA hG ea1 ma1 ra1 rfl ?_
      have t19 := g_15_R1 hG ma1 ra1
      have e20 : q_R (q_sI (S) a9 (l3).toNatClampNeg (r16)) a1 1 = q_R (S) a1 1 := q_skRI
      refine q_ok_atA hG ea13 ma13 ra13 rfl ?_
      have f21 : q_sm _ := g_31_I11 hG ma13 ra13
      have f22 : q_sm _ := g_31_I13 hG ma13 ra13
      refine q_ok_b (s_X3_wholes hn hG.1 ) (fun r23 S24 h25 => ?_)
      have eS24 := h25
      replace eS24 := eS24.symm
      subst eS24
      refine q_ok_atA hG (Eq.trans e20 ea11) ma11 ra11 rfl ?_
      refine q_ok_if (q_inV (g_17_N hG ma11 ra11) q_evr (by omega) (by omega)) ?_
      have hG := u_17_E (k := (l3).toNatClampNeg) (x := r23) hG ma11 ra11 (by decide)
      obtain ⟨v26, ev26⟩ := q_ev ((l3 + (1)).toInt)
      have f27 : v26 = l3.toInt + (1) := q_addVI ev26 q_evr (show q_eqv ((1 : Int32)).toInt (1) by unfold q_eqv; decide) (by omega) (by omega)
      exact ih _ _ _ _ hG hl0 hl2 (q_oV ev26 (by omega) (by omega))  (q_upV ev26 (by omega))
set_option maxHeartbeats 4000000 in
set_option maxRecDepth 100000 in
theorem s_X3_scale_15_31 {ρ : Nat → Nat} {L : List Nat} {n : Nat} (hn : 18446744073709551616 ≤ n) {S : q_S} (hI : q_Inv ρ L S) {o : Nat} (mo : o ∈ L) (ro : ρ o = 15) {p0 : Int32} (hp0 : (0 ≤ p0.toInt ∧ p0.toInt ≤ 120)) {p1 : Option Nat} (tp1 : q_tr ρ L p1 31) : q_ok (m_X3_scale n S o p0 p1) (fun _ T => q_G ρ L M_X3_scale_15_31 S T) := by
  have hG : q_G ρ L M_X3_scale_15_31 S S := q_G_refl hI
  unfold m_X3_scale
  have z0 : (0 : Int32).toInt = 0 := rfl
  refine q_ok_b (s_J9_max_7cf53 n _ _ _) (fun r1 S2 h3 => ?_)
  obtain ⟨eS2, h3⟩ := h3
  replace h3 := q_mmVX (show q_eqv ((0 : Int32)).toInt (0) by unfold q_eqv; decide) q_evr h3
  replace eS2 := eS2.symm
  subst eS2
  exact s_X3_scale_15_31_6 hn n _ _ _ _ hG (q_trI mo ro) tp1 (q_oV q_evr (by omega) (by omega))  (q_upV q_evr (by omega))
def M_X5_join_14_31 : List Nat := [194, 256, 320, 1024, 1088]
set_option maxHeartbeats 4000000 in
set_option maxRecDepth 100000 in
theorem s_X5_join_14_31 {ρ : Nat → Nat} {L : List Nat} {n : Nat} (hn : 18446744073709551616 ≤ n) {S : q_S} (hI : q_Inv ρ L S) {o : Nat} (mo : o ∈ L) (ro : ρ o = 14) {p0 : Option Nat} (tp0 : q_tr ρ L p0 31) {p1 : Int32} (hp1 : (0 ≤ p1.toInt ∧ p1.toInt ≤ 120)) {p2 : Int32} (hp2 : (0 ≤ p2.toInt ∧ p2.toInt ≤ 120)) : q_ok (m_X5_join n S o p0 p1 p2) (fun _ T => q_G ρ L M_X5_join_14_31 S T) := by
  have hG : q_G ρ L M_X5_join_14_31 S S := q_G_refl hI
  unfold m_X5_join
  have z0 : (0 : Int32).toInt = 0 := rfl
  refine q_ok_at hG tp0 rfl (fun a1 ma1 ra1 ea1 => ?_)
  have f2 : q_sm _ := g_31_I8 hG ma1 ra1
  have f3 : q_sm _ := g_31_I9 hG ma1 ra1
  obtain ⟨v4, ev4⟩ := q_ev ((p1 + (q_I (S) a1 8)).toInt)
  obtain ⟨v5, ev5⟩ := q_ev ((q_I (S) a1 8).toInt)
  have f6 := q_bV ev5 f2
  have f7 : v4 = p1.toInt + v5 := q_addVI ev4 q_evr ev5 (by omega) (by omega)
  refine q_ok_ite (fun g8 => ?_) (fun g8 => ?_)
  · have f9 := q_leV q_evr ev4 (q_p_ge g8)
    unfold m_X5_join_91
    refine q_ok_atS hG (q_trI mo ro) rfl (fun mo ro => ?_)
    have t10 := g_14_R1 hG mo ro
    refine q_ok_atA hG ea1 ma1 ra1 rfl ?_
    have f11 : q_sm _ := g_31_I7 hG ma1 ra1
    refine q_ok_at hG t10 rfl (fun a12 ma12 ra12 ea12 => ?_)
    refine q_ok_b (s_X9_tell_3 hn hG.1 ma12 ra12 (q_wd (show (3 : Int) ≤ (3 : Int32).toInt ∧ (3 : Int32).toInt ≤ (3 : Int) by decide) (by decide) (by decide)) (q_wd f11 (by decide) (by decide))) (fun r13 S14 h15 => ?_)
    have hG := q_G_call hG h15 (by decide)
    unfold m_X5_join_103
    exact q_ok_some hG
  · have f16 := q_ltV ev4 q_evr (q_n_ge g8)
    refine q_ok_atS hG (q_trI mo ro) rfl (fun mo ro => ?_)
    have t17 := g_14_R2 hG mo ro
    refine q_ok_at hG t17 rfl (fun a18 ma18 ra18 ea18 => ?_)
    refine q_ok_b (s_X3_size_15 hn hG.1 ma18 ra18) (fun r19 S20 h21 => ?_)
    obtain ⟨eS20, h21⟩ := h21
    replace eS20 := eS20.symm
    subst eS20
    have f22 := h21
    obtain ⟨v23, ev23⟩ := q_ev ((p2 + (q_I (S) a1 9)).toInt)
    obtain ⟨v24, ev24⟩ := q_ev ((q_I (S) a1 9).toInt)
    have f25 := q_bV ev24 f3
    have f26 : v23 = p2.toInt + v24 := q_addVI ev23 q_evr ev24 (by omega) (by omega)
    refine q_ok_ite (fun g27 => ?_) (fun g27 => ?_)
    · have f28 := q_leV q_evr ev23 (q_p_ge g27)
      unfold m_X5_join_91
      refine q_ok_atS hG (q_trI mo ro) rfl (fun mo ro => ?_)
      have t29 := g_14_R1 hG mo ro
      refine q_ok_atA hG ea1 ma1 ra1 rfl ?_
      have f30 : q_sm _ := g_31_I7 hG ma1 ra1
      refine q_ok_at hG t29 rfl (fun a31 ma31 ra31 ea31 => ?_)
      refine q_ok_b (s_X9_tell_3 hn hG.1 ma31 ra31 (q_wd (show (3 : Int) ≤ (3 : Int32).toInt ∧ (3 : Int32).toInt ≤ (3 : Int) by decide) (by decide) (by decide)) (q_wd f30 (by decide) (by decide))) (fun r32 S33 h34 => ?_)
      have hG := q_G_call hG h34 (by decide)
      unfold m_X5_join_103
      exact q_ok_some hG
    · have f35 := q_ltV ev23 q_evr (q_n_ge g27)
      refine q_ok_atS hG (q_trI mo ro) rfl (fun mo ro => ?_)
      have t36 := g_14_R2 hG mo ro
      refine q_ok_atA hG ea18 ma18 ra18 rfl ?_
      refine q_ok_b (s_X3_x_15 hn hG.1 ma18 ra18) (fun r37 S38 h39 => ?_)
      have eS38 := h39
      replace eS38 := eS38.symm
      subst eS38
      refine q_ok_atS hG (q_trI mo ro) rfl (fun mo ro => ?_)
      have t40 := g_14_R2 hG mo ro
      refine q_ok_atA hG ea18 ma18 ra18 rfl ?_
      refine q_ok_b (s_X3_x_15 hn hG.1 ma18 ra18) (fun r41 S42 h43 => ?_)
      have eS42 := h43
      replace eS42 := eS42.symm
      subst eS42
      refine q_ok_atS hG (q_trI mo ro) rfl (fun mo ro => ?_)
      have t44 := g_14_R2 hG mo ro
      refine q_ok_atA hG ea18 ma18 ra18 rfl ?_
      refine q_ok_b (s_X3_y_15 hn hG.1 ma18 ra18) (fun r45 S46 h47 => ?_)
      have eS46 := h47
      replace eS46 := eS46.symm
      subst eS46
      refine q_ok_atS hG (q_trI mo ro) rfl (fun mo ro => ?_)
      have t48 := g_14_R2 hG mo ro
      refine q_ok_atA hG ea18 ma18 ra18 rfl ?_
      refine q_ok_b (s_X3_y_15 hn hG.1 ma18 ra18) (fun r49 S50 h51 => ?_)
      have eS50 := h51
      replace eS50 := eS50.symm
      subst eS50
      refine q_ok_atS hG (q_trI mo ro) rfl (fun mo ro => ?_)
      have t52 := g_14_R2 hG mo ro
      refine q_ok_atA hG ea18 ma18 ra18 rfl ?_
      refine q_ok_b (s_X3_move_15 hn hG.1 ma18 ra18 (q_wd hp2 (by decide) (by decide))) (fun r53 S54 h55 => ?_)
      have hG := q_G_call hG h55 (by decide)
      unfold m_X5_join_103
      exact q_ok_some hG
set_option maxHeartbeats 4000000 in
set_option maxRecDepth 100000 in
theorem s_X1_isPast_32 {ρ : Nat → Nat} {L : List Nat} {n : Nat} (hn : 18446744073709551616 ≤ n) {S : q_S} (hI : q_Inv ρ L S) {o : Nat} (mo : o ∈ L) (ro : ρ o = 32) : q_ok (m_X1_isPast n S o) (fun r T => T = S ∧ (0 ≤ r.toInt ∧ r.toInt ≤ 1)) := by
  have hG : q_G ρ L [] S S := q_G_refl hI
  unfold m_X1_isPast
  have z0 : (0 : Int32).toInt = 0 := rfl
  refine q_ok_atS hG (q_trI mo ro) rfl (fun mo ro => ?_)
  have f1 : q_sm _ := g_32_I2 hG mo ro
  obtain ⟨v2, ev2⟩ := q_ev ((q_I (S) o 2).toInt)
  have f3 := q_bV ev2 f1
  refine q_ok_if (q_b01V ev2 (by omega) (by omega)) ?_
  exact q_ok_some ⟨rfl, (q_wd f1 (by decide) (by decide))⟩
def M_X3_takeAxis_15_32_16 : List Nat := [1024, 2050, 2051]
set_option maxHeartbeats 4000000 in
set_option maxRecDepth 100000 in
theorem s_X3_takeAxis_15_32_16_89 {ρ : Nat → Nat} {L : List Nat} {n : Nat} (hn : 18446744073709551616 ≤ n) {dT : Option Nat} {S0 : q_S}  {k6 : q_S → Option Nat → Option Nat → Option Nat → Int32 → Int32 → Int32 → Int32 → Option (Unit × q_S)} {B6 : Int} (hk6 : ∀ (S : q_S) (z0 : Option Nat) (z1 : Option Nat) (z2 : Option Nat) (z3 : Int32) (z4 : Int32) (z5 : Int32) (z6 : Int32), q_G ρ L M_X3_takeAxis_15_32_16 S0 S → q_tr ρ L z0 15 → q_tr ρ L z1 32 → q_tr ρ L z2 16 → (2 ≤ z3.toInt ∧ z3.toInt ≤ 2) → (16 ≤ z4.toInt ∧ z4.toInt ≤ 16) → (0 ≤ z6.toInt ∧ z6.toInt ≤ 120) → q_tr ρ L dT 32 → (∀ a, dT = some a → (q_J S a 3).toInt ≤ (q_J S0 a 3).toInt + 4 * z6.toInt + 0 ∧ (q_J S0 a 3).toInt ≤ 140737555464192) → z1 = dT → 2147483648 - z6.toInt < B6 → q_ok (k6 S z0 z1 z2 z3 z4 z5 z6) (fun _ T => q_G ρ L M_X3_takeAxis_15_32_16 S0 T ∧ q_sm (∀ a, dT = some a → (q_J T a 3).toInt ≤ (q_J S0 a 3).toInt + 600))) (S : q_S) (l0 : Option Nat) (l1 : Option Nat) (l2 : Option Nat) (l4 : Int32) (l5 : Int32) (l6 : Int32) (l7 : Int32) (hG : q_G ρ L M_X3_takeAxis_15_32_16 S0 S) (hl0 : q_tr ρ L l0 15) (hl1 : q_tr ρ L l1 32) (hl2 : q_tr ρ L l2 16) (hl4 : (2 ≤ l4.toInt ∧ l4.toInt ≤ 2)) (hl5 : (16 ≤ l5.toInt ∧ l5.toInt ≤ 16)) (hl7 : (0 ≤ l7.toInt ∧ l7.toInt ≤ 119)) (htT : q_tr ρ L dT 32) (hT : (∀ a, dT = some a → (q_J S a 3).toInt ≤ (q_J S0 a 3).toInt + 4 * l7.toInt + 4 ∧ (q_J S0 a 3).toInt ≤ 140737555464192)) (hd : l1 = dT) (hm6 : 2147483648 - l7.toInt ≤ B6) : q_ok (m_X3_takeAxis_89 n k6 S l0 l1 l2 l4 l5 l6 l7) (fun _ T => q_G ρ L M_X3_takeAxis_15_32_16 S0 T ∧ q_sm (∀ a, dT = some a → (q_J T a 3).toInt ≤ (q_J S0 a 3).toInt + 600)) := by
  unfold m_X3_takeAxis_89
  have z0 : (0 : Int32).toInt = 0 := rfl
  subst hd
  obtain ⟨aT, eaT, maT, raT⟩ := id htT
  have f1 : q_sm _ := g_32_J3 hG maT raT
  obtain ⟨v2, ev2⟩ := q_ev ((q_J (S) aT 3).toInt)
  have f3 := q_bV ev2 f1
  obtain ⟨v4, ev4⟩ := q_ev ((q_J (S0) aT 3).toInt)
  have f5 := q_rVJ (X := q_J (S0) aT 3) ev4
  have f6 := q_le3v (K9 := 4) (E9 := 4) ev2 ev4 q_evr (hT aT eaT).1
  have f7 := q_leCv ev4 (hT aT eaT).2
  refine q_ok_at hG hl2 rfl (fun a8 ma8 ra8 ea8 => ?_)
  refine q_ok_if (q_inV (g_16_N hG ma8 ra8) q_evr (by omega) (by omega)) ?_
  have hG := u_16_E (k := (l7).toNatClampNeg) (x := l6) hG ma8 ra8 (by decide)
  have e9 : q_J (q_sI (S) a8 (l7).toNatClampNeg (l6)) aT 3 = q_J (S) aT 3 := q_skJI
  obtain ⟨v10, ev10⟩ := q_ev ((q_J (q_sI (S) a8 (l7).toNatClampNeg (l6)) aT 3).toInt)
  have f11 : v10 = v2 := q_eqVJ e9 ev10 ev2
  obtain ⟨v12, ev12⟩ := q_ev ((l7 + (1)).toInt)
  have f13 : v12 = l7.toInt + (1) := q_addVI ev12 q_evr (show q_eqv ((1 : Int32)).toInt (1) by unfold q_eqv; decide) (by omega) (by omega)
  exact hk6 _ _ _ _ _ _ _ _ hG hl0 hl1 hl2 (q_wd hl4 (by decide) (by decide)) (q_wd hl5 (by decide) (by decide)) (q_wd (q_addBI (1) (120) hl7 (show (1 : Int) ≤ (1 : Int32).toInt ∧ (1 : Int32).toInt ≤ (1 : Int) by decide) (by decide) (by decide) (by decide) (by decide)) (by decide) (by decide)) (q_trE eaT maT raT) (q_trk eaT ⟨q_le3 (K9 := 4) (E9 := 0) ev10 ev4 ev12 (by omega), q_leC ev4 (by omega)⟩) (by first | rfl | exact hd)  (q_upVl ev12 (by omega))
set_option maxHeartbeats 4000000 in
set_option maxRecDepth 100000 in
theorem s_X3_takeAxis_15_32_16_6 {ρ : Nat → Nat} {L : List Nat} {n : Nat} (hn : 18446744073709551616 ≤ n) {dT : Option Nat} {S0 : q_S}  : ∀ (k : Nat) (S : q_S) (l0 : Option Nat) (l1 : Option Nat) (l2 : Option Nat) (l4 : Int32) (l5 : Int32) (l6 : Int32) (l7 : Int32), q_G ρ L M_X3_takeAxis_15_32_16 S0 S → q_tr ρ L l0 15 → q_tr ρ L l1 32 → q_tr ρ L l2 16 → (2 ≤ l4.toInt ∧ l4.toInt ≤ 2) → (16 ≤ l5.toInt ∧ l5.toInt ≤ 16) → (0 ≤ l7.toInt ∧ l7.toInt ≤ 120) → q_tr ρ L dT 32 → (∀ a, dT = some a → (q_J S a 3).toInt ≤ (q_J S0 a 3).toInt + 4 * l7.toInt + 0 ∧ (q_J S0 a 3).toInt ≤ 140737555464192) → l1 = dT → 2147483648 - l7.toInt ≤ (k : Int) → q_ok (m_X3_takeAxis_6 n k S l0 l1 l2 l4 l5 l6 l7) (fun _ T => q_G ρ L M_X3_takeAxis_15_32_16 S0 T ∧ q_sm (∀ a, dT = some a → (q_J T a 3).toInt ≤ (q_J S0 a 3).toInt + 600)) := by
  intro k
  induction k with
  | zero =>
    intro S l0 l1 l2 l4 l5 l6 l7 hG hl0 hl1 hl2 hl4 hl5 hl7 htT hT hd hm
    have f0 := q_rngI l7
    exfalso; omega
  | succ k ih =>
    intro S l0 l1 l2 l4 l5 l6 l7 hG hl0 hl1 hl2 hl4 hl5 hl7 htT hT hd hm
    rw [m_X3_takeAxis_6]
    have z0 : (0 : Int32).toInt = 0 := rfl
    subst hd
    obtain ⟨aT, eaT, maT, raT⟩ := id htT
    have f1 : q_sm _ := g_32_J3 hG maT raT
    obtain ⟨v2, ev2⟩ := q_ev ((q_J (S) aT 3).toInt)
    have f3 := q_bV ev2 f1
    obtain ⟨v4, ev4⟩ := q_ev ((q_J (S0) aT 3).toInt)
    have f5 := q_rVJ (X := q_J (S0) aT 3) ev4
    have f6 := q_le3v (K9 := 4) (E9 := 0) ev2 ev4 q_evr (hT aT eaT).1
    have f7 := q_leCv ev4 (hT aT eaT).2
    refine q_ok_at hG hl0 rfl (fun a8 ma8 ra8 ea8 => ?_)
    have f9 : q_sm _ := g_15_I4 hG ma8 ra8
    obtain ⟨v10, ev10⟩ := q_ev ((q_I (S) a8 4).toInt)
    have f11 := q_bV ev10 f9
    refine q_ok_ite (fun g12 => ?_) (fun g12 => ?_)
    · have f13 := q_leV ev10 q_evr (q_p_ge g12)
      exact q_ok_some ⟨hG, (q_trk eaT (q_leD ev2 ev4 (by omega)))⟩
    · have f14 := q_ltV q_evr ev10 (q_n_ge g12)
      have t15 := g_15_R2 hG ma8 ra8
      refine q_ok_at hG t15 rfl (fun a16 ma16 ra16 ea16 => ?_)
      refine q_ok_if (q_inV (g_18_N hG ma16 ra16) q_evr (by omega) (by omega)) ?_
      have f17 : q_sm _ := g_18_E hG ma16 ra16 (k := (l7).toNatClampNeg)
      obtain ⟨v18, ev18⟩ := q_ev (((q_I (S) a16 (l7).toNatClampNeg) &&& l5).toInt)
      have f19 := q_andRVI ev18 q_evr (by omega)
      refine q_ok_ite (fun g20 => ?_) (fun g20 => ?_)
      · have f21 := q_eqV ev18 (show q_eqv ((0 : Int32)).toInt (0) by unfold q_eqv; decide) (q_p_eq g20)
        unfold m_X3_takeAxis_33
        refine q_ok_atA hG ea8 ma8 ra8 rfl ?_
        have t22 := g_15_R2 hG ma8 ra8
        refine q_ok_atA hG ea16 ma16 ra16 rfl ?_
        refine q_ok_if (q_inV (g_18_N hG ma16 ra16) q_evr (by omega) (by omega)) ?_
        obtain ⟨v23, ev23⟩ := q_ev (((q_I (S) a16 (l7).toNatClampNeg) &&& l4).toInt)
        have f24 := q_andRVI ev23 q_evr (by omega)
        refine q_ok_ite (fun g25 => ?_) (fun g25 => ?_)
        · have f26 := q_eqV ev23 (show q_eqv ((0 : Int32)).toInt (0) by unfold q_eqv; decide) (q_p_eq g25)
          refine q_ok_ite (fun g27 => ?_) (fun g27 => ?_)
          · have f28 := q_eqV (show q_eqv ((0 : Int32)).toInt (0) by unfold q_eqv; decide) (show q_eqv ((0 : Int32)).toInt (0) by unfold q_eqv; decide) (q_p_eq g27)
            refine q_ok_atA hG eaT maT raT rfl ?_
            refine q_ok_b (s_X1_signedTwo_32 hn hG.1 maT raT (q_leC ev2 (by omega))) (fun r29 S30 h31 => ?_)
            have hG := q_G_call hG h31.1 (by decide)
            have f32 := h31.2.1
            have f33 : q_sm _ := g_32_J3 hG maT raT
            obtain ⟨v34, ev34⟩ := q_ev ((q_J (S30) aT 3).toInt)
            have f35 := q_bV ev34 f33
            have f36 := q_leDv ev34 ev2 (h31.2.2)
            exact s_X3_takeAxis_15_32_16_89 hn (B6 := (k : Int) + 1) (fun S9 z0 z1 z2 z3 z4 z5 z6 hG9 hz0 hz1 hz2 hz3 hz4 hz6 hzt hzT hzd  hm9 => ih S9 z0 z1 z2 z3 z4 z5 z6 hG9 hz0 hz1 hz2 hz3 hz4 hz6 hzt hzT hzd  (by omega)) _ _ _ _ _ _ _ _ hG hl0 hl1 hl2 (q_wd hl4 (by decide) (by decide)) (q_wd hl5 (by decide) (by decide)) (q_oV q_evr (by omega) (by omega)) (q_trE eaT maT raT) (q_trk eaT ⟨q_le3 (K9 := 4) (E9 := 4) ev34 ev4 q_evr (by omega), q_leC ev4 (by omega)⟩) (by first | rfl | exact hd) (q_upV q_evr (by omega))
          · have f37 := q_neV (show q_eqv ((0 : Int32)).toInt (0) by unfold q_eqv; decide) (show q_eqv ((0 : Int32)).toInt (0) by unfold q_eqv; decide) (q_n_eq g27)
            exfalso; omega
        · have f38 := q_neV ev23 (show q_eqv ((0 : Int32)).toInt (0) by unfold q_eqv; decide) (q_n_eq g25)
          refine q_ok_atA hG eaT maT raT rfl ?_
          refine q_ok_b (s_X1_one_32 hn hG.1 maT raT (q_leC ev2 (by omega))) (fun r39 S40 h41 => ?_)
          have hG := q_G_call hG h41.1 (by decide)
          have f42 := h41.2.1
          have f43 : q_sm _ := g_32_J3 hG maT raT
          obtain ⟨v44, ev44⟩ := q_ev ((q_J (S40) aT 3).toInt)
          have f45 := q_bV ev44 f43
          have f46 := q_leDv ev44 ev2 (h41.2.2)
          refine q_ok_ite (fun g47 => ?_) (fun g47 => ?_)
          · have f48 := q_eqV (show q_eqv ((0 : Int32)).toInt (0) by unfold q_eqv; decide) (show q_eqv ((0 : Int32)).toInt (0) by unfold q_eqv; decide) (q_p_eq g47)
            unfold m_X3_takeAxis_69
            exact s_X3_takeAxis_15_32_16_89 hn (B6 := (k : Int) + 1) (fun S9 z0 z1 z2 z3 z4 z5 z6 hG9 hz0 hz1 hz2 hz3 hz4 hz6 hzt hzT hzd  hm9 => ih S9 z0 z1 z2 z3 z4 z5 z6 hG9 hz0 hz1 hz2 hz3 hz4 hz6 hzt hzT hzd  (by omega)) _ _ _ _ _ _ _ _ hG hl0 hl1 hl2 (q_wd hl4 (by decide) (by decide)) (q_wd hl5 (by decide) (by decide)) (q_oV q_evr (by omega) (by omega)) (q_trE eaT maT raT) (q_trk eaT ⟨q_le3 (K9 := 4) (E9 := 4) ev44 ev4 q_evr (by omega), q_leC ev4 (by omega)⟩) (by first | rfl | exact hd) (q_upV q_evr (by omega))
          · have f49 := q_neV (show q_eqv ((0 : Int32)).toInt (0) by unfold q_eqv; decide) (show q_eqv ((0 : Int32)).toInt (0) by unfold q_eqv; decide) (q_n_eq g47)
            exfalso; omega
      · have f50 := q_neV ev18 (show q_eqv ((0 : Int32)).toInt (0) by unfold q_eqv; decide) (q_n_eq g20)
        unfold m_X3_takeAxis_33
        refine q_ok_atA hG ea8 ma8 ra8 rfl ?_
        have t51 := g_15_R2 hG ma8 ra8
        refine q_ok_atA hG ea16 ma16 ra16 rfl ?_
        refine q_ok_if (q_inV (g_18_N hG ma16 ra16) q_evr (by omega) (by omega)) ?_
        obtain ⟨v52, ev52⟩ := q_ev (((q_I (S) a16 (l7).toNatClampNeg) &&& l4).toInt)
        have f53 := q_andRVI ev52 q_evr (by omega)
        refine q_ok_ite (fun g54 => ?_) (fun g54 => ?_)
        · have f55 := q_eqV ev52 (show q_eqv ((0 : Int32)).toInt (0) by unfold q_eqv; decide) (q_p_eq g54)
          refine q_ok_ite (fun g56 => ?_) (fun g56 => ?_)
          · have f57 := q_eqV (show q_eqv ((1 : Int32)).toInt (1) by unfold q_eqv; decide) (show q_eqv ((0 : Int32)).toInt (0) by unfold q_eqv; decide) (q_p_eq g56)
            exfalso; omega
          · have f58 := q_neV (show q_eqv ((1 : Int32)).toInt (1) by unfold q_eqv; decide) (show q_eqv ((0 : Int32)).toInt (0) by unfold q_eqv; decide) (q_n_eq g56)
            exact s_X3_takeAxis_15_32_16_89 hn (B6 := (k : Int) + 1) (fun S9 z0 z1 z2 z3 z4 z5 z6 hG9 hz0 hz1 hz2 hz3 hz4 hz6 hzt hzT hzd  hm9 => ih S9 z0 z1 z2 z3 z4 z5 z6 hG9 hz0 hz1 hz2 hz3 hz4 hz6 hzt hzT hzd  (by omega)) _ _ _ _ _ _ _ _ hG hl0 hl1 hl2 (q_wd hl4 (by decide) (by decide)) (q_wd hl5 (by decide) (by decide)) (q_oV q_evr (by omega) (by omega)) (q_trE eaT maT raT) (q_trk eaT ⟨q_le3 (K9 := 4) (E9 := 4) ev2 ev4 q_evr (by omega), q_leC ev4 (by omega)⟩) (by first | rfl | exact hd) (q_upV q_evr (by omega))
        · have f59 := q_neV ev52 (show q_eqv ((0 : Int32)).toInt (0) by unfold q_eqv; decide) (q_n_eq g54)
          refine q_ok_atA hG eaT maT raT rfl ?_
          refine q_ok_b (s_X1_one_32 hn hG.1 maT raT (q_leC ev2 (by omega))) (fun r60 S61 h62 => ?_)
          have hG := q_G_call hG h62.1 (by decide)
          have f63 := h62.2.1
          have f64 : q_sm _ := g_32_J3 hG maT raT
          obtain ⟨v65, ev65⟩ := q_ev ((q_J (S61) aT 3).toInt)
          have f66 := q_bV ev65 f64
          have f67 := q_leDv ev65 ev2 (h62.2.2)
          refine q_ok_ite (fun g68 => ?_) (fun g68 => ?_)
          · have f69 := q_eqV (show q_eqv ((1 : Int32)).toInt (1) by unfold q_eqv; decide) (show q_eqv ((0 : Int32)).toInt (0) by unfold q_eqv; decide) (q_p_eq g68)
            exfalso; omega
          · have f70 := q_neV (show q_eqv ((1 : Int32)).toInt (1) by unfold q_eqv; decide) (show q_eqv ((0 : Int32)).toInt (0) by unfold q_eqv; decide) (q_n_eq g68)
            unfold m_X3_takeAxis_69
            exact s_X3_takeAxis_15_32_16_89 hn (B6 := (k : Int) + 1) (fun S9 z0 z1 z2 z3 z4 z5 z6 hG9 hz0 hz1 hz2 hz3 hz4 hz6 hzt hzT hzd  hm9 => ih S9 z0 z1 z2 z3 z4 z5 z6 hG9 hz0 hz1 hz2 hz3 hz4 hz6 hzt hzT hzd  (by omega)) _ _ _ _ _ _ _ _ hG hl0 hl1 hl2 (q_wd hl4 (by decide) (by decide)) (q_wd hl5 (by decide) (by decide)) (q_oV q_evr (by omega) (by omega)) (q_trE eaT maT raT) (q_trk eaT ⟨q_le3 (K9 := 4) (E9 := 4) ev65 ev4 q_evr (by omega), q_leC ev4 (by omega)⟩) (by first | rfl | exact hd) (q_upV q_evr (by omega))
set_option maxHeartbeats 4000000 in
set_option maxRecDepth 100000 in
theorem s_X3_takeAxis_15_32_16 {ρ : Nat → Nat} {L : List Nat} {n : Nat} (hn : 18446744073709551616 ≤ n) {S : q_S} (hI : q_Inv ρ L S) {o : Nat} (mo : o ∈ L) (ro : ρ o = 15) {p0 : Option Nat} (tp0 : q_tr ρ L p0 32) {p1 : Option Nat} (tp1 : q_tr ρ L p1 16) {p2 : Int32} (hp2 : (0 ≤ p2.toInt ∧ p2.toInt ≤ 120)) {p3 : Int32} (hp3 : (2 ≤ p3.toInt ∧ p3.toInt ≤ 2)) {p4 : Int32} (hp4 : (16 ≤ p4.toInt ∧ p4.toInt ≤ 16)) (ht : ∀ a, p0 = some a → (q_J S a 3).toInt ≤ 140737555464192) : q_ok (m_X3_takeAxis n S o p0 p1 p2 p3 p4) (fun _ T => q_G ρ L M_X3_takeAxis_15_32_16 S T ∧ q_sm (∀ a, p0 = some a → (q_J T a 3).toInt ≤ (q_J S a 3).toInt + 600)) := by
  have hG : q_G ρ L M_X3_takeAxis_15_32_16 S S := q_G_refl hI
  unfold m_X3_takeAxis
  have z0 : (0 : Int32).toInt = 0 := rfl
  obtain ⟨aT, eaT, maT, raT⟩ := id tp0
  have f1 : q_sm _ := g_32_J3 hG maT raT
  obtain ⟨v2, ev2⟩ := q_ev ((q_J (S) aT 3).toInt)
  have f3 := q_bV ev2 f1
  have f4 := q_leCv ev2 (ht aT eaT)
  exact s_X3_takeAxis_15_32_16_6 hn n _ _ _ _ _ _ _ _ hG (q_trI mo ro) tp0 tp1 (q_wd hp3 (by decide) (by decide)) (q_wd hp4 (by decide) (by decide)) (q_wd hp2 (by decide) (by decide)) (q_trE eaT maT raT) (q_trk eaT ⟨q_le3 (K9 := 4) (E9 := 0) ev2 ev2 q_evr (by omega), q_leC ev2 (by omega)⟩) (by first | rfl | exact hd)  (q_upV q_evr (by omega))
