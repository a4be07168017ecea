def M_X3_takeContours_15_35 : List Nat := [964, 965, 1216, 2242, 2243]
set_option maxHeartbeats 4000000 in
set_option maxRecDepth 100000 in
theorem s_X3_takeContours_15_35_62 {ρ : Nat → Nat} {L : List Nat} {n : Nat} (hn : 18446744073709551616 ≤ n) {dT : Option Nat} {S0 : q_S}  (S : q_S) (hG : q_G ρ L M_X3_takeContours_15_35 S0 S) (htT : q_tr ρ L dT 35) (hT : (∀ a, dT = some a → (q_J S a 3).toInt ≤ (q_J S0 a 3).toInt + 0 * (0 : Int32).toInt + 140000 ∧ (q_J S0 a 3).toInt ≤ 140737555464192)) : q_ok (m_X3_takeContours_62 n S) (fun r T => q_G ρ L M_X3_takeContours_15_35 S0 T ∧ (0 ≤ r.toInt ∧ r.toInt ≤ 1) ∧ q_sm (∀ a, dT = some a → (q_J T a 3).toInt ≤ (q_J S0 a 3).toInt + 140000)) := by
  unfold m_X3_takeContours_62
  have z0 : (0 : Int32).toInt = 0 := rfl
  obtain ⟨aT, eaT, maT, raT⟩ := id htT
  have f1 : q_sm _ := g_35_J3 hG maT raT
  obtain ⟨v2, ev2⟩ := q_ev ((q_J (S) aT 3).toInt)
  have f3 := q_bV ev2 f1
  obtain ⟨v4, ev4⟩ := q_ev ((q_J (S0) aT 3).toInt)
  have f5 := q_rVJ (X := q_J (S0) aT 3) ev4
  have f6 := q_le3v (K9 := 0) (E9 := 140000) ev2 ev4 (show q_eqv ((0 : Int32)).toInt (0) by unfold q_eqv; decide) (hT aT eaT).1
  have f7 := q_leCv ev4 (hT aT eaT).2
  refine q_ok_if (q_b01V (show q_eqv ((0 : Int32)).toInt (0) by unfold q_eqv; decide) (by omega) (by omega)) ?_
  exact q_ok_some ⟨hG, (q_wd (show (0 : Int) ≤ (0 : Int32).toInt ∧ (0 : Int32).toInt ≤ (0 : Int) by decide) (by decide) (by decide)), (q_trk eaT (q_leD ev2 ev4 (by omega)))⟩
set_option maxHeartbeats 4000000 in
set_option maxRecDepth 100000 in
theorem s_X3_takeContours_15_35_45 {ρ : Nat → Nat} {L : List Nat} {n : Nat} (hn : 18446744073709551616 ≤ n) {dT : Option Nat} {S0 : q_S}  {k2 : q_S → Option Nat → Option Nat → Int32 → Int32 → Option (Int32 × q_S)} {B2 : Int} (hk2 : ∀ (S : q_S) (z0 : Option Nat) (z1 : Option Nat) (z2 : Int32) (z3 : Int32), q_G ρ L M_X3_takeContours_15_35 S0 S → q_tr ρ L z0 15 → q_tr ρ L z1 35 → (0 ≤ z2.toInt ∧ z2.toInt ≤ 120) → (0 ≤ z3.toInt ∧ z3.toInt ≤ 65535) → q_tr ρ L dT 35 → (∀ a, dT = some a → (q_J S a 3).toInt ≤ (q_J S0 a 3).toInt + 2 * z3.toInt + 0 ∧ (q_J S0 a 3).toInt ≤ 140737555464192) → z1 = dT → 2147483648 - z3.toInt < B2 → q_ok (k2 S z0 z1 z2 z3) (fun r T => q_G ρ L M_X3_takeContours_15_35 S0 T ∧ (0 ≤ r.toInt ∧ r.toInt ≤ 1) ∧ q_sm (∀ a, dT = some a → (q_J T a 3).toInt ≤ (q_J S0 a 3).toInt + 140000))) (S : q_S) (l0 : Option Nat) (l1 : Option Nat) (l2 : Int32) (l3 : Int32) (l4 : Int32) (hG : q_G ρ L M_X3_takeContours_15_35 S0 S) (hl0 : q_tr ρ L l0 15) (hl1 : q_tr ρ L l1 35) (hl2 : (0 ≤ l2.toInt ∧ l2.toInt ≤ 120)) (hl3 : (0 ≤ l3.toInt ∧ l3.toInt ≤ 65535)) (hl4 : (0 ≤ l4.toInt ∧ l4.toInt ≤ 65655)) (htT : q_tr ρ L dT 35) (hT : (∀ a, dT = some a → (q_J S a 3).toInt ≤ (q_J S0 a 3).toInt + 2 * l3.toInt + 2 ∧ (q_J S0 a 3).toInt ≤ 140737555464192)) (hd : l1 = dT) (hm2 : 2147483648 - l3.toInt ≤ B2) : q_ok (m_X3_takeContours_45 n k2 S l0 l1 l2 l3 l4) (fun r T => q_G ρ L M_X3_takeContours_15_35 S0 T ∧ (0 ≤ r.toInt ∧ r.toInt ≤ 1) ∧ q_sm (∀ a, dT = some a → (q_J T a 3).toInt ≤ (q_J S0 a 3).toInt + 140000)) := by
  unfold m_X3_takeContours_45
  have z0 : (0 : Int32).toInt = 0 := rfl
  subst hd
  obtain ⟨aT, eaT, maT, raT⟩ := id htT
  have f1 : q_sm _ := g_35_J3 hG maT raT
  obtain ⟨v2, ev2⟩ := q_ev ((q_J (S) aT 3).toInt)
  have f3 := q_bV ev2 f1
  obtain ⟨v4, ev4⟩ := q_ev ((q_J (S0) aT 3).toInt)
  have f5 := q_rVJ (X := q_J (S0) aT 3) ev4
  have f6 := q_le3v (K9 := 2) (E9 := 2) ev2 ev4 q_evr (hT aT eaT).1
  have f7 := q_leCv ev4 (hT aT eaT).2
  unfold m_X3_takeContours_46
  refine q_ok_ite (fun g8 => ?_) (fun g8 => ?_)
  · have f9 := q_eqV (show q_eqv ((0 : Int32)).toInt (0) by unfold q_eqv; decide) (show q_eqv ((0 : Int32)).toInt (0) by unfold q_eqv; decide) (q_p_eq g8)
    exact s_X3_takeContours_15_35_62 hn _ hG (q_trE eaT maT raT) (q_trk eaT ⟨q_le3 (K9 := 0) (E9 := 140000) ev2 ev4 (show q_eqv ((0 : Int32)).toInt (0) by unfold q_eqv; decide) (by omega), q_leC ev4 (by omega)⟩) 
  · have f10 := q_neV (show q_eqv ((0 : Int32)).toInt (0) by unfold q_eqv; decide) (show q_eqv ((0 : Int32)).toInt (0) by unfold q_eqv; decide) (q_n_eq g8)
    exfalso; omega
set_option maxHeartbeats 4000000 in
set_option maxRecDepth 100000 in
theorem s_X3_takeContours_15_35_2 {ρ : Nat → Nat} {L : List Nat} {n : Nat} (hn : 18446744073709551616 ≤ n) {dT : Option Nat} {S0 : q_S}  : ∀ (k : Nat) (S : q_S) (l0 : Option Nat) (l1 : Option Nat) (l2 : Int32) (l3 : Int32), q_G ρ L M_X3_takeContours_15_35 S0 S → q_tr ρ L l0 15 → q_tr ρ L l1 35 → (0 ≤ l2.toInt ∧ l2.toInt ≤ 120) → (0 ≤ l3.toInt ∧ l3.toInt ≤ 65535) → q_tr ρ L dT 35 → (∀ a, dT = some a → (q_J S a 3).toInt ≤ (q_J S0 a 3).toInt + 2 * l3.toInt + 0 ∧ (q_J S0 a 3).toInt ≤ 140737555464192) → l1 = dT → 2147483648 - l3.toInt ≤ (k : Int) → q_ok (m_X3_takeContours_2 n k S l0 l1 l2 l3) (fun r T => q_G ρ L M_X3_takeContours_15_35 S0 T ∧ (0 ≤ r.toInt ∧ r.toInt ≤ 1) ∧ q_sm (∀ a, dT = some a → (q_J T a 3).toInt ≤ (q_J S0 a 3).toInt + 140000)) := by
  intro k
  induction k with
  | zero =>
    intro S l0 l1 l2 l3 hG hl0 hl1 hl2 hl3 htT hT hd hm
    have f0 := q_rngI l3
    exfalso; omega
  | succ k ih =>
    intro S l0 l1 l2 l3 hG hl0 hl1 hl2 hl3 htT hT hd hm
    rw [m_X3_takeContours_2]
    have z0 : (0 : Int32).toInt = 0 := rfl
    subst hd
    obtain ⟨aT, eaT, maT, raT⟩ := id htT
    have f1 : q_sm _ := g_35_J3 hG maT raT
    obtain ⟨v2, ev2⟩ := q_ev ((q_J (S) aT 3).toInt)
    have f3 := q_bV ev2 f1
    obtain ⟨v4, ev4⟩ := q_ev ((q_J (S0) aT 3).toInt)
    have f5 := q_rVJ (X := q_J (S0) aT 3) ev4
    have f6 := q_le3v (K9 := 2) (E9 := 0) ev2 ev4 q_evr (hT aT eaT).1
    have f7 := q_leCv ev4 (hT aT eaT).2
    refine q_ok_atA hG eaT maT raT rfl ?_
    have f8 : q_sm _ := g_35_I5 hG maT raT
    obtain ⟨v9, ev9⟩ := q_ev ((q_I (S) aT 5).toInt)
    have f10 := q_bV ev9 f8
    refine q_ok_ite (fun g11 => ?_) (fun g11 => ?_)
    · have f12 := q_leV ev9 q_evr (q_p_ge g11)
      refine q_ok_if (q_b01V (show q_eqv ((1 : Int32)).toInt (1) by unfold q_eqv; decide) (by omega) (by omega)) ?_
      exact q_ok_some ⟨hG, (q_wd (show (1 : Int) ≤ (1 : Int32).toInt ∧ (1 : Int32).toInt ≤ (1 : Int) by decide) (by decide) (by decide)), (q_trk eaT (q_leD ev2 ev4 (by omega)))⟩
    · have f13 := q_ltV q_evr ev9 (q_n_ge g11)
      refine q_ok_b (s_X1_two_35 hn hG.1 maT raT (q_leC ev2 (by omega))) (fun r14 S15 h16 => ?_)
      have hG := q_G_call hG h16.1 (by decide)
      have f17 := h16.2.1
      have f18 : q_sm _ := g_35_J3 hG maT raT
      obtain ⟨v19, ev19⟩ := q_ev ((q_J (S15) aT 3).toInt)
      have f20 := q_bV ev19 f18
      have f21 := q_leDv ev19 ev2 (h16.2.2)
      refine q_ok_atA hG eaT maT raT rfl ?_
      refine q_ok_b (s_X1_isPast_35 hn hG.1 maT raT) (fun r22 S23 h24 => ?_)
      obtain ⟨eS23, h24⟩ := h24
      replace eS23 := eS23.symm
      subst eS23
      have f25 := h24
      refine q_ok_ite (fun g26 => ?_) (fun g26 => ?_)
      · have f27 := q_eqV q_evr (show q_eqv ((0 : Int32)).toInt (0) by unfold q_eqv; decide) (q_p_eq g26)
        refine q_ok_at hG hl0 rfl (fun a28 ma28 ra28 ea28 => ?_)
        have f29 : q_sm _ := g_15_I4 hG ma28 ra28
        obtain ⟨v30, ev30⟩ := q_ev ((l2 + r14).toInt)
        have f31 : v30 = l2.toInt + r14.toInt := q_addVI ev30 q_evr q_evr (by omega) (by omega)
        obtain ⟨v32, ev32⟩ := q_ev ((q_I (S15) a28 4).toInt)
        have f33 := q_bV ev32 f29
        refine q_ok_ite (fun g34 => ?_) (fun g34 => ?_)
        · have f35 := q_ltV ev30 ev32 (q_p_lt g34)
          exact s_X3_takeContours_15_35_45 hn (B2 := (k : Int) + 1) (fun S9 z0 z1 z2 z3 hG9 hz0 hz1 hz2 hz3 hzt hzT hzd  hm9 => ih S9 z0 z1 z2 z3 hG9 hz0 hz1 hz2 hz3 hzt hzT hzd  (by omega)) _ _ _ _ _ _ hG hl0 hl1 (q_wd hl2 (by decide) (by decide)) (q_wd hl3 (by decide) (by decide)) (q_wd (q_addBI (0) (65655) hl2 f17 (by decide) (by decide) (by decide) (by decide)) (by decide) (by decide)) (q_trE eaT maT raT) (q_trk eaT ⟨q_le3 (K9 := 2) (E9 := 2) ev19 ev4 q_evr (by omega), q_leC ev4 (by omega)⟩) (by first | rfl | exact hd) (q_upV q_evr (by omega))
        · have f36 := q_leV ev32 ev30 (q_n_lt g34)
          refine q_ok_ite (fun g37 => ?_) (fun g37 => ?_)
          · have f38 := q_leV (show q_eqv ((120 : Int32)).toInt (120) by unfold q_eqv; decide) ev30 (q_p_ge g37)
            exact s_X3_takeContours_15_35_45 hn (B2 := (k : Int) + 1) (fun S9 z0 z1 z2 z3 hG9 hz0 hz1 hz2 hz3 hzt hzT hzd  hm9 => ih S9 z0 z1 z2 z3 hG9 hz0 hz1 hz2 hz3 hzt hzT hzd  (by omega)) _ _ _ _ _ _ hG hl0 hl1 (q_wd hl2 (by decide) (by decide)) (q_wd hl3 (by decide) (by decide)) (q_wd (q_addBI (0) (65655) hl2 f17 (by decide) (by decide) (by decide) (by decide)) (by decide) (by decide)) (q_trE eaT maT raT) (q_trk eaT ⟨q_le3 (K9 := 2) (E9 := 2) ev19 ev4 q_evr (by omega), q_leC ev4 (by omega)⟩) (by first | rfl | exact hd) (q_upV q_evr (by omega))
          · have f39 := q_ltV ev30 (show q_eqv ((120 : Int32)).toInt (120) by unfold q_eqv; decide) (q_n_ge g37)
            unfold m_X3_takeContours_46
            refine q_ok_ite (fun g40 => ?_) (fun g40 => ?_)
            · have f41 := q_eqV (show q_eqv ((1 : Int32)).toInt (1) by unfold q_eqv; decide) (show q_eqv ((0 : Int32)).toInt (0) by unfold q_eqv; decide) (q_p_eq g40)
              exfalso; omega
            · have f42 := q_neV (show q_eqv ((1 : Int32)).toInt (1) by unfold q_eqv; decide) (show q_eqv ((0 : Int32)).toInt (0) by unfold q_eqv; decide) (q_n_eq g40)
              refine q_ok_atA hG ea28 ma28 ra28 rfl ?_
              have f43 : q_sm _ := g_15_I5 hG ma28 ra28
              obtain ⟨v44, ev44⟩ := q_ev ((q_I (S15) a28 5).toInt)
              have f45 := q_bV ev44 f43
              refine q_ok_ite (fun g46 => ?_) (fun g46 => ?_)
              · have f47 := q_ltV ev44 (show q_eqv ((120 : Int32)).toInt (120) by unfold q_eqv; decide) (q_p_lt g46)
                have t48 := g_15_R3 hG ma28 ra28
                refine q_ok_at hG t48 rfl (fun a49 ma49 ra49 ea49 => ?_)
                refine q_ok_if (q_inV (g_19_N hG ma49 ra49) ev44 (by omega) (by omega)) ?_
                have hG := u_19_E (k := (q_I (S15) a28 5).toNatClampNeg) (x := l2 + r14) hG ma49 ra49 (by decide) (q_oV ev30 (by omega) (by omega))
                have f50 : q_sm _ := g_15_I5 hG ma28 ra28
                have e51 : q_I (q_sI (S15) a49 (q_I (S15) a28 5).toNatClampNeg (l2 + r14)) a28 5 = q_I (S15) a28 5 := (q_fwI ra28 ra49 (by decide))
                obtain ⟨v52, ev52⟩ := q_ev (((q_I (q_sI (S15) a49 (q_I (S15) a28 5).toNatClampNeg (l2 + r14)) a28 5) + (1 : Int32)).toInt)
                obtain ⟨v53, ev53⟩ := q_ev ((q_I (q_sI (S15) a49 (q_I (S15) a28 5).toNatClampNeg (l2 + r14)) a28 5).toInt)
                have f54 : v53 = v44 := q_eqVI e51 ev53 ev44
                have f55 : v52 = v53 + (1) := q_addVI ev52 ev53 (show q_eqv ((1 : Int32)).toInt (1) by unfold q_eqv; decide) (by omega) (by omega)
                have hG := u_15_I5 (x := (q_I (q_sI (S15) a49 (q_I (S15) a28 5).toNatClampNeg (l2 + r14)) a28 5) + (1 : Int32)) hG ma28 ra28 (by decide) (q_oV ev52 (by omega) (by omega))
                refine q_ok_let (fun S56 eS56 => ?_)
                rw [← eS56] at hG
                obtain ⟨v57, ev57⟩ := q_ev (((l2 + r14) + (1 : Int32)).toInt)
                have f58 : v57 = v30 + (1) := q_addVI ev57 ev30 (show q_eqv ((1 : Int32)).toInt (1) by unfold q_eqv; decide) (by omega) (by omega)
                have hG := u_15_I4 (x := (l2 + r14) + (1 : Int32)) hG ma28 ra28 (by decide) (q_oV ev57 (by omega) (by omega))
                obtain ⟨v59, ev59⟩ := q_ev ((l3 + (1)).toInt)
                have f60 : v59 = l3.toInt + (1) := q_addVI ev59 q_evr (show q_eqv ((1 : Int32)).toInt (1) by unfold q_eqv; decide) (by omega) (by omega)
                have e61 : q_J (q_sI (S56) a28 4 ((l2 + r14) + (1 : Int32))) aT 3 = q_J (S15) aT 3 := (Eq.trans q_skJI (Eq.trans (q_leJ eS56) (Eq.trans q_skJI q_skJI)))
                obtain ⟨v62, ev62⟩ := q_ev ((q_J (q_sI (S56) a28 4 ((l2 + r14) + (1 : Int32))) aT 3).toInt)
                have f63 : v62 = v19 := q_eqVJ e61 ev62 ev19
                exact ih _ _ _ _ _ hG hl0 hl1 (q_wd hl2 (by decide) (by decide)) (q_oV ev59 (by omega) (by omega)) (q_trE eaT maT raT) (q_trk eaT ⟨q_le3 (K9 := 2) (E9 := 0) ev62 ev4 ev59 (by omega), q_leC ev4 (by omega)⟩) (by first | rfl | exact hd)  (q_upV ev59 (by omega))
              · have f64 := q_leV (show q_eqv ((120 : Int32)).toInt (120) by unfold q_eqv; decide) ev44 (q_n_lt g46)
                exact s_X3_takeContours_15_35_62 hn _ hG (q_trE eaT maT raT) (q_trk eaT ⟨q_le3 (K9 := 0) (E9 := 140000) ev19 ev4 (show q_eqv ((0 : Int32)).toInt (0) by unfold q_eqv; decide) (by omega), q_leC ev4 (by omega)⟩) 
      · have f65 := q_neV q_evr (show q_eqv ((0 : Int32)).toInt (0) by unfold q_eqv; decide) (q_n_eq g26)
        exact s_X3_takeContours_15_35_45 hn (B2 := (k : Int) + 1) (fun S9 z0 z1 z2 z3 hG9 hz0 hz1 hz2 hz3 hzt hzT hzd  hm9 => ih S9 z0 z1 z2 z3 hG9 hz0 hz1 hz2 hz3 hzt hzT hzd  (by omega)) _ _ _ _ _ _ hG hl0 hl1 (q_wd hl2 (by decide) (by decide)) (q_wd hl3 (by decide) (by decide)) (q_wd (q_addBI (0) (65655) hl2 f17 (by decide) (by decide) (by decide) (by decide)) (by decide) (by decide)) (q_trE eaT maT raT) (q_trk eaT ⟨q_le3 (K9 := 2) (E9 := 2) ev19 ev4 q_evr (by omega), q_leC ev4 (by omega)⟩) (by first | rfl | exact hd) (q_upV q_evr (by omega))
set_option maxHeartbeats 4000000 in
set_option maxRecDepth 100000 in
theorem s_X3_takeContours_15_35 {ρ : Nat → Nat} {L : List Nat} {n : Nat} (hn : 18446744073709551616 ≤ n) {S : q_S} (hI : q_Inv ρ L S) {o : Nat} (mo : o ∈ L) (ro : ρ o = 15) {p0 : Option Nat} (tp0 : q_tr ρ L p0 35) {p1 : Int32} (hp1 : (0 ≤ p1.toInt ∧ p1.toInt ≤ 120)) (ht : ∀ a, p0 = some a → (q_J S a 3).toInt ≤ 140737555464192) : q_ok (m_X3_takeContours n S o p0 p1) (fun r T => q_G ρ L M_X3_takeContours_15_35 S T ∧ (0 ≤ r.toInt ∧ r.toInt ≤ 1) ∧ q_sm (∀ a, p0 = some a → (q_J T a 3).toInt ≤ (q_J S a 3).toInt + 140000)) := by
  have hG : q_G ρ L M_X3_takeContours_15_35 S S := q_G_refl hI
  unfold m_X3_takeContours
  have z0 : (0 : Int32).toInt = 0 := rfl
  obtain ⟨aT, eaT, maT, raT⟩ := id tp0
  have f1 : q_sm _ := g_35_J3 hG maT raT
  obtain ⟨v2, ev2⟩ := q_ev ((q_J (S) aT 3).toInt)
  have f3 := q_bV ev2 f1
  have f4 := q_leCv ev2 (ht aT eaT)
  exact s_X3_takeContours_15_35_2 hn n _ _ _ _ _ hG (q_trI mo ro) tp0 (q_wd hp1 (by decide) (by decide)) (q_wd (show (0 : Int) ≤ (0 : Int32).toInt ∧ (0 : Int32).toInt ≤ (0 : Int) by decide) (by decide) (by decide)) (q_trE eaT maT raT) (q_trk eaT ⟨q_le3 (K9 := 2) (E9 := 0) ev2 ev2 (show q_eqv ((0 : Int32)).toInt (0) by unfold q_eqv; decide) (by omega), q_leC ev2 (by omega)⟩) (by first | rfl | exact hd)  (q_upV (show q_eqv ((0 : Int32)).toInt (0) by unfold q_eqv; decide) (by omega))
def M_X3_takeFlags_15_35 : List Nat := [1152, 2242, 2243]
set_option maxHeartbeats 4000000 in
set_option maxRecDepth 100000 in
theorem s_X3_takeFlags_15_35_80 {ρ : Nat → Nat} {L : List Nat} {n : Nat} (hn : 18446744073709551616 ≤ n) {dT : Option Nat} {S0 : q_S}  (S : q_S) (hG : q_G ρ L M_X3_takeFlags_15_35 S0 S) (htT : q_tr ρ L dT 35) (hT : (∀ a, dT = some a → (q_J S a 3).toInt ≤ (q_J S0 a 3).toInt + 0 * (0 : Int32).toInt + 600 ∧ (q_J S0 a 3).toInt ≤ 140737555464192)) : q_ok (m_X3_takeFlags_80 n S) (fun r T => q_G ρ L M_X3_takeFlags_15_35 S0 T ∧ (0 ≤ r.toInt ∧ r.toInt ≤ 1) ∧ q_sm (∀ a, dT = some a → (q_J T a 3).toInt ≤ (q_J S0 a 3).toInt + 600)) := by
  unfold m_X3_takeFlags_80
  have z0 : (0 : Int32).toInt = 0 := rfl
  obtain ⟨aT, eaT, maT, raT⟩ := id htT
  have f1 : q_sm _ := g_35_J3 hG maT raT
  obtain ⟨v2, ev2⟩ := q_ev ((q_J (S) aT 3).toInt)
  have f3 := q_bV ev2 f1
  obtain ⟨v4, ev4⟩ := q_ev ((q_J (S0) aT 3).toInt)
  have f5 := q_rVJ (X := q_J (S0) aT 3) ev4
  have f6 := q_le3v (K9 := 0) (E9 := 600) ev2 ev4 (show q_eqv ((0 : Int32)).toInt (0) by unfold q_eqv; decide) (hT aT eaT).1
  have f7 := q_leCv ev4 (hT aT eaT).2
  unfold m_X3_takeFlags_81
  refine q_ok_if (q_b01V (show q_eqv ((0 : Int32)).toInt (0) by unfold q_eqv; decide) (by omega) (by omega)) ?_
  exact q_ok_some ⟨hG, (q_wd (show (0 : Int) ≤ (0 : Int32).toInt ∧ (0 : Int32).toInt ≤ (0 : Int) by decide) (by decide) (by decide)), (q_trk eaT (q_leD ev2 ev4 (by omega)))⟩
set_option maxHeartbeats 4000000 in
set_option maxRecDepth 100000 in
theorem s_X3_takeFlags_15_35_50 {ρ : Nat → Nat} {L : List Nat} {n : Nat} (hn : 18446744073709551616 ≤ n) {dT : Option Nat} {S0 : q_S}  {k8 : q_S → Option Nat → Option Nat → Int32 → Int32 → Int32 → Option (Int32 × q_S)} {B8 : Int} (hk8 : ∀ (S : q_S) (z0 : Option Nat) (z1 : Option Nat) (z2 : Int32) (z3 : Int32) (z4 : Int32), q_G ρ L M_X3_takeFlags_15_35 S0 S → q_tr ρ L z0 15 → q_tr ρ L z1 35 → (0 ≤ z2.toInt ∧ z2.toInt ≤ 65535) → (0 ≤ z3.toInt ∧ z3.toInt ≤ 65535) → (0 ≤ z4.toInt ∧ z4.toInt ≤ 120) → q_tr ρ L dT 35 → (∀ a, dT = some a → (q_J S a 3).toInt ≤ (q_J S0 a 3).toInt + 4 * z4.toInt + 0 ∧ (q_J S0 a 3).toInt ≤ 140737555464192) → z1 = dT → 2147483648 - z4.toInt < B8 → q_ok (k8 S z0 z1 z2 z3 z4) (fun r T => q_G ρ L M_X3_takeFlags_15_35 S0 T ∧ (0 ≤ r.toInt ∧ r.toInt ≤ 1) ∧ q_sm (∀ a, dT = some a → (q_J T a 3).toInt ≤ (q_J S0 a 3).toInt + 600))) (S : q_S) (l0 : Option Nat) (l1 : Option Nat) (l3 : Int32) (l4 : Int32) (l5 : Int32) (hG : q_G ρ L M_X3_takeFlags_15_35 S0 S) (hl0 : q_tr ρ L l0 15) (hl1 : q_tr ρ L l1 35) (hl3 : (0 ≤ l3.toInt ∧ l3.toInt ≤ 65535)) (hl4 : (0 ≤ l4.toInt ∧ l4.toInt ≤ 65535)) (hl5 : (0 ≤ l5.toInt ∧ l5.toInt ≤ 119)) (htT : q_tr ρ L dT 35) (hT : (∀ a, dT = some a → (q_J S a 3).toInt ≤ (q_J S0 a 3).toInt + 4 * l5.toInt + 4 ∧ (q_J S0 a 3).toInt ≤ 140737555464192)) (hd : l1 = dT) (hm8 : 2147483648 - l5.toInt ≤ B8) : q_ok (m_X3_takeFlags_50 n k8 S l0 l1 l3 l4 l5) (fun r T => q_G ρ L M_X3_takeFlags_15_35 S0 T ∧ (0 ≤ r.toInt ∧ r.toInt ≤ 1) ∧ q_sm (∀ a, dT = some a → (q_J T a 3).toInt ≤ (q_J S0 a 3).toInt + 600)) := by
  unfold m_X3_takeFlags_50
  have z0 : (0 : Int32).toInt = 0 := rfl
  subst hd
  obtain ⟨aT, eaT, maT, raT⟩ := id htT
  have f1 : q_sm _ := g_35_J3 hG maT raT
  obtain ⟨v2, ev2⟩ := q_ev ((q_J (S) aT 3).toInt)
  have f3 := q_bV ev2 f1
  obtain ⟨v4, ev4⟩ := q_ev ((q_J (S0) aT 3).toInt)
  have f5 := q_rVJ (X := q_J (S0) aT 3) ev4
  have f6 := q_le3v (K9 := 4) (E9 := 4) ev2 ev4 q_evr (hT aT eaT).1
  have f7 := q_leCv ev4 (hT aT eaT).2
  refine q_ok_at hG hl0 rfl (fun a8 ma8 ra8 ea8 => ?_)
  have t9 := g_15_R2 hG ma8 ra8
  refine q_ok_at hG t9 rfl (fun a10 ma10 ra10 ea10 => ?_)
  refine q_ok_if (q_inV (g_18_N hG ma10 ra10) q_evr (by omega) (by omega)) ?_
  have hG := u_18_E (k := (l5).toNatClampNeg) (x := l4) hG ma10 ra10 (by decide) (q_wd hl4 (by decide) (by decide))
  have e11 : q_J (q_sI (S) a10 (l5).toNatClampNeg (l4)) aT 3 = q_J (S) aT 3 := q_skJI
  obtain ⟨v12, ev12⟩ := q_ev ((q_J (q_sI (S) a10 (l5).toNatClampNeg (l4)) aT 3).toInt)
  have f13 : v12 = v2 := q_eqVJ e11 ev12 ev2
  obtain ⟨v14, ev14⟩ := q_ev ((l5 + (1)).toInt)
  have f15 : v14 = l5.toInt + (1) := q_addVI ev14 q_evr (show q_eqv ((1 : Int32)).toInt (1) by unfold q_eqv; decide) (by omega) (by omega)
  exact hk8 _ _ _ _ _ _ hG hl0 hl1 (q_wd hl3 (by decide) (by decide)) (q_wd hl4 (by decide) (by decide)) (q_wd (q_addBI (1) (120) hl5 (show (1 : Int) ≤ (1 : Int32).toInt ∧ (1 : Int32).toInt ≤ (1 : Int) by decide) (by decide) (by decide) (by decide) (by decide)) (by decide) (by decide)) (q_trE eaT maT raT) (q_trk eaT ⟨q_le3 (K9 := 4) (E9 := 0) ev12 ev4 ev14 (by omega), q_leC ev4 (by omega)⟩) (by first | rfl | exact hd)  (q_upVl ev14 (by omega))
set_option maxHeartbeats 4000000 in
set_option maxRecDepth 100000 in
theorem s_X3_takeFlags_15_35_8 {ρ : Nat → Nat} {L : List Nat} {n : Nat} (hn : 18446744073709551616 ≤ n) {dT : Option Nat} {S0 : q_S}  : ∀ (k : Nat) (S : q_S) (l0 : Option Nat) (l1 : Option Nat) (l3 : Int32) (l4 : Int32) (l5 : Int32), q_G ρ L M_X3_takeFlags_15_35 S0 S → q_tr ρ L l0 15 → q_tr ρ L l1 35 → (0 ≤ l3.toInt ∧ l3.toInt ≤ 65535) → (0 ≤ l4.toInt ∧ l4.toInt ≤ 65535) → (0 ≤ l5.toInt ∧ l5.toInt ≤ 120) → q_tr ρ L dT 35 → (∀ a, dT = some a → (q_J S a 3).toInt ≤ (q_J S0 a 3).toInt + 4 * l5.toInt + 0 ∧ (q_J S0 a 3).toInt ≤ 140737555464192) → l1 = dT → 2147483648 - l5.toInt ≤ (k : Int) → q_ok (m_X3_takeFlags_8 n k S l0 l1 l3 l4 l5) (fun r T => q_G ρ L M_X3_takeFlags_15_35 S0 T ∧ (0 ≤ r.toInt ∧ r.toInt ≤ 1) ∧ q_sm (∀ a, dT = some a → (q_J T a 3).toInt ≤ (q_J S0 a 3).toInt + 600)) := by
  intro k
  induction k with
  | zero =>
    intro S l0 l1 l3 l4 l5 hG hl0 hl1 hl3 hl4 hl5 htT hT hd hm
    have f0 := q_rngI l5
    exfalso; omega
  | succ k ih =>
    intro S l0 l1 l3 l4 l5 hG hl0 hl1 hl3 hl4 hl5 htT hT hd hm
    rw [m_X3_takeFlags_8]
    have z0 : (0 : Int32).toInt = 0 := rfl
    subst hd
    obtain ⟨aT, eaT, maT, raT⟩ := id htT
    have f1 : q_sm _ := g_35_J3 hG maT raT
    obtain ⟨v2, ev2⟩ := q_ev ((q_J (S) aT 3).toInt)
    have f3 := q_bV ev2 f1
    obtain ⟨v4, ev4⟩ := q_ev ((q_J (S0) aT 3).toInt)
    have f5 := q_rVJ (X := q_J (S0) aT 3) ev4
    have f6 := q_le3v (K9 := 4) (E9 := 0) ev2 ev4 q_evr (hT aT eaT).1
    have f7 := q_leCv ev4 (hT aT eaT).2
    refine q_ok_at hG hl0 rfl (fun a8 ma8 ra8 ea8 => ?_)
    have f9 : q_sm _ := g_15_I4 hG ma8 ra8
    obtain ⟨v10, ev10⟩ := q_ev ((q_I (S) a8 4).toInt)
    have f11 := q_bV ev10 f9
    refine q_ok_ite (fun g12 => ?_) (fun g12 => ?_)
    · have f13 := q_leV ev10 q_evr (q_p_ge g12)
      refine q_ok_ite (fun g14 => ?_) (fun g14 => ?_)
      · have f15 := q_eqV q_evr (show q_eqv ((0 : Int32)).toInt (0) by unfold q_eqv; decide) (q_p_eq g14)
        refine q_ok_atA hG eaT maT raT rfl ?_
        refine q_ok_b (s_X1_isPast_35 hn hG.1 maT raT) (fun r16 S17 h18 => ?_)
        obtain ⟨eS17, h18⟩ := h18
        replace eS17 := eS17.symm
        subst eS17
        have f19 := h18
        refine q_ok_ite (fun g20 => ?_) (fun g20 => ?_)
        · have f21 := q_eqV q_evr (show q_eqv ((0 : Int32)).toInt (0) by unfold q_eqv; decide) (q_p_eq g20)
          unfold m_X3_takeFlags_81
          refine q_ok_if (q_b01V (show q_eqv ((1 : Int32)).toInt (1) by unfold q_eqv; decide) (by omega) (by omega)) ?_
          exact q_ok_some ⟨hG, (q_wd (show (1 : Int) ≤ (1 : Int32).toInt ∧ (1 : Int32).toInt ≤ (1 : Int) by decide) (by decide) (by decide)), (q_trk eaT (q_leD ev2 ev4 (by omega)))⟩
        · have f22 := q_neV q_evr (show q_eqv ((0 : Int32)).toInt (0) by unfold q_eqv; decide) (q_n_eq g20)
          exact s_X3_takeFlags_15_35_80 hn _ hG (q_trE eaT maT raT) (q_trk eaT ⟨q_le3 (K9 := 0) (E9 := 600) ev2 ev4 (show q_eqv ((0 : Int32)).toInt (0) by unfold q_eqv; decide) (by omega), q_leC ev4 (by omega)⟩) 
      · have f23 := q_neV q_evr (show q_eqv ((0 : Int32)).toInt (0) by unfold q_eqv; decide) (q_n_eq g14)
        exact s_X3_takeFlags_15_35_80 hn _ hG (q_trE eaT maT raT) (q_trk eaT ⟨q_le3 (K9 := 0) (E9 := 600) ev2 ev4 (show q_eqv ((0 : Int32)).toInt (0) by unfold q_eqv; decide) (by omega), q_leC ev4 (by omega)⟩) 
    · have f24 := q_ltV q_evr ev10 (q_n_ge g12)
      refine q_ok_ite (fun g25 => ?_) (fun g25 => ?_)
      · have f26 := q_leV q_evr (show q_eqv ((0 : Int32)).toInt (0) by unfold q_eqv; decide) (q_p_le g25)
        refine q_ok_atA hG eaT maT raT rfl ?_
        refine q_ok_b (s_X1_one_35 hn hG.1 maT raT (q_leC ev2 (by omega))) (fun r27 S28 h29 => ?_)
        have hG := q_G_call hG h29.1 (by decide)
        have f30 := h29.2.1
        have f31 : q_sm _ := g_35_J3 hG maT raT
        obtain ⟨v32, ev32⟩ := q_ev ((q_J (S28) aT 3).toInt)
        have f33 := q_bV ev32 f31
        have f34 := q_leDv ev32 ev2 (h29.2.2)
        obtain ⟨v35, ev35⟩ := q_ev ((r27 &&& (8 : Int32)).toInt)
        have f36 := q_andRVI ev35 (show q_eqv ((8 : Int32)).toInt (8) by unfold q_eqv; decide) (by omega)
        refine q_ok_ite (fun g37 => ?_) (fun g37 => ?_)
        · have f38 := q_eqV ev35 (show q_eqv ((0 : Int32)).toInt (0) by unfold q_eqv; decide) (q_p_eq g37)
          unfold m_X3_takeFlags_49
          exact s_X3_takeFlags_15_35_50 hn (B8 := (k : Int) + 1) (fun S9 z0 z1 z2 z3 z4 hG9 hz0 hz1 hz2 hz3 hz4 hzt hzT hzd  hm9 => ih S9 z0 z1 z2 z3 z4 hG9 hz0 hz1 hz2 hz3 hz4 hzt hzT hzd  (by omega)) _ _ _ _ _ _ hG hl0 hl1 (q_wd (show (0 : Int) ≤ (0 : Int32).toInt ∧ (0 : Int32).toInt ≤ (0 : Int) by decide) (by decide) (by decide)) (q_wd f30 (by decide) (by decide)) (q_oV q_evr (by omega) (by omega)) (q_trE eaT maT raT) (q_trk eaT ⟨q_le3 (K9 := 4) (E9 := 4) ev32 ev4 q_evr (by omega), q_leC ev4 (by omega)⟩) (by first | rfl | exact hd) (q_upV q_evr (by omega))
        · have f39 := q_neV ev35 (show q_eqv ((0 : Int32)).toInt (0) by unfold q_eqv; decide) (q_n_eq g37)
          refine q_ok_atA hG eaT maT raT rfl ?_
          refine q_ok_b (s_X1_one_35 hn hG.1 maT raT (q_leC ev32 (by omega))) (fun r40 S41 h42 => ?_)
          have hG := q_G_call hG h42.1 (by decide)
          have f43 := h42.2.1
          have f44 : q_sm _ := g_35_J3 hG maT raT
          obtain ⟨v45, ev45⟩ := q_ev ((q_J (S41) aT 3).toInt)
          have f46 := q_bV ev45 f44
          have f47 := q_leDv ev45 ev32 (h42.2.2)
          unfold m_X3_takeFlags_49
          exact s_X3_takeFlags_15_35_50 hn (B8 := (k : Int) + 1) (fun S9 z0 z1 z2 z3 z4 hG9 hz0 hz1 hz2 hz3 hz4 hzt hzT hzd  hm9 => ih S9 z0 z1 z2 z3 z4 hG9 hz0 hz1 hz2 hz3 hz4 hzt hzT hzd  (by omega)) _ _ _ _ _ _ hG hl0 hl1 (q_wd f43 (by decide) (by decide)) (q_wd f30 (by decide) (by decide)) (q_oV q_evr (by omega) (by omega)) (q_trE eaT maT raT) (q_trk eaT ⟨q_le3 (K9 := 4) (E9 := 4) ev45 ev4 q_evr (by omega), q_leC ev4 (by omega)⟩) (by first | rfl | exact hd) (q_upV q_evr (by omega))
      · have f48 := q_ltV (show q_eqv ((0 : Int32)).toInt (0) by unfold q_eqv; decide) q_evr (q_n_le g25)
        obtain ⟨v49, ev49⟩ := q_ev ((l3 + (-1)).toInt)
        have f50 : v49 = l3.toInt + (-1) := q_addVI ev49 q_evr (show q_eqv ((-1 : Int32)).toInt (-1) by unfold q_eqv; decide) (by omega) (by omega)
        exact s_X3_takeFlags_15_35_50 hn (B8 := (k : Int) + 1) (fun S9 z0 z1 z2 z3 z4 hG9 hz0 hz1 hz2 hz3 hz4 hzt hzT hzd  hm9 => ih S9 z0 z1 z2 z3 z4 hG9 hz0 hz1 hz2 hz3 hz4 hzt hzT hzd  (by omega)) _ _ _ _ _ _ hG hl0 hl1 (q_oV ev49 (by omega) (by omega)) (q_wd hl4 (by decide) (by decide)) (q_oV q_evr (by omega) (by omega)) (q_trE eaT maT raT) (q_trk eaT ⟨q_le3 (K9 := 4) (E9 := 4) ev2 ev4 q_evr (by omega), q_leC ev4 (by omega)⟩) (by first | rfl | exact hd) (q_upV q_evr (by omega))
set_option maxHeartbeats 4000000 in
set_option maxRecDepth 100000 in
theorem s_X3_takeFlags_15_35 {ρ : Nat → Nat} {L : List Nat} {n : Nat} (hn : 18446744073709551616 ≤ n) {S : q_S} (hI : q_Inv ρ L S) {o : Nat} (mo : o ∈ L) (ro : ρ o = 15) {p0 : Option Nat} (tp0 : q_tr ρ L p0 35) {p1 : Int32} (hp1 : (0 ≤ p1.toInt ∧ p1.toInt ≤ 120)) (ht : ∀ a, p0 = some a → (q_J S a 3).toInt ≤ 140737555464192) : q_ok (m_X3_takeFlags n S o p0 p1) (fun r T => q_G ρ L M_X3_takeFlags_15_35 S T ∧ (0 ≤ r.toInt ∧ r.toInt ≤ 1) ∧ q_sm (∀ a, p0 = some a → (q_J T a 3).toInt ≤ (q_J S a 3).toInt + 600)) := by
  have hG : q_G ρ L M_X3_takeFlags_15_35 S S := q_G_refl hI
  unfold m_X3_takeFlags
  have z0 : (0 : Int32).toInt = 0 := rfl
  obtain ⟨aT, eaT, maT, raT⟩ := id tp0
  have f1 : q_sm _ := g_35_J3 hG maT raT
  obtain ⟨v2, ev2⟩ := q_ev ((q_J (S) aT 3).toInt)
  have f3 := q_bV ev2 f1
  have f4 := q_leCv ev2 (ht aT eaT)
  exact s_X3_takeFlags_15_35_8 hn n _ _ _ _ _ _ hG (q_trI mo ro) tp0 (q_wd (show (0 : Int) ≤ (0 : Int32).toInt ∧ (0 : Int32).toInt ≤ (0 : Int) by decide) (by decide) (by decide)) (q_wd (show (0 : Int) ≤ (0 : Int32).toInt ∧ (0 : Int32).toInt ≤ (0 : Int) by decide) (by decide) (by decide)) (q_wd hp1 (by decide) (by decide)) (q_trE eaT maT raT) (q_trk eaT ⟨q_le3 (K9 := 4) (E9 := 0) ev2 ev2 q_evr (by omega), q_leC ev2 (by omega)⟩) (by first | rfl | exact hd)  (q_upV q_evr (by omega))
def M_X3_take_15_35 : List Nat := [964, 965, 1024, 1088, 1152, 1216, 2242, 2243]
set_option maxHeartbeats 4000000 in
set_option maxRecDepth 100000 in
theorem s_X3_take_15_35 {ρ : Nat → Nat} {L : List Nat} {n : Nat} (hn : 18446744073709551616 ≤ n) {S : q_S} (hI : q_Inv ρ L S) {o : Nat} (mo : o ∈ L) (ro : ρ o = 15) {p0 : Option Nat} (tp0 : q_tr ρ L p0 35) (ht : ∀ a, p0 = some a → (q_J S a 3).toInt ≤ 140737489403904) : q_ok (m_X3_take n S o p0) (fun r T => q_G ρ L M_X3_take_15_35 S T ∧ (0 ≤ r.toInt ∧ r.toInt ≤ 1) ∧ q_sm (∀ a, p0 = some a → (q_J T a 3).toInt ≤ (q_J S a 3).toInt + 300000)) := by
  have hG : q_G ρ L M_X3_take_15_35 S S := q_G_refl hI
  unfold m_X3_take
  have z0 : (0 : Int32).toInt = 0 := rfl
  obtain ⟨aT, eaT, maT, raT⟩ := id tp0
  have f1 : q_sm _ := g_35_J3 hG maT raT
  obtain ⟨v2, ev2⟩ := q_ev ((q_J (S) aT 3).toInt)
  have f3 := q_bV ev2 f1
  have f4 := q_leCv ev2 (ht aT eaT)
  refine q_ok_atS hG (q_trI mo ro) rfl (fun mo ro => ?_)
  have f5 : q_sm _ := g_15_I4 hG mo ro
  refine q_ok_b (s_X3_takeContours_15_35 hn hG.1 mo ro tp0 (q_wd f5 (by decide) (by decide)) (q_trk eaT (q_leC ev2 (by omega)))) (fun r6 S7 h8 => ?_)
  have hG := q_G_call hG h8.1 (by decide)
  have f9 := h8.2.1
  have f10 : q_sm _ := g_35_J3 hG maT raT
  obtain ⟨v11, ev11⟩ := q_ev ((q_J (S7) aT 3).toInt)
  have f12 := q_bV ev11 f10
  have f13 := q_leDv ev11 ev2 (h8.2.2 _ eaT)
  refine q_ok_ite (fun g14 => ?_) (fun g14 => ?_)
  · have f15 := q_eqV q_evr (show q_eqv ((0 : Int32)).toInt (0) by unfold q_eqv; decide) (q_p_eq g14)
    refine q_ok_if (q_b01V (show q_eqv ((0 : Int32)).toInt (0) by unfold q_eqv; decide) (by omega) (by omega)) ?_
    exact q_ok_some ⟨hG, (q_wd (show (0 : Int) ≤ (0 : Int32).toInt ∧ (0 : Int32).toInt ≤ (0 : Int) by decide) (by decide) (by decide)), (q_trk eaT (q_leD ev11 ev2 (by omega)))⟩
  · have f16 := q_neV q_evr (show q_eqv ((0 : Int32)).toInt (0) by unfold q_eqv; decide) (q_n_eq g14)
    refine q_ok_atA hG eaT maT raT rfl ?_
    refine q_ok_b (s_X1_two_35 hn hG.1 maT raT (q_leC ev11 (by omega))) (fun r17 S18 h19 => ?_)
    have hG := q_G_call hG h19.1 (by decide)
    have f20 := h19.2.1
    have f21 : q_sm _ := g_35_J3 hG maT raT
    obtain ⟨v22, ev22⟩ := q_ev ((q_J (S18) aT 3).toInt)
    have f23 := q_bV ev22 f21
    have f24 := q_leDv ev22 ev11 (h19.2.2)
    refine q_ok_atA hG eaT maT raT rfl ?_
    refine q_ok_b (s_X1_skip_35 hn hG.1 maT raT (q_wd f20 (by decide) (by decide)) (q_leC ev22 (by omega))) (fun r25 S26 h27 => ?_)
    have hG := q_G_call hG h27.1 (by decide)
    have f28 : q_sm _ := g_35_J3 hG maT raT
    obtain ⟨v29, ev29⟩ := q_ev ((q_J (S26) aT 3).toInt)
    have f30 := q_bV ev29 f28
    have f31 := q_leDv ev29 ev22 (h27.2)
    refine q_ok_atS hG (q_trI mo ro) rfl (fun mo ro => ?_)
    refine q_ok_b (s_X3_takeFlags_15_35 hn hG.1 mo ro tp0 (q_wd f5 (by decide) (by decide)) (q_trk eaT (q_leC ev29 (by omega)))) (fun r32 S33 h34 => ?_)
    have hG := q_G_call hG h34.1 (by decide)
    have f35 := h34.2.1
    have f36 : q_sm _ := g_35_J3 hG maT raT
    obtain ⟨v37, ev37⟩ := q_ev ((q_J (S33) aT 3).toInt)
    have f38 := q_bV ev37 f36
    have f39 := q_leDv ev37 ev29 (h34.2.2 _ eaT)
    refine q_ok_ite (fun g40 => ?_) (fun g40 => ?_)
    · have f41 := q_eqV q_evr (show q_eqv ((0 : Int32)).toInt (0) by unfold q_eqv; decide) (q_p_eq g40)
      refine q_ok_if (q_b01V (show q_eqv ((0 : Int32)).toInt (0) by unfold q_eqv; decide) (by omega) (by omega)) ?_
      exact q_ok_some ⟨hG, (q_wd (show (0 : Int) ≤ (0 : Int32).toInt ∧ (0 : Int32).toInt ≤ (0 : Int) by decide) (by decide) (by decide)), (q_trk eaT (q_leD ev37 ev2 (by omega)))⟩
    · have f42 := q_neV q_evr (show q_eqv ((0 : Int32)).toInt (0) by unfold q_eqv; decide) (q_n_eq g40)
      refine q_ok_atS hG (q_trI mo ro) rfl (fun mo ro => ?_)
      have t43 := g_15_R0 hG mo ro
      refine q_ok_b (s_X3_takeAxis_15_35_16 hn hG.1 mo ro tp0 t43 (q_wd f5 (by decide) (by decide)) (q_wd (show (2 : Int) ≤ (2 : Int32).toInt ∧ (2 : Int32).toInt ≤ (2 : Int) by decide) (by decide) (by decide)) (q_wd (show (16 : Int) ≤ (16 : Int32).toInt ∧ (16 : Int32).toInt ≤ (16 : Int) by decide) (by decide) (by decide)) (q_trk eaT (q_leC ev37 (by omega)))) (fun r44 S45 h46 => ?_)
      have hG := q_G_call hG h46.1 (by decide)
      have f47 : q_sm _ := g_35_J3 hG maT raT
      obtain ⟨v48, ev48⟩ := q_ev ((q_J (S45) aT 3).toInt)
      have f49 := q_bV ev48 f47
      have f50 := q_leDv ev48 ev37 (h46.2 _ eaT)
      refine q_ok_atS hG (q_trI mo ro) rfl (fun mo ro => ?_)
      have t51 := g_15_R1 hG mo ro
      refine q_ok_b (s_X3_takeAxis_15_35_17 hn hG.1 mo ro tp0 t51 (q_wd f5 (by decide) (by decide)) (q_wd (show (4 : Int) ≤ (4 : Int32).toInt ∧ (4 : Int32).toInt ≤ (4 : Int) by decide) (by decide) (by decide)) (q_wd (show (32 : Int) ≤ (32 : Int32).toInt ∧ (32 : Int32).toInt ≤ (32 : Int) by decide) (by decide) (by decide)) (q_trk eaT (q_leC ev48 (by omega)))) (fun r52 S53 h54 => ?_)
      have hG := q_G_call hG h54.1 (by decide)
      have f55 : q_sm _ := g_35_J3 hG maT raT
      obtain ⟨v56, ev56⟩ := q_ev ((q_J (S53) aT 3).toInt)
      have f57 := q_bV ev56 f55
      have f58 := q_leDv ev56 ev48 (h54.2 _ eaT)
      refine q_ok_atA hG eaT maT raT rfl ?_
      refine q_ok_b (s_X1_isPast_35 hn hG.1 maT raT) (fun r59 S60 h61 => ?_)
      obtain ⟨eS60, h61⟩ := h61
      replace eS60 := eS60.symm
      subst eS60
      have f62 := h61
      refine q_ok_ite (fun g63 => ?_) (fun g63 => ?_)
      · have f64 := q_eqV q_evr (show q_eqv ((0 : Int32)).toInt (0) by unfold q_eqv; decide) (q_p_eq g63)
        unfold m_X3_take_73
        refine q_ok_if (q_b01V (show q_eqv ((1 : Int32)).toInt (1) by unfold q_eqv; decide) (by omega) (by omega)) ?_
        exact q_ok_some ⟨hG, (q_wd (show (1 : Int) ≤ (1 : Int32).toInt ∧ (1 : Int32).toInt ≤ (1 : Int) by decide) (by decide) (by decide)), (q_trk eaT (q_leD ev56 ev2 (by omega)))⟩
      · have f65 := q_neV q_evr (show q_eqv ((0 : Int32)).toInt (0) by unfold q_eqv; decide) (q_n_eq g63)
        unfold m_X3_take_73
        refine q_ok_if (q_b01V (show q_eqv ((0 : Int32)).toInt (0) by unfold q_eqv; decide) (by omega) (by omega)) ?_
        exact q_ok_some ⟨hG, (q_wd (show (0 : Int) ≤ (0 : Int32).toInt ∧ (0 : Int32).toInt ≤ (0 : Int) by decide) (by decide) (by decide)), (q_trk eaT (q_leD ev56 ev2 (by omega)))⟩
def M_X5_shapePart_14_35 : List Nat := [194, 256, 320]
set_option maxHeartbeats 4000000 in
set_option maxRecDepth 100000 in
theorem s_X5_shapePart_14_35_31 {ρ : Nat → Nat} {L : List Nat} {n : Nat} (hn : 18446744073709551616 ≤ n) {S0 : q_S}  (S : q_S) (l0 : Option Nat) (l2 : Option Nat) (hG : q_G ρ L M_X5_shapePart_14_35 S0 S) (hl0 : q_tr ρ L l0 14) (hl2 : q_tr ρ L l2 35) : q_ok (m_X5_shapePart_31 (m_X5_shapeD n 1) n S l0 l2) (fun _ T => q_G ρ L M_X5_shapePart_14_35 S0 T) := by
  unfold m_X5_shapePart_31
  have z0 : (0 : Int32).toInt = 0 := rfl
  refine q_ok_at hG hl0 rfl (fun a1 ma1 ra1 ea1 => ?_)
  have t2 := g_14_R1 hG ma1 ra1
  refine q_ok_at hG hl2 rfl (fun a3 ma3 ra3 ea3 => ?_)
  have f4 : q_sm _ := g_35_I7 hG ma3 ra3
  refine q_ok_at hG t2 rfl (fun a5 ma5 ra5 ea5 => ?_)
  refine q_ok_b (s_X9_tell_3 hn hG.1 ma5 ra5 (q_wd (show (4 : Int) ≤ (4 : Int32).toInt ∧ (4 : Int32).toInt ≤ (4 : Int) by decide) (by decide) (by decide)) (q_wd f4 (by decide) (by decide))) (fun r6 S7 h8 => ?_)
  have hG := q_G_call hG h8 (by decide)
  exact q_ok_some hG
set_option maxHeartbeats 4000000 in
set_option maxRecDepth 100000 in
theorem s_X5_shapePart_14_35 {ρ : Nat → Nat} {L : List Nat} {n : Nat} (hn : 18446744073709551616 ≤ n) {S : q_S} (hI : q_Inv ρ L S) {o : Nat} (mo : o ∈ L) (ro : ρ o = 14) {p0 : Int32} (hp0 : (5 ≤ p0.toInt ∧ p0.toInt ≤ 5)) {p1 : Option Nat} (tp1 : q_tr ρ L p1 35) {p2 : Int32} (hp2 : (0 ≤ p2.toInt ∧ p2.toInt ≤ 120)) : q_ok (m_X5_shapePart (m_X5_shapeD n 1) n S o p0 p1 p2) (fun _ T => q_G ρ L M_X5_shapePart_14_35 S T) := by
  have hG : q_G ρ L M_X5_shapePart_14_35 S S := q_G_refl hI
  unfold m_X5_shapePart
  have z0 : (0 : Int32).toInt = 0 := rfl
  refine q_ok_ite (fun g1 => ?_) (fun g1 => ?_)
  · have f2 := q_leV (show q_eqv ((5 : Int32)).toInt (5) by unfold q_eqv; decide) q_evr (q_p_ge g1)
    exact s_X5_shapePart_14_35_31 hn _ _ _ hG (q_trI mo ro) tp1 
  · have f3 := q_ltV q_evr (show q_eqv ((5 : Int32)).toInt (5) by unfold q_eqv; decide) (q_n_ge g1)
    exfalso; omega
def M_X5_shapeParts_14_35 : List Nat := [194, 256, 320, 2242, 2243, 2246, 2247, 2248, 2249, 2250, 2251, 2252, 2253]
set_option maxHeartbeats 4000000 in
set_option maxRecDepth 100000 in
theorem s_X5_shapeParts_14_35_55 {ρ : Nat → Nat} {L : List Nat} {n : Nat} (hn : 18446744073709551616 ≤ n) {S0 : q_S}  (S : q_S) (hG : q_G ρ L M_X5_shapeParts_14_35 S0 S) : q_ok (m_X5_shapeParts_55 (m_X5_shapeD n 1) n S) (fun r T => q_G ρ L M_X5_shapeParts_14_35 S0 T ∧ (0 ≤ r.toInt ∧ r.toInt ≤ 1)) := by
  unfold m_X5_shapeParts_55
  have z0 : (0 : Int32).toInt = 0 := rfl
  refine q_ok_if (q_b01V (show q_eqv ((1 : Int32)).toInt (1) by unfold q_eqv; decide) (by omega) (by omega)) ?_
  exact q_ok_some ⟨hG, (q_wd (show (1 : Int) ≤ (1 : Int32).toInt ∧ (1 : Int32).toInt ≤ (1 : Int) by decide) (by decide) (by decide))⟩
set_option maxHeartbeats 4000000 in
set_option maxRecDepth 100000 in
theorem s_X5_shapeParts_14_35_14 {ρ : Nat → Nat} {L : List Nat} {n : Nat} (hn : 18446744073709551616 ≤ n) {dT : Option Nat} {S0 : q_S}  : ∀ (k : Nat) (S : q_S) (l0 : Option Nat) (l1 : Int32) (l2 : Option Nat) (l3 : Int32) (l4 : Int32) (l5 : Int32), q_G ρ L M_X5_shapeParts_14_35 S0 S → q_tr ρ L l0 14 → (5 ≤ l1.toInt ∧ l1.toInt ≤ 5) → q_tr ρ L l2 35 → (0 ≤ l3.toInt ∧ l3.toInt ≤ 120) → (0 ≤ l4.toInt ∧ l4.toInt ≤ 1) → (0 ≤ l5.toInt ∧ l5.toInt ≤ 1600) → q_tr ρ L dT 35 → (∀ a, dT = some a → (q_J S a 3).toInt ≤ (q_J S0 a 3).toInt + 16 * l5.toInt + 0 ∧ (q_J S0 a 3).toInt ≤ 140737488355328) → l2 = dT → 2147483648 - l5.toInt ≤ (k : Int) → q_ok (m_X5_shapeParts_14 (m_X5_shapeD n 1) n k S l0 l1 l2 l3 l4 l5) (fun r T => q_G ρ L M_X5_shapeParts_14_35 S0 T ∧ (0 ≤ r.toInt ∧ r.toInt ≤ 1)) := by
  intro k
  induction k with
  | zero =>
    intro S l0 l1 l2 l3 l4 l5 hG hl0 hl1 hl2 hl3 hl4 hl5 htT hT hd hm
    have f0 := q_rngI l5
    exfalso; omega
  | succ k ih =>
    intro S l0 l1 l2 l3 l4 l5 hG hl0 hl1 hl2 hl3 hl4 hl5 htT hT hd hm
    rw [m_X5_shapeParts_14]
    have z0 : (0 : Int32).toInt = 0 := rfl
    subst hd
    obtain ⟨aT, eaT, maT, raT⟩ := id htT
    have f1 : q_sm _ := g_35_J3 hG maT raT
    obtain ⟨v2, ev2⟩ := q_ev ((q_J (S) aT 3).toInt)
    have f3 := q_bV ev2 f1
    obtain ⟨v4, ev4⟩ := q_ev ((q_J (S0) aT 3).toInt)
    have f5 := q_rVJ (X := q_J (S0) aT 3) ev4
    have f6 := q_le3v (K9 := 16) (E9 := 0) ev2 ev4 q_evr (hT aT eaT).1
    have f7 := q_leCv ev4 (hT aT eaT).2
    refine q_ok_ite (fun g8 => ?_) (fun g8 => ?_)
    · have f9 := q_leV (show q_eqv ((1600 : Int32)).toInt (1600) by unfold q_eqv; decide) q_evr (q_p_ge g8)
      exact s_X5_shapeParts_14_35_55 hn _ hG 
    · have f10 := q_ltV q_evr (show q_eqv ((1600 : Int32)).toInt (1600) by unfold q_eqv; decide) (q_n_ge g8)
      refine q_ok_ite (fun g11 => ?_) (fun g11 => ?_)
      · have f12 := q_eqV q_evr (show q_eqv ((0 : Int32)).toInt (0) by unfold q_eqv; decide) (q_p_eq g11)
        exact s_X5_shapeParts_14_35_55 hn _ hG 
      · have f13 := q_neV q_evr (show q_eqv ((0 : Int32)).toInt (0) by unfold q_eqv; decide) (q_n_eq g11)
        refine q_ok_atA hG eaT maT raT rfl ?_
        refine q_ok_b (s_X1_nextPart_35 hn hG.1 maT raT (q_leC ev2 (by omega))) (fun r14 S15 h16 => ?_)
        have hG := q_G_call hG h16.1 (by decide)
        have f17 := h16.2.1
        have f18 : q_sm _ := g_35_J3 hG maT raT
        obtain ⟨v19, ev19⟩ := q_ev ((q_J (S15) aT 3).toInt)
        have f20 := q_bV ev19 f18
        have f21 := q_leDv ev19 ev2 (h16.2.2)
        refine q_ok_ite (fun g22 => ?_) (fun g22 => ?_)
        · have f23 := q_eqV q_evr (show q_eqv ((0 : Int32)).toInt (0) by unfold q_eqv; decide) (q_p_eq g22)
          refine q_ok_if (q_b01V (show q_eqv ((0 : Int32)).toInt (0) by unfold q_eqv; decide) (by omega) (by omega)) ?_
          exact q_ok_some ⟨hG, (q_wd (show (0 : Int) ≤ (0 : Int32).toInt ∧ (0 : Int32).toInt ≤ (0 : Int) by decide) (by decide) (by decide))⟩
        · have f24 := q_neV q_evr (show q_eqv ((0 : Int32)).toInt (0) by unfold q_eqv; decide) (q_n_eq g22)
          refine q_ok_at hG hl0 rfl (fun a25 ma25 ra25 ea25 => ?_)
          refine q_ok_b (s_X5_shapePart_14_35 hn hG.1 ma25 ra25 (q_wd hl1 (by decide) (by decide)) hl2 (q_wd hl3 (by decide) (by decide))) (fun r26 S27 h28 => ?_)
          have hG := q_G_call hG h28 (by decide)
          refine q_ok_atA hG eaT maT raT rfl ?_
          refine q_ok_b (s_X1_hasMore_35 hn hG.1 maT raT) (fun r29 S30 h31 => ?_)
          obtain ⟨eS30, h31⟩ := h31
          replace eS30 := eS30.symm
          subst eS30
          have f32 := h31
          obtain ⟨v33, ev33⟩ := q_ev ((l5 + (1)).toInt)
          have f34 : v33 = l5.toInt + (1) := q_addVI ev33 q_evr (show q_eqv ((1 : Int32)).toInt (1) by unfold q_eqv; decide) (by omega) (by omega)
          have e35 : q_J (S27) aT 3 = q_J (S15) aT 3 := (q_unJ h28 maT raT (by decide))
          obtain ⟨v36, ev36⟩ := q_ev ((q_J (S27) aT 3).toInt)
          have f37 : v36 = v19 := q_eqVJ e35 ev36 ev19
          exact ih _ _ _ _ _ _ _ hG hl0 (q_wd hl1 (by decide) (by decide)) hl2 (q_wd hl3 (by decide) (by decide)) (q_wd f32 (by decide) (by decide)) (q_oV ev33 (by omega) (by omega)) (q_trE eaT maT raT) (q_trk eaT ⟨q_le3 (K9 := 16) (E9 := 0) ev36 ev4 ev33 (by omega), q_leC ev4 (by omega)⟩) (by first | rfl | exact hd)  (q_upV ev33 (by omega))
set_option maxHeartbeats 4000000 in
set_option maxRecDepth 100000 in
theorem s_X5_shapeParts_14_35 {ρ : Nat → Nat} {L : List Nat} {n : Nat} (hn : 18446744073709551616 ≤ n) {S : q_S} (hI : q_Inv ρ L S) {o : Nat} (mo : o ∈ L) (ro : ρ o = 14) {p0 : Int32} (hp0 : (5 ≤ p0.toInt ∧ p0.toInt ≤ 5)) {p1 : Option Nat} (tp1 : q_tr ρ L p1 35) (ht : ∀ a, p1 = some a → (q_J S a 3).toInt ≤ 140737488355328) : q_ok (m_X5_shapeParts (m_X5_shapeD n 1) n S o p0 p1) (fun r T => q_G ρ L M_X5_shapeParts_14_35 S T ∧ (0 ≤ r.toInt ∧ r.toInt ≤ 1)) := by
  have hG : q_G ρ L M_X5_shapeParts_14_35 S S := q_G_refl hI
  unfold m_X5_shapeParts
  have z0 : (0 : Int32).toInt = 0 := rfl
  obtain ⟨aT, eaT, maT, raT⟩ := id tp1
  have f1 : q_sm _ := g_35_J3 hG maT raT
  obtain ⟨v2, ev2⟩ := q_ev ((q_J (S) aT 3).toInt)
  have f3 := q_bV ev2 f1
  have f4 := q_leCv ev2 (ht aT eaT)
  refine q_ok_atS hG (q_trI mo ro) rfl (fun mo ro => ?_)
  have t5 := g_14_R2 hG mo ro
  refine q_ok_at hG t5 rfl (fun a6 ma6 ra6 ea6 => ?_)
  refine q_ok_b (s_X3_size_15 hn hG.1 ma6 ra6) (fun r7 S8 h9 => ?_)
  obtain ⟨eS8, h9⟩ := h9
  replace eS8 := eS8.symm
  subst eS8
  have f10 := h9
  exact s_X5_shapeParts_14_35_14 hn n _ _ _ _ _ _ _ hG (q_trI mo ro) (q_wd hp0 (by decide) (by decide)) tp1 (q_wd f10 (by decide) (by decide)) (q_wd (show (1 : Int) ≤ (1 : Int32).toInt ∧ (1 : Int32).toInt ≤ (1 : Int) by decide) (by decide) (by decide)) (q_wd (show (0 : Int) ≤ (0 : Int32).toInt ∧ (0 : Int32).toInt ≤ (0 : Int) by decide) (by decide) (by decide)) (q_trE eaT maT raT) (q_trk eaT ⟨q_le3 (K9 := 16) (E9 := 0) ev2 ev2 (show q_eqv ((0 : Int32)).toInt (0) by unfold q_eqv; decide) (by omega), q_leC ev2 (by omega)⟩) (by first | rfl | exact hd)  (q_upV (show q_eqv ((0 : Int32)).toInt (0) by unfold q_eqv; decide) (by omega))
def M_X5_shape_14_k5 : List Nat := [194, 256, 320, 905, 964, 965, 1024, 1088, 1152, 1216, 1664, 1728, 2241, 2242, 2243, 2244, 2245, 2246, 2247, 2248, 2249, 2250, 2251, 2252, 2253]
set_option maxHeartbeats 4000000 in
set_option maxRecDepth 100000 in
theorem s_X5_shape_14_k5_130 {ρ : Nat → Nat} {L : List Nat} {n : Nat} (hn : 18446744073709551616 ≤ n) {S0 : q_S}  (S : q_S) (hG : q_G ρ L M_X5_shape_14_k5 S0 S) : q_ok (m_X5_shapeR_130 (m_X5_shapeD n 1) n S) (fun _ T => q_G ρ L M_X5_shape_14_k5 S0 T) := by
  unfold m_X5_shapeR_130
  have z0 : (0 : Int32).toInt = 0 := rfl
  exact q_ok_some hG
set_option maxHeartbeats 4000000 in
set_option maxRecDepth 100000 in
theorem s_X5_shape_14_k5 {ρ : Nat → Nat} {L : List Nat} {n : Nat} (hn : 18446744073709551616 ≤ n) {S : q_S} (hI : q_Inv ρ L S) {o : Nat} (mo : o ∈ L) (ro : ρ o = 14) {p0 : Int32} (hp0 : (5 ≤ p0.toInt ∧ p0.toInt ≤ 5)) {p1 : Int32} (hp1 : (0 ≤ p1.toInt ∧ p1.toInt ≤ 199)) : q_ok (m_X5_shapeD n 2 S o p0 p1) (fun _ T => q_G ρ L M_X5_shape_14_k5 S T) := by
  have hG : q_G ρ L M_X5_shape_14_k5 S S := q_G_refl hI
  show q_ok (m_X5_shapeD n (1 + 1) S o p0 p1) _
  rw [m_X5_shapeD]
  unfold m_X5_shapeR
  have z0 : (0 : Int32).toInt = 0 := rfl
  refine q_ok_ite (fun g1 => ?_) (fun g1 => ?_)
  · have f2 := q_ltV q_evr (show q_eqv ((0 : Int32)).toInt (0) by unfold q_eqv; decide) (q_p_lt g1)
    exfalso; omega
  · have f3 := q_leV (show q_eqv ((0 : Int32)).toInt (0) by unfold q_eqv; decide) q_evr (q_n_lt g1)
    refine q_ok_ite (fun g4 => ?_) (fun g4 => ?_)
    · have f5 := q_leV q_evr (show q_eqv ((5 : Int32)).toInt (5) by unfold q_eqv; decide) (q_p_le g4)
      refine q_ok_atS hG (q_trI mo ro) rfl (fun mo ro => ?_)
      have t6 := g_14_R4 hG mo ro
      refine q_ok_at hG t6 rfl (fun a7 ma7 ra7 ea7 => ?_)
      refine q_ok_if (q_inV (g_25_N hG ma7 ra7) q_evr (by omega) (by omega)) ?_
      have t8 := g_25_RK5 hG ma7 ra7 (k := (p0).toNatClampNeg) (q_idxK q_evr (by omega))
      have t9 := g_14_R0 hG mo ro
      refine q_ok_at hG t9 rfl (fun a10 ma10 ra10 ea10 => ?_)
      obtain ⟨a14, ea14, ma14, ra14⟩ := id t8
      have f15 : q_sm _ := g_35_J3 hG ma14 ra14
      refine q_ok_b (s_X6_open_9_35 hn hG.1 ma10 ra10 (q_wd hp1 (by decide) (by decide)) t8) (fun r11 S12 h13 => ?_)
      have hG := q_G_call hG h13.1 (by decide)
      have f16 : q_sm _ := g_35_J3 hG ma14 ra14
      obtain ⟨v17, ev17⟩ := q_ev ((q_J (S12) a14 3).toInt)
      have f18 := q_bV ev17 f16
      obtain ⟨v19, ev19⟩ := q_ev ((q_J (S) a14 3).toInt)
      have f20 := q_bV ev19 f15
      have f21 := q_leCv ev17 (h13.2 _ ea14)
      refine q_ok_atA hG ea14 ma14 ra14 rfl ?_
      refine q_ok_b (s_X1_isEmpty_35 hn hG.1 ma14 ra14) (fun r22 S23 h24 => ?_)
      obtain ⟨eS23, h24⟩ := h24
      replace eS23 := eS23.symm
      subst eS23
      have f25 := h24
      refine q_ok_ite (fun g26 => ?_) (fun g26 => ?_)
      · have f27 := q_eqV q_evr (show q_eqv ((0 : Int32)).toInt (0) by unfold q_eqv; decide) (q_p_eq g26)
        refine q_ok_atS hG (q_trI mo ro) rfl (fun mo ro => ?_)
        have t28 := g_14_R5 hG mo ro
        refine q_ok_at hG t28 rfl (fun a29 ma29 ra29 ea29 => ?_)
        refine q_ok_if (q_inV (g_26_N hG ma29 ra29) q_evr (by omega) (by omega)) ?_
        have hG := u_26_E (k := (p0).toNatClampNeg) (x := p1) hG ma29 ra29 (by decide) (q_wd hp1 (by decide) (by decide))
        have hG := u_14_I9 (x := (q_I (q_sI (S12) a29 (p0).toNatClampNeg (p1)) o 9) + (1 : Int32)) hG mo ro (by decide)
        refine q_ok_let (fun S30 eS30 => ?_)
        rw [← eS30] at hG
        have t31 := g_14_R6 hG mo ro
        have e32 : q_I (S30) o 9 = (q_I (q_sI (S12) a29 (p0).toNatClampNeg (p1)) o 9) + (1 : Int32) := (Eq.trans (q_leI eS30) q_hitI)
        refine q_ok_at hG t31 rfl (fun a33 ma33 ra33 ea33 => ?_)
        refine q_ok_if (q_inV (g_27_N hG ma33 ra33) q_evr (by omega) (by omega)) ?_
        have hG := u_27_E (k := (p0).toNatClampNeg) (x := q_I (S30) o 9) hG ma33 ra33 (by decide)
        have t34 := g_14_R2 hG mo ro
        refine q_ok_at hG t34 rfl (fun a35 ma35 ra35 ea35 => ?_)
        refine q_ok_b (s_X3_size_15 hn hG.1 ma35 ra35) (fun r36 S37 h38 => ?_)
        obtain ⟨eS37, h38⟩ := h38
        replace eS37 := eS37.symm
        subst eS37
        have f39 := h38
        refine q_ok_atS hG (q_trI mo ro) rfl (fun mo ro => ?_)
        have t40 := g_14_R2 hG mo ro
        refine q_ok_atA hG ea35 ma35 ra35 rfl ?_
        refine q_ok_b (s_X3_contours_15 hn hG.1 ma35 ra35) (fun r41 S42 h43 => ?_)
        obtain ⟨eS42, h43⟩ := h43
        replace eS42 := eS42.symm
        subst eS42
        have f44 := h43
        refine q_ok_atA hG ea14 ma14 ra14 rfl ?_
        refine q_ok_b (s_X1_hasParts_35 hn hG.1 ma14 ra14) (fun r45 S46 h47 => ?_)
        obtain ⟨eS46, h47⟩ := h47
        replace eS46 := eS46.symm
        subst eS46
        have f48 := h47
        obtain ⟨v49, ev49⟩ := q_ev ((q_I (q_sI (S30) a33 (p0).toNatClampNeg (q_I (S30) o 9)) a14 5).toInt)
        have f50 := q_bV ev49 (g_35_I5 hG ma14 ra14)
        have f51 : r45.toInt = 0 → (0) ≤ v49 := fun h9 => q_leV (show q_eqv ((0 : Int32)).toInt (0) by unfold q_eqv; decide) ev49 (f48.2.1 h9)
        have f52 : r45.toInt = 1 → v49 < (0) := fun h9 => q_ltV ev49 (show q_eqv ((0 : Int32)).toInt (0) by unfold q_eqv; decide) (f48.2.2 h9)
        refine q_ok_ite (fun g53 => ?_) (fun g53 => ?_)
        · have f54 := q_eqV q_evr (show q_eqv ((0 : Int32)).toInt (0) by unfold q_eqv; decide) (q_p_eq g53)
          refine q_ok_atS hG (q_trI mo ro) rfl (fun mo ro => ?_)
          have t55 := g_14_R2 hG mo ro
          refine q_ok_atA hG ea35 ma35 ra35 rfl ?_
          have e59 : q_J (q_sI (S30) a33 (p0).toNatClampNeg (q_I (S30) o 9)) a14 3 = q_J (S12) a14 3 := (Eq.trans q_skJI (Eq.trans (q_leJ eS30) (Eq.trans q_skJI q_skJI)))
          obtain ⟨v60, ev60⟩ := q_ev ((q_J (q_sI (S30) a33 (p0).toNatClampNeg (q_I (S30) o 9)) a14 3).toInt)
          have f61 : v60 = v17 := q_eqVJ e59 ev60 ev17
          refine q_ok_b (s_X3_take_15_35 hn hG.1 ma35 ra35 t8 (q_trk ea14 (q_leC ev60 (by omega)))) (fun r56 S57 h58 => ?_)
          have hG := q_G_call hG h58.1 (by decide)
          have f62 := h58.2.1
          have f63 : q_sm _ := g_35_J3 hG ma14 ra14
          obtain ⟨v64, ev64⟩ := q_ev ((q_J (S57) a14 3).toInt)
          have f65 := q_bV ev64 f63
          have f66 := q_leDv ev64 ev60 (h58.2.2 _ ea14)
          unfold m_X5_shapeR_103
          refine q_ok_ite (fun g67 => ?_) (fun g67 => ?_)
          · have f68 := q_eqV q_evr (show q_eqv ((0 : Int32)).toInt (0) by unfold q_eqv; decide) (q_p_eq g67)
            refine q_ok_atS hG (q_trI mo ro) rfl (fun mo ro => ?_)
            have t69 := g_14_R2 hG mo ro
            have e70 : q_R (S57) o 2 = q_R (q_sI (S30) a33 (p0).toNatClampNeg (q_I (S30) o 9)) o 2 := (q_unR h58.1 mo ro (by decide))
            refine q_ok_atA hG (Eq.trans e70 ea35) ma35 ra35 rfl ?_
            refine q_ok_b (s_X3_keep_15 hn hG.1 ma35 ra35 (q_wd f39 (by decide) (by decide)) (q_wd f44 (by decide) (by decide))) (fun r71 S72 h73 => ?_)
            have hG := q_G_call hG h73 (by decide)
            refine q_ok_atS hG (q_trI mo ro) rfl (fun mo ro => ?_)
            have t74 := g_14_R1 hG mo ro
            refine q_ok_at hG t74 rfl (fun a75 ma75 ra75 ea75 => ?_)
            refine q_ok_b (s_X9_tell_3 hn hG.1 ma75 ra75 (q_wd (show (1 : Int) ≤ (1 : Int32).toInt ∧ (1 : Int32).toInt ≤ (1 : Int) by decide) (by decide) (by decide)) (q_wd hp1 (by decide) (by decide))) (fun r76 S77 h78 => ?_)
            have hG := q_G_call hG h78 (by decide)
            exact s_X5_shape_14_k5_130 hn _ hG 
          · have f79 := q_neV q_evr (show q_eqv ((0 : Int32)).toInt (0) by unfold q_eqv; decide) (q_n_eq g67)
            exact s_X5_shape_14_k5_130 hn _ hG 
        · have f80 := q_neV q_evr (show q_eqv ((0 : Int32)).toInt (0) by unfold q_eqv; decide) (q_n_eq g53)
          refine q_ok_atS hG (q_trI mo ro) rfl (fun mo ro => ?_)
          have e84 : q_J (q_sI (S30) a33 (p0).toNatClampNeg (q_I (S30) o 9)) a14 3 = q_J (S12) a14 3 := (Eq.trans q_skJI (Eq.trans (q_leJ eS30) (Eq.trans q_skJI q_skJI)))
          obtain ⟨v85, ev85⟩ := q_ev ((q_J (q_sI (S30) a33 (p0).toNatClampNeg (q_I (S30) o 9)) a14 3).toInt)
          have f86 : v85 = v17 := q_eqVJ e84 ev85 ev17
          refine q_ok_b (s_X5_shapeParts_14_35 hn hG.1 mo ro (q_wd hp0 (by decide) (by decide)) t8 (q_trk ea14 (q_leC ev85 (by omega)))) (fun r81 S82 h83 => ?_)
          have hG := q_G_call hG h83.1 (by decide)
          have f87 := h83.2
          unfold m_X5_shapeR_103
          refine q_ok_ite (fun g88 => ?_) (fun g88 => ?_)
          · have f89 := q_eqV q_evr (show q_eqv ((0 : Int32)).toInt (0) by unfold q_eqv; decide) (q_p_eq g88)
            refine q_ok_atS hG (q_trI mo ro) rfl (fun mo ro => ?_)
            have t90 := g_14_R2 hG mo ro
            have e91 : q_R (S82) o 2 = q_R (q_sI (S30) a33 (p0).toNatClampNeg (q_I (S30) o 9)) o 2 := (q_unR h83.1 mo ro (by decide))
            refine q_ok_atA hG (Eq.trans e91 ea35) ma35 ra35 rfl ?_
            refine q_ok_b (s_X3_keep_15 hn hG.1 ma35 ra35 (q_wd f39 (by decide) (by decide)) (q_wd f44 (by decide) (by decide))) (fun r92 S93 h94 => ?_)
            have hG := q_G_call hG h94 (by decide)
            refine q_ok_atS hG (q_trI mo ro) rfl (fun mo ro => ?_)
            have t95 := g_14_R1 hG mo ro
            refine q_ok_at hG t95 rfl (fun a96 ma96 ra96 ea96 => ?_)
            refine q_ok_b (s_X9_tell_3 hn hG.1 ma96 ra96 (q_wd (show (1 : Int) ≤ (1 : Int32).toInt ∧ (1 : Int32).toInt ≤ (1 : Int) by decide) (by decide) (by decide)) (q_wd hp1 (by decide) (by decide))) (fun r97 S98 h99 => ?_)
            have hG := q_G_call hG h99 (by decide)
            exact s_X5_shape_14_k5_130 hn _ hG 
          · have f100 := q_neV q_evr (show q_eqv ((0 : Int32)).toInt (0) by unfold q_eqv; decide) (q_n_eq g88)
            exact s_X5_shape_14_k5_130 hn _ hG 
      · have f101 := q_neV q_evr (show q_eqv ((0 : Int32)).toInt (0) by unfold q_eqv; decide) (q_n_eq g26)
        exact q_ok_some hG
    · have f102 := q_ltV (show q_eqv ((5 : Int32)).toInt (5) by unfold q_eqv; decide) q_evr (q_n_le g4)
      exfalso; omega
