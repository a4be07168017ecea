def M_X3_takeContours_15_30 : List Nat := [964, 965, 1216, 1922, 1923]
set_option maxHeartbeats 4000000 in
set_option maxRecDepth 100000 in
theorem s_X3_takeContours_15_30_62 {ρ : Nat → Nat} {L : List Nat} {n : Nat} (hn : 18446744073709551616 ≤ n) {dT : Option Nat} {S0 : q_S}  (S : q_S) (hG : q_G ρ L M_X3_takeContours_15_30 S0 S) (htT : q_tr ρ L dT 30) (hT : (∀ a, dT = some a → (q_J S a 3).toInt ≤ (q_J S0 a 3).toInt + 0 * (0 : Int32).toInt + 140000 ∧ (q_J S0 a 3).toInt ≤ 140737555464192)) : q_ok (m_X3_takeContours_62 n S) (fun r T => q_G ρ L M_X3_takeContours_15_30 S0 T ∧ (0 ≤ r.toInt ∧ r.toInt ≤ 1) ∧ q_sm (∀ a, dT = some a → (q_J T a 3).toInt ≤ (q_J S0 a 3).toInt + 140000)) := by
  unfold m_X3_takeContours_62
  have z0 : (0 : Int32).toInt = 0 := rfl
  obtain ⟨aT, eaT, maT, raT⟩ := id htT
  have f1 : q_sm _ := g_30_J3 hG maT raT
  obtain ⟨v2, ev2⟩ := q_ev ((q_J (S) aT 3).toInt)
  have f3 := q_bV ev2 f1
  obtain ⟨v4, ev4⟩ := q_ev ((q_J (S0) aT 3).toInt)
  have f5 := q_rVJ (X := q_J (S0) aT 3) ev4
  have f6 := q_le3v (K9 := 0) (E9 := 140000) ev2 ev4 (show q_eqv ((0 : Int32)).toInt (0) by unfold q_eqv; decide) (hT aT eaT).1
  have f7 := q_leCv ev4 (hT aT eaT).2
  refine q_ok_if (q_b01V (show q_eqv ((0 : Int32)).toInt (0) by unfold q_eqv; decide) (by omega) (by omega)) ?_
  exact q_ok_some ⟨hG, (q_wd (show (0 : Int) ≤ (0 : Int32).toInt ∧ (0 : Int32).toInt ≤ (0 : Int) by decide) (by decide) (by decide)), (q_trk eaT (q_leD ev2 ev4 (by omega)))⟩
set_option maxHeartbeats 4000000 in
set_option maxRecDepth 100000 in
theorem s_X3_takeContours_15_30_45 {ρ : Nat → Nat} {L : List Nat} {n : Nat} (hn : 18446744073709551616 ≤ n) {dT : Option Nat} {S0 : q_S}  {k2 : q_S → Option Nat → Option Nat → Int32 → Int32 → Option (Int32 × q_S)} {B2 : Int} (hk2 : ∀ (S : q_S) (z0 : Option Nat) (z1 : Option Nat) (z2 : Int32) (z3 : Int32), q_G ρ L M_X3_takeContours_15_30 S0 S → q_tr ρ L z0 15 → q_tr ρ L z1 30 → (0 ≤ z2.toInt ∧ z2.toInt ≤ 120) → (0 ≤ z3.toInt ∧ z3.toInt ≤ 65535) → q_tr ρ L dT 30 → (∀ a, dT = some a → (q_J S a 3).toInt ≤ (q_J S0 a 3).toInt + 2 * z3.toInt + 0 ∧ (q_J S0 a 3).toInt ≤ 140737555464192) → z1 = dT → 2147483648 - z3.toInt < B2 → q_ok (k2 S z0 z1 z2 z3) (fun r T => q_G ρ L M_X3_takeContours_15_30 S0 T ∧ (0 ≤ r.toInt ∧ r.toInt ≤ 1) ∧ q_sm (∀ a, dT = some a → (q_J T a 3).toInt ≤ (q_J S0 a 3).toInt + 140000))) (S : q_S) (l0 : Option Nat) (l1 : Option Nat) (l2 : Int32) (l3 : Int32) (l4 : Int32) (hG : q_G ρ L M_X3_takeContours_15_30 S0 S) (hl0 : q_tr ρ L l0 15) (hl1 : q_tr ρ L l1 30) (hl2 : (0 ≤ l2.toInt ∧ l2.toInt ≤ 120)) (hl3 : (0 ≤ l3.toInt ∧ l3.toInt ≤ 65535)) (hl4 : (0 ≤ l4.toInt ∧ l4.toInt ≤ 65655)) (htT : q_tr ρ L dT 30) (hT : (∀ a, dT = some a → (q_J S a 3).toInt ≤ (q_J S0 a 3).toInt + 2 * l3.toInt + 2 ∧ (q_J S0 a 3).toInt ≤ 140737555464192)) (hd : l1 = dT) (hm2 : 2147483648 - l3.toInt ≤ B2) : q_ok (m_X3_takeContours_45 n k2 S l0 l1 l2 l3 l4) (fun r T => q_G ρ L M_X3_takeContours_15_30 S0 T ∧ (0 ≤ r.toInt ∧ r.toInt ≤ 1) ∧ q_sm (∀ a, dT = some a → (q_J T a 3).toInt ≤ (q_J S0 a 3).toInt + 140000)) := by
  unfold m_X3_takeContours_45
  have z0 : (0 : Int32).toInt = 0 := rfl
  subst hd
  obtain ⟨aT, eaT, maT, raT⟩ := id htT
  have f1 : q_sm _ := g_30_J3 hG maT raT
  obtain ⟨v2, ev2⟩ := q_ev ((q_J (S) aT 3).toInt)
  have f3 := q_bV ev2 f1
  obtain ⟨v4, ev4⟩ := q_ev ((q_J (S0) aT 3).toInt)
  have f5 := q_rVJ (X := q_J (S0) aT 3) ev4
  have f6 := q_le3v (K9 := 2) (E9 := 2) ev2 ev4 q_evr (hT aT eaT).1
  have f7 := q_leCv ev4 (hT aT eaT).2
  unfold m_X3_takeContours_46
  refine q_ok_ite (fun g8 => ?_) (fun g8 => ?_)
  · have f9 := q_eqV (show q_eqv ((0 : Int32)).toInt (0) by unfold q_eqv; decide) (show q_eqv ((0 : Int32)).toInt (0) by unfold q_eqv; decide) (q_p_eq g8)
    exact s_X3_takeContours_15_30_62 hn _ hG (q_trE eaT maT raT) (q_trk eaT ⟨q_le3 (K9 := 0) (E9 := 140000) ev2 ev4 (show q_eqv ((0 : Int32)).toInt (0) by unfold q_eqv; decide) (by omega), q_leC ev4 (by omega)⟩) 
  · have f10 := q_neV (show q_eqv ((0 : Int32)).toInt (0) by unfold q_eqv; decide) (show q_eqv ((0 : Int32)).toInt (0) by unfold q_eqv; decide) (q_n_eq g8)
    exfalso; omega
set_option maxHeartbeats 4000000 in
set_option maxRecDepth 100000 in
theorem s_X3_takeContours_15_30_2 {ρ : Nat → Nat} {L : List Nat} {n : Nat} (hn : 18446744073709551616 ≤ n) {dT : Option Nat} {S0 : q_S}  : ∀ (k : Nat) (S : q_S) (l0 : Option Nat) (l1 : Option Nat) (l2 : Int32) (l3 : Int32), q_G ρ L M_X3_takeContours_15_30 S0 S → q_tr ρ L l0 15 → q_tr ρ L l1 30 → (0 ≤ l2.toInt ∧ l2.toInt ≤ 120) → (0 ≤ l3.toInt ∧ l3.toInt ≤ 65535) → q_tr ρ L dT 30 → (∀ a, dT = some a → (q_J S a 3).toInt ≤ (q_J S0 a 3).toInt + 2 * l3.toInt + 0 ∧ (q_J S0 a 3).toInt ≤ 140737555464192) → l1 = dT → 2147483648 - l3.toInt ≤ (k : Int) → q_ok (m_X3_takeContours_2 n k S l0 l1 l2 l3) (fun r T => q_G ρ L M_X3_takeContours_15_30 S0 T ∧ (0 ≤ r.toInt ∧ r.toInt ≤ 1) ∧ q_sm (∀ a, dT = some a → (q_J T a 3).toInt ≤ (q_J S0 a 3).toInt + 140000)) := by
  intro k
  induction k with
  | zero =>
    intro S l0 l1 l2 l3 hG hl0 hl1 hl2 hl3 htT hT hd hm
    have f0 := q_rngI l3
    exfalso; omega
  | succ k ih =>
    intro S l0 l1 l2 l3 hG hl0 hl1 hl2 hl3 htT hT hd hm
    rw [m_X3_takeContours_2]
    have z0 : (0 : Int32).toInt = 0 := rfl
    subst hd
    obtain ⟨aT, eaT, maT, raT⟩ := id htT
    have f1 : q_sm _ := g_30_J3 hG maT raT
    obtain ⟨v2, ev2⟩ := q_ev ((q_J (S) aT 3).toInt)
    have f3 := q_bV ev2 f1
    obtain ⟨v4, ev4⟩ := q_ev ((q_J (S0) aT 3).toInt)
    have f5 := q_rVJ (X := q_J (S0) aT 3) ev4
    have f6 := q_le3v (K9 := 2) (E9 := 0) ev2 ev4 q_evr (hT aT eaT).1
    have f7 := q_leCv ev4 (hT aT eaT).2
    refine q_ok_atA hG eaT maT raT rfl ?_
    have f8 : q_sm _ := g_30_I5 hG maT raT
    obtain ⟨v9, ev9⟩ := q_ev ((q_I (S) aT 5).toInt)
    have f10 := q_bV ev9 f8
    refine q_ok_ite (fun g11 => ?_) (fun g11 => ?_)
    · have f12 := q_leV ev9 q_evr (q_p_ge g11)
      refine q_ok_if (q_b01V (show q_eqv ((1 : Int32)).toInt (1) by unfold q_eqv; decide) (by omega) (by omega)) ?_
      exact q_ok_some ⟨hG, (q_wd (show (1 : Int) ≤ (1 : Int32).toInt ∧ (1 : Int32).toInt ≤ (1 : Int) by decide) (by decide) (by decide)), (q_trk eaT (q_leD ev2 ev4 (by omega)))⟩
    · have f13 := q_ltV q_evr ev9 (q_n_ge g11)
      refine q_ok_b (s_X1_two_30 hn hG.1 maT raT (q_leC ev2 (by omega))) (fun r14 S15 h16 => ?_)
      have hG := q_G_call hG h16.1 (by decide)
      have f17 := h16.2.1
      have f18 : q_sm _ := g_30_J3 hG maT raT
      obtain ⟨v19, ev19⟩ := q_ev ((q_J (S15) aT 3).toInt)
      have f20 := q_bV ev19 f18
      have f21 := q_leDv ev19 ev2 (h16.2.2)
      refine q_ok_atA hG eaT maT raT rfl ?_
      refine q_ok_b (s_X1_isPast_30 hn hG.1 maT raT) (fun r22 S23 h24 => ?_)
      obtain ⟨eS23, h24⟩ := h24
      replace eS23 := eS23.symm
      subst eS23
      have f25 := h24
      refine q_ok_ite (fun g26 => ?_) (fun g26 => ?_)
      · have f27 := q_eqV q_evr (show q_eqv ((0 : Int32)).toInt (0) by unfold q_eqv; decide) (q_p_eq g26)
        refine q_ok_at hG hl0 rfl (fun a28 ma28 ra28 ea28 => ?_)
        have f29 : q_sm _ := g_15_I4 hG ma28 ra28
        obtain ⟨v30, ev30⟩ := q_ev ((l2 + r14).toInt)
        have f31 : v30 = l2.toInt + r14.toInt := q_addVI ev30 q_evr q_evr (by omega) (by omega)
        obtain ⟨v32, ev32⟩ := q_ev ((q_I (S15) a28 4).toInt)
        have f33 := q_bV ev32 f29
        refine q_ok_ite (fun g34 => ?_) (fun g34 => ?_)
        · have f35 := q_ltV ev30 ev32 (q_p_lt g34)
          exact s_X3_takeContours_15_30_45 hn (B2 := (k : Int) + 1) (fun S9 z0 z1 z2 z3 hG9 hz0 hz1 hz2 hz3 hzt hzT hzd  hm9 => ih S9 z0 z1 z2 z3 hG9 hz0 hz1 hz2 hz3 hzt hzT hzd  (by omega)) _ _ _ _ _ _ hG hl0 hl1 (q_wd hl2 (by decide) (by decide)) (q_wd hl3 (by decide) (by decide)) (q_wd (q_addBI (0) (65655) hl2 f17 (by decide) (by decide) (by decide) (by decide)) (by decide) (by decide)) (q_trE eaT maT raT) (q_trk eaT ⟨q_le3 (K9 := 2) (E9 := 2) ev19 ev4 q_evr (by omega), q_leC ev4 (by omega)⟩) (by first | rfl | exact hd) (q_upV q_evr (by omega))
        · have f36 := q_leV ev32 ev30 (q_n_lt g34)
          refine q_ok_ite (fun g37 => ?_) (fun g37 => ?_)
          · have f38 := q_leV (show q_eqv ((120 : Int32)).toInt (120) by unfold q_eqv; decide) ev30 (q_p_ge g37)
            exact s_X3_takeContours_15_30_45 hn (B2 := (k : Int) + 1) (fun S9 z0 z1 z2 z3 hG9 hz0 hz1 hz2 hz3 hzt hzT hzd  hm9 => ih S9 z0 z1 z2 z3 hG9 hz0 hz1 hz2 hz3 hzt hzT hzd  (by omega)) _ _ _ _ _ _ hG hl0 hl1 (q_wd hl2 (by decide) (by decide)) (q_wd hl3 (by decide) (by decide)) (q_wd (q_addBI (0) (65655) hl2 f17 (by decide) (by decide) (by decide) (by decide)) (by decide) (by decide)) (q_trE eaT maT raT) (q_trk eaT ⟨q_le3 (K9 := 2) (E9 := 2) ev19 ev4 q_evr (by omega), q_leC ev4 (by omega)⟩) (by first | rfl | exact hd) (q_upV q_evr (by omega))
          · have f39 := q_ltV ev30 (show q_eqv ((120 : Int32)).toInt (120) by unfold q_eqv; decide) (q_n_ge g37)
            unfold m_X3_takeContours_46
            refine q_ok_ite (fun g40 => ?_) (fun g40 => ?_)
            · have f41 := q_eqV (show q_eqv ((1 : Int32)).toInt (1) by unfold q_eqv; decide) (show q_eqv ((0 : Int32)).toInt (0) by unfold q_eqv; decide) (q_p_eq g40)
              exfalso; omega
            · have f42 := q_neV (show q_eqv ((1 : Int32)).toInt (1) by unfold q_eqv; decide) (show q_eqv ((0 : Int32)).toInt (0) by unfold q_eqv; decide) (q_n_eq g40)
              refine q_ok_atA hG ea28 ma28 ra28 rfl ?_
              have f43 : q_sm _ := g_15_I5 hG ma28 ra28
              obtain ⟨v44, ev44⟩ := q_ev ((q_I (S15) a28 5).toInt)
              have f45 := q_bV ev44 f43
              refine q_ok_ite (fun g46 => ?_) (fun g46 => ?_)
              · have f47 := q_ltV ev44 (show q_eqv ((120 : Int32)).toInt (120) by unfold q_eqv; decide) (q_p_lt g46)
                have t48 := g_15_R3 hG ma28 ra28
                refine q_ok_at hG t48 rfl (fun a49 ma49 ra49 ea49 => ?_)
                refine q_ok_if (q_inV (g_19_N hG ma49 ra49) ev44 (by omega) (by omega)) ?_
                have hG := u_19_E (k := (q_I (S15) a28 5).toNatClampNeg) (x := l2 + r14) hG ma49 ra49 (by decide) (q_oV ev30 (by omega) (by omega))
                have f50 : q_sm _ := g_15_I5 hG ma28 ra28
                have e51 : q_I (q_sI (S15) a49 (q_I (S15) a28 5).toNatClampNeg (l2 + r14)) a28 5 = q_I (S15) a28 5 := (q_fwI ra28 ra49 (by decide))
                obtain ⟨v52, ev52⟩ := q_ev (((q_I (q_sI (S15) a49 (q_I (S15) a28 5).toNatClampNeg (l2 + r14)) a28 5) + (1 : Int32)).toInt)
                obtain ⟨v53, ev53⟩ := q_ev ((q_I (q_sI (S15) a49 (q_I (S15) a28 5).toNatClampNeg (l2 + r14)) a28 5).toInt)
                have f54 : v53 = v44 := q_eqVI e51 ev53 ev44
                have f55 : v52 = v53 + (1) := q_addVI ev52 ev53 (show q_eqv ((1 : Int32)).toInt (1) by unfold q_eqv; decide) (by omega) (by omega)
                have hG := u_15_I5 (x := (q_I (q_sI (S15) a49 (q_I (S15) a28 5).toNatClampNeg (l2 + r14)) a28 5) + (1 : Int32)) hG ma28 ra28 (by decide) (q_oV ev52 (by omega) (by omega))
                refine q_ok_let (fun S56 eS56 => ?_)
                rw [← eS56] at hG
                obtain ⟨v57, ev57⟩ := q_ev (((l2 + r14) + (1 : Int32)).toInt)
                have f58 : v57 = v30 + (1) := q_addVI ev57 ev30 (show q_eqv ((1 : Int32)).toInt (1) by unfold q_eqv; decide) (by omega) (by omega)
                have hG := u_15_I4 (x := (l2 + r14) + (1 : Int32)) hG ma28 ra28 (by decide) (q_oV ev57 (by omega) (by omega))
                obtain ⟨v59, ev59⟩ := q_ev ((l3 + (1)).toInt)
                have f60 : v59 = l3.toInt + (1) := q_addVI ev59 q_evr (show q_eqv ((1 : Int32)).toInt (1) by unfold q_eqv; decide) (by omega) (by omega)
                have e61 : q_J (q_sI (S56) a28 4 ((l2 + r14) + (1 : Int32))) aT 3 = q_J (S15) aT 3 := (Eq.trans q_skJI (Eq.trans (q_leJ eS56) (Eq.trans q_skJI q_skJI)))
                obtain ⟨v62, ev62⟩ := q_ev ((q_J (q_sI (S56) a28 4 ((l2 + r14) + (1 : Int32))) aT 3).toInt)
                have f63 : v62 = v19 := q_eqVJ e61 ev62 ev19
                exact ih _ _ _ _ _ hG hl0 hl1 (q_wd hl2 (by decide) (by decide)) (q_oV ev59 (by omega) (by omega)) (q_trE eaT maT raT) (q_trk eaT ⟨q_le3 (K9 := 2) (E9 := 0) ev62 ev4 ev59 (by omega), q_leC ev4 (by omega)⟩) (by first | rfl | exact hd)  (q_upV ev59 (by omega))
              · have f64 := q_leV (show q_eqv ((120 : Int32)).toInt (120) by unfold q_eqv; decide) ev44 (q_n_lt g46)
                exact s_X3_takeContours_15_30_62 hn _ hG (q_trE eaT maT raT) (q_trk eaT ⟨q_le3 (K9 := 0) (E9 := 140000) ev19 ev4 (show q_eqv ((0 : Int32)).toInt (0) by unfold q_eqv; decide) (by omega), q_leC ev4 (by omega)⟩) 
      · have f65 := q_neV q_evr (show q_eqv ((0 : Int32)).toInt (0) by unfold q_eqv; decide) (q_n_eq g26)
        exact s_X3_takeContours_15_30_45 hn (B2 := (k : Int) + 1) (fun S9 z0 z1 z2 z3 hG9 hz0 hz1 hz2 hz3 hzt hzT hzd  hm9 => ih S9 z0 z1 z2 z3 hG9 hz0 hz1 hz2 hz3 hzt hzT hzd  (by omega)) _ _ _ _ _ _ hG hl0 hl1 (q_wd hl2 (by decide) (by decide)) (q_wd hl3 (by decide) (by decide)) (q_wd (q_addBI (0) (65655) hl2 f17 (by decide) (by decide) (by decide) (by decide)) (by decide) (by decide)) (q_trE eaT maT raT) (q_trk eaT ⟨q_le3 (K9 := 2) (E9 := 2) ev19 ev4 q_evr (by omega), q_leC ev4 (by omega)⟩) (by first | rfl | exact hd) (q_upV q_evr (by omega))
set_option maxHeartbeats 4000000 in
set_option maxRecDepth 100000 in
theorem s_X3_takeContours_15_30 {ρ : Nat → Nat} {L : List Nat} {n : Nat} (hn : 18446744073709551616 ≤ n) {S : q_S} (hI : q_Inv ρ L S) {o : Nat} (mo : o ∈ L) (ro : ρ o = 15) {p0 : Option Nat} (tp0 : q_tr ρ L p0 30) {p1 : Int32} (hp1 : (0 ≤ p1.toInt ∧ p1.toInt ≤ 120)) (ht : ∀ a, p0 = some a → (q_J S a 3).toInt ≤ 140737555464192) : q_ok (m_X3_takeContours n S o p0 p1) (fun r T => q_G ρ L M_X3_takeContours_15_30 S T ∧ (0 ≤ r.toInt ∧ r.toInt ≤ 1) ∧ q_sm (∀ a, p0 = some a → (q_J T a 3).toInt ≤ (q_J S a 3).toInt + 140000)) := by
  have hG : q_G ρ L M_X3_takeContours_15_30 S S := q_G_refl hI
  unfold m_X3_takeContours
  have z0 : (0 : Int32).toInt = 0 := rfl
  obtain ⟨aT, eaT, maT, raT⟩ := id tp0
  have f1 : q_sm _ := g_30_J3 hG maT raT
  obtain ⟨v2, ev2⟩ := q_ev ((q_J (S) aT 3).toInt)
  have f3 := q_bV ev2 f1
  have f4 := q_leCv ev2 (ht aT eaT)
  exact s_X3_takeContours_15_30_2 hn n _ _ _ _ _ hG (q_trI mo ro) tp0 (q_wd hp1 (by decide) (by decide)) (q_wd (show (0 : Int) ≤ (0 : Int32).toInt ∧ (0 : Int32).toInt ≤ (0 : Int) by decide) (by decide) (by decide)) (q_trE eaT maT raT) (q_trk eaT ⟨q_le3 (K9 := 2) (E9 := 0) ev2 ev2 (show q_eqv ((0 : Int32)).toInt (0) by unfold q_eqv; decide) (by omega), q_leC ev2 (by omega)⟩) (by first | rfl | exact hd)  (q_upV (show q_eqv ((0 : Int32)).toInt (0) by unfold q_eqv; decide) (by omega))
def M_X3_takeFlags_15_30 : List Nat := [1152, 1922, 1923]
set_option maxHeartbeats 4000000 in
set_option maxRecDepth 100000 in
theorem s_X3_takeFlags_15_30_80 {ρ : Nat → Nat} {L : List Nat} {n : Nat} (hn : 18446744073709551616 ≤ n) {dT : Option Nat} {S0 : q_S}  (S : q_S) (hG : q_G ρ L M_X3_takeFlags_15_30 S0 S) (htT : q_tr ρ L dT 30) (hT : (∀ a, dT = some a → (q_J S a 3).toInt ≤ (q_J S0 a 3).toInt + 0 * (0 : Int32).toInt + 600 ∧ (q_J S0 a 3).toInt ≤ 140737555464192)) : q_ok (m_X3_takeFlags_80 n S) (fun r T => q_G ρ L M_X3_takeFlags_15_30 S0 T ∧ (0 ≤ r.toInt ∧ r.toInt ≤ 1) ∧ q_sm (∀ a, dT = some a → (q_J T a 3).toInt ≤ (q_J S0 a 3).toInt + 600)) := by
  unfold m_X3_takeFlags_80
  have z0 : (0 : Int32).toInt = 0 := rfl
  obtain ⟨aT, eaT, maT, raT⟩ := id htT
  have f1 : q_sm _ := g_30_J3 hG maT raT
  obtain ⟨v2, ev2⟩ := q_ev ((q_J (S) aT 3).toInt)
  have f3 := q_bV ev2 f1
  obtain ⟨v4, ev4⟩ := q_ev ((q_J (S0) aT 3).toInt)
  have f5 := q_rVJ (X := q_J (S0) aT 3) ev4
  have f6 := q_le3v (K9 := 0) (E9 := 600) ev2 ev4 (show q_eqv ((0 : Int32)).toInt (0) by unfold q_eqv; decide) (hT aT eaT).1
  have f7 := q_leCv ev4 (hT aT eaT).2
  unfold m_X3_takeFlags_81
  refine q_ok_if (q_b01V (show q_eqv ((0 : Int32)).toInt (0) by unfold q_eqv; decide) (by omega) (by omega)) ?_
  exact q_ok_some ⟨hG, (q_wd (show (0 : Int) ≤ (0 : Int32).toInt ∧ (0 : Int32).toInt ≤ (0 : Int) by decide) (by decide) (by decide)), (q_trk eaT (q_leD ev2 ev4 (by omega)))⟩
set_option maxHeartbeats 4000000 in
set_option maxRecDepth 100000 in
theorem s_X3_takeFlags_15_30_50 {ρ : Nat → Nat} {L : List Nat} {n : Nat} (hn : 18446744073709551616 ≤ n) {dT : Option Nat} {S0 : q_S}  {k8 : q_S → Option Nat → Option Nat → Int32 → Int32 → Int32 → Option (Int32 × q_S)} {B8 : Int} (hk8 : ∀ (S : q_S) (z0 : Option Nat) (z1 : Option Nat) (z2 : Int32) (z3 : Int32) (z4 : Int32), q_G ρ L M_X3_takeFlags_15_30 S0 S → q_tr ρ L z0 15 → q_tr ρ L z1 30 → (0 ≤ z2.toInt ∧ z2.toInt ≤ 65535) → (0 ≤ z3.toInt ∧ z3.toInt ≤ 65535) → (0 ≤ z4.toInt ∧ z4.toInt ≤ 120) → q_tr ρ L dT 30 → (∀ a, dT = some a → (q_J S a 3).toInt ≤ (q_J S0 a 3).toInt + 4 * z4.toInt + 0 ∧ (q_J S0 a 3).toInt ≤ 140737555464192) → z1 = dT → 2147483648 - z4.toInt < B8 → q_ok (k8 S z0 z1 z2 z3 z4) (fun r T => q_G ρ L M_X3_takeFlags_15_30 S0 T ∧ (0 ≤ r.toInt ∧ r.toInt ≤ 1) ∧ q_sm (∀ a, dT = some a → (q_J T a 3).toInt ≤ (q_J S0 a 3).toInt + 600))) (S : q_S) (l0 : Option Nat) (l1 : Option Nat) (l3 : Int32) (l4 : Int32) (l5 : Int32) (hG : q_G ρ L M_X3_takeFlags_15_30 S0 S) (hl0 : q_tr ρ L l0 15) (hl1 : q_tr ρ L l1 30) (hl3 : (0 ≤ l3.toInt ∧ l3.toInt ≤ 65535)) (hl4 : (0 ≤ l4.toInt ∧ l4.toInt ≤ 65535)) (hl5 : (0 ≤ l5.toInt ∧ l5.toInt ≤ 119)) (htT : q_tr ρ L dT 30) (hT : (∀ a, dT = some a → (q_J S a 3).toInt ≤ (q_J S0 a 3).toInt + 4 * l5.toInt + 4 ∧ (q_J S0 a 3).toInt ≤ 140737555464192)) (hd : l1 = dT) (hm8 : 2147483648 - l5.toInt ≤ B8) : q_ok (m_X3_takeFlags_50 n k8 S l0 l1 l3 l4 l5) (fun r T => q_G ρ L M_X3_takeFlags_15_30 S0 T ∧ (0 ≤ r.toInt ∧ r.toInt ≤ 1) ∧ q_sm (∀ a, dT = some a → (q_J T a 3).toInt ≤ (q_J S0 a 3).toInt + 600)) := by
  unfold m_X3_takeFlags_50
  have z0 : (0 : Int32).toInt = 0 := rfl
  subst hd
  obtain ⟨aT, eaT, maT, raT⟩ := id htT
  have f1 : q_sm _ := g_30_J3 hG maT raT
  obtain ⟨v2, ev2⟩ := q_ev ((q_J (S) aT 3).toInt)
  have f3 := q_bV ev2 f1
  obtain ⟨v4, ev4⟩ := q_ev ((q_J (S0) aT 3).toInt)
  have f5 := q_rVJ (X := q_J (S0) aT 3) ev4
  have f6 := q_le3v (K9 := 4) (E9 := 4) ev2 ev4 q_evr (hT aT eaT).1
  have f7 := q_leCv ev4 (hT aT eaT).2
  refine q_ok_at hG hl0 rfl (fun a8 ma8 ra8 ea8 => ?_)
  have t9 := g_15_R2 hG ma8 ra8
  refine q_ok_at hG t9 rfl (fun a10 ma10 ra10 ea10 => ?_)
  refine q_ok_if (q_inV (g_18_N hG ma10 ra10) q_evr (by omega) (by omega)) ?_
  have hG := u_18_E (k := (l5).toNatClampNeg) (x := l4) hG ma10 ra10 (by decide) (q_wd hl4 (by decide) (by decide))
  have e11 : q_J (q_sI (S) a10 (l5).toNatClampNeg (l4)) aT 3 = q_J (S) aT 3 := q_skJI
  obtain ⟨v12, ev12⟩ := q_ev ((q_J (q_sI (S) a10 (l5).toNatClampNeg (l4)) aT 3).toInt)
  have f13 : v12 = v2 := q_eqVJ e11 ev12 ev2
  obtain ⟨v14, ev14⟩ := q_ev ((l5 + (1)).toInt)
  have f15 : v14 = l5.toInt + (1) := q_addVI ev14 q_evr (show q_eqv ((1 : Int32)).toInt (1) by unfold q_eqv; decide) (by omega) (by omega)
  exact hk8 _ _ _ _ _ _ hG hl0 hl1 (q_wd hl3 (by decide) (by decide)) (q_wd hl4 (by decide) (by decide)) (q_wd (q_addBI (1) (120) hl5 (show (1 : Int) ≤ (1 : Int32).toInt ∧ (1 : Int32).toInt ≤ (1 : Int) by decide) (by decide) (by decide) (by decide) (by decide)) (by decide) (by decide)) (q_trE eaT maT raT) (q_trk eaT ⟨q_le3 (K9 := 4) (E9 := 0) ev12 ev4 ev14 (by omega), q_leC ev4 (by omega)⟩) (by first | rfl | exact hd)  (q_upVl ev14 (by omega))
set_option maxHeartbeats 4000000 in
set_option maxRecDepth 100000 in
theorem s_X3_takeFlags_15_30_8 {ρ : Nat → Nat} {L : List Nat} {n : Nat} (hn : 18446744073709551616 ≤ n) {dT : Option Nat} {S0 : q_S}  : ∀ (k : Nat) (S : q_S) (l0 : Option Nat) (l1 : Option Nat) (l3 : Int32) (l4 : Int32) (l5 : Int32), q_G ρ L M_X3_takeFlags_15_30 S0 S → q_tr ρ L l0 15 → q_tr ρ L l1 30 → (0 ≤ l3.toInt ∧ l3.toInt ≤ 65535) → (0 ≤ l4.toInt ∧ l4.toInt ≤ 65535) → (0 ≤ l5.toInt ∧ l5.toInt ≤ 120) → q_tr ρ L dT 30 → (∀ a, dT = some a → (q_J S a 3).toInt ≤ (q_J S0 a 3).toInt + 4 * l5.toInt + 0 ∧ (q_J S0 a 3).toInt ≤ 140737555464192) → l1 = dT → 2147483648 - l5.toInt ≤ (k : Int) → q_ok (m_X3_takeFlags_8 n k S l0 l1 l3 l4 l5) (fun r T => q_G ρ L M_X3_takeFlags_15_30 S0 T ∧ (0 ≤ r.toInt ∧ r.toInt ≤ 1) ∧ q_sm (∀ a, dT = some a → (q_J T a 3).toInt ≤ (q_J S0 a 3).toInt + 600)) := by
  intro k
  induction k with
  | zero =>
    intro S l0 l1 l3 l4 l5 hG hl0 hl1 hl3 hl4 hl5 htT hT hd hm
    have f0 := q_rngI l5
    exfalso; omega
  | succ k ih =>
    intro S l0 l1 l3 l4 l5 hG hl0 hl1 hl3 hl4 hl5 htT hT hd hm
    rw [m_X3_takeFlags_8]
    have z0 : (0 : Int32).toInt = 0 := rfl
    subst hd
    obtain ⟨aT, eaT, maT, raT⟩ := id htT
    have f1 : q_sm _ := g_30_J3 hG maT raT
    obtain ⟨v2, ev2⟩ := q_ev ((q_J (S) aT 3).toInt)
    have f3 := q_bV ev2 f1
    obtain ⟨v4, ev4⟩ := q_ev ((q_J (S0) aT 3).toInt)
    have f5 := q_rVJ (X := q_J (S0) aT 3) ev4
    have f6 := q_le3v (K9 := 4) (E9 := 0) ev2 ev4 q_evr (hT aT eaT).1
    have f7 := q_leCv ev4 (hT aT eaT).2
    refine q_ok_at hG hl0 rfl (fun a8 ma8 ra8 ea8 => ?_)
    have f9 : q_sm _ := g_15_I4 hG ma8 ra8
    obtain ⟨v10, ev10⟩ := q_ev ((q_I (S) a8 4).toInt)
    have f11 := q_bV ev10 f9
    refine q_ok_ite (fun g12 => ?_) (fun g12 => ?_)
    · have f13 := q_leV ev10 q_evr (q_p_ge g12)
      refine q_ok_ite (fun g14 => ?_) (fun g14 => ?_)
      · have f15 := q_eqV q_evr (show q_eqv ((0 : Int32)).toInt (0) by unfold q_eqv; decide) (q_p_eq g14)
        refine q_ok_atA hG eaT maT raT rfl ?_
        refine q_ok_b (s_X1_isPast_30 hn hG.1 maT raT) (fun r16 S17 h18 => ?_)
        obtain ⟨eS17, h18⟩ := h18
        replace eS17 := eS17.symm
        subst eS17
        have f19 := h18
        refine q_ok_ite (fun g20 => ?_) (fun g20 => ?_)
        · have f21 := q_eqV q_evr (show q_eqv ((0 : Int32)).toInt (0) by unfold q_eqv; decide) (q_p_eq g20)
          unfold m_X3_takeFlags_81
          refine q_ok_if (q_b01V (show q_eqv ((1 : Int32)).toInt (1) by unfold q_eqv; decide) (by omega) (by omega)) ?_
          exact q_ok_some ⟨hG, (q_wd (show (1 : Int) ≤ (1 : Int32).toInt ∧ (1 : Int32).toInt ≤ (1 : Int) by decide) (by decide) (by decide)), (q_trk eaT (q_leD ev2 ev4 (by omega)))⟩
        · have f22 := q_neV q_evr (show q_eqv ((0 : Int32)).toInt (0) by unfold q_eqv; decide) (q_n_eq g20)
          exact s_X3_takeFlags_15_30_80 hn _ hG (q_trE eaT maT raT) (q_trk eaT ⟨q_le3 (K9 := 0) (E9 := 600) ev2 ev4 (show q_eqv ((0 : Int32)).toInt (0) by unfold q_eqv; decide) (by omega), q_leC ev4 (by omega)⟩) 
      · have f23 := q_neV q_evr (show q_eqv ((0 : Int32)).toInt (0) by unfold q_eqv; decide) (q_n_eq g14)
        exact s_X3_takeFlags_15_30_80 hn _ hG (q_trE eaT maT raT) (q_trk eaT ⟨q_le3 (K9 := 0) (E9 := 600) ev2 ev4 (show q_eqv ((0 : Int32)).toInt (0) by unfold q_eqv; decide) (by omega), q_leC ev4 (by omega)⟩) 
    · have f24 := q_ltV q_evr ev10 (q_n_ge g12)
      refine q_ok_ite (fun g25 => ?_) (fun g25 => ?_)
      · have f26 := q_leV q_evr (show q_eqv ((0 : Int32)).toInt (0) by unfold q_eqv; decide) (q_p_le g25)
        refine q_ok_atA hG eaT maT raT rfl ?_
        refine q_ok_b (s_X1_one_30 hn hG.1 maT raT (q_leC ev2 (by omega))) (fun r27 S28 h29 => ?_)
        have hG := q_G_call hG h29.1 (by decide)
        have f30 := h29.2.1
        have f31 : q_sm _ := g_30_J3 hG maT raT
        obtain ⟨v32, ev32⟩ := q_ev ((q_J (S28) aT 3).toInt)
        have f33 := q_bV ev32 f31
        have f34 := q_leDv ev32 ev2 (h29.2.2)
        obtain ⟨v35, ev35⟩ := q_ev ((r27 &&& (8 : Int32)).toInt)
        have f36 := q_andRVI ev35 (show q_eqv ((8 : Int32)).toInt (8) by unfold q_eqv; decide) (by omega)
        refine q_ok_ite (fun g37 => ?_) (fun g37 => ?_)
        · have f38 := q_eqV ev35 (show q_eqv ((0 : Int32)).toInt (0) by unfold q_eqv; decide) (q_p_eq g37)
          unfold m_X3_takeFlags_49
          exact s_X3_takeFlags_15_30_50 hn (B8 := (k : Int) + 1) (fun S9 z0 z1 z2 z3 z4 hG9 hz0 hz1 hz2 hz3 hz4 hzt hzT hzd  hm9 => ih S9 z0 z1 z2 z3 z4 hG9 hz0 hz1 hz2 hz3 hz4 hzt hzT hzd  (by omega)) _ _ _ _ _ _ hG hl0 hl1 (q_wd (show (0 : Int) ≤ (0 : Int32).toInt ∧ (0 : Int32).toInt ≤ (0 : Int) by decide) (by decide) (by decide)) (q_wd f30 (by decide) (by decide)) (q_oV q_evr (by omega) (by omega)) (q_trE eaT maT raT) (q_trk eaT ⟨q_le3 (K9 := 4) (E9 := 4) ev32 ev4 q_evr (by omega), q_leC ev4 (by omega)⟩) (by first | rfl | exact hd) (q_upV q_evr (by omega))
        · have f39 := q_neV ev35 (show q_eqv ((0 : Int32)).toInt (0) by unfold q_eqv; decide) (q_n_eq g37)
          refine q_ok_atA hG eaT maT raT rfl ?_
          refine q_ok_b (s_X1_one_30 hn hG.1 maT raT (q_leC ev32 (by omega))) (fun r40 S41 h42 => ?_)
          have hG := q_G_call hG h42.1 (by decide)
          have f43 := h42.2.1
          have f44 : q_sm _ := g_30_J3 hG maT raT
          obtain ⟨v45, ev45⟩ := q_ev ((q_J (S41) aT 3).toInt)
          have f46 := q_bV ev45 f44
          have f47 := q_leDv ev45 ev32 (h42.2.2)
          unfold m_X3_takeFlags_49
          exact s_X3_takeFlags_15_30_50 hn (B8 := (k : Int) + 1) (fun S9 z0 z1 z2 z3 z4 hG9 hz0 hz1 hz2 hz3 hz4 hzt hzT hzd  hm9 => ih S9 z0 z1 z2 z3 z4 hG9 hz0 hz1 hz2 hz3 hz4 hzt hzT hzd  (by omega)) _ _ _ _ _ _ hG hl0 hl1 (q_wd f43 (by decide) (by decide)) (q_wd f30 (by decide) (by decide)) (q_oV q_evr (by omega) (by omega)) (q_trE eaT maT raT) (q_trk eaT ⟨q_le3 (K9 := 4) (E9 := 4) ev45 ev4 q_evr (by omega), q_leC ev4 (by omega)⟩) (by first | rfl | exact hd) (q_upV q_evr (by omega))
      · have f48 := q_ltV (show q_eqv ((0 : Int32)).toInt (0) by unfold q_eqv; decide) q_evr (q_n_le g25)
        obtain ⟨v49, ev49⟩ := q_ev ((l3 + (-1)).toInt)
        have f50 : v49 = l3.toInt + (-1) := q_addVI ev49 q_evr (show q_eqv ((-1 : Int32)).toInt (-1) by unfold q_eqv; decide) (by omega) (by omega)
        exact s_X3_takeFlags_15_30_50 hn (B8 := (k : Int) + 1) (fun S9 z0 z1 z2 z3 z4 hG9 hz0 hz1 hz2 hz3 hz4 hzt hzT hzd  hm9 => ih S9 z0 z1 z2 z3 z4 hG9 hz0 hz1 hz2 hz3 hz4 hzt hzT hzd  (by omega)) _ _ _ _ _ _ hG hl0 hl1 (q_oV ev49 (by omega) (by omega)) (q_wd hl4 (by decide) (by decide)) (q_oV q_evr (by omega) (by omega)) (q_trE eaT maT raT) (q_trk eaT ⟨q_le3 (K9 := 4) (E9 := 4) ev2 ev4 q_evr (by omega), q_leC ev4 (by omega)⟩) (by first | rfl | exact hd) (q_upV q_evr (by omega))
set_option maxHeartbeats 4000000 in
set_option maxRecDepth 100000 in
theorem s_X3_takeFlags_15_30 {ρ : Nat → Nat} {L : List Nat} {n : Nat} (hn : 18446744073709551616 ≤ n) {S : q_S} (hI : q_Inv ρ L S) {o : Nat} (mo : o ∈ L) (ro : ρ o = 15) {p0 : Option Nat} (tp0 : q_tr ρ L p0 30) {p1 : Int32} (hp1 : (0 ≤ p1.toInt ∧ p1.toInt ≤ 120)) (ht : ∀ a, p0 = some a → (q_J S a 3).toInt ≤ 140737555464192) : q_ok (m_X3_takeFlags n S o p0 p1) (fun r T => q_G ρ L M_X3_takeFlags_15_30 S T ∧ (0 ≤ r.toInt ∧ r.toInt ≤ 1) ∧ q_sm (∀ a, p0 = some a → (q_J T a 3).toInt ≤ (q_J S a 3).toInt + 600)) := by
  have hG : q_G ρ L M_X3_takeFlags_15_30 S S := q_G_refl hI
  unfold m_X3_takeFlags
  have z0 : (0 : Int32).toInt = 0 := rfl
  obtain ⟨aT, eaT, maT, raT⟩ := id tp0
  have f1 : q_sm _ := g_30_J3 hG maT raT
  obtain ⟨v2, ev2⟩ := q_ev ((q_J (S) aT 3).toInt)
  have f3 := q_bV ev2 f1
  have f4 := q_leCv ev2 (ht aT eaT)
  exact s_X3_takeFlags_15_30_8 hn n _ _ _ _ _ _ hG (q_trI mo ro) tp0 (q_wd (show (0 : Int) ≤ (0 : Int32).toInt ∧ (0 : Int32).toInt ≤ (0 : Int) by decide) (by decide) (by decide)) (q_wd (show (0 : Int) ≤ (0 : Int32).toInt ∧ (0 : Int32).toInt ≤ (0 : Int) by decide) (by decide) (by decide)) (q_wd hp1 (by decide) (by decide)) (q_trE eaT maT raT) (q_trk eaT ⟨q_le3 (K9 := 4) (E9 := 0) ev2 ev2 q_evr (by omega), q_leC ev2 (by omega)⟩) (by first | rfl | exact hd)  (q_upV q_evr (by omega))
def M_X3_take_15_30 : List Nat := [964, 965, 1024, 1088, 1152, 1216, 1922, 1923]
set_option maxHeartbeats 4000000 in
set_option maxRecDepth 100000 in
theorem s_X3_take_15_30 {ρ : Nat → Nat} {L : List Nat} {n : Nat} (hn : 18446744073709551616 ≤ n) {S : q_S} (hI : q_Inv ρ L S) {o : Nat} (mo : o ∈ L) (ro : ρ o = 15) {p0 : Option Nat} (tp0 : q_tr ρ L p0 30) (ht : ∀ a, p0 = some a → (q_J S a 3).toInt ≤ 140737489403904) : q_ok (m_X3_take n S o p0) (fun r T => q_G ρ L M_X3_take_15_30 S T ∧ (0 ≤ r.toInt ∧ r.toInt ≤ 1) ∧ q_sm (∀ a, p0 = some a → (q_J T a 3).toInt ≤ (q_J S a 3).toInt + 300000)) := by
  have hG : q_G ρ L M_X3_take_15_30 S S := q_G_refl hI
  unfold m_X3_take
  have z0 : (0 : Int32).toInt = 0 := rfl
  obtain ⟨aT, eaT, maT, raT⟩ := id tp0
  have f1 : q_sm _ := g_30_J3 hG maT raT
  obtain ⟨v2, ev2⟩ := q_ev ((q_J (S) aT 3).toInt)
  have f3 := q_bV ev2 f1
  have f4 := q_leCv ev2 (ht aT eaT)
  refine q_ok_atS hG (q_trI mo ro) rfl (fun mo ro => ?_)
  have f5 : q_sm _ := g_15_I4 hG mo ro
  refine q_ok_b (s_X3_takeContours_15_30 hn hG.1 mo ro tp0 (q_wd f5 (by decide) (by decide)) (q_trk eaT (q_leC ev2 (by omega)))) (fun r6 S7 h8 => ?_)
  have hG := q_G_call hG h8.1 (by decide)
  have f9 := h8.2.1
  have f10 : q_sm _ := g_30_J3 hG maT raT
  obtain ⟨v11, ev11⟩ := q_ev ((q_J (S7) aT 3).toInt)
  have f12 := q_bV ev11 f10
  have f13 := q_leDv ev11 ev2 (h8.2.2 _ eaT)
  refine q_ok_ite (fun g14 => ?_) (fun g14 => ?_)
  · have f15 := q_eqV q_evr (show q_eqv ((0 : Int32)).toInt (0) by unfold q_eqv; decide) (q_p_eq g14)
    refine q_ok_if (q_b01V (show q_eqv ((0 : Int32)).toInt (0) by unfold q_eqv; decide) (by omega) (by omega)) ?_
    exact q_ok_some ⟨hG, (q_wd (show (0 : Int) ≤ (0 : Int32).toInt ∧ (0 : Int32).toInt ≤ (0 : Int) by decide) (by decide) (by decide)), (q_trk eaT (q_leD ev11 ev2 (by omega)))⟩
  · have f16 := q_neV q_evr (show q_eqv ((0 : Int32)).toInt (0) by unfold q_eqv; decide) (q_n_eq g14)
    refine q_ok_atA hG eaT maT raT rfl ?_
    refine q_ok_b (s_X1_two_30 hn hG.1 maT raT (q_leC ev11 (by omega))) (fun r17 S18 h19 => ?_)
    have hG := q_G_call hG h19.1 (by decide)
    have f20 := h19.2.1
    have f21 : q_sm _ := g_30_J3 hG maT raT
    obtain ⟨v22, ev22⟩ := q_ev ((q_J (S18) aT 3).toInt)
    have f23 := q_bV ev22 f21
    have f24 := q_leDv ev22 ev11 (h19.2.2)
    refine q_ok_atA hG eaT maT raT rfl ?_
    refine q_ok_b (s_X1_skip_30 hn hG.1 maT raT (q_wd f20 (by decide) (by decide)) (q_leC ev22 (by omega))) (fun r25 S26 h27 => ?_)
    have hG := q_G_call hG h27.1 (by decide)
    have f28 : q_sm _ := g_30_J3 hG maT raT
    obtain ⟨v29, ev29⟩ := q_ev ((q_J (S26) aT 3).toInt)
    have f30 := q_bV ev29 f28
    have f31 := q_leDv ev29 ev22 (h27.2)
    refine q_ok_atS hG (q_trI mo ro) rfl (fun mo ro => ?_)
    refine q_ok_b (s_X3_takeFlags_15_30 hn hG.1 mo ro tp0 (q_wd f5 (by decide) (by decide)) (q_trk eaT (q_leC ev29 (by omega)))) (fun r32 S33 h34 => ?_)
    have hG := q_G_call hG h34.1 (by decide)
    have f35 := h34.2.1
    have f36 : q_sm _ := g_30_J3 hG maT raT
    obtain ⟨v37, ev37⟩ := q_ev ((q_J (S33) aT 3).toInt)
    have f38 := q_bV ev37 f36
    have f39 := q_leDv ev37 ev29 (h34.2.2 _ eaT)
    refine q_ok_ite (fun g40 => ?_) (fun g40 => ?_)
    · have f41 := q_eqV q_evr (show q_eqv ((0 : Int32)).toInt (0) by unfold q_eqv; decide) (q_p_eq g40)
      refine q_ok_if (q_b01V (show q_eqv ((0 : Int32)).toInt (0) by unfold q_eqv; decide) (by omega) (by omega)) ?_
      exact q_ok_some ⟨hG, (q_wd (show (0 : Int) ≤ (0 : Int32).toInt ∧ (0 : Int32).toInt ≤ (0 : Int) by decide) (by decide) (by decide)), (q_trk eaT (q_leD ev37 ev2 (by omega)))⟩
    · have f42 := q_neV q_evr (show q_eqv ((0 : Int32)).toInt (0) by unfold q_eqv; decide) (q_n_eq g40)
      refine q_ok_atS hG (q_trI mo ro) rfl (fun mo ro => ?_)
      have t43 := g_15_R0 hG mo ro
      refine q_ok_b (s_X3_takeAxis_15_30_16 hn hG.1 mo ro tp0 t43 (q_wd f5 (by decide) (by decide)) (q_wd (show (2 : Int) ≤ (2 : Int32).toInt ∧ (2 : Int32).toInt ≤ (2 : Int) by decide) (by decide) (by decide)) (q_wd (show (16 : Int) ≤ (16 : Int32).toInt ∧ (16 : Int32).toInt ≤ (16 : Int) by decide) (by decide) (by decide)) (q_trk eaT (q_leC ev37 (by omega)))) (fun r44 S45 h46 => ?_)
      have hG := q_G_call hG h46.1 (by decide)
      have f47 : q_sm _ := g_30_J3 hG maT raT
      obtain ⟨v48, ev48⟩ := q_ev ((q_J (S45) aT 3).toInt)
      have f49 := q_bV ev48 f47
      have f50 := q_leDv ev48 ev37 (h46.2 _ eaT)
      refine q_ok_atS hG (q_trI mo ro) rfl (fun mo ro => ?_)
      have t51 := g_15_R1 hG mo ro
      refine q_ok_b (s_X3_takeAxis_15_30_17 hn hG.1 mo ro tp0 t51 (q_wd f5 (by decide) (by decide)) (q_wd (show (4 : Int) ≤ (4 : Int32).toInt ∧ (4 : Int32).toInt ≤ (4 : Int) by decide) (by decide) (by decide)) (q_wd (show (32 : Int) ≤ (32 : Int32).toInt ∧ (32 : Int32).toInt ≤ (32 : Int) by decide) (by decide) (by decide)) (q_trk eaT (q_leC ev48 (by omega)))) (fun r52 S53 h54 => ?_)
      have hG := q_G_call hG h54.1 (by decide)
      have f55 : q_sm _ := g_30_J3 hG maT raT
      obtain ⟨v56, ev56⟩ := q_ev ((q_J (S53) aT 3).toInt)
      have f57 := q_bV ev56 f55
      have f58 := q_leDv ev56 ev48 (h54.2 _ eaT)
      refine q_ok_atA hG eaT maT raT rfl ?_
      refine q_ok_b (s_X1_isPast_30 hn hG.1 maT raT) (fun r59 S60 h61 => ?_)
      obtain ⟨eS60, h61⟩ := h61
      replace eS60 := eS60.symm
      subst eS60
      have f62 := h61
      refine q_ok_ite (fun g63 => ?_) (fun g63 => ?_)
      · have f64 := q_eqV q_evr (show q_eqv ((0 : Int32)).toInt (0) by unfold q_eqv; decide) (q_p_eq g63)
        unfold m_X3_take_73
        refine q_ok_if (q_b01V (show q_eqv ((1 : Int32)).toInt (1) by unfold q_eqv; decide) (by omega) (by omega)) ?_
        exact q_ok_some ⟨hG, (q_wd (show (1 : Int) ≤ (1 : Int32).toInt ∧ (1 : Int32).toInt ≤ (1 : Int) by decide) (by decide) (by decide)), (q_trk eaT (q_leD ev56 ev2 (by omega)))⟩
      · have f65 := q_neV q_evr (show q_eqv ((0 : Int32)).toInt (0) by unfold q_eqv; decide) (q_n_eq g63)
        unfold m_X3_take_73
        refine q_ok_if (q_b01V (show q_eqv ((0 : Int32)).toInt (0) by unfold q_eqv; decide) (by omega) (by omega)) ?_
        exact q_ok_some ⟨hG, (q_wd (show (0 : Int) ≤ (0 : Int32).toInt ∧ (0 : Int32).toInt ≤ (0 : Int) by decide) (by decide) (by decide)), (q_trk eaT (q_leD ev56 ev2 (by omega)))⟩
set_option maxHeartbeats 4000000 in
set_option maxRecDepth 100000 in
theorem s_X1_hasMore_30 {ρ : Nat → Nat} {L : List Nat} {n : Nat} (hn : 18446744073709551616 ≤ n) {S : q_S} (hI : q_Inv ρ L S) {o : Nat} (mo : o ∈ L) (ro : ρ o = 30) : q_ok (m_X1_hasMore n S o) (fun r T => T = S ∧ (0 ≤ r.toInt ∧ r.toInt ≤ 1)) := by
  have hG : q_G ρ L [] S S := q_G_refl hI
  unfold m_X1_hasMore
  have z0 : (0 : Int32).toInt = 0 := rfl
  refine q_ok_atS hG (q_trI mo ro) rfl (fun mo ro => ?_)
  have f1 : q_sm _ := g_30_I6 hG mo ro
  obtain ⟨v2, ev2⟩ := q_ev (((q_I (S) o 6) &&& (32 : Int32)).toInt)
  have f3 := q_andRVI ev2 (show q_eqv ((32 : Int32)).toInt (32) by unfold q_eqv; decide) (by omega)
  refine q_ok_ite (fun g4 => ?_) (fun g4 => ?_)
  · have f5 := q_eqV ev2 (show q_eqv ((0 : Int32)).toInt (0) by unfold q_eqv; decide) (q_p_eq g4)
    unfold m_X1_hasMore_15
    refine q_ok_if (q_b01V (show q_eqv ((0 : Int32)).toInt (0) by unfold q_eqv; decide) (by omega) (by omega)) ?_
    exact q_ok_some ⟨rfl, (q_wd (show (0 : Int) ≤ (0 : Int32).toInt ∧ (0 : Int32).toInt ≤ (0 : Int) by decide) (by decide) (by decide))⟩
  · have f6 := q_neV ev2 (show q_eqv ((0 : Int32)).toInt (0) by unfold q_eqv; decide) (q_n_eq g4)
    unfold m_X1_hasMore_15
    refine q_ok_if (q_b01V (show q_eqv ((1 : Int32)).toInt (1) by unfold q_eqv; decide) (by omega) (by omega)) ?_
    exact q_ok_some ⟨rfl, (q_wd (show (1 : Int) ≤ (1 : Int32).toInt ∧ (1 : Int32).toInt ≤ (1 : Int) by decide) (by decide) (by decide))⟩
set_option maxHeartbeats 4000000 in
set_option maxRecDepth 100000 in
theorem s_X1_isMoved_30 {ρ : Nat → Nat} {L : List Nat} {n : Nat} (hn : 18446744073709551616 ≤ n) {S : q_S} (hI : q_Inv ρ L S) {o : Nat} (mo : o ∈ L) (ro : ρ o = 30) : q_ok (m_X1_isMoved n S o) (fun r T => T = S ∧ (0 ≤ r.toInt ∧ r.toInt ≤ 1)) := by
  have hG : q_G ρ L [] S S := q_G_refl hI
  unfold m_X1_isMoved
  have z0 : (0 : Int32).toInt = 0 := rfl
  refine q_ok_atS hG (q_trI mo ro) rfl (fun mo ro => ?_)
  have f1 : q_sm _ := g_30_I6 hG mo ro
  obtain ⟨v2, ev2⟩ := q_ev (((q_I (S) o 6) &&& (2 : Int32)).toInt)
  have f3 := q_andRVI ev2 (show q_eqv ((2 : Int32)).toInt (2) by unfold q_eqv; decide) (by omega)
  refine q_ok_ite (fun g4 => ?_) (fun g4 => ?_)
  · have f5 := q_eqV ev2 (show q_eqv ((0 : Int32)).toInt (0) by unfold q_eqv; decide) (q_p_eq g4)
    unfold m_X1_isMoved_14
    refine q_ok_if (q_b01V (show q_eqv ((0 : Int32)).toInt (0) by unfold q_eqv; decide) (by omega) (by omega)) ?_
    exact q_ok_some ⟨rfl, (q_wd (show (0 : Int) ≤ (0 : Int32).toInt ∧ (0 : Int32).toInt ≤ (0 : Int) by decide) (by decide) (by decide))⟩
  · have f6 := q_neV ev2 (show q_eqv ((0 : Int32)).toInt (0) by unfold q_eqv; decide) (q_n_eq g4)
    unfold m_X1_isMoved_14
    refine q_ok_if (q_b01V (show q_eqv ((1 : Int32)).toInt (1) by unfold q_eqv; decide) (by omega) (by omega)) ?_
    exact q_ok_some ⟨rfl, (q_wd (show (1 : Int) ≤ (1 : Int32).toInt ∧ (1 : Int32).toInt ≤ (1 : Int) by decide) (by decide) (by decide))⟩
def M_X1_nextNumber_30 : List Nat := [1922, 1923]
set_option maxHeartbeats 4000000 in
set_option maxRecDepth 100000 in
theorem s_X1_nextNumber_30 {ρ : Nat → Nat} {L : List Nat} {n : Nat} (hn : 18446744073709551616 ≤ n) {S : q_S} (hI : q_Inv ρ L S) {o : Nat} (mo : o ∈ L) (ro : ρ o = 30) (ht : (q_J S o 3).toInt ≤ 140738025226240) : q_ok (m_X1_nextNumber n S o) (fun r T => q_G ρ L M_X1_nextNumber_30 S T ∧ (-32768 ≤ r.toInt ∧ r.toInt ≤ 65535) ∧ q_sm ((q_J T o 3).toInt ≤ (q_J S o 3).toInt + 2)) := by
  have hG : q_G ρ L M_X1_nextNumber_30 S S := q_G_refl hI
  unfold m_X1_nextNumber
  have z0 : (0 : Int32).toInt = 0 := rfl
  have f1 : q_sm _ := g_30_J3 hG mo ro
  obtain ⟨v2, ev2⟩ := q_ev ((q_J (S) o 3).toInt)
  have f3 := q_bV ev2 f1
  have f4 := q_leCv ev2 ht
  refine q_ok_atS hG (q_trI mo ro) rfl (fun mo ro => ?_)
  have f5 : q_sm _ := g_30_I6 hG mo ro
  obtain ⟨v6, ev6⟩ := q_ev (((q_I (S) o 6) &&& (1 : Int32)).toInt)
  have f7 := q_andRVI ev6 (show q_eqv ((1 : Int32)).toInt (1) by unfold q_eqv; decide) (by omega)
  refine q_ok_ite (fun g8 => ?_) (fun g8 => ?_)
  · have f9 := q_eqV ev6 (show q_eqv ((0 : Int32)).toInt (0) by unfold q_eqv; decide) (q_p_eq g8)
    unfold m_X1_nextNumber_14
    refine q_ok_ite (fun g10 => ?_) (fun g10 => ?_)
    · have f11 := q_eqV (show q_eqv ((0 : Int32)).toInt (0) by unfold q_eqv; decide) (show q_eqv ((0 : Int32)).toInt (0) by unfold q_eqv; decide) (q_p_eq g10)
      refine q_ok_atS hG (q_trI mo ro) rfl (fun mo ro => ?_)
      refine q_ok_b (s_X1_one_30 hn hG.1 mo ro (q_leC ev2 (by omega))) (fun r12 S13 h14 => ?_)
      have hG := q_G_call hG h14.1 (by decide)
      have f15 := h14.2.1
      have f16 : q_sm _ := g_30_J3 hG mo ro
      obtain ⟨v17, ev17⟩ := q_ev ((q_J (S13) o 3).toInt)
      have f18 := q_bV ev17 f16
      have f19 := q_leDv ev17 ev2 (h14.2.2)
      unfold m_X1_nextNumber_30
      refine q_ok_ite (fun g20 => ?_) (fun g20 => ?_)
      · have f21 := q_eqV (show q_eqv ((0 : Int32)).toInt (0) by unfold q_eqv; decide) (show q_eqv ((0 : Int32)).toInt (0) by unfold q_eqv; decide) (q_p_eq g20)
        unfold m_X1_nextNumber_43
        refine q_ok_atS hG (q_trI mo ro) rfl (fun mo ro => ?_)
        refine q_ok_b (s_X1_isMoved_30 hn hG.1 mo ro) (fun r22 S23 h24 => ?_)
        obtain ⟨eS23, h24⟩ := h24
        replace eS23 := eS23.symm
        subst eS23
        have f25 := h24
        refine q_ok_ite (fun g26 => ?_) (fun g26 => ?_)
        · have f27 := q_eqV q_evr (show q_eqv ((0 : Int32)).toInt (0) by unfold q_eqv; decide) (q_p_eq g26)
          unfold m_X1_nextNumber_64
          unfold m_X1_nextNumber_65
          exact q_ok_some ⟨hG, (q_wd f15 (by decide) (by decide)), (q_leD ev17 ev2 (by omega))⟩
        · have f28 := q_neV q_evr (show q_eqv ((0 : Int32)).toInt (0) by unfold q_eqv; decide) (q_n_eq g26)
          refine q_ok_ite (fun g29 => ?_) (fun g29 => ?_)
          · have f30 := q_ltV q_evr (show q_eqv ((128 : Int32)).toInt (128) by unfold q_eqv; decide) (q_p_lt g29)
            unfold m_X1_nextNumber_64
            unfold m_X1_nextNumber_65
            exact q_ok_some ⟨hG, (q_wd f15 (by decide) (by decide)), (q_leD ev17 ev2 (by omega))⟩
          · have f31 := q_leV (show q_eqv ((128 : Int32)).toInt (128) by unfold q_eqv; decide) q_evr (q_n_lt g29)
            unfold m_X1_nextNumber_65
            obtain ⟨v32, ev32⟩ := q_ev ((r12 - ((2 : Int32) * (128 : Int32))).toInt)
            obtain ⟨v33, ev33⟩ := q_ev (((2 : Int32) * (128 : Int32)).toInt)
            have f34 : v33 = (2) * (128) := q_mulVI ev33 (show q_eqv ((2 : Int32)).toInt (2) by unfold q_eqv; decide) (show q_eqv ((128 : Int32)).toInt (128) by unfold q_eqv; decide) (by omega) (by omega)
            have f35 : v32 = r12.toInt - v33 := q_subVI ev32 q_evr ev33 (by omega) (by omega)
            exact q_ok_some ⟨hG, (q_oV ev32 (by omega) (by omega)), (q_leD ev17 ev2 (by omega))⟩
      · have f36 := q_neV (show q_eqv ((0 : Int32)).toInt (0) by unfold q_eqv; decide) (show q_eqv ((0 : Int32)).toInt (0) by unfold q_eqv; decide) (q_n_eq g20)
        exfalso; omega
    · have f37 := q_neV (show q_eqv ((0 : Int32)).toInt (0) by unfold q_eqv; decide) (show q_eqv ((0 : Int32)).toInt (0) by unfold q_eqv; decide) (q_n_eq g10)
      exfalso; omega
  · have f38 := q_neV ev6 (show q_eqv ((0 : Int32)).toInt (0) by unfold q_eqv; decide) (q_n_eq g8)
    unfold m_X1_nextNumber_14
    refine q_ok_ite (fun g39 => ?_) (fun g39 => ?_)
    · have f40 := q_eqV (show q_eqv ((1 : Int32)).toInt (1) by unfold q_eqv; decide) (show q_eqv ((0 : Int32)).toInt (0) by unfold q_eqv; decide) (q_p_eq g39)
      exfalso; omega
    · have f41 := q_neV (show q_eqv ((1 : Int32)).toInt (1) by unfold q_eqv; decide) (show q_eqv ((0 : Int32)).toInt (0) by unfold q_eqv; decide) (q_n_eq g39)
      refine q_ok_atS hG (q_trI mo ro) rfl (fun mo ro => ?_)
      refine q_ok_b (s_X1_two_30 hn hG.1 mo ro (q_leC ev2 (by omega))) (fun r42 S43 h44 => ?_)
      have hG := q_G_call hG h44.1 (by decide)
      have f45 := h44.2.1
      have f46 : q_sm _ := g_30_J3 hG mo ro
      obtain ⟨v47, ev47⟩ := q_ev ((q_J (S43) o 3).toInt)
      have f48 := q_bV ev47 f46
      have f49 := q_leDv ev47 ev2 (h44.2.2)
      unfold m_X1_nextNumber_30
      refine q_ok_ite (fun g50 => ?_) (fun g50 => ?_)
      · have f51 := q_eqV (show q_eqv ((1 : Int32)).toInt (1) by unfold q_eqv; decide) (show q_eqv ((0 : Int32)).toInt (0) by unfold q_eqv; decide) (q_p_eq g50)
        exfalso; omega
      · have f52 := q_neV (show q_eqv ((1 : Int32)).toInt (1) by unfold q_eqv; decide) (show q_eqv ((0 : Int32)).toInt (0) by unfold q_eqv; decide) (q_n_eq g50)
        unfold m_X1_nextNumber_43
        refine q_ok_atS hG (q_trI mo ro) rfl (fun mo ro => ?_)
        refine q_ok_b (s_X1_isMoved_30 hn hG.1 mo ro) (fun r53 S54 h55 => ?_)
        obtain ⟨eS54, h55⟩ := h55
        replace eS54 := eS54.symm
        subst eS54
        have f56 := h55
        refine q_ok_ite (fun g57 => ?_) (fun g57 => ?_)
        · have f58 := q_eqV q_evr (show q_eqv ((0 : Int32)).toInt (0) by unfold q_eqv; decide) (q_p_eq g57)
          unfold m_X1_nextNumber_64
          unfold m_X1_nextNumber_65
          exact q_ok_some ⟨hG, (q_wd f45 (by decide) (by decide)), (q_leD ev47 ev2 (by omega))⟩
        · have f59 := q_neV q_evr (show q_eqv ((0 : Int32)).toInt (0) by unfold q_eqv; decide) (q_n_eq g57)
          refine q_ok_ite (fun g60 => ?_) (fun g60 => ?_)
          · have f61 := q_ltV q_evr (show q_eqv ((32768 : Int32)).toInt (32768) by unfold q_eqv; decide) (q_p_lt g60)
            unfold m_X1_nextNumber_64
            unfold m_X1_nextNumber_65
            exact q_ok_some ⟨hG, (q_wd f45 (by decide) (by decide)), (q_leD ev47 ev2 (by omega))⟩
          · have f62 := q_leV (show q_eqv ((32768 : Int32)).toInt (32768) by unfold q_eqv; decide) q_evr (q_n_lt g60)
            unfold m_X1_nextNumber_65
            obtain ⟨v63, ev63⟩ := q_ev ((r42 - ((2 : Int32) * (32768 : Int32))).toInt)
            obtain ⟨v64, ev64⟩ := q_ev (((2 : Int32) * (32768 : Int32)).toInt)
            have f65 : v64 = (2) * (32768) := q_mulVI ev64 (show q_eqv ((2 : Int32)).toInt (2) by unfold q_eqv; decide) (show q_eqv ((32768 : Int32)).toInt (32768) by unfold q_eqv; decide) (by omega) (by omega)
            have f66 : v63 = r42.toInt - v64 := q_subVI ev63 q_evr ev64 (by omega) (by omega)
            exact q_ok_some ⟨hG, (q_oV ev63 (by omega) (by omega)), (q_leD ev47 ev2 (by omega))⟩
def M_X1_nextScales_30 : List Nat := [1922, 1923, 1930, 1931, 1932, 1933]
set_option maxHeartbeats 4000000 in
set_option maxRecDepth 100000 in
theorem s_X1_nextScales_30 {ρ : Nat → Nat} {L : List Nat} {n : Nat} (hn : 18446744073709551616 ≤ n) {S : q_S} (hI : q_Inv ρ L S) {o : Nat} (mo : o ∈ L) (ro : ρ o = 30) (ht : (q_J S o 3).toInt ≤ 140737756790784) : q_ok (m_X1_nextScales n S o) (fun _ T => q_G ρ L M_X1_nextScales_30 S T ∧ q_sm ((q_J T o 3).toInt ≤ (q_J S o 3).toInt + 8)) := by
  have hG : q_G ρ L M_X1_nextScales_30 S S := q_G_refl hI
  unfold m_X1_nextScales
  have z0 : (0 : Int32).toInt = 0 := rfl
  have f1 : q_sm _ := g_30_J3 hG mo ro
  obtain ⟨v2, ev2⟩ := q_ev ((q_J (S) o 3).toInt)
  have f3 := q_bV ev2 f1
  have f4 := q_leCv ev2 ht
  refine q_ok_atS hG (q_trI mo ro) rfl (fun mo ro => ?_)
  have hG := u_30_I10 (x := (16384 : Int32)) hG mo ro (by decide) (q_wd (show (16384 : Int) ≤ (16384 : Int32).toInt ∧ (16384 : Int32).toInt ≤ (16384 : Int) by decide) (by decide) (by decide))
  have hG := u_30_I11 (x := (0 : Int32)) hG mo ro (by decide) (q_wd (show (0 : Int) ≤ (0 : Int32).toInt ∧ (0 : Int32).toInt ≤ (0 : Int) by decide) (by decide) (by decide))
  refine q_ok_let (fun S5 eS5 => ?_)
  rw [← eS5] at hG
  have hG := u_30_I12 (x := (0 : Int32)) hG mo ro (by decide) (q_wd (show (0 : Int) ≤ (0 : Int32).toInt ∧ (0 : Int32).toInt ≤ (0 : Int) by decide) (by decide) (by decide))
  have hG := u_30_I13 (x := (16384 : Int32)) hG mo ro (by decide) (q_wd (show (16384 : Int) ≤ (16384 : Int32).toInt ∧ (16384 : Int32).toInt ≤ (16384 : Int) by decide) (by decide) (by decide))
  refine q_ok_let (fun S6 eS6 => ?_)
  rw [← eS6] at hG
  have f7 : q_sm _ := g_30_I6 hG mo ro
  obtain ⟨v8, ev8⟩ := q_ev (((q_I (S6) o 6) &&& (8 : Int32)).toInt)
  have f9 := q_andRVI ev8 (show q_eqv ((8 : Int32)).toInt (8) by unfold q_eqv; decide) (by omega)
  refine q_ok_ite (fun g10 => ?_) (fun g10 => ?_)
  · have f11 := q_eqV ev8 (show q_eqv ((0 : Int32)).toInt (0) by unfold q_eqv; decide) (q_p_eq g10)
    obtain ⟨v12, ev12⟩ := q_ev (((q_I (S6) o 6) &&& (64 : Int32)).toInt)
    have f13 := q_andRVI ev12 (show q_eqv ((64 : Int32)).toInt (64) by unfold q_eqv; decide) (by omega)
    refine q_ok_ite (fun g14 => ?_) (fun g14 => ?_)
    · have f15 := q_eqV ev12 (show q_eqv ((0 : Int32)).toInt (0) by unfold q_eqv; decide) (q_p_eq g14)
      obtain ⟨v16, ev16⟩ := q_ev (((q_I (S6) o 6) &&& (128 : Int32)).toInt)
      have f17 := q_andRVI ev16 (show q_eqv ((128 : Int32)).toInt (128) by unfold q_eqv; decide) (by omega)
      refine q_ok_ite (fun g18 => ?_) (fun g18 => ?_)
      · have f19 := q_eqV ev16 (show q_eqv ((0 : Int32)).toInt (0) by unfold q_eqv; decide) (q_p_eq g18)
        unfold m_X1_nextScales_125
        have e20 : q_J (S6) o 3 = q_J (S) o 3 := (Eq.trans (q_leJ eS6) (Eq.trans q_skJI (Eq.trans q_skJI (Eq.trans (q_leJ eS5) (Eq.trans q_skJI q_skJI)))))
        obtain ⟨v21, ev21⟩ := q_ev ((q_J (S6) o 3).toInt)
        have f22 : v21 = v2 := q_eqVJ e20 ev21 ev2
        exact q_ok_some ⟨hG, (q_leD ev21 ev2 (by omega))⟩
      · have f23 := q_neV ev16 (show q_eqv ((0 : Int32)).toInt (0) by unfold q_eqv; decide) (q_n_eq g18)
        have e27 : q_J (S6) o 3 = q_J (S) o 3 := (Eq.trans (q_leJ eS6) (Eq.trans q_skJI (Eq.trans q_skJI (Eq.trans (q_leJ eS5) (Eq.trans q_skJI q_skJI)))))
        obtain ⟨v28, ev28⟩ := q_ev ((q_J (S6) o 3).toInt)
        have f29 : v28 = v2 := q_eqVJ e27 ev28 ev2
        refine q_ok_b (s_X1_signedTwo_30 hn hG.1 mo ro (q_leC ev28 (by omega))) (fun r24 S25 h26 => ?_)
        have hG := q_G_call hG h26.1 (by decide)
        have f30 := h26.2.1
        have f31 : q_sm _ := g_30_J3 hG mo ro
        obtain ⟨v32, ev32⟩ := q_ev ((q_J (S25) o 3).toInt)
        have f33 := q_bV ev32 f31
        have f34 := q_leDv ev32 ev28 (h26.2.2)
        refine q_ok_atS hG (q_trI mo ro) rfl (fun mo ro => ?_)
        have hG := u_30_I10 (x := r24) hG mo ro (by decide) (q_wd f30 (by decide) (by decide))
        have e38 : q_J (q_sI (S25) o 10 (r24)) o 3 = q_J (S25) o 3 := q_skJI
        obtain ⟨v39, ev39⟩ := q_ev ((q_J (q_sI (S25) o 10 (r24)) o 3).toInt)
        have f40 : v39 = v32 := q_eqVJ e38 ev39 ev32
        refine q_ok_b (s_X1_signedTwo_30 hn hG.1 mo ro (q_leC ev39 (by omega))) (fun r35 S36 h37 => ?_)
        have hG := q_G_call hG h37.1 (by decide)
        have f41 := h37.2.1
        have f42 : q_sm _ := g_30_J3 hG mo ro
        obtain ⟨v43, ev43⟩ := q_ev ((q_J (S36) o 3).toInt)
        have f44 := q_bV ev43 f42
        have f45 := q_leDv ev43 ev39 (h37.2.2)
        refine q_ok_atS hG (q_trI mo ro) rfl (fun mo ro => ?_)
        have hG := u_30_I11 (x := r35) hG mo ro (by decide) (q_wd f41 (by decide) (by decide))
        have e49 : q_J (q_sI (S36) o 11 (r35)) o 3 = q_J (S36) o 3 := q_skJI
        obtain ⟨v50, ev50⟩ := q_ev ((q_J (q_sI (S36) o 11 (r35)) o 3).toInt)
        have f51 : v50 = v43 := q_eqVJ e49 ev50 ev43
        refine q_ok_b (s_X1_signedTwo_30 hn hG.1 mo ro (q_leC ev50 (by omega))) (fun r46 S47 h48 => ?_)
        have hG := q_G_call hG h48.1 (by decide)
        have f52 := h48.2.1
        have f53 : q_sm _ := g_30_J3 hG mo ro
        obtain ⟨v54, ev54⟩ := q_ev ((q_J (S47) o 3).toInt)
        have f55 := q_bV ev54 f53
        have f56 := q_leDv ev54 ev50 (h48.2.2)
        refine q_ok_atS hG (q_trI mo ro) rfl (fun mo ro => ?_)
        have hG := u_30_I12 (x := r46) hG mo ro (by decide) (q_wd f52 (by decide) (by decide))
        have e60 : q_J (q_sI (S47) o 12 (r46)) o 3 = q_J (S47) o 3 := q_skJI
        obtain ⟨v61, ev61⟩ := q_ev ((q_J (q_sI (S47) o 12 (r46)) o 3).toInt)
        have f62 : v61 = v54 := q_eqVJ e60 ev61 ev54
        refine q_ok_b (s_X1_signedTwo_30 hn hG.1 mo ro (q_leC ev61 (by omega))) (fun r57 S58 h59 => ?_)
        have hG := q_G_call hG h59.1 (by decide)
        have f63 := h59.2.1
        have f64 : q_sm _ := g_30_J3 hG mo ro
        obtain ⟨v65, ev65⟩ := q_ev ((q_J (S58) o 3).toInt)
        have f66 := q_bV ev65 f64
        have f67 := q_leDv ev65 ev61 (h59.2.2)
        refine q_ok_atS hG (q_trI mo ro) rfl (fun mo ro => ?_)
        have hG := u_30_I13 (x := r57) hG mo ro (by decide) (q_wd f63 (by decide) (by decide))
        unfold m_X1_nextScales_125
        have e68 : q_J (q_sI (S58) o 13 (r57)) o 3 = q_J (S58) o 3 := q_skJI
        obtain ⟨v69, ev69⟩ := q_ev ((q_J (q_sI (S58) o 13 (r57)) o 3).toInt)
        have f70 : v69 = v65 := q_eqVJ e68 ev69 ev65
        exact q_ok_some ⟨hG, (q_leD ev69 ev2 (by omega))⟩
    · have f71 := q_neV ev12 (show q_eqv ((0 : Int32)).toInt (0) by unfold q_eqv; decide) (q_n_eq g14)
      have e75 : q_J (S6) o 3 = q_J (S) o 3 := (Eq.trans (q_leJ eS6) (Eq.trans q_skJI (Eq.trans q_skJI (Eq.trans (q_leJ eS5) (Eq.trans q_skJI q_skJI)))))
      obtain ⟨v76, ev76⟩ := q_ev ((q_J (S6) o 3).toInt)
      have f77 : v76 = v2 := q_eqVJ e75 ev76 ev2
      refine q_ok_b (s_X1_signedTwo_30 hn hG.1 mo ro (q_leC ev76 (by omega))) (fun r72 S73 h74 => ?_)
      have hG := q_G_call hG h74.1 (by decide)
      have f78 := h74.2.1
      have f79 : q_sm _ := g_30_J3 hG mo ro
      obtain ⟨v80, ev80⟩ := q_ev ((q_J (S73) o 3).toInt)
      have f81 := q_bV ev80 f79
      have f82 := q_leDv ev80 ev76 (h74.2.2)
      refine q_ok_atS hG (q_trI mo ro) rfl (fun mo ro => ?_)
      have hG := u_30_I10 (x := r72) hG mo ro (by decide) (q_wd f78 (by decide) (by decide))
      have e86 : q_J (q_sI (S73) o 10 (r72)) o 3 = q_J (S73) o 3 := q_skJI
      obtain ⟨v87, ev87⟩ := q_ev ((q_J (q_sI (S73) o 10 (r72)) o 3).toInt)
      have f88 : v87 = v80 := q_eqVJ e86 ev87 ev80
      refine q_ok_b (s_X1_signedTwo_30 hn hG.1 mo ro (q_leC ev87 (by omega))) (fun r83 S84 h85 => ?_)
      have hG := q_G_call hG h85.1 (by decide)
      have f89 := h85.2.1
      have f90 : q_sm _ := g_30_J3 hG mo ro
      obtain ⟨v91, ev91⟩ := q_ev ((q_J (S84) o 3).toInt)
      have f92 := q_bV ev91 f90
      have f93 := q_leDv ev91 ev87 (h85.2.2)
      refine q_ok_atS hG (q_trI mo ro) rfl (fun mo ro => ?_)
      have hG := u_30_I13 (x := r83) hG mo ro (by decide) (q_wd f89 (by decide) (by decide))
      unfold m_X1_nextScales_125
      have e94 : q_J (q_sI (S84) o 13 (r83)) o 3 = q_J (S84) o 3 := q_skJI
      obtain ⟨v95, ev95⟩ := q_ev ((q_J (q_sI (S84) o 13 (r83)) o 3).toInt)
      have f96 : v95 = v91 := q_eqVJ e94 ev95 ev91
      exact q_ok_some ⟨hG, (q_leD ev95 ev2 (by omega))⟩
  · have f97 := q_neV ev8 (show q_eqv ((0 : Int32)).toInt (0) by unfold q_eqv; decide) (q_n_eq g10)
    have e101 : q_J (S6) o 3 = q_J (S) o 3 := (Eq.trans (q_leJ eS6) (Eq.trans q_skJI (Eq.trans q_skJI (Eq.trans (q_leJ eS5) (Eq.trans q_skJI q_skJI)))))
    obtain ⟨v102, ev102⟩ := q_ev ((q_J (S6) o 3).toInt)
    have f103 : v102 = v2 := q_eqVJ e101 ev102 ev2
    refine q_ok_b (s_X1_signedTwo_30 hn hG.1 mo ro (q_leC ev102 (by omega))) (fun r98 S99 h100 => ?_)
    have hG := q_G_call hG h100.1 (by decide)
    have f104 := h100.2.1
    have f105 : q_sm _ := g_30_J3 hG mo ro
    obtain ⟨v106, ev106⟩ := q_ev ((q_J (S99) o 3).toInt)
    have f107 := q_bV ev106 f105
    have f108 := q_leDv ev106 ev102 (h100.2.2)
    refine q_ok_atS hG (q_trI mo ro) rfl (fun mo ro => ?_)
    have hG := u_30_I10 (x := r98) hG mo ro (by decide) (q_wd f104 (by decide) (by decide))
    have f109 : q_sm _ := g_30_I10 hG mo ro
    have e110 : q_I (q_sI (S99) o 10 (r98)) o 10 = r98 := q_hitI
    have hG := u_30_I13 (x := q_I (q_sI (S99) o 10 (r98)) o 10) hG mo ro (by decide) (q_wd f109 (by decide) (by decide))
    refine q_ok_let (fun S111 eS111 => ?_)
    rw [← eS111] at hG
    unfold m_X1_nextScales_125
    have e112 : q_J (S111) o 3 = q_J (S99) o 3 := (Eq.trans (q_leJ eS111) (Eq.trans q_skJI q_skJI))
    obtain ⟨v113, ev113⟩ := q_ev ((q_J (S111) o 3).toInt)
    have f114 : v113 = v106 := q_eqVJ e112 ev113 ev106
    exact q_ok_some ⟨hG, (q_leD ev113 ev2 (by omega))⟩
def M_X1_nextPart_30 : List Nat := [1922, 1923, 1926, 1927, 1928, 1929, 1930, 1931, 1932, 1933]
set_option maxHeartbeats 4000000 in
set_option maxRecDepth 100000 in
theorem s_X1_nextPart_30 {ρ : Nat → Nat} {L : List Nat} {n : Nat} (hn : 18446744073709551616 ≤ n) {S : q_S} (hI : q_Inv ρ L S) {o : Nat} (mo : o ∈ L) (ro : ρ o = 30) (ht : (q_J S o 3).toInt ≤ 140737622573056) : q_ok (m_X1_nextPart n S o) (fun r T => q_G ρ L M_X1_nextPart_30 S T ∧ (0 ≤ r.toInt ∧ r.toInt ≤ 1) ∧ q_sm ((q_J T o 3).toInt ≤ (q_J S o 3).toInt + 16)) := by
  have hG : q_G ρ L M_X1_nextPart_30 S S := q_G_refl hI
  unfold m_X1_nextPart
  have z0 : (0 : Int32).toInt = 0 := rfl
  have f1 : q_sm _ := g_30_J3 hG mo ro
  obtain ⟨v2, ev2⟩ := q_ev ((q_J (S) o 3).toInt)
  have f3 := q_bV ev2 f1
  have f4 := q_leCv ev2 ht
  refine q_ok_atS hG (q_trI mo ro) rfl (fun mo ro => ?_)
  refine q_ok_b (s_X1_two_30 hn hG.1 mo ro (q_leC ev2 (by omega))) (fun r5 S6 h7 => ?_)
  have hG := q_G_call hG h7.1 (by decide)
  have f8 := h7.2.1
  have f9 : q_sm _ := g_30_J3 hG mo ro
  obtain ⟨v10, ev10⟩ := q_ev ((q_J (S6) o 3).toInt)
  have f11 := q_bV ev10 f9
  have f12 := q_leDv ev10 ev2 (h7.2.2)
  refine q_ok_atS hG (q_trI mo ro) rfl (fun mo ro => ?_)
  have hG := u_30_I6 (x := r5) hG mo ro (by decide) (q_wd f8 (by decide) (by decide))
  have e16 : q_J (q_sI (S6) o 6 (r5)) o 3 = q_J (S6) o 3 := q_skJI
  obtain ⟨v17, ev17⟩ := q_ev ((q_J (q_sI (S6) o 6 (r5)) o 3).toInt)
  have f18 : v17 = v10 := q_eqVJ e16 ev17 ev10
  refine q_ok_b (s_X1_two_30 hn hG.1 mo ro (q_leC ev17 (by omega))) (fun r13 S14 h15 => ?_)
  have hG := q_G_call hG h15.1 (by decide)
  have f19 := h15.2.1
  have f20 : q_sm _ := g_30_J3 hG mo ro
  obtain ⟨v21, ev21⟩ := q_ev ((q_J (S14) o 3).toInt)
  have f22 := q_bV ev21 f20
  have f23 := q_leDv ev21 ev17 (h15.2.2)
  refine q_ok_atS hG (q_trI mo ro) rfl (fun mo ro => ?_)
  have hG := u_30_I7 (x := r13) hG mo ro (by decide) (q_wd f19 (by decide) (by decide))
  have e27 : q_J (q_sI (S14) o 7 (r13)) o 3 = q_J (S14) o 3 := q_skJI
  obtain ⟨v28, ev28⟩ := q_ev ((q_J (q_sI (S14) o 7 (r13)) o 3).toInt)
  have f29 : v28 = v21 := q_eqVJ e27 ev28 ev21
  refine q_ok_b (s_X1_nextNumber_30 hn hG.1 mo ro (q_leC ev28 (by omega))) (fun r24 S25 h26 => ?_)
  have hG := q_G_call hG h26.1 (by decide)
  have f30 := h26.2.1
  have f31 : q_sm _ := g_30_J3 hG mo ro
  obtain ⟨v32, ev32⟩ := q_ev ((q_J (S25) o 3).toInt)
  have f33 := q_bV ev32 f31
  have f34 := q_leDv ev32 ev28 (h26.2.2)
  refine q_ok_atS hG (q_trI mo ro) rfl (fun mo ro => ?_)
  have hG := u_30_I8 (x := r24) hG mo ro (by decide) (q_wd f30 (by decide) (by decide))
  have e38 : q_J (q_sI (S25) o 8 (r24)) o 3 = q_J (S25) o 3 := q_skJI
  obtain ⟨v39, ev39⟩ := q_ev ((q_J (q_sI (S25) o 8 (r24)) o 3).toInt)
  have f40 : v39 = v32 := q_eqVJ e38 ev39 ev32
  refine q_ok_b (s_X1_nextNumber_30 hn hG.1 mo ro (q_leC ev39 (by omega))) (fun r35 S36 h37 => ?_)
  have hG := q_G_call hG h37.1 (by decide)
  have f41 := h37.2.1
  have f42 : q_sm _ := g_30_J3 hG mo ro
  obtain ⟨v43, ev43⟩ := q_ev ((q_J (S36) o 3).toInt)
  have f44 := q_bV ev43 f42
  have f45 := q_leDv ev43 ev39 (h37.2.2)
  refine q_ok_atS hG (q_trI mo ro) rfl (fun mo ro => ?_)
  have hG := u_30_I9 (x := r35) hG mo ro (by decide) (q_wd f41 (by decide) (by decide))
  have e49 : q_J (q_sI (S36) o 9 (r35)) o 3 = q_J (S36) o 3 := q_skJI
  obtain ⟨v50, ev50⟩ := q_ev ((q_J (q_sI (S36) o 9 (r35)) o 3).toInt)
  have f51 : v50 = v43 := q_eqVJ e49 ev50 ev43
  refine q_ok_b (s_X1_nextScales_30 hn hG.1 mo ro (q_leC ev50 (by omega))) (fun r46 S47 h48 => ?_)
  have hG := q_G_call hG h48.1 (by decide)
  have f52 : q_sm _ := g_30_J3 hG mo ro
  obtain ⟨v53, ev53⟩ := q_ev ((q_J (S47) o 3).toInt)
  have f54 := q_bV ev53 f52
  have f55 := q_leDv ev53 ev50 (h48.2)
  refine q_ok_atS hG (q_trI mo ro) rfl (fun mo ro => ?_)
  have f56 : q_sm _ := g_30_I2 hG mo ro
  obtain ⟨v57, ev57⟩ := q_ev ((q_I (S47) o 2).toInt)
  have f58 := q_bV ev57 f56
  refine q_ok_ite (fun g59 => ?_) (fun g59 => ?_)
  · have f60 := q_eqV ev57 (show q_eqv ((0 : Int32)).toInt (0) by unfold q_eqv; decide) (q_p_eq g59)
    unfold m_X1_nextPart_48
    refine q_ok_if (q_b01V (show q_eqv ((1 : Int32)).toInt (1) by unfold q_eqv; decide) (by omega) (by omega)) ?_
    exact q_ok_some ⟨hG, (q_wd (show (1 : Int) ≤ (1 : Int32).toInt ∧ (1 : Int32).toInt ≤ (1 : Int) by decide) (by decide) (by decide)), (q_leD ev53 ev2 (by omega))⟩
  · have f61 := q_neV ev57 (show q_eqv ((0 : Int32)).toInt (0) by unfold q_eqv; decide) (q_n_eq g59)
    unfold m_X1_nextPart_48
    refine q_ok_if (q_b01V (show q_eqv ((0 : Int32)).toInt (0) by unfold q_eqv; decide) (by omega) (by omega)) ?_
    exact q_ok_some ⟨hG, (q_wd (show (0 : Int) ≤ (0 : Int32).toInt ∧ (0 : Int32).toInt ≤ (0 : Int) by decide) (by decide) (by decide)), (q_leD ev53 ev2 (by omega))⟩
