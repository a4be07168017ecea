def M_X3_takeAxis_20_35_21 : List Nat := [1344, 2242, 2243]
set_option maxHeartbeats 4000000 in
set_option maxRecDepth 100000 in
theorem s_X3_takeAxis_20_35_21_89 {ρ : Nat → Nat} {L : List Nat} {n : Nat} (hn : 18446744073709551616 ≤ n) {dT : Option Nat} {S0 : q_S}  {k6 : q_S → Option Nat → Option Nat → Option Nat → Int32 → Int32 → Int32 → Int32 → Option (Unit × q_S)} {B6 : Int} (hk6 : ∀ (S : q_S) (z0 : Option Nat) (z1 : Option Nat) (z2 : Option Nat) (z3 : Int32) (z4 : Int32) (z5 : Int32) (z6 : Int32), q_G ρ L M_X3_takeAxis_20_35_21 S0 S → q_tr ρ L z0 20 → q_tr ρ L z1 35 → q_tr ρ L z2 21 → (2 ≤ z3.toInt ∧ z3.toInt ≤ 2) → (16 ≤ z4.toInt ∧ z4.toInt ≤ 16) → (0 ≤ z6.toInt ∧ z6.toInt ≤ 120) → q_tr ρ L dT 35 → (∀ a, dT = some a → (q_J S a 3).toInt ≤ (q_J S0 a 3).toInt + 4 * z6.toInt + 0 ∧ (q_J S0 a 3).toInt ≤ 140737555464192) → z1 = dT → 2147483648 - z6.toInt < B6 → q_ok (k6 S z0 z1 z2 z3 z4 z5 z6) (fun _ T => q_G ρ L M_X3_takeAxis_20_35_21 S0 T ∧ q_sm (∀ a, dT = some a → (q_J T a 3).toInt ≤ (q_J S0 a 3).toInt + 600))) (S : q_S) (l0 : Option Nat) (l1 : Option Nat) (l2 : Option Nat) (l4 : Int32) (l5 : Int32) (l6 : Int32) (l7 : Int32) (hG : q_G ρ L M_X3_takeAxis_20_35_21 S0 S) (hl0 : q_tr ρ L l0 20) (hl1 : q_tr ρ L l1 35) (hl2 : q_tr ρ L l2 21) (hl4 : (2 ≤ l4.toInt ∧ l4.toInt ≤ 2)) (hl5 : (16 ≤ l5.toInt ∧ l5.toInt ≤ 16)) (hl7 : (0 ≤ l7.toInt ∧ l7.toInt ≤ 119)) (htT : q_tr ρ L dT 35) (hT : (∀ a, dT = some a → (q_J S a 3).toInt ≤ (q_J S0 a 3).toInt + 4 * l7.toInt + 4 ∧ (q_J S0 a 3).toInt ≤ 140737555464192)) (hd : l1 = dT) (hm6 : 2147483648 - l7.toInt ≤ B6) : q_ok (m_X3_takeAxis_89 n k6 S l0 l1 l2 l4 l5 l6 l7) (fun _ T => q_G ρ L M_X3_takeAxis_20_35_21 S0 T ∧ q_sm (∀ a, dT = some a → (q_J T a 3).toInt ≤ (q_J S0 a 3).toInt + 600)) := by
  unfold m_X3_takeAxis_89
  have z0 : (0 : Int32).toInt = 0 := rfl
  subst hd
  obtain ⟨aT, eaT, maT, raT⟩ := id htT
  have f1 : q_sm _ := g_35_J3 hG maT raT
  obtain ⟨v2, ev2⟩ := q_ev ((q_J (S) aT 3).toInt)
  have f3 := q_bV ev2 f1
  obtain ⟨v4, ev4⟩ := q_ev ((q_J (S0) aT 3).toInt)
  have f5 := q_rVJ (X := q_J (S0) aT 3) ev4
  have f6 := q_le3v (K9 := 4) (E9 := 4) ev2 ev4 q_evr (hT aT eaT).1
  have f7 := q_leCv ev4 (hT aT eaT).2
  refine q_ok_at hG hl2 rfl (fun a8 ma8 ra8 ea8 => ?_)
  refine q_ok_if (q_inV (g_21_N hG ma8 ra8) q_evr (by omega) (by omega)) ?_
  have hG := u_21_E (k := (l7).toNatClampNeg) (x := l6) hG ma8 ra8 (by decide)
  have e9 : q_J (q_sI (S) a8 (l7).toNatClampNeg (l6)) aT 3 = q_J (S) aT 3 := q_skJI
  obtain ⟨v10, ev10⟩ := q_ev ((q_J (q_sI (S) a8 (l7).toNatClampNeg (l6)) aT 3).toInt)
  have f11 : v10 = v2 := q_eqVJ e9 ev10 ev2
  obtain ⟨v12, ev12⟩ := q_ev ((l7 + (1)).toInt)
  have f13 : v12 = l7.toInt + (1) := q_addVI ev12 q_evr (show q_eqv ((1 : Int32)).toInt (1) by unfold q_eqv; decide) (by omega) (by omega)
  exact hk6 _ _ _ _ _ _ _ _ hG hl0 hl1 hl2 (q_wd hl4 (by decide) (by decide)) (q_wd hl5 (by decide) (by decide)) (q_wd (q_addBI (1) (120) hl7 (show (1 : Int) ≤ (1 : Int32).toInt ∧ (1 : Int32).toInt ≤ (1 : Int) by decide) (by decide) (by decide) (by decide) (by decide)) (by decide) (by decide)) (q_trE eaT maT raT) (q_trk eaT ⟨q_le3 (K9 := 4) (E9 := 0) ev10 ev4 ev12 (by omega), q_leC ev4 (by omega)⟩) (by first | rfl | exact hd)  (q_upVl ev12 (by omega))
set_option maxHeartbeats 4000000 in
set_option maxRecDepth 100000 in
theorem s_X3_takeAxis_20_35_21_6 {ρ : Nat → Nat} {L : List Nat} {n : Nat} (hn : 18446744073709551616 ≤ n) {dT : Option Nat} {S0 : q_S}  : ∀ (k : Nat) (S : q_S) (l0 : Option Nat) (l1 : Option Nat) (l2 : Option Nat) (l4 : Int32) (l5 : Int32) (l6 : Int32) (l7 : Int32), q_G ρ L M_X3_takeAxis_20_35_21 S0 S → q_tr ρ L l0 20 → q_tr ρ L l1 35 → q_tr ρ L l2 21 → (2 ≤ l4.toInt ∧ l4.toInt ≤ 2) → (16 ≤ l5.toInt ∧ l5.toInt ≤ 16) → (0 ≤ l7.toInt ∧ l7.toInt ≤ 120) → q_tr ρ L dT 35 → (∀ a, dT = some a → (q_J S a 3).toInt ≤ (q_J S0 a 3).toInt + 4 * l7.toInt + 0 ∧ (q_J S0 a 3).toInt ≤ 140737555464192) → l1 = dT → 2147483648 - l7.toInt ≤ (k : Int) → q_ok (m_X3_takeAxis_6 n k S l0 l1 l2 l4 l5 l6 l7) (fun _ T => q_G ρ L M_X3_takeAxis_20_35_21 S0 T ∧ q_sm (∀ a, dT = some a → (q_J T a 3).toInt ≤ (q_J S0 a 3).toInt + 600)) := by
  intro k
  induction k with
  | zero =>
    intro S l0 l1 l2 l4 l5 l6 l7 hG hl0 hl1 hl2 hl4 hl5 hl7 htT hT hd hm
    have f0 := q_rngI l7
    exfalso; omega
  | succ k ih =>
    intro S l0 l1 l2 l4 l5 l6 l7 hG hl0 hl1 hl2 hl4 hl5 hl7 htT hT hd hm
    rw [m_X3_takeAxis_6]
    have z0 : (0 : Int32).toInt = 0 := rfl
    subst hd
    obtain ⟨aT, eaT, maT, raT⟩ := id htT
    have f1 : q_sm _ := g_35_J3 hG maT raT
    obtain ⟨v2, ev2⟩ := q_ev ((q_J (S) aT 3).toInt)
    have f3 := q_bV ev2 f1
    obtain ⟨v4, ev4⟩ := q_ev ((q_J (S0) aT 3).toInt)
    have f5 := q_rVJ (X := q_J (S0) aT 3) ev4
    have f6 := q_le3v (K9 := 4) (E9 := 0) ev2 ev4 q_evr (hT aT eaT).1
    have f7 := q_leCv ev4 (hT aT eaT).2
    refine q_ok_at hG hl0 rfl (fun a8 ma8 ra8 ea8 => ?_)
    have f9 : q_sm _ := g_20_I4 hG ma8 ra8
    obtain ⟨v10, ev10⟩ := q_ev ((q_I (S) a8 4).toInt)
    have f11 := q_bV ev10 f9
    refine q_ok_ite (fun g12 => ?_) (fun g12 => ?_)
    · have f13 := q_leV ev10 q_evr (q_p_ge g12)
      exact q_ok_some ⟨hG, (q_trk eaT (q_leD ev2 ev4 (by omega)))⟩
    · have f14 := q_ltV q_evr ev10 (q_n_ge g12)
      have t15 := g_20_R2 hG ma8 ra8
      refine q_ok_at hG t15 rfl (fun a16 ma16 ra16 ea16 => ?_)
      refine q_ok_if (q_inV (g_23_N hG ma16 ra16) q_evr (by omega) (by omega)) ?_
      have f17 : q_sm _ := g_23_E hG ma16 ra16 (k := (l7).toNatClampNeg)
      obtain ⟨v18, ev18⟩ := q_ev (((q_I (S) a16 (l7).toNatClampNeg) &&& l5).toInt)
      have f19 := q_andRVI ev18 q_evr (by omega)
      refine q_ok_ite (fun g20 => ?_) (fun g20 => ?_)
      · have f21 := q_eqV ev18 (show q_eqv ((0 : Int32)).toInt (0) by unfold q_eqv; decide) (q_p_eq g20)
        unfold m_X3_takeAxis_33
        refine q_ok_atA hG ea8 ma8 ra8 rfl ?_
        have t22 := g_20_R2 hG ma8 ra8
        refine q_ok_atA hG ea16 ma16 ra16 rfl ?_
        refine q_ok_if (q_inV (g_23_N hG ma16 ra16) q_evr (by omega) (by omega)) ?_
        obtain ⟨v23, ev23⟩ := q_ev (((q_I (S) a16 (l7).toNatClampNeg) &&& l4).toInt)
        have f24 := q_andRVI ev23 q_evr (by omega)
        refine q_ok_ite (fun g25 => ?_) (fun g25 => ?_)
        · have f26 := q_eqV ev23 (show q_eqv ((0 : Int32)).toInt (0) by unfold q_eqv; decide) (q_p_eq g25)
          refine q_ok_ite (fun g27 => ?_) (fun g27 => ?_)
          · have f28 := q_eqV (show q_eqv ((0 : Int32)).toInt (0) by unfold q_eqv; decide) (show q_eqv ((0 : Int32)).toInt (0) by unfold q_eqv; decide) (q_p_eq g27)
            refine q_ok_atA hG eaT maT raT rfl ?_
            refine q_ok_b (s_X1_signedTwo_35 hn hG.1 maT raT (q_leC ev2 (by omega))) (fun r29 S30 h31 => ?_)
            have hG := q_G_call hG h31.1 (by decide)
            have f32 := h31.2.1
            have f33 : q_sm _ := g_35_J3 hG maT raT
            obtain ⟨v34, ev34⟩ := q_ev ((q_J (S30) aT 3).toInt)
            have f35 := q_bV ev34 f33
            have f36 := q_leDv ev34 ev2 (h31.2.2)
            exact s_X3_takeAxis_20_35_21_89 hn (B6 := (k : Int) + 1) (fun S9 z0 z1 z2 z3 z4 z5 z6 hG9 hz0 hz1 hz2 hz3 hz4 hz6 hzt hzT hzd  hm9 => ih S9 z0 z1 z2 z3 z4 z5 z6 hG9 hz0 hz1 hz2 hz3 hz4 hz6 hzt hzT hzd  (by omega)) _ _ _ _ _ _ _ _ hG hl0 hl1 hl2 (q_wd hl4 (by decide) (by decide)) (q_wd hl5 (by decide) (by decide)) (q_oV q_evr (by omega) (by omega)) (q_trE eaT maT raT) (q_trk eaT ⟨q_le3 (K9 := 4) (E9 := 4) ev34 ev4 q_evr (by omega), q_leC ev4 (by omega)⟩) (by first | rfl | exact hd) (q_upV q_evr (by omega))
          · have f37 := q_neV (show q_eqv ((0 : Int32)).toInt (0) by unfold q_eqv; decide) (show q_eqv ((0 : Int32)).toInt (0) by unfold q_eqv; decide) (q_n_eq g27)
            exfalso; omega
        · have f38 := q_neV ev23 (show q_eqv ((0 : Int32)).toInt (0) by unfold q_eqv; decide) (q_n_eq g25)
          refine q_ok_atA hG eaT maT raT rfl ?_
          refine q_ok_b (s_X1_one_35 hn hG.1 maT raT (q_leC ev2 (by omega))) (fun r39 S40 h41 => ?_)
          have hG := q_G_call hG h41.1 (by decide)
          have f42 := h41.2.1
          have f43 : q_sm _ := g_35_J3 hG maT raT
          obtain ⟨v44, ev44⟩ := q_ev ((q_J (S40) aT 3).toInt)
          have f45 := q_bV ev44 f43
          have f46 := q_leDv ev44 ev2 (h41.2.2)
          refine q_ok_ite (fun g47 => ?_) (fun g47 => ?_)
          · have f48 := q_eqV (show q_eqv ((0 : Int32)).toInt (0) by unfold q_eqv; decide) (show q_eqv ((0 : Int32)).toInt (0) by unfold q_eqv; decide) (q_p_eq g47)
            unfold m_X3_takeAxis_69
            exact s_X3_takeAxis_20_35_21_89 hn (B6 := (k : Int) + 1) (fun S9 z0 z1 z2 z3 z4 z5 z6 hG9 hz0 hz1 hz2 hz3 hz4 hz6 hzt hzT hzd  hm9 => ih S9 z0 z1 z2 z3 z4 z5 z6 hG9 hz0 hz1 hz2 hz3 hz4 hz6 hzt hzT hzd  (by omega)) _ _ _ _ _ _ _ _ hG hl0 hl1 hl2 (q_wd hl4 (by decide) (by decide)) (q_wd hl5 (by decide) (by decide)) (q_oV q_evr (by omega) (by omega)) (q_trE eaT maT raT) (q_trk eaT ⟨q_le3 (K9 := 4) (E9 := 4) ev44 ev4 q_evr (by omega), q_leC ev4 (by omega)⟩) (by first | rfl | exact hd) (q_upV q_evr (by omega))
          · have f49 := q_neV (show q_eqv ((0 : Int32)).toInt (0) by unfold q_eqv; decide) (show q_eqv ((0 : Int32)).toInt (0) by unfold q_eqv; decide) (q_n_eq g47)
            exfalso; omega
      · have f50 := q_neV ev18 (show q_eqv ((0 : Int32)).toInt (0) by unfold q_eqv; decide) (q_n_eq g20)
        unfold m_X3_takeAxis_33
        refine q_ok_atA hG ea8 ma8 ra8 rfl ?_
        have t51 := g_20_R2 hG ma8 ra8
        refine q_ok_atA hG ea16 ma16 ra16 rfl ?_
        refine q_ok_if (q_inV (g_23_N hG ma16 ra16) q_evr (by omega) (by omega)) ?_
        obtain ⟨v52, ev52⟩ := q_ev (((q_I (S) a16 (l7).toNatClampNeg) &&& l4).toInt)
        have f53 := q_andRVI ev52 q_evr (by omega)
        refine q_ok_ite (fun g54 => ?_) (fun g54 => ?_)
        · have f55 := q_eqV ev52 (show q_eqv ((0 : Int32)).toInt (0) by unfold q_eqv; decide) (q_p_eq g54)
          refine q_ok_ite (fun g56 => ?_) (fun g56 => ?_)
          · have f57 := q_eqV (show q_eqv ((1 : Int32)).toInt (1) by unfold q_eqv; decide) (show q_eqv ((0 : Int32)).toInt (0) by unfold q_eqv; decide) (q_p_eq g56)
            exfalso; omega
          · have f58 := q_neV (show q_eqv ((1 : Int32)).toInt (1) by unfold q_eqv; decide) (show q_eqv ((0 : Int32)).toInt (0) by unfold q_eqv; decide) (q_n_eq g56)
            exact s_X3_takeAxis_20_35_21_89 hn (B6 := (k : Int) + 1) (fun S9 z0 z1 z2 z3 z4 z5 z6 hG9 hz0 hz1 hz2 hz3 hz4 hz6 hzt hzT hzd  hm9 => ih S9 z0 z1 z2 z3 z4 z5 z6 hG9 hz0 hz1 hz2 hz3 hz4 hz6 hzt hzT hzd  (by omega)) _ _ _ _ _ _ _ _ hG hl0 hl1 hl2 (q_wd hl4 (by decide) (by decide)) (q_wd hl5 (by decide) (by decide)) (q_oV q_evr (by omega) (by omega)) (q_trE eaT maT raT) (q_trk eaT ⟨q_le3 (K9 := 4) (E9 := 4) ev2 ev4 q_evr (by omega), q_leC ev4 (by omega)⟩) (by first | rfl | exact hd) (q_upV q_evr (by omega))
        · have f59 := q_neV ev52 (show q_eqv ((0 : Int32)).toInt (0) by unfold q_eqv; decide) (q_n_eq g54)
          refine q_ok_atA hG eaT maT raT rfl ?_
          refine q_ok_b (s_X1_one_35 hn hG.1 maT raT (q_leC ev2 (by omega))) (fun r60 S61 h62 => ?_)
          have hG := q_G_call hG h62.1 (by decide)
          have f63 := h62.2.1
          have f64 : q_sm _ := g_35_J3 hG maT raT
          obtain ⟨v65, ev65⟩ := q_ev ((q_J (S61) aT 3).toInt)
          have f66 := q_bV ev65 f64
          have f67 := q_leDv ev65 ev2 (h62.2.2)
          refine q_ok_ite (fun g68 => ?_) (fun g68 => ?_)
          · have f69 := q_eqV (show q_eqv ((1 : Int32)).toInt (1) by unfold q_eqv; decide) (show q_eqv ((0 : Int32)).toInt (0) by unfold q_eqv; decide) (q_p_eq g68)
            exfalso; omega
          · have f70 := q_neV (show q_eqv ((1 : Int32)).toInt (1) by unfold q_eqv; decide) (show q_eqv ((0 : Int32)).toInt (0) by unfold q_eqv; decide) (q_n_eq g68)
            unfold m_X3_takeAxis_69
            exact s_X3_takeAxis_20_35_21_89 hn (B6 := (k : Int) + 1) (fun S9 z0 z1 z2 z3 z4 z5 z6 hG9 hz0 hz1 hz2 hz3 hz4 hz6 hzt hzT hzd  hm9 => ih S9 z0 z1 z2 z3 z4 z5 z6 hG9 hz0 hz1 hz2 hz3 hz4 hz6 hzt hzT hzd  (by omega)) _ _ _ _ _ _ _ _ hG hl0 hl1 hl2 (q_wd hl4 (by decide) (by decide)) (q_wd hl5 (by decide) (by decide)) (q_oV q_evr (by omega) (by omega)) (q_trE eaT maT raT) (q_trk eaT ⟨q_le3 (K9 := 4) (E9 := 4) ev65 ev4 q_evr (by omega), q_leC ev4 (by omega)⟩) (by first | rfl | exact hd) (q_upV q_evr (by omega))
set_option maxHeartbeats 4000000 in
set_option maxRecDepth 100000 in
theorem s_X3_takeAxis_20_35_21 {ρ : Nat → Nat} {L : List Nat} {n : Nat} (hn : 18446744073709551616 ≤ n) {S : q_S} (hI : q_Inv ρ L S) {o : Nat} (mo : o ∈ L) (ro : ρ o = 20) {p0 : Option Nat} (tp0 : q_tr ρ L p0 35) {p1 : Option Nat} (tp1 : q_tr ρ L p1 21) {p2 : Int32} (hp2 : (0 ≤ p2.toInt ∧ p2.toInt ≤ 120)) {p3 : Int32} (hp3 : (2 ≤ p3.toInt ∧ p3.toInt ≤ 2)) {p4 : Int32} (hp4 : (16 ≤ p4.toInt ∧ p4.toInt ≤ 16)) (ht : ∀ a, p0 = some a → (q_J S a 3).toInt ≤ 140737555464192) : q_ok (m_X3_takeAxis n S o p0 p1 p2 p3 p4) (fun _ T => q_G ρ L M_X3_takeAxis_20_35_21 S T ∧ q_sm (∀ a, p0 = some a → (q_J T a 3).toInt ≤ (q_J S a 3).toInt + 600)) := by
  have hG : q_G ρ L M_X3_takeAxis_20_35_21 S S := q_G_refl hI
  unfold m_X3_takeAxis
  have z0 : (0 : Int32).toInt = 0 := rfl
  obtain ⟨aT, eaT, maT, raT⟩ := id tp0
  have f1 : q_sm _ := g_35_J3 hG maT raT
  obtain ⟨v2, ev2⟩ := q_ev ((q_J (S) aT 3).toInt)
  have f3 := q_bV ev2 f1
  have f4 := q_leCv ev2 (ht aT eaT)
  exact s_X3_takeAxis_20_35_21_6 hn n _ _ _ _ _ _ _ _ hG (q_trI mo ro) tp0 tp1 (q_wd hp3 (by decide) (by decide)) (q_wd hp4 (by decide) (by decide)) (q_wd hp2 (by decide) (by decide)) (q_trE eaT maT raT) (q_trk eaT ⟨q_le3 (K9 := 4) (E9 := 0) ev2 ev2 q_evr (by omega), q_leC ev2 (by omega)⟩) (by first | rfl | exact hd)  (q_upV q_evr (by omega))
def M_X3_takeAxis_20_35_22 : List Nat := [1408, 2242, 2243]
set_option maxHeartbeats 4000000 in
set_option maxRecDepth 100000 in
theorem s_X3_takeAxis_20_35_22_89 {ρ : Nat → Nat} {L : List Nat} {n : Nat} (hn : 18446744073709551616 ≤ n) {dT : Option Nat} {S0 : q_S}  {k6 : q_S → Option Nat → Option Nat → Option Nat → Int32 → Int32 → Int32 → Int32 → Option (Unit × q_S)} {B6 : Int} (hk6 : ∀ (S : q_S) (z0 : Option Nat) (z1 : Option Nat) (z2 : Option Nat) (z3 : Int32) (z4 : Int32) (z5 : Int32) (z6 : Int32), q_G ρ L M_X3_takeAxis_20_35_22 S0 S → q_tr ρ L z0 20 → q_tr ρ L z1 35 → q_tr ρ L z2 22 → (4 ≤ z3.toInt ∧ z3.toInt ≤ 4) → (32 ≤ z4.toInt ∧ z4.toInt ≤ 32) → (0 ≤ z6.toInt ∧ z6.toInt ≤ 120) → q_tr ρ L dT 35 → (∀ a, dT = some a → (q_J S a 3).toInt ≤ (q_J S0 a 3).toInt + 4 * z6.toInt + 0 ∧ (q_J S0 a 3).toInt ≤ 140737555464192) → z1 = dT → 2147483648 - z6.toInt < B6 → q_ok (k6 S z0 z1 z2 z3 z4 z5 z6) (fun _ T => q_G ρ L M_X3_takeAxis_20_35_22 S0 T ∧ q_sm (∀ a, dT = some a → (q_J T a 3).toInt ≤ (q_J S0 a 3).toInt + 600))) (S : q_S) (l0 : Option Nat) (l1 : Option Nat) (l2 : Option Nat) (l4 : Int32) (l5 : Int32) (l6 : Int32) (l7 : Int32) (hG : q_G ρ L M_X3_takeAxis_20_35_22 S0 S) (hl0 : q_tr ρ L l0 20) (hl1 : q_tr ρ L l1 35) (hl2 : q_tr ρ L l2 22) (hl4 : (4 ≤ l4.toInt ∧ l4.toInt ≤ 4)) (hl5 : (32 ≤ l5.toInt ∧ l5.toInt ≤ 32)) (hl7 : (0 ≤ l7.toInt ∧ l7.toInt ≤ 119)) (htT : q_tr ρ L dT 35) (hT : (∀ a, dT = some a → (q_J S a 3).toInt ≤ (q_J S0 a 3).toInt + 4 * l7.toInt + 4 ∧ (q_J S0 a 3).toInt ≤ 140737555464192)) (hd : l1 = dT) (hm6 : 2147483648 - l7.toInt ≤ B6) : q_ok (m_X3_takeAxis_89 n k6 S l0 l1 l2 l4 l5 l6 l7) (fun _ T => q_G ρ L M_X3_takeAxis_20_35_22 S0 T ∧ q_sm (∀ a, dT = some a → (q_J T a 3).toInt ≤ (q_J S0 a 3).toInt + 600)) := by
  unfold m_X3_takeAxis_89
  have z0 : (0 : Int32).toInt = 0 := rfl
  subst hd
  obtain ⟨aT, eaT, maT, raT⟩ := id htT
  have f1 : q_sm _ := g_35_J3 hG maT raT
  obtain ⟨v2, ev2⟩ := q_ev ((q_J (S) aT 3).toInt)
  have f3 := q_bV ev2 f1
  obtain ⟨v4, ev4⟩ := q_ev ((q_J (S0) aT 3).toInt)
  have f5 := q_rVJ (X := q_J (S0) aT 3) ev4
  have f6 := q_le3v (K9 := 4) (E9 := 4) ev2 ev4 q_evr (hT aT eaT).1
  have f7 := q_leCv ev4 (hT aT eaT).2
  refine q_ok_at hG hl2 rfl (fun a8 ma8 ra8 ea8 => ?_)
  refine q_ok_if (q_inV (g_22_N hG ma8 ra8) q_evr (by omega) (by omega)) ?_
  have hG := u_22_E (k := (l7).toNatClampNeg) (x := l6) hG ma8 ra8 (by decide)
  have e9 : q_J (q_sI (S) a8 (l7).toNatClampNeg (l6)) aT 3 = q_J (S) aT 3 := q_skJI
  obtain ⟨v10, ev10⟩ := q_ev ((q_J (q_sI (S) a8 (l7).toNatClampNeg (l6)) aT 3).toInt)
  have f11 : v10 = v2 := q_eqVJ e9 ev10 ev2
  obtain ⟨v12, ev12⟩ := q_ev ((l7 + (1)).toInt)
  have f13 : v12 = l7.toInt + (1) := q_addVI ev12 q_evr (show q_eqv ((1 : Int32)).toInt (1) by unfold q_eqv; decide) (by omega) (by omega)
  exact hk6 _ _ _ _ _ _ _ _ hG hl0 hl1 hl2 (q_wd hl4 (by decide) (by decide)) (q_wd hl5 (by decide) (by decide)) (q_wd (q_addBI (1) (120) hl7 (show (1 : Int) ≤ (1 : Int32).toInt ∧ (1 : Int32).toInt ≤ (1 : Int) by decide) (by decide) (by decide) (by decide) (by decide)) (by decide) (by decide)) (q_trE eaT maT raT) (q_trk eaT ⟨q_le3 (K9 := 4) (E9 := 0) ev10 ev4 ev12 (by omega), q_leC ev4 (by omega)⟩) (by first | rfl | exact hd)  (q_upVl ev12 (by omega))
set_option maxHeartbeats 4000000 in
set_option maxRecDepth 100000 in
theorem s_X3_takeAxis_20_35_22_6 {ρ : Nat → Nat} {L : List Nat} {n : Nat} (hn : 18446744073709551616 ≤ n) {dT : Option Nat} {S0 : q_S}  : ∀ (k : Nat) (S : q_S) (l0 : Option Nat) (l1 : Option Nat) (l2 : Option Nat) (l4 : Int32) (l5 : Int32) (l6 : Int32) (l7 : Int32), q_G ρ L M_X3_takeAxis_20_35_22 S0 S → q_tr ρ L l0 20 → q_tr ρ L l1 35 → q_tr ρ L l2 22 → (4 ≤ l4.toInt ∧ l4.toInt ≤ 4) → (32 ≤ l5.toInt ∧ l5.toInt ≤ 32) → (0 ≤ l7.toInt ∧ l7.toInt ≤ 120) → q_tr ρ L dT 35 → (∀ a, dT = some a → (q_J S a 3).toInt ≤ (q_J S0 a 3).toInt + 4 * l7.toInt + 0 ∧ (q_J S0 a 3).toInt ≤ 140737555464192) → l1 = dT → 2147483648 - l7.toInt ≤ (k : Int) → q_ok (m_X3_takeAxis_6 n k S l0 l1 l2 l4 l5 l6 l7) (fun _ T => q_G ρ L M_X3_takeAxis_20_35_22 S0 T ∧ q_sm (∀ a, dT = some a → (q_J T a 3).toInt ≤ (q_J S0 a 3).toInt + 600)) := by
  intro k
  induction k with
  | zero =>
    intro S l0 l1 l2 l4 l5 l6 l7 hG hl0 hl1 hl2 hl4 hl5 hl7 htT hT hd hm
    have f0 := q_rngI l7
    exfalso; omega
  | succ k ih =>
    intro S l0 l1 l2 l4 l5 l6 l7 hG hl0 hl1 hl2 hl4 hl5 hl7 htT hT hd hm
    rw [m_X3_takeAxis_6]
    have z0 : (0 : Int32).toInt = 0 := rfl
    subst hd
    obtain ⟨aT, eaT, maT, raT⟩ := id htT
    have f1 : q_sm _ := g_35_J3 hG maT raT
    obtain ⟨v2, ev2⟩ := q_ev ((q_J (S) aT 3).toInt)
    have f3 := q_bV ev2 f1
    obtain ⟨v4, ev4⟩ := q_ev ((q_J (S0) aT 3).toInt)
    have f5 := q_rVJ (X := q_J (S0) aT 3) ev4
    have f6 := q_le3v (K9 := 4) (E9 := 0) ev2 ev4 q_evr (hT aT eaT).1
    have f7 := q_leCv ev4 (hT aT eaT).2
    refine q_ok_at hG hl0 rfl (fun a8 ma8 ra8 ea8 => ?_)
    have f9 : q_sm _ := g_20_I4 hG ma8 ra8
    obtain ⟨v10, ev10⟩ := q_ev ((q_I (S) a8 4).toInt)
    have f11 := q_bV ev10 f9
    refine q_ok_ite (fun g12 => ?_) (fun g12 => ?_)
    · have f13 := q_leV ev10 q_evr (q_p_ge g12)
      exact q_ok_some ⟨hG, (q_trk eaT (q_leD ev2 ev4 (by omega)))⟩
    · have f14 := q_ltV q_evr ev10 (q_n_ge g12)
      have t15 := g_20_R2 hG ma8 ra8
      refine q_ok_at hG t15 rfl (fun a16 ma16 ra16 ea16 => ?_)
      refine q_ok_if (q_inV (g_23_N hG ma16 ra16) q_evr (by omega) (by omega)) ?_
      have f17 : q_sm _ := g_23_E hG ma16 ra16 (k := (l7).toNatClampNeg)
      obtain ⟨v18, ev18⟩ := q_ev (((q_I (S) a16 (l7).toNatClampNeg) &&& l5).toInt)
      have f19 := q_andRVI ev18 q_evr (by omega)
      refine q_ok_ite (fun g20 => ?_) (fun g20 => ?_)
      · have f21 := q_eqV ev18 (show q_eqv ((0 : Int32)).toInt (0) by unfold q_eqv; decide) (q_p_eq g20)
        unfold m_X3_takeAxis_33
        refine q_ok_atA hG ea8 ma8 ra8 rfl ?_
        have t22 := g_20_R2 hG ma8 ra8
        refine q_ok_atA hG ea16 ma16 ra16 rfl ?_
        refine q_ok_if (q_inV (g_23_N hG ma16 ra16) q_evr (by omega) (by omega)) ?_
        obtain ⟨v23, ev23⟩ := q_ev (((q_I (S) a16 (l7).toNatClampNeg) &&& l4).toInt)
        have f24 := q_andRVI ev23 q_evr (by omega)
        refine q_ok_ite (fun g25 => ?_) (fun g25 => ?_)
        · have f26 := q_eqV ev23 (show q_eqv ((0 : Int32)).toInt (0) by unfold q_eqv; decide) (q_p_eq g25)
          refine q_ok_ite (fun g27 => ?_) (fun g27 => ?_)
          · have f28 := q_eqV (show q_eqv ((0 : Int32)).toInt (0) by unfold q_eqv; decide) (show q_eqv ((0 : Int32)).toInt (0) by unfold q_eqv; decide) (q_p_eq g27)
            refine q_ok_atA hG eaT maT raT rfl ?_
            refine q_ok_b (s_X1_signedTwo_35 hn hG.1 maT raT (q_leC ev2 (by omega))) (fun r29 S30 h31 => ?_)
            have hG := q_G_call hG h31.1 (by decide)
            have f32 := h31.2.1
            have f33 : q_sm _ := g_35_J3 hG maT raT
            obtain ⟨v34, ev34⟩ := q_ev ((q_J (S30) aT 3).toInt)
            have f35 := q_bV ev34 f33
            have f36 := q_leDv ev34 ev2 (h31.2.2)
            exact s_X3_takeAxis_20_35_22_89 hn (B6 := (k : Int) + 1) (fun S9 z0 z1 z2 z3 z4 z5 z6 hG9 hz0 hz1 hz2 hz3 hz4 hz6 hzt hzT hzd  hm9 => ih S9 z0 z1 z2 z3 z4 z5 z6 hG9 hz0 hz1 hz2 hz3 hz4 hz6 hzt hzT hzd  (by omega)) _ _ _ _ _ _ _ _ hG hl0 hl1 hl2 (q_wd hl4 (by decide) (by decide)) (q_wd hl5 (by decide) (by decide)) (q_oV q_evr (by omega) (by omega)) (q_trE eaT maT raT) (q_trk eaT ⟨q_le3 (K9 := 4) (E9 := 4) ev34 ev4 q_evr (by omega), q_leC ev4 (by omega)⟩) (by first | rfl | exact hd) (q_upV q_evr (by omega))
          · have f37 := q_neV (show q_eqv ((0 : Int32)).toInt (0) by unfold q_eqv; decide) (show q_eqv ((0 : Int32)).toInt (0) by unfold q_eqv; decide) (q_n_eq g27)
            exfalso; omega
        · have f38 := q_neV ev23 (show q_eqv ((0 : Int32)).toInt (0) by unfold q_eqv; decide) (q_n_eq g25)
          refine q_ok_atA hG eaT maT raT rfl ?_
          refine q_ok_b (s_X1_one_35 hn hG.1 maT raT (q_leC ev2 (by omega))) (fun r39 S40 h41 => ?_)
          have hG := q_G_call hG h41.1 (by decide)
          have f42 := h41.2.1
          have f43 : q_sm _ := g_35_J3 hG maT raT
          obtain ⟨v44, ev44⟩ := q_ev ((q_J (S40) aT 3).toInt)
          have f45 := q_bV ev44 f43
          have f46 := q_leDv ev44 ev2 (h41.2.2)
          refine q_ok_ite (fun g47 => ?_) (fun g47 => ?_)
          · have f48 := q_eqV (show q_eqv ((0 : Int32)).toInt (0) by unfold q_eqv; decide) (show q_eqv ((0 : Int32)).toInt (0) by unfold q_eqv; decide) (q_p_eq g47)
            unfold m_X3_takeAxis_69
            exact s_X3_takeAxis_20_35_22_89 hn (B6 := (k : Int) + 1) (fun S9 z0 z1 z2 z3 z4 z5 z6 hG9 hz0 hz1 hz2 hz3 hz4 hz6 hzt hzT hzd  hm9 => ih S9 z0 z1 z2 z3 z4 z5 z6 hG9 hz0 hz1 hz2 hz3 hz4 hz6 hzt hzT hzd  (by omega)) _ _ _ _ _ _ _ _ hG hl0 hl1 hl2 (q_wd hl4 (by decide) (by decide)) (q_wd hl5 (by decide) (by decide)) (q_oV q_evr (by omega) (by omega)) (q_trE eaT maT raT) (q_trk eaT ⟨q_le3 (K9 := 4) (E9 := 4) ev44 ev4 q_evr (by omega), q_leC ev4 (by omega)⟩) (by first | rfl | exact hd) (q_upV q_evr (by omega))
          · have f49 := q_neV (show q_eqv ((0 : Int32)).toInt (0) by unfold q_eqv; decide) (show q_eqv ((0 : Int32)).toInt (0) by unfold q_eqv; decide) (q_n_eq g47)
            exfalso; omega
      · have f50 := q_neV ev18 (show q_eqv ((0 : Int32)).toInt (0) by unfold q_eqv; decide) (q_n_eq g20)
        unfold m_X3_takeAxis_33
        refine q_ok_atA hG ea8 ma8 ra8 rfl ?_
        have t51 := g_20_R2 hG ma8 ra8
        refine q_ok_atA hG ea16 ma16 ra16 rfl ?_
        refine q_ok_if (q_inV (g_23_N hG ma16 ra16) q_evr (by omega) (by omega)) ?_
        obtain ⟨v52, ev52⟩ := q_ev (((q_I (S) a16 (l7).toNatClampNeg) &&& l4).toInt)
        have f53 := q_andRVI ev52 q_evr (by omega)
        refine q_ok_ite (fun g54 => ?_) (fun g54 => ?_)
        · have f55 := q_eqV ev52 (show q_eqv ((0 : Int32)).toInt (0) by unfold q_eqv; decide) (q_p_eq g54)
          refine q_ok_ite (fun g56 => ?_) (fun g56 => ?_)
          · have f57 := q_eqV (show q_eqv ((1 : Int32)).toInt (1) by unfold q_eqv; decide) (show q_eqv ((0 : Int32)).toInt (0) by unfold q_eqv; decide) (q_p_eq g56)
            exfalso; omega
          · have f58 := q_neV (show q_eqv ((1 : Int32)).toInt (1) by unfold q_eqv; decide) (show q_eqv ((0 : Int32)).toInt (0) by unfold q_eqv; decide) (q_n_eq g56)
            exact s_X3_takeAxis_20_35_22_89 hn (B6 := (k : Int) + 1) (fun S9 z0 z1 z2 z3 z4 z5 z6 hG9 hz0 hz1 hz2 hz3 hz4 hz6 hzt hzT hzd  hm9 => ih S9 z0 z1 z2 z3 z4 z5 z6 hG9 hz0 hz1 hz2 hz3 hz4 hz6 hzt hzT hzd  (by omega)) _ _ _ _ _ _ _ _ hG hl0 hl1 hl2 (q_wd hl4 (by decide) (by decide)) (q_wd hl5 (by decide) (by decide)) (q_oV q_evr (by omega) (by omega)) (q_trE eaT maT raT) (q_trk eaT ⟨q_le3 (K9 := 4) (E9 := 4) ev2 ev4 q_evr (by omega), q_leC ev4 (by omega)⟩) (by first | rfl | exact hd) (q_upV q_evr (by omega))
        · have f59 := q_neV ev52 (show q_eqv ((0 : Int32)).toInt (0) by unfold q_eqv; decide) (q_n_eq g54)
          refine q_ok_atA hG eaT maT raT rfl ?_
          refine q_ok_b (s_X1_one_35 hn hG.1 maT raT (q_leC ev2 (by omega))) (fun r60 S61 h62 => ?_)
          have hG := q_G_call hG h62.1 (by decide)
          have f63 := h62.2.1
          have f64 : q_sm _ := g_35_J3 hG maT raT
          obtain ⟨v65, ev65⟩ := q_ev ((q_J (S61) aT 3).toInt)
          have f66 := q_bV ev65 f64
          have f67 := q_leDv ev65 ev2 (h62.2.2)
          refine q_ok_ite (fun g68 => ?_) (fun g68 => ?_)
          · have f69 := q_eqV (show q_eqv ((1 : Int32)).toInt (1) by unfold q_eqv; decide) (show q_eqv ((0 : Int32)).toInt (0) by unfold q_eqv; decide) (q_p_eq g68)
            exfalso; omega
          · have f70 := q_neV (show q_eqv ((1 : Int32)).toInt (1) by unfold q_eqv; decide) (show q_eqv ((0 : Int32)).toInt (0) by unfold q_eqv; decide) (q_n_eq g68)
            unfold m_X3_takeAxis_69
            exact s_X3_takeAxis_20_35_22_89 hn (B6 := (k : Int) + 1) (fun S9 z0 z1 z2 z3 z4 z5 z6 hG9 hz0 hz1 hz2 hz3 hz4 hz6 hzt hzT hzd  hm9 => ih S9 z0 z1 z2 z3 z4 z5 z6 hG9 hz0 hz1 hz2 hz3 hz4 hz6 hzt hzT hzd  (by omega)) _ _ _ _ _ _ _ _ hG hl0 hl1 hl2 (q_wd hl4 (by decide) (by decide)) (q_wd hl5 (by decide) (by decide)) (q_oV q_evr (by omega) (by omega)) (q_trE eaT maT raT) (q_trk eaT ⟨q_le3 (K9 := 4) (E9 := 4) ev65 ev4 q_evr (by omega), q_leC ev4 (by omega)⟩) (by first | rfl | exact hd) (q_upV q_evr (by omega))
set_option maxHeartbeats 4000000 in
set_option maxRecDepth 100000 in
theorem s_X3_takeAxis_20_35_22 {ρ : Nat → Nat} {L : List Nat} {n : Nat} (hn : 18446744073709551616 ≤ n) {S : q_S} (hI : q_Inv ρ L S) {o : Nat} (mo : o ∈ L) (ro : ρ o = 20) {p0 : Option Nat} (tp0 : q_tr ρ L p0 35) {p1 : Option Nat} (tp1 : q_tr ρ L p1 22) {p2 : Int32} (hp2 : (0 ≤ p2.toInt ∧ p2.toInt ≤ 120)) {p3 : Int32} (hp3 : (4 ≤ p3.toInt ∧ p3.toInt ≤ 4)) {p4 : Int32} (hp4 : (32 ≤ p4.toInt ∧ p4.toInt ≤ 32)) (ht : ∀ a, p0 = some a → (q_J S a 3).toInt ≤ 140737555464192) : q_ok (m_X3_takeAxis n S o p0 p1 p2 p3 p4) (fun _ T => q_G ρ L M_X3_takeAxis_20_35_22 S T ∧ q_sm (∀ a, p0 = some a → (q_J T a 3).toInt ≤ (q_J S a 3).toInt + 600)) := by
  have hG : q_G ρ L M_X3_takeAxis_20_35_22 S S := q_G_refl hI
  unfold m_X3_takeAxis
  have z0 : (0 : Int32).toInt = 0 := rfl
  obtain ⟨aT, eaT, maT, raT⟩ := id tp0
  have f1 : q_sm _ := g_35_J3 hG maT raT
  obtain ⟨v2, ev2⟩ := q_ev ((q_J (S) aT 3).toInt)
  have f3 := q_bV ev2 f1
  have f4 := q_leCv ev2 (ht aT eaT)
  exact s_X3_takeAxis_20_35_22_6 hn n _ _ _ _ _ _ _ _ hG (q_trI mo ro) tp0 tp1 (q_wd hp3 (by decide) (by decide)) (q_wd hp4 (by decide) (by decide)) (q_wd hp2 (by decide) (by decide)) (q_trE eaT maT raT) (q_trk eaT ⟨q_le3 (K9 := 4) (E9 := 0) ev2 ev2 q_evr (by omega), q_leC ev2 (by omega)⟩) (by first | rfl | exact hd)  (q_upV q_evr (by omega))
def M_X3_takeContours_20_35 : List Nat := [1284, 1285, 1536, 2242, 2243]
set_option maxHeartbeats 4000000 in
set_option maxRecDepth 100000 in
theorem s_X3_takeContours_20_35_62 {ρ : Nat → Nat} {L : List Nat} {n : Nat} (hn : 18446744073709551616 ≤ n) {dT : Option Nat} {S0 : q_S}  (S : q_S) (hG : q_G ρ L M_X3_takeContours_20_35 S0 S) (htT : q_tr ρ L dT 35) (hT : (∀ a, dT = some a → (q_J S a 3).toInt ≤ (q_J S0 a 3).toInt + 0 * (0 : Int32).toInt + 140000 ∧ (q_J S0 a 3).toInt ≤ 140737555464192)) : q_ok (m_X3_takeContours_62 n S) (fun r T => q_G ρ L M_X3_takeContours_20_35 S0 T ∧ (0 ≤ r.toInt ∧ r.toInt ≤ 1) ∧ q_sm (∀ a, dT = some a → (q_J T a 3).toInt ≤ (q_J S0 a 3).toInt + 140000)) := by
  unfold m_X3_takeContours_62
  have z0 : (0 : Int32).toInt = 0 := rfl
  obtain ⟨aT, eaT, maT, raT⟩ := id htT
  have f1 : q_sm _ := g_35_J3 hG maT raT
  obtain ⟨v2, ev2⟩ := q_ev ((q_J (S) aT 3).toInt)
  have f3 := q_bV ev2 f1
  obtain ⟨v4, ev4⟩ := q_ev ((q_J (S0) aT 3).toInt)
  have f5 := q_rVJ (X := q_J (S0) aT 3) ev4
  have f6 := q_le3v (K9 := 0) (E9 := 140000) ev2 ev4 (show q_eqv ((0 : Int32)).toInt (0) by unfold q_eqv; decide) (hT aT eaT).1
  have f7 := q_leCv ev4 (hT aT eaT).2
  refine q_ok_if (q_b01V (show q_eqv ((0 : Int32)).toInt (0) by unfold q_eqv; decide) (by omega) (by omega)) ?_
  exact q_ok_some ⟨hG, (q_wd (show (0 : Int) ≤ (0 : Int32).toInt ∧ (0 : Int32).toInt ≤ (0 : Int) by decide) (by decide) (by decide)), (q_trk eaT (q_leD ev2 ev4 (by omega)))⟩
set_option maxHeartbeats 4000000 in
set_option maxRecDepth 100000 in
theorem s_X3_takeContours_20_35_45 {ρ : Nat → Nat} {L : List Nat} {n : Nat} (hn : 18446744073709551616 ≤ n) {dT : Option Nat} {S0 : q_S}  {k2 : q_S → Option Nat → Option Nat → Int32 → Int32 → Option (Int32 × q_S)} {B2 : Int} (hk2 : ∀ (S : q_S) (z0 : Option Nat) (z1 : Option Nat) (z2 : Int32) (z3 : Int32), q_G ρ L M_X3_takeContours_20_35 S0 S → q_tr ρ L z0 20 → q_tr ρ L z1 35 → (0 ≤ z2.toInt ∧ z2.toInt ≤ 120) → (0 ≤ z3.toInt ∧ z3.toInt ≤ 65535) → q_tr ρ L dT 35 → (∀ a, dT = some a → (q_J S a 3).toInt ≤ (q_J S0 a 3).toInt + 2 * z3.toInt + 0 ∧ (q_J S0 a 3).toInt ≤ 140737555464192) → z1 = dT → 2147483648 - z3.toInt < B2 → q_ok (k2 S z0 z1 z2 z3) (fun r T => q_G ρ L M_X3_takeContours_20_35 S0 T ∧ (0 ≤ r.toInt ∧ r.toInt ≤ 1) ∧ q_sm (∀ a, dT = some a → (q_J T a 3).toInt ≤ (q_J S0 a 3).toInt + 140000))) (S : q_S) (l0 : Option Nat) (l1 : Option Nat) (l2 : Int32) (l3 : Int32) (l4 : Int32) (hG : q_G ρ L M_X3_takeContours_20_35 S0 S) (hl0 : q_tr ρ L l0 20) (hl1 : q_tr ρ L l1 35) (hl2 : (0 ≤ l2.toInt ∧ l2.toInt ≤ 120)) (hl3 : (0 ≤ l3.toInt ∧ l3.toInt ≤ 65535)) (hl4 : (0 ≤ l4.toInt ∧ l4.toInt ≤ 65655)) (htT : q_tr ρ L dT 35) (hT : (∀ a, dT = some a → (q_J S a 3).toInt ≤ (q_J S0 a 3).toInt + 2 * l3.toInt + 2 ∧ (q_J S0 a 3).toInt ≤ 140737555464192)) (hd : l1 = dT) (hm2 : 2147483648 - l3.toInt ≤ B2) : q_ok (m_X3_takeContours_45 n k2 S l0 l1 l2 l3 l4) (fun r T => q_G ρ L M_X3_takeContours_20_35 S0 T ∧ (0 ≤ r.toInt ∧ r.toInt ≤ 1) ∧ q_sm (∀ a, dT = some a → (q_J T a 3).toInt ≤ (q_J S0 a 3).toInt + 140000)) := by
  unfold m_X3_takeContours_45
  have z0 : (0 : Int32).toInt = 0 := rfl
  subst hd
  obtain ⟨aT, eaT, maT, raT⟩ := id htT
  have f1 : q_sm _ := g_35_J3 hG maT raT
  obtain ⟨v2, ev2⟩ := q_ev ((q_J (S) aT 3).toInt)
  have f3 := q_bV ev2 f1
  obtain ⟨v4, ev4⟩ := q_ev ((q_J (S0) aT 3).toInt)
  have f5 := q_rVJ (X := q_J (S0) aT 3) ev4
  have f6 := q_le3v (K9 := 2) (E9 := 2) ev2 ev4 q_evr (hT aT eaT).1
  have f7 := q_leCv ev4 (hT aT eaT).2
  unfold m_X3_takeContours_46
  refine q_ok_ite (fun g8 => ?_) (fun g8 => ?_)
  · have f9 := q_eqV (show q_eqv ((0 : Int32)).toInt (0) by unfold q_eqv; decide) (show q_eqv ((0 : Int32)).toInt (0) by unfold q_eqv; decide) (q_p_eq g8)
    exact s_X3_takeContours_20_35_62 hn _ hG (q_trE eaT maT raT) (q_trk eaT ⟨q_le3 (K9 := 0) (E9 := 140000) ev2 ev4 (show q_eqv ((0 : Int32)).toInt (0) by unfold q_eqv; decide) (by omega), q_leC ev4 (by omega)⟩) 
  · have f10 := q_neV (show q_eqv ((0 : Int32)).toInt (0) by unfold q_eqv; decide) (show q_eqv ((0 : Int32)).toInt (0) by unfold q_eqv; decide) (q_n_eq g8)
    exfalso; omega
set_option maxHeartbeats 4000000 in
set_option maxRecDepth 100000 in
theorem s_X3_takeContours_20_35_2 {ρ : Nat → Nat} {L : List Nat} {n : Nat} (hn : 18446744073709551616 ≤ n) {dT : Option Nat} {S0 : q_S}  : ∀ (k : Nat) (S : q_S) (l0 : Option Nat) (l1 : Option Nat) (l2 : Int32) (l3 : Int32), q_G ρ L M_X3_takeContours_20_35 S0 S → q_tr ρ L l0 20 → q_tr ρ L l1 35 → (0 ≤ l2.toInt ∧ l2.toInt ≤ 120) → (0 ≤ l3.toInt ∧ l3.toInt ≤ 65535) → q_tr ρ L dT 35 → (∀ a, dT = some a → (q_J S a 3).toInt ≤ (q_J S0 a 3).toInt + 2 * l3.toInt + 0 ∧ (q_J S0 a 3).toInt ≤ 140737555464192) → l1 = dT → 2147483648 - l3.toInt ≤ (k : Int) → q_ok (m_X3_takeContours_2 n k S l0 l1 l2 l3) (fun r T => q_G ρ L M_X3_takeContours_20_35 S0 T ∧ (0 ≤ r.toInt ∧ r.toInt ≤ 1) ∧ q_sm (∀ a, dT = some a → (q_J T a 3).toInt ≤ (q_J S0 a 3).toInt + 140000)) := by
  intro k
  induction k with
  | zero =>
    intro S l0 l1 l2 l3 hG hl0 hl1 hl2 hl3 htT hT hd hm
    have f0 := q_rngI l3
    exfalso; omega
  | succ k ih =>
    intro S l0 l1 l2 l3 hG hl0 hl1 hl2 hl3 htT hT hd hm
    rw [m_X3_takeContours_2]
    have z0 : (0 : Int32).toInt = 0 := rfl
    subst hd
    obtain ⟨aT, eaT, maT, raT⟩ := id htT
    have f1 : q_sm _ := g_35_J3 hG maT raT
    obtain ⟨v2, ev2⟩ := q_ev ((q_J (S) aT 3).toInt)
    have f3 := q_bV ev2 f1
    obtain ⟨v4, ev4⟩ := q_ev ((q_J (S0) aT 3).toInt)
    have f5 := q_rVJ (X := q_J (S0) aT 3) ev4
    have f6 := q_le3v (K9 := 2) (E9 := 0) ev2 ev4 q_evr (hT aT eaT).1
    have f7 := q_leCv ev4 (hT aT eaT).2
    refine q_ok_atA hG eaT maT raT rfl ?_
    have f8 : q_sm _ := g_35_I5 hG maT raT
    obtain ⟨v9, ev9⟩ := q_ev ((q_I (S) aT 5).toInt)
    have f10 := q_bV ev9 f8
    refine q_ok_ite (fun g11 => ?_) (fun g11 => ?_)
    · have f12 := q_leV ev9 q_evr (q_p_ge g11)
      refine q_ok_if (q_b01V (show q_eqv ((1 : Int32)).toInt (1) by unfold q_eqv; decide) (by omega) (by omega)) ?_
      exact q_ok_some ⟨hG, (q_wd (show (1 : Int) ≤ (1 : Int32).toInt ∧ (1 : Int32).toInt ≤ (1 : Int) by decide) (by decide) (by decide)), (q_trk eaT (q_leD ev2 ev4 (by omega)))⟩
    · have f13 := q_ltV q_evr ev9 (q_n_ge g11)
      refine q_ok_b (s_X1_two_35 hn hG.1 maT raT (q_leC ev2 (by omega))) (fun r14 S15 h16 => ?_)
      have hG := q_G_call hG h16.1 (by decide)
      have f17 := h16.2.1
      have f18 : q_sm _ := g_35_J3 hG maT raT
      obtain ⟨v19, ev19⟩ := q_ev ((q_J (S15) aT 3).toInt)
      have f20 := q_bV ev19 f18
      have f21 := q_leDv ev19 ev2 (h16.2.2)
      refine q_ok_atA hG eaT maT raT rfl ?_
      refine q_ok_b (s_X1_isPast_35 hn hG.1 maT raT) (fun r22 S23 h24 => ?_)
      obtain ⟨eS23, h24⟩ := h24
      replace eS23 := eS23.symm
      subst eS23
      have f25 := h24
      refine q_ok_ite (fun g26 => ?_) (fun g26 => ?_)
      · have f27 := q_eqV q_evr (show q_eqv ((0 : Int32)).toInt (0) by unfold q_eqv; decide) (q_p_eq g26)
        refine q_ok_at hG hl0 rfl (fun a28 ma28 ra28 ea28 => ?_)
        have f29 : q_sm _ := g_20_I4 hG ma28 ra28
        obtain ⟨v30, ev30⟩ := q_ev ((l2 + r14).toInt)
        have f31 : v30 = l2.toInt + r14.toInt := q_addVI ev30 q_evr q_evr (by omega) (by omega)
        obtain ⟨v32, ev32⟩ := q_ev ((q_I (S15) a28 4).toInt)
        have f33 := q_bV ev32 f29
        refine q_ok_ite (fun g34 => ?_) (fun g34 => ?_)
        · have f35 := q_ltV ev30 ev32 (q_p_lt g34)
          exact s_X3_takeContours_20_35_45 hn (B2 := (k : Int) + 1) (fun S9 z0 z1 z2 z3 hG9 hz0 hz1 hz2 hz3 hzt hzT hzd  hm9 => ih S9 z0 z1 z2 z3 hG9 hz0 hz1 hz2 hz3 hzt hzT hzd  (by omega)) _ _ _ _ _ _ hG hl0 hl1 (q_wd hl2 (by decide) (by decide)) (q_wd hl3 (by decide) (by decide)) (q_wd (q_addBI (0) (65655) hl2 f17 (by decide) (by decide) (by decide) (by decide)) (by decide) (by decide)) (q_trE eaT maT raT) (q_trk eaT ⟨q_le3 (K9 := 2) (E9 := 2) ev19 ev4 q_evr (by omega), q_leC ev4 (by omega)⟩) (by first | rfl | exact hd) (q_upV q_evr (by omega))
        · have f36 := q_leV ev32 ev30 (q_n_lt g34)
          refine q_ok_ite (fun g37 => ?_) (fun g37 => ?_)
          · have f38 := q_leV (show q_eqv ((120 : Int32)).toInt (120) by unfold q_eqv; decide) ev30 (q_p_ge g37)
            exact s_X3_takeContours_20_35_45 hn (B2 := (k : Int) + 1) (fun S9 z0 z1 z2 z3 hG9 hz0 hz1 hz2 hz3 hzt hzT hzd  hm9 => ih S9 z0 z1 z2 z3 hG9 hz0 hz1 hz2 hz3 hzt hzT hzd  (by omega)) _ _ _ _ _ _ hG hl0 hl1 (q_wd hl2 (by decide) (by decide)) (q_wd hl3 (by decide) (by decide)) (q_wd (q_addBI (0) (65655) hl2 f17 (by decide) (by decide) (by decide) (by decide)) (by decide) (by decide)) (q_trE eaT maT raT) (q_trk eaT ⟨q_le3 (K9 := 2) (E9 := 2) ev19 ev4 q_evr (by omega), q_leC ev4 (by omega)⟩) (by first | rfl | exact hd) (q_upV q_evr (by omega))
          · have f39 := q_ltV ev30 (show q_eqv ((120 : Int32)).toInt (120) by unfold q_eqv; decide) (q_n_ge g37)
            unfold m_X3_takeContours_46
            refine q_ok_ite (fun g40 => ?_) (fun g40 => ?_)
            · have f41 := q_eqV (show q_eqv ((1 : Int32)).toInt (1) by unfold q_eqv; decide) (show q_eqv ((0 : Int32)).toInt (0) by unfold q_eqv; decide) (q_p_eq g40)
              exfalso; omega
            · have f42 := q_neV (show q_eqv ((1 : Int32)).toInt (1) by unfold q_eqv; decide) (show q_eqv ((0 : Int32)).toInt (0) by unfold q_eqv; decide) (q_n_eq g40)
              refine q_ok_atA hG ea28 ma28 ra28 rfl ?_
              have f43 : q_sm _ := g_20_I5 hG ma28 ra28
              obtain ⟨v44, ev44⟩ := q_ev ((q_I (S15) a28 5).toInt)
              have f45 := q_bV ev44 f43
              refine q_ok_ite (fun g46 => ?_) (fun g46 => ?_)
              · have f47 := q_ltV ev44 (show q_eqv ((120 : Int32)).toInt (120) by unfold q_eqv; decide) (q_p_lt g46)
                have t48 := g_20_R3 hG ma28 ra28
                refine q_ok_at hG t48 rfl (fun a49 ma49 ra49 ea49 => ?_)
                refine q_ok_if (q_inV (g_24_N hG ma49 ra49) ev44 (by omega) (by omega)) ?_
                have hG := u_24_E (k := (q_I (S15) a28 5).toNatClampNeg) (x := l2 + r14) hG ma49 ra49 (by decide) (q_oV ev30 (by omega) (by omega))
                have f50 : q_sm _ := g_20_I5 hG ma28 ra28
                have e51 : q_I (q_sI (S15) a49 (q_I (S15) a28 5).toNatClampNeg (l2 + r14)) a28 5 = q_I (S15) a28 5 := (q_fwI ra28 ra49 (by decide))
                obtain ⟨v52, ev52⟩ := q_ev (((q_I (q_sI (S15) a49 (q_I (S15) a28 5).toNatClampNeg (l2 + r14)) a28 5) + (1 : Int32)).toInt)
                obtain ⟨v53, ev53⟩ := q_ev ((q_I (q_sI (S15) a49 (q_I (S15) a28 5).toNatClampNeg (l2 + r14)) a28 5).toInt)
                have f54 : v53 = v44 := q_eqVI e51 ev53 ev44
                have f55 : v52 = v53 + (1) := q_addVI ev52 ev53 (show q_eqv ((1 : Int32)).toInt (1) by unfold q_eqv; decide) (by omega) (by omega)
                have hG := u_20_I5 (x := (q_I (q_sI (S15) a49 (q_I (S15) a28 5).toNatClampNeg (l2 + r14)) a28 5) + (1 : Int32)) hG ma28 ra28 (by decide) (q_oV ev52 (by omega) (by omega))
                refine q_ok_let (fun S56 eS56 => ?_)
                rw [← eS56] at hG
                obtain ⟨v57, ev57⟩ := q_ev (((l2 + r14) + (1 : Int32)).toInt)
                have f58 : v57 = v30 + (1) := q_addVI ev57 ev30 (show q_eqv ((1 : Int32)).toInt (1) by unfold q_eqv; decide) (by omega) (by omega)
                have hG := u_20_I4 (x := (l2 + r14) + (1 : Int32)) hG ma28 ra28 (by decide) (q_oV ev57 (by omega) (by omega))
                obtain ⟨v59, ev59⟩ := q_ev ((l3 + (1)).toInt)
                have f60 : v59 = l3.toInt + (1) := q_addVI ev59 q_evr (show q_eqv ((1 : Int32)).toInt (1) by unfold q_eqv; decide) (by omega) (by omega)
                have e61 : q_J (q_sI (S56) a28 4 ((l2 + r14) + (1 : Int32))) aT 3 = q_J (S15) aT 3 := (Eq.trans q_skJI (Eq.trans (q_leJ eS56) (Eq.trans q_skJI q_skJI)))
                obtain ⟨v62, ev62⟩ := q_ev ((q_J (q_sI (S56) a28 4 ((l2 + r14) + (1 : Int32))) aT 3).toInt)
                have f63 : v62 = v19 := q_eqVJ e61 ev62 ev19
                exact ih _ _ _ _ _ hG hl0 hl1 (q_wd hl2 (by decide) (by decide)) (q_oV ev59 (by omega) (by omega)) (q_trE eaT maT raT) (q_trk eaT ⟨q_le3 (K9 := 2) (E9 := 0) ev62 ev4 ev59 (by omega), q_leC ev4 (by omega)⟩) (by first | rfl | exact hd)  (q_upV ev59 (by omega))
              · have f64 := q_leV (show q_eqv ((120 : Int32)).toInt (120) by unfold q_eqv; decide) ev44 (q_n_lt g46)
                exact s_X3_takeContours_20_35_62 hn _ hG (q_trE eaT maT raT) (q_trk eaT ⟨q_le3 (K9 := 0) (E9 := 140000) ev19 ev4 (show q_eqv ((0 : Int32)).toInt (0) by unfold q_eqv; decide) (by omega), q_leC ev4 (by omega)⟩) 
      · have f65 := q_neV q_evr (show q_eqv ((0 : Int32)).toInt (0) by unfold q_eqv; decide) (q_n_eq g26)
        exact s_X3_takeContours_20_35_45 hn (B2 := (k : Int) + 1) (fun S9 z0 z1 z2 z3 hG9 hz0 hz1 hz2 hz3 hzt hzT hzd  hm9 => ih S9 z0 z1 z2 z3 hG9 hz0 hz1 hz2 hz3 hzt hzT hzd  (by omega)) _ _ _ _ _ _ hG hl0 hl1 (q_wd hl2 (by decide) (by decide)) (q_wd hl3 (by decide) (by decide)) (q_wd (q_addBI (0) (65655) hl2 f17 (by decide) (by decide) (by decide) (by decide)) (by decide) (by decide)) (q_trE eaT maT raT) (q_trk eaT ⟨q_le3 (K9 := 2) (E9 := 2) ev19 ev4 q_evr (by omega), q_leC ev4 (by omega)⟩) (by first | rfl | exact hd) (q_upV q_evr (by omega))
set_option maxHeartbeats 4000000 in
set_option maxRecDepth 100000 in
theorem s_X3_takeContours_20_35 {ρ : Nat → Nat} {L : List Nat} {n : Nat} (hn : 18446744073709551616 ≤ n) {S : q_S} (hI : q_Inv ρ L S) {o : Nat} (mo : o ∈ L) (ro : ρ o = 20) {p0 : Option Nat} (tp0 : q_tr ρ L p0 35) {p1 : Int32} (hp1 : (0 ≤ p1.toInt ∧ p1.toInt ≤ 120)) (ht : ∀ a, p0 = some a → (q_J S a 3).toInt ≤ 140737555464192) : q_ok (m_X3_takeContours n S o p0 p1) (fun r T => q_G ρ L M_X3_takeContours_20_35 S T ∧ (0 ≤ r.toInt ∧ r.toInt ≤ 1) ∧ q_sm (∀ a, p0 = some a → (q_J T a 3).toInt ≤ (q_J S a 3).toInt + 140000)) := by
  have hG : q_G ρ L M_X3_takeContours_20_35 S S := q_G_refl hI
  unfold m_X3_takeContours
  have z0 : (0 : Int32).toInt = 0 := rfl
  obtain ⟨aT, eaT, maT, raT⟩ := id tp0
  have f1 : q_sm _ := g_35_J3 hG maT raT
  obtain ⟨v2, ev2⟩ := q_ev ((q_J (S) aT 3).toInt)
  have f3 := q_bV ev2 f1
  have f4 := q_leCv ev2 (ht aT eaT)
  exact s_X3_takeContours_20_35_2 hn n _ _ _ _ _ hG (q_trI mo ro) tp0 (q_wd hp1 (by decide) (by decide)) (q_wd (show (0 : Int) ≤ (0 : Int32).toInt ∧ (0 : Int32).toInt ≤ (0 : Int) by decide) (by decide) (by decide)) (q_trE eaT maT raT) (q_trk eaT ⟨q_le3 (K9 := 2) (E9 := 0) ev2 ev2 (show q_eqv ((0 : Int32)).toInt (0) by unfold q_eqv; decide) (by omega), q_leC ev2 (by omega)⟩) (by first | rfl | exact hd)  (q_upV (show q_eqv ((0 : Int32)).toInt (0) by unfold q_eqv; decide) (by omega))
def M_X3_takeFlags_20_35 : List Nat := [1472, 2242, 2243]
set_option maxHeartbeats 4000000 in
set_option maxRecDepth 100000 in
theorem s_X3_takeFlags_20_35_80 {ρ : Nat → Nat} {L : List Nat} {n : Nat} (hn : 18446744073709551616 ≤ n) {dT : Option Nat} {S0 : q_S}  (S : q_S) (hG : q_G ρ L M_X3_takeFlags_20_35 S0 S) (htT : q_tr ρ L dT 35) (hT : (∀ a, dT = some a → (q_J S a 3).toInt ≤ (q_J S0 a 3).toInt + 0 * (0 : Int32).toInt + 600 ∧ (q_J S0 a 3).toInt ≤ 140737555464192)) : q_ok (m_X3_takeFlags_80 n S) (fun r T => q_G ρ L M_X3_takeFlags_20_35 S0 T ∧ (0 ≤ r.toInt ∧ r.toInt ≤ 1) ∧ q_sm (∀ a, dT = some a → (q_J T a 3).toInt ≤ (q_J S0 a 3).toInt + 600)) := by
  unfold m_X3_takeFlags_80
  have z0 : (0 : Int32).toInt = 0 := rfl
  obtain ⟨aT, eaT, maT, raT⟩ := id htT
  have f1 : q_sm _ := g_35_J3 hG maT raT
  obtain ⟨v2, ev2⟩ := q_ev ((q_J (S) aT 3).toInt)
  have f3 := q_bV ev2 f1
  obtain ⟨v4, ev4⟩ := q_ev ((q_J (S0) aT 3).toInt)
  have f5 := q_rVJ (X := q_J (S0) aT 3) ev4
  have f6 := q_le3v (K9 := 0) (E9 := 600) ev2 ev4 (show q_eqv ((0 : Int32)).toInt (0) by unfold q_eqv; decide) (hT aT eaT).1
  have f7 := q_leCv ev4 (hT aT eaT).2
  unfold m_X3_takeFlags_81
  refine q_ok_if (q_b01V (show q_eqv ((0 : Int32)).toInt (0) by unfold q_eqv; decide) (by omega) (by omega)) ?_
  exact q_ok_some ⟨hG, (q_wd (show (0 : Int) ≤ (0 : Int32).toInt ∧ (0 : Int32).toInt ≤ (0 : Int) by decide) (by decide) (by decide)), (q_trk eaT (q_leD ev2 ev4 (by omega)))⟩
set_option maxHeartbeats 4000000 in
set_option maxRecDepth 100000 in
theorem s_X3_takeFlags_20_35_50 {ρ : Nat → Nat} {L : List Nat} {n : Nat} (hn : 18446744073709551616 ≤ n) {dT : Option Nat} {S0 : q_S}  {k8 : q_S → Option Nat → Option Nat → Int32 → Int32 → Int32 → Option (Int32 × q_S)} {B8 : Int} (hk8 : ∀ (S : q_S) (z0 : Option Nat) (z1 : Option Nat) (z2 : Int32) (z3 : Int32) (z4 : Int32), q_G ρ L M_X3_takeFlags_20_35 S0 S → q_tr ρ L z0 20 → q_tr ρ L z1 35 → (0 ≤ z2.toInt ∧ z2.toInt ≤ 65535) → (0 ≤ z3.toInt ∧ z3.toInt ≤ 65535) → (0 ≤ z4.toInt ∧ z4.toInt ≤ 120) → q_tr ρ L dT 35 → (∀ a, dT = some a → (q_J S a 3).toInt ≤ (q_J S0 a 3).toInt + 4 * z4.toInt + 0 ∧ (q_J S0 a 3).toInt ≤ 140737555464192) → z1 = dT → 2147483648 - z4.toInt < B8 → q_ok (k8 S z0 z1 z2 z3 z4) (fun r T => q_G ρ L M_X3_takeFlags_20_35 S0 T ∧ (0 ≤ r.toInt ∧ r.toInt ≤ 1) ∧ q_sm (∀ a, dT = some a → (q_J T a 3).toInt ≤ (q_J S0 a 3).toInt + 600))) (S : q_S) (l0 : Option Nat) (l1 : Option Nat) (l3 : Int32) (l4 : Int32) (l5 : Int32) (hG : q_G ρ L M_X3_takeFlags_20_35 S0 S) (hl0 : q_tr ρ L l0 20) (hl1 : q_tr ρ L l1 35) (hl3 : (0 ≤ l3.toInt ∧ l3.toInt ≤ 65535)) (hl4 : (0 ≤ l4.toInt ∧ l4.toInt ≤ 65535)) (hl5 : (0 ≤ l5.toInt ∧ l5.toInt ≤ 119)) (htT : q_tr ρ L dT 35) (hT : (∀ a, dT = some a → (q_J S a 3).toInt ≤ (q_J S0 a 3).toInt + 4 * l5.toInt + 4 ∧ (q_J S0 a 3).toInt ≤ 140737555464192)) (hd : l1 = dT) (hm8 : 2147483648 - l5.toInt ≤ B8) : q_ok (m_X3_takeFlags_50 n k8 S l0 l1 l3 l4 l5) (fun r T => q_G ρ L M_X3_takeFlags_20_35 S0 T ∧ (0 ≤ r.toInt ∧ r.toInt ≤ 1) ∧ q_sm (∀ a, dT = some a → (q_J T a 3).toInt ≤ (q_J S0 a 3).toInt + 600)) := by
  unfold m_X3_takeFlags_50
  have z0 : (0 : Int32).toInt = 0 := rfl
  subst hd
  obtain ⟨aT, eaT, maT, raT⟩ := id htT
  have f1 : q_sm _ := g_35_J3 hG maT raT
  obtain ⟨v2, ev2⟩ := q_ev ((q_J (S) aT 3).toInt)
  have f3 := q_bV ev2 f1
  obtain ⟨v4, ev4⟩ := q_ev ((q_J (S0) aT 3).toInt)
  have f5 := q_rVJ (X := q_J (S0) aT 3) ev4
  have f6 := q_le3v (K9 := 4) (E9 := 4) ev2 ev4 q_evr (hT aT eaT).1
  have f7 := q_leCv ev4 (hT aT eaT).2
  refine q_ok_at hG hl0 rfl (fun a8 ma8 ra8 ea8 => ?_)
  have t9 := g_20_R2 hG ma8 ra8
  refine q_ok_at hG t9 rfl (fun a10 ma10 ra10 ea10 => ?_)
  refine q_ok_if (q_inV (g_23_N hG ma10 ra10) q_evr (by omega) (by omega)) ?_
  have hG := u_23_E (k := (l5).toNatClampNeg) (x := l4) hG ma10 ra10 (by decide) (q_wd hl4 (by decide) (by decide))
  have e11 : q_J (q_sI (S) a10 (l5).toNatClampNeg (l4)) aT 3 = q_J (S) aT 3 := q_skJI
  obtain ⟨v12, ev12⟩ := q_ev ((q_J (q_sI (S) a10 (l5).toNatClampNeg (l4)) aT 3).toInt)
  have f13 : v12 = v2 := q_eqVJ e11 ev12 ev2
  obtain ⟨v14, ev14⟩ := q_ev ((l5 + (1)).toInt)
  have f15 : v14 = l5.toInt + (1) := q_addVI ev14 q_evr (show q_eqv ((1 : Int32)).toInt (1) by unfold q_eqv; decide) (by omega) (by omega)
  exact hk8 _ _ _ _ _ _ hG hl0 hl1 (q_wd hl3 (by decide) (by decide)) (q_wd hl4 (by decide) (by decide)) (q_wd (q_addBI (1) (120) hl5 (show (1 : Int) ≤ (1 : Int32).toInt ∧ (1 : Int32).toInt ≤ (1 : Int) by decide) (by decide) (by decide) (by decide) (by decide)) (by decide) (by decide)) (q_trE eaT maT raT) (q_trk eaT ⟨q_le3 (K9 := 4) (E9 := 0) ev12 ev4 ev14 (by omega), q_leC ev4 (by omega)⟩) (by first | rfl | exact hd)  (q_upVl ev14 (by omega))
set_option maxHeartbeats 4000000 in
set_option maxRecDepth 100000 in
theorem s_X3_takeFlags_20_35_8 {ρ : Nat → Nat} {L : List Nat} {n : Nat} (hn : 18446744073709551616 ≤ n) {dT : Option Nat} {S0 : q_S}  : ∀ (k : Nat) (S : q_S) (l0 : Option Nat) (l1 : Option Nat) (l3 : Int32) (l4 : Int32) (l5 : Int32), q_G ρ L M_X3_takeFlags_20_35 S0 S → q_tr ρ L l0 20 → q_tr ρ L l1 35 → (0 ≤ l3.toInt ∧ l3.toInt ≤ 65535) → (0 ≤ l4.toInt ∧ l4.toInt ≤ 65535) → (0 ≤ l5.toInt ∧ l5.toInt ≤ 120) → q_tr ρ L dT 35 → (∀ a, dT = some a → (q_J S a 3).toInt ≤ (q_J S0 a 3).toInt + 4 * l5.toInt + 0 ∧ (q_J S0 a 3).toInt ≤ 140737555464192) → l1 = dT → 2147483648 - l5.toInt ≤ (k : Int) → q_ok (m_X3_takeFlags_8 n k S l0 l1 l3 l4 l5) (fun r T => q_G ρ L M_X3_takeFlags_20_35 S0 T ∧ (0 ≤ r.toInt ∧ r.toInt ≤ 1) ∧ q_sm (∀ a, dT = some a → (q_J T a 3).toInt ≤ (q_J S0 a 3).toInt + 600)) := by
  intro k
  induction k with
  | zero =>
    intro S l0 l1 l3 l4 l5 hG hl0 hl1 hl3 hl4 hl5 htT hT hd hm
    have f0 := q_rngI l5
    exfalso; omega
  | succ k ih =>
    intro S l0 l1 l3 l4 l5 hG hl0 hl1 hl3 hl4 hl5 htT hT hd hm
    rw [m_X3_takeFlags_8]
    have z0 : (0 : Int32).toInt = 0 := rfl
    subst hd
    obtain ⟨aT, eaT, maT, raT⟩ := id htT
    have f1 : q_sm _ := g_35_J3 hG maT raT
    obtain ⟨v2, ev2⟩ := q_ev ((q_J (S) aT 3).toInt)
    have f3 := q_bV ev2 f1
    obtain ⟨v4, ev4⟩ := q_ev ((q_J (S0) aT 3).toInt)
    have f5 := q_rVJ (X := q_J (S0) aT 3) ev4
    have f6 := q_le3v (K9 := 4) (E9 := 0) ev2 ev4 q_evr (hT aT eaT).1
    have f7 := q_leCv ev4 (hT aT eaT).2
    refine q_ok_at hG hl0 rfl (fun a8 ma8 ra8 ea8 => ?_)
    have f9 : q_sm _ := g_20_I4 hG ma8 ra8
    obtain ⟨v10, ev10⟩ := q_ev ((q_I (S) a8 4).toInt)
    have f11 := q_bV ev10 f9
    refine q_ok_ite (fun g12 => ?_) (fun g12 => ?_)
    · have f13 := q_leV ev10 q_evr (q_p_ge g12)
      refine q_ok_ite (fun g14 => ?_) (fun g14 => ?_)
      · have f15 := q_eqV q_evr (show q_eqv ((0 : Int32)).toInt (0) by unfold q_eqv; decide) (q_p_eq g14)
        refine q_ok_atA hG eaT maT raT rfl ?_
        refine q_ok_b (s_X1_isPast_35 hn hG.1 maT raT) (fun r16 S17 h18 => ?_)
        obtain ⟨eS17, h18⟩ := h18
        replace eS17 := eS17.symm
        subst eS17
        have f19 := h18
        refine q_ok_ite (fun g20 => ?_) (fun g20 => ?_)
        · have f21 := q_eqV q_evr (show q_eqv ((0 : Int32)).toInt (0) by unfold q_eqv; decide) (q_p_eq g20)
          unfold m_X3_takeFlags_81
          refine q_ok_if (q_b01V (show q_eqv ((1 : Int32)).toInt (1) by unfold q_eqv; decide) (by omega) (by omega)) ?_
          exact q_ok_some ⟨hG, (q_wd (show (1 : Int) ≤ (1 : Int32).toInt ∧ (1 : Int32).toInt ≤ (1 : Int) by decide) (by decide) (by decide)), (q_trk eaT (q_leD ev2 ev4 (by omega)))⟩
        · have f22 := q_neV q_evr (show q_eqv ((0 : Int32)).toInt (0) by unfold q_eqv; decide) (q_n_eq g20)
          exact s_X3_takeFlags_20_35_80 hn _ hG (q_trE eaT maT raT) (q_trk eaT ⟨q_le3 (K9 := 0) (E9 := 600) ev2 ev4 (show q_eqv ((0 : Int32)).toInt (0) by unfold q_eqv; decide) (by omega), q_leC ev4 (by omega)⟩) 
      · have f23 := q_neV q_evr (show q_eqv ((0 : Int32)).toInt (0) by unfold q_eqv; decide) (q_n_eq g14)
        exact s_X3_takeFlags_20_35_80 hn _ hG (q_trE eaT maT raT) (q_trk eaT ⟨q_le3 (K9 := 0) (E9 := 600) ev2 ev4 (show q_eqv ((0 : Int32)).toInt (0) by unfold q_eqv; decide) (by omega), q_leC ev4 (by omega)⟩) 
    · have f24 := q_ltV q_evr ev10 (q_n_ge g12)
      refine q_ok_ite (fun g25 => ?_) (fun g25 => ?_)
      · have f26 := q_leV q_evr (show q_eqv ((0 : Int32)).toInt (0) by unfold q_eqv; decide) (q_p_le g25)
        refine q_ok_atA hG eaT maT raT rfl ?_
        refine q_ok_b (s_X1_one_35 hn hG.1 maT raT (q_leC ev2 (by omega))) (fun r27 S28 h29 => ?_)
        have hG := q_G_call hG h29.1 (by decide)
        have f30 := h29.2.1
        have f31 : q_sm _ := g_35_J3 hG maT raT
        obtain ⟨v32, ev32⟩ := q_ev ((q_J (S28) aT 3).toInt)
        have f33 := q_bV ev32 f31
        have f34 := q_leDv ev32 ev2 (h29.2.2)
        obtain ⟨v35, ev35⟩ := q_ev ((r27 &&& (8 : Int32)).toInt)
        have f36 := q_andRVI ev35 (show q_eqv ((8 : Int32)).toInt (8) by unfold q_eqv; decide) (by omega)
        refine q_ok_ite (fun g37 => ?_) (fun g37 => ?_)
        · have f38 := q_eqV ev35 (show q_eqv ((0 : Int32)).toInt (0) by unfold q_eqv; decide) (q_p_eq g37)
          unfold m_X3_takeFlags_49
          exact s_X3_takeFlags_20_35_50 hn (B8 := (k : Int) + 1) (fun S9 z0 z1 z2 z3 z4 hG9 hz0 hz1 hz2 hz3 hz4 hzt hzT hzd  hm9 => ih S9 z0 z1 z2 z3 z4 hG9 hz0 hz1 hz2 hz3 hz4 hzt hzT hzd  (by omega)) _ _ _ _ _ _ hG hl0 hl1 (q_wd (show (0 : Int) ≤ (0 : Int32).toInt ∧ (0 : Int32).toInt ≤ (0 : Int) by decide) (by decide) (by decide)) (q_wd f30 (by decide) (by decide)) (q_oV q_evr (by omega) (by omega)) (q_trE eaT maT raT) (q_trk eaT ⟨q_le3 (K9 := 4) (E9 := 4) ev32 ev4 q_evr (by omega), q_leC ev4 (by omega)⟩) (by first | rfl | exact hd) (q_upV q_evr (by omega))
        · have f39 := q_neV ev35 (show q_eqv ((0 : Int32)).toInt (0) by unfold q_eqv; decide) (q_n_eq g37)
          refine q_ok_atA hG eaT maT raT rfl ?_
          refine q_ok_b (s_X1_one_35 hn hG.1 maT raT (q_leC ev32 (by omega))) (fun r40 S41 h42 => ?_)
          have hG := q_G_call hG h42.1 (by decide)
          have f43 := h42.2.1
          have f44 : q_sm _ := g_35_J3 hG maT raT
          obtain ⟨v45, ev45⟩ := q_ev ((q_J (S41) aT 3).toInt)
          have f46 := q_bV ev45 f44
          have f47 := q_leDv ev45 ev32 (h42.2.2)
          unfold m_X3_takeFlags_49
          exact s_X3_takeFlags_20_35_50 hn (B8 := (k : Int) + 1) (fun S9 z0 z1 z2 z3 z4 hG9 hz0 hz1 hz2 hz3 hz4 hzt hzT hzd  hm9 => ih S9 z0 z1 z2 z3 z4 hG9 hz0 hz1 hz2 hz3 hz4 hzt hzT hzd  (by omega)) _ _ _ _ _ _ hG hl0 hl1 (q_wd f43 (by decide) (by decide)) (q_wd f30 (by decide) (by decide)) (q_oV q_evr (by omega) (by omega)) (q_trE eaT maT raT) (q_trk eaT ⟨q_le3 (K9 := 4) (E9 := 4) ev45 ev4 q_evr (by omega), q_leC ev4 (by omega)⟩) (by first | rfl | exact hd) (q_upV q_evr (by omega))
      · have f48 := q_ltV (show q_eqv ((0 : Int32)).toInt (0) by unfold q_eqv; decide) q_evr (q_n_le g25)
        obtain ⟨v49, ev49⟩ := q_ev ((l3 + (-1)).toInt)
        have f50 : v49 = l3.toInt + (-1) := q_addVI ev49 q_evr (show q_eqv ((-1 : Int32)).toInt (-1) by unfold q_eqv; decide) (by omega) (by omega)
        exact s_X3_takeFlags_20_35_50 hn (B8 := (k : Int) + 1) (fun S9 z0 z1 z2 z3 z4 hG9 hz0 hz1 hz2 hz3 hz4 hzt hzT hzd  hm9 => ih S9 z0 z1 z2 z3 z4 hG9 hz0 hz1 hz2 hz3 hz4 hzt hzT hzd  (by omega)) _ _ _ _ _ _ hG hl0 hl1 (q_oV ev49 (by omega) (by omega)) (q_wd hl4 (by decide) (by decide)) (q_oV q_evr (by omega) (by omega)) (q_trE eaT maT raT) (q_trk eaT ⟨q_le3 (K9 := 4) (E9 := 4) ev2 ev4 q_evr (by omega), q_leC ev4 (by omega)⟩) (by first | rfl | exact hd) (q_upV q_evr (by omega))
set_option maxHeartbeats 4000000 in
set_option maxRecDepth 100000 in
theorem s_X3_takeFlags_20_35 {ρ : Nat → Nat} {L : List Nat} {n : Nat} (hn : 18446744073709551616 ≤ n) {S : q_S} (hI : q_Inv ρ L S) {o : Nat} (mo : o ∈ L) (ro : ρ o = 20) {p0 : Option Nat} (tp0 : q_tr ρ L p0 35) {p1 : Int32} (hp1 : (0 ≤ p1.toInt ∧ p1.toInt ≤ 120)) (ht : ∀ a, p0 = some a → (q_J S a 3).toInt ≤ 140737555464192) : q_ok (m_X3_takeFlags n S o p0 p1) (fun r T => q_G ρ L M_X3_takeFlags_20_35 S T ∧ (0 ≤ r.toInt ∧ r.toInt ≤ 1) ∧ q_sm (∀ a, p0 = some a → (q_J T a 3).toInt ≤ (q_J S a 3).toInt + 600)) := by
  have hG : q_G ρ L M_X3_takeFlags_20_35 S S := q_G_refl hI
  unfold m_X3_takeFlags
  have z0 : (0 : Int32).toInt = 0 := rfl
  obtain ⟨aT, eaT, maT, raT⟩ := id tp0
  have f1 : q_sm _ := g_35_J3 hG maT raT
  obtain ⟨v2, ev2⟩ := q_ev ((q_J (S) aT 3).toInt)
  have f3 := q_bV ev2 f1
  have f4 := q_leCv ev2 (ht aT eaT)
  exact s_X3_takeFlags_20_35_8 hn n _ _ _ _ _ _ hG (q_trI mo ro) tp0 (q_wd (show (0 : Int) ≤ (0 : Int32).toInt ∧ (0 : Int32).toInt ≤ (0 : Int) by decide) (by decide) (by decide)) (q_wd (show (0 : Int) ≤ (0 : Int32).toInt ∧ (0 : Int32).toInt ≤ (0 : Int) by decide) (by decide) (by decide)) (q_wd hp1 (by decide) (by decide)) (q_trE eaT maT raT) (q_trk eaT ⟨q_le3 (K9 := 4) (E9 := 0) ev2 ev2 q_evr (by omega), q_leC ev2 (by omega)⟩) (by first | rfl | exact hd)  (q_upV q_evr (by omega))
