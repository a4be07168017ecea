set_option maxHeartbeats 4000000 in
set_option maxRecDepth 100000 in
theorem s_J9_floorDiv_f86c9 {ρ : Nat → Nat} {L : List Nat} {n : Nat} (hn : 18446744073709551616 ≤ n) {S : q_S} (hI : q_Inv ρ L S) {p0 : Int64} {p1 : Int64} (hp1 : (2 ≤ p1.toInt ∧ p1.toInt ≤ 131070)) : q_ok (m_J9_floorDiv_f86c9 n S p0 p1) (fun r T => T = S) := by
  have hG : q_G ρ L [] S S := q_G_refl hI
  unfold m_J9_floorDiv_f86c9
  have z0 : (0 : Int32).toInt = 0 := rfl
  refine q_ok_if (q_ne0VJ q_evr (by omega)) ?_
  obtain ⟨v1, ev1⟩ := q_ev ((p0 ^^^ p1).toInt)
  have f2 := q_rVJ (X := p0 ^^^ p1) ev1
  refine q_ok_ite (fun g3 => ?_) (fun g3 => ?_)
  · have f4 := q_leV (show q_eqv ((0 : Int64)).toInt (0) by unfold q_eqv; decide) ev1 (q_cp_ge g3)
    unfold m_J9_floorDiv_f86c9_27
    exact q_ok_some rfl
  · have f5 := q_ltV ev1 (show q_eqv ((0 : Int64)).toInt (0) by unfold q_eqv; decide) (q_cn_ge g3)
    obtain ⟨v6, ev6⟩ := q_ev (((p0 / p1) * p1).toInt)
    obtain ⟨v7, ev7⟩ := q_ev ((p0 / p1).toInt)
    have f8 := q_rVJ (X := p0 / p1) ev7
    have f9 := q_rVJ (X := (p0 / p1) * p1) ev6
    have f10 := q_rVJ (X := p0) q_evr
    refine q_ok_ite (fun g11 => ?_) (fun g11 => ?_)
    · have f12 := q_eqV ev6 q_evr (q_cp_eq g11)
      unfold m_J9_floorDiv_f86c9_27
      exact q_ok_some rfl
    · have f13 := q_neV ev6 q_evr (q_cn_eq g11)
      exact q_ok_some rfl
set_option maxHeartbeats 4000000 in
set_option maxRecDepth 100000 in
theorem s_X4_four_1 {ρ : Nat → Nat} {L : List Nat} {n : Nat} (hn : 18446744073709551616 ≤ n) {S : q_S} (hI : q_Inv ρ L S) {o : Nat} (mo : o ∈ L) (ro : ρ o = 1) {p0 : Int64} (hp0 : (0 ≤ p0.toInt ∧ p0.toInt ≤ 281474976710656)) {p1 : Int64} (hp1 : (0 ≤ p1.toInt ∧ p1.toInt ≤ 65535)) : q_ok (m_X4_four n S o p0 p1) (fun r T => T = S ∧ (-1 ≤ r.toInt ∧ r.toInt ≤ 4294967295)) := by
  have hG : q_G ρ L [] S S := q_G_refl hI
  unfold m_X4_four
  have z0 : (0 : Int32).toInt = 0 := rfl
  refine q_ok_ite (fun g1 => ?_) (fun g1 => ?_)
  · have f2 := q_ltV q_evr (show q_eqv ((0 : Int64)).toInt (0) by unfold q_eqv; decide) (q_cp_lt g1)
    exfalso; omega
  · have f3 := q_leV (show q_eqv ((0 : Int64)).toInt (0) by unfold q_eqv; decide) q_evr (q_cn_lt g1)
    obtain ⟨v4, ev4⟩ := q_ev ((p0 + (3 : Int64)).toInt)
    have f5 : v4 = p0.toInt + (3) := q_addVJ ev4 q_evr (show q_eqv ((3 : Int64)).toInt (3) by unfold q_eqv; decide) (by omega) (by omega)
    refine q_ok_ite (fun g6 => ?_) (fun g6 => ?_)
    · have f7 := q_leV q_evr ev4 (q_cp_ge g6)
      unfold m_X4_four_30
      exact q_ok_some ⟨rfl, (q_wd (show (-1 : Int) ≤ (-1 : Int64).toInt ∧ (-1 : Int64).toInt ≤ (-1 : Int) by decide) (by decide) (by decide))⟩
    · have f8 := q_ltV ev4 q_evr (q_cn_ge g6)
      refine q_ok_atS hG (q_trI mo ro) rfl (fun mo ro => ?_)
      have f9 : q_sm _ := g_1_I1 hG mo ro
      obtain ⟨v10, ev10⟩ := q_ev (((q_I (S) o 1).toInt64).toInt)
      obtain ⟨v11, ev11⟩ := q_ev ((q_I (S) o 1).toInt)
      have f12 := q_bV ev11 f9
      have f13 : v10 = v11 := q_i2lV ev10 ev11
      refine q_ok_ite (fun g14 => ?_) (fun g14 => ?_)
      · have f15 := q_ltV ev4 ev10 (q_cp_lt g14)
        have t16 := g_1_R0 hG mo ro
        refine q_ok_at hG t16 rfl (fun a17 ma17 ra17 ea17 => ?_)
        obtain ⟨v18, ev18⟩ := q_ev ((p0.toInt32).toInt)
        have f19 : v18 = p0.toInt := q_l2iV ev18 q_evr (by omega) (by omega)
        refine q_ok_if (q_inV (g_2_N hG ma17 ra17) ev18 (by omega) (by omega)) ?_
        have f20 : q_sm _ := g_2_E hG ma17 ra17 (k := (p0.toInt32).toNatClampNeg)
        have t21 := g_1_R0 hG mo ro
        obtain ⟨v22, ev22⟩ := q_ev (((p0.toInt32) + (1 : Int32)).toInt)
        have f23 : v22 = v18 + (1) := q_addVI ev22 ev18 (show q_eqv ((1 : Int32)).toInt (1) by unfold q_eqv; decide) (by omega) (by omega)
        refine q_ok_if (q_inV (g_2_N hG ma17 ra17) ev22 (by omega) (by omega)) ?_
        have f24 : q_sm _ := g_2_E hG ma17 ra17 (k := ((p0.toInt32) + (1 : Int32)).toNatClampNeg)
        have t25 := g_1_R0 hG mo ro
        obtain ⟨v26, ev26⟩ := q_ev (((p0.toInt32) + (2 : Int32)).toInt)
        have f27 : v26 = v18 + (2) := q_addVI ev26 ev18 (show q_eqv ((2 : Int32)).toInt (2) by unfold q_eqv; decide) (by omega) (by omega)
        refine q_ok_if (q_inV (g_2_N hG ma17 ra17) ev26 (by omega) (by omega)) ?_
        have f28 : q_sm _ := g_2_E hG ma17 ra17 (k := ((p0.toInt32) + (2 : Int32)).toNatClampNeg)
        have t29 := g_1_R0 hG mo ro
        obtain ⟨v30, ev30⟩ := q_ev (((p0.toInt32) + (3 : Int32)).toInt)
        have f31 : v30 = v18 + (3) := q_addVI ev30 ev18 (show q_eqv ((3 : Int32)).toInt (3) by unfold q_eqv; decide) (by omega) (by omega)
        refine q_ok_if (q_inV (g_2_N hG ma17 ra17) ev30 (by omega) (by omega)) ?_
        have f32 : q_sm _ := g_2_E hG ma17 ra17 (k := ((p0.toInt32) + (3 : Int32)).toNatClampNeg)
        obtain ⟨v33, ev33⟩ := q_ev ((((((((q_I (S) a17 (p0.toInt32).toNatClampNeg) <<< ((8 : Int32) &&& 31)) ||| (q_I (S) a17 ((p0.toInt32) + (1 : Int32)).toNatClampNeg)).toInt64) <<< (((16 : Int32)).toInt64 &&& 63)) ||| (((q_I (S) a17 ((p0.toInt32) + (2 : Int32)).toNatClampNeg) <<< ((8 : Int32) &&& 31)).toInt64)) ||| ((q_I (S) a17 ((p0.toInt32) + (3 : Int32)).toNatClampNeg).toInt64)).toInt)
        obtain ⟨v34, ev34⟩ := q_ev (((((((q_I (S) a17 (p0.toInt32).toNatClampNeg) <<< ((8 : Int32) &&& 31)) ||| (q_I (S) a17 ((p0.toInt32) + (1 : Int32)).toNatClampNeg)).toInt64) <<< (((16 : Int32)).toInt64 &&& 63)) ||| (((q_I (S) a17 ((p0.toInt32) + (2 : Int32)).toNatClampNeg) <<< ((8 : Int32) &&& 31)).toInt64)).toInt)
        obtain ⟨v35, ev35⟩ := q_ev ((((((q_I (S) a17 (p0.toInt32).toNatClampNeg) <<< ((8 : Int32) &&& 31)) ||| (q_I (S) a17 ((p0.toInt32) + (1 : Int32)).toNatClampNeg)).toInt64) <<< (((16 : Int32)).toInt64 &&& 63)).toInt)
        obtain ⟨v36, ev36⟩ := q_ev (((((q_I (S) a17 (p0.toInt32).toNatClampNeg) <<< ((8 : Int32) &&& 31)) ||| (q_I (S) a17 ((p0.toInt32) + (1 : Int32)).toNatClampNeg)).toInt64).toInt)
        obtain ⟨v37, ev37⟩ := q_ev ((((q_I (S) a17 (p0.toInt32).toNatClampNeg) <<< ((8 : Int32) &&& 31)) ||| (q_I (S) a17 ((p0.toInt32) + (1 : Int32)).toNatClampNeg)).toInt)
        obtain ⟨v38, ev38⟩ := q_ev (((q_I (S) a17 (p0.toInt32).toNatClampNeg) <<< ((8 : Int32) &&& 31)).toInt)
        obtain ⟨v39, ev39⟩ := q_ev ((q_I (S) a17 (p0.toInt32).toNatClampNeg).toInt)
        have f40 := q_bV ev39 f20
        have f41 : v38 = v39 * 256 := q_shlVI 8 256 (by decide) (by decide) ev38 ev39 (by omega) (by omega)
        obtain ⟨v42, ev42⟩ := q_ev ((q_I (S) a17 ((p0.toInt32) + (1 : Int32)).toNatClampNeg).toInt)
        have f43 := q_bV ev42 f24
        have f44 := q_orVI 16 65536 (by decide) (by decide) ev37 ev38 ev42 (by omega) (by omega) (by omega) (by omega)
        have f45 : v36 = v37 := q_i2lV ev36 ev37
        have f46 : v35 = v36 * 65536 := q_shlVJ 16 65536 (by decide) (by decide) ev35 ev36 (by omega) (by omega)
        obtain ⟨v47, ev47⟩ := q_ev ((((q_I (S) a17 ((p0.toInt32) + (2 : Int32)).toNatClampNeg) <<< ((8 : Int32) &&& 31)).toInt64).toInt)
        obtain ⟨v48, ev48⟩ := q_ev (((q_I (S) a17 ((p0.toInt32) + (2 : Int32)).toNatClampNeg) <<< ((8 : Int32) &&& 31)).toInt)
        obtain ⟨v49, ev49⟩ := q_ev ((q_I (S) a17 ((p0.toInt32) + (2 : Int32)).toNatClampNeg).toInt)
        have f50 := q_bV ev49 f28
        have f51 : v48 = v49 * 256 := q_shlVI 8 256 (by decide) (by decide) ev48 ev49 (by omega) (by omega)
        have f52 : v47 = v48 := q_i2lV ev47 ev48
        have f53 := q_orVJ 32 4294967296 (by decide) (by decide) ev34 ev35 ev47 (by omega) (by omega) (by omega) (by omega)
        obtain ⟨v54, ev54⟩ := q_ev (((q_I (S) a17 ((p0.toInt32) + (3 : Int32)).toNatClampNeg).toInt64).toInt)
        obtain ⟨v55, ev55⟩ := q_ev ((q_I (S) a17 ((p0.toInt32) + (3 : Int32)).toNatClampNeg).toInt)
        have f56 := q_bV ev55 f32
        have f57 : v54 = v55 := q_i2lV ev54 ev55
        have f58 := q_orVJ 32 4294967296 (by decide) (by decide) ev33 ev34 ev54 (by omega) (by omega) (by omega) (by omega)
        exact q_ok_some ⟨rfl, (q_oV ev33 (by omega) (by omega))⟩
      · have f59 := q_leV ev10 ev4 (q_cn_lt g14)
        unfold m_X4_four_30
        exact q_ok_some ⟨rfl, (q_wd (show (-1 : Int) ≤ (-1 : Int64).toInt ∧ (-1 : Int64).toInt ≤ (-1 : Int) by decide) (by decide) (by decide))⟩
set_option maxHeartbeats 4000000 in
set_option maxRecDepth 100000 in
theorem s_X7_end_8 {ρ : Nat → Nat} {L : List Nat} {n : Nat} (hn : 18446744073709551616 ≤ n) {S : q_S} (hI : q_Inv ρ L S) {o : Nat} (mo : o ∈ L) (ro : ρ o = 8) : q_ok (m_X7_end n S o) (fun r T => T = S ∧ (0 ≤ r.toInt ∧ r.toInt ≤ 65535)) := by
  have hG : q_G ρ L [] S S := q_G_refl hI
  unfold m_X7_end
  have z0 : (0 : Int32).toInt = 0 := rfl
  refine q_ok_atS hG (q_trI mo ro) rfl (fun mo ro => ?_)
  have f1 : q_sm _ := g_8_I3 hG mo ro
  have f2 : q_sm _ := g_8_I4 hG mo ro
  exact q_ok_some ⟨rfl, (q_wd (q_addBJ (0) (3200) (q_i2lB f1) (q_i2lB f2) (by decide) (by decide) (by decide) (by decide)) (by decide) (by decide))⟩
set_option maxHeartbeats 4000000 in
set_option maxRecDepth 100000 in
theorem s_X7_four_8 {ρ : Nat → Nat} {L : List Nat} {n : Nat} (hn : 18446744073709551616 ≤ n) {S : q_S} (hI : q_Inv ρ L S) {o : Nat} (mo : o ∈ L) (ro : ρ o = 8) {p0 : Int64} (hp0 : (0 ≤ p0.toInt ∧ p0.toInt ≤ 1099511627776)) : q_ok (m_X7_four n S o p0) (fun r T => T = S ∧ (-1 ≤ r.toInt ∧ r.toInt ≤ 4294967295)) := by
  have hG : q_G ρ L [] S S := q_G_refl hI
  unfold m_X7_four
  have z0 : (0 : Int32).toInt = 0 := rfl
  refine q_ok_ite (fun g1 => ?_) (fun g1 => ?_)
  · have f2 := q_leV (show q_eqv ((0 : Int64)).toInt (0) by unfold q_eqv; decide) q_evr (q_cp_ge g1)
    refine q_ok_atS hG (q_trI mo ro) rfl (fun mo ro => ?_)
    have t3 := g_8_R0 hG mo ro
    have f4 : q_sm _ := g_8_I3 hG mo ro
    refine q_ok_b (s_X7_end_8 hn hG.1 mo ro) (fun r5 S6 h7 => ?_)
    obtain ⟨eS6, h7⟩ := h7
    replace eS6 := eS6.symm
    subst eS6
    have f8 := h7
    refine q_ok_at hG t3 rfl (fun a9 ma9 ra9 ea9 => ?_)
    refine q_ok_b (s_X4_four_1 hn hG.1 ma9 ra9 (q_wd (q_addBJ (0) (1099511629376) (q_i2lB f4) hp0 (by decide) (by decide) (by decide) (by decide)) (by decide) (by decide)) (q_wd f8 (by decide) (by decide))) (fun r10 S11 h12 => ?_)
    obtain ⟨eS11, h12⟩ := h12
    replace eS11 := eS11.symm
    subst eS11
    have f13 := h12
    unfold m_X7_four_30
    exact q_ok_some ⟨rfl, (q_wd f13 (by decide) (by decide))⟩
  · have f14 := q_ltV q_evr (show q_eqv ((0 : Int64)).toInt (0) by unfold q_eqv; decide) (q_cn_ge g1)
    exfalso; omega
set_option maxHeartbeats 4000000 in
set_option maxRecDepth 100000 in
theorem s_X0_four_13 {ρ : Nat → Nat} {L : List Nat} {n : Nat} (hn : 18446744073709551616 ≤ n) {S : q_S} (hI : q_Inv ρ L S) {o : Nat} (mo : o ∈ L) (ro : ρ o = 13) {p0 : Int64} (hp0 : (12 ≤ p0.toInt ∧ p0.toInt ≤ 68719476736)) : q_ok (m_X0_four n S o p0) (fun r T => T = S ∧ (-1 ≤ r.toInt ∧ r.toInt ≤ 4294967295)) := by
  have hG : q_G ρ L [] S S := q_G_refl hI
  unfold m_X0_four
  have z0 : (0 : Int32).toInt = 0 := rfl
  refine q_ok_atS hG (q_trI mo ro) rfl (fun mo ro => ?_)
  have t1 := g_13_R1 hG mo ro
  have f2 : q_sm _ := g_13_J2 hG mo ro
  refine q_ok_at hG t1 rfl (fun a3 ma3 ra3 ea3 => ?_)
  refine q_ok_b (s_X7_four_8 hn hG.1 ma3 ra3 (q_wd (q_addBJ (11) (73014444031) f2 hp0 (by decide) (by decide) (by decide) (by decide)) (by decide) (by decide))) (fun r4 S5 h6 => ?_)
  obtain ⟨eS5, h6⟩ := h6
  replace eS5 := eS5.symm
  subst eS5
  have f7 := h6
  exact q_ok_some ⟨rfl, (q_wd f7 (by decide) (by decide))⟩
set_option maxHeartbeats 4000000 in
set_option maxRecDepth 100000 in
theorem s_X0_findInGroups_13_89 {ρ : Nat → Nat} {L : List Nat} {n : Nat} {S : q_S} (hn : 18446744073709551616 ≤ n) (hG : q_G ρ L [] S S)   : q_ok (m_X0_findInGroups_89 n S) (fun r T => T = S ∧ (-2147483647 ≤ r.toInt ∧ r.toInt ≤ 6442450942)) := by
  unfold m_X0_findInGroups_89
  have z0 : (0 : Int32).toInt = 0 := rfl
  exact q_ok_some ⟨rfl, (q_wd (show (0 : Int) ≤ (0 : Int64).toInt ∧ (0 : Int64).toInt ≤ (0 : Int) by decide) (by decide) (by decide))⟩
set_option maxHeartbeats 4000000 in
set_option maxRecDepth 100000 in
theorem s_X0_findInGroups_13_116 {ρ : Nat → Nat} {L : List Nat} {n : Nat} {S : q_S} (hn : 18446744073709551616 ≤ n) (hG : q_G ρ L [] S S)  {k11 : q_S → Option Nat → Int32 → Int64 → Int64 → Option (Int64 × q_S)} {B11 : Int} (hk11 : ∀ (z0 : Option Nat) (z1 : Int32) (z2 : Int64) (z3 : Int64), q_tr ρ L z0 13 → (0 ≤ z1.toInt ∧ z1.toInt ≤ 2147483647) → (-1 ≤ z2.toInt ∧ z2.toInt ≤ 4294967295) → (0 ≤ z3.toInt ∧ z3.toInt ≤ 17179869184) → 9223372036854775808 - z3.toInt < B11 → q_ok (k11 S z0 z1 z2 z3) (fun r T => T = S ∧ (-2147483647 ≤ r.toInt ∧ r.toInt ≤ 6442450942))) (l0 : Option Nat) (l1 : Int32) (l2 : Int64) (l4 : Int64) (hl0 : q_tr ρ L l0 13) (hl1 : (0 ≤ l1.toInt ∧ l1.toInt ≤ 2147483647)) (hl2 : (1 ≤ l2.toInt ∧ l2.toInt ≤ 4294967295)) (hl4 : (0 ≤ l4.toInt ∧ l4.toInt ≤ 4294967295)) (hm11 : 9223372036854775808 - l4.toInt ≤ B11) : q_ok (m_X0_findInGroups_116 n k11 S l0 l1 l2 l4) (fun r T => T = S ∧ (-2147483647 ≤ r.toInt ∧ r.toInt ≤ 6442450942)) := by
  unfold m_X0_findInGroups_116
  have z0 : (0 : Int32).toInt = 0 := rfl
  obtain ⟨v1, ev1⟩ := q_ev ((l4 + (1 : Int64)).toInt)
  have f2 : v1 = l4.toInt + (1) := q_addVJ ev1 q_evr (show q_eqv ((1 : Int64)).toInt (1) by unfold q_eqv; decide) (by omega) (by omega)
  exact hk11 _ _ _ _ hl0 (q_wd hl1 (by decide) (by decide)) (q_wd hl2 (by decide) (by decide)) (q_wd (q_addBJ (1) (4294967296) hl4 (show (1 : Int) ≤ (1 : Int64).toInt ∧ (1 : Int64).toInt ≤ (1 : Int) by decide) (by decide) (by decide) (by decide) (by decide)) (by decide) (by decide))  (q_upVl ev1 (by omega))
set_option maxHeartbeats 4000000 in
set_option maxRecDepth 100000 in
theorem s_X0_findInGroups_13_11 {ρ : Nat → Nat} {L : List Nat} {n : Nat} {S : q_S} (hn : 18446744073709551616 ≤ n) (hG : q_G ρ L [] S S)  : ∀ (k : Nat) (l0 : Option Nat) (l1 : Int32) (l2 : Int64) (l4 : Int64), q_tr ρ L l0 13 → (0 ≤ l1.toInt ∧ l1.toInt ≤ 2147483647) → (-1 ≤ l2.toInt ∧ l2.toInt ≤ 4294967295) → (0 ≤ l4.toInt ∧ l4.toInt ≤ 17179869184) → 9223372036854775808 - l4.toInt ≤ (k : Int) → q_ok (m_X0_findInGroups_11 n k S l0 l1 l2 l4) (fun r T => T = S ∧ (-2147483647 ≤ r.toInt ∧ r.toInt ≤ 6442450942)) := by
  intro k
  induction k with
  | zero =>
    intro l0 l1 l2 l4 hl0 hl1 hl2 hl4 hm
    have f0 := q_rngJ l4
    exfalso; omega
  | succ k ih =>
    intro l0 l1 l2 l4 hl0 hl1 hl2 hl4 hm
    rw [m_X0_findInGroups_11]
    have z0 : (0 : Int32).toInt = 0 := rfl
    refine q_ok_ite (fun g1 => ?_) (fun g1 => ?_)
    · have f2 := q_leV q_evr q_evr (q_cp_ge g1)
      exact q_ok_some ⟨rfl, (q_wd (show (0 : Int) ≤ (0 : Int64).toInt ∧ (0 : Int64).toInt ≤ (0 : Int) by decide) (by decide) (by decide))⟩
    · have f3 := q_ltV q_evr q_evr (q_cn_ge g1)
      refine q_ok_at hG hl0 rfl (fun a4 ma4 ra4 ea4 => ?_)
      obtain ⟨v8, ev8⟩ := q_ev (((16 : Int64) + ((12 : Int64) * l4)).toInt)
      obtain ⟨v9, ev9⟩ := q_ev (((12 : Int64) * l4).toInt)
      have f10 : v9 = (12) * l4.toInt := q_mulVJ ev9 (show q_eqv ((12 : Int64)).toInt (12) by unfold q_eqv; decide) q_evr (by omega) (by omega)
      have f11 : v8 = (16) + v9 := q_addVJ ev8 (show q_eqv ((16 : Int64)).toInt (16) by unfold q_eqv; decide) ev9 (by omega) (by omega)
      refine q_ok_b (s_X0_four_13 hn hG.1 ma4 ra4 (q_oV ev8 (by omega) (by omega))) (fun r5 S6 h7 => ?_)
      obtain ⟨eS6, h7⟩ := h7
      replace eS6 := eS6.symm
      subst eS6
      have f12 := h7
      refine q_ok_atA hG ea4 ma4 ra4 rfl ?_
      obtain ⟨v16, ev16⟩ := q_ev ((((16 : Int64) + ((12 : Int64) * l4)) + (4 : Int64)).toInt)
      have f17 : v16 = v8 + (4) := q_addVJ ev16 ev8 (show q_eqv ((4 : Int64)).toInt (4) by unfold q_eqv; decide) (by omega) (by omega)
      refine q_ok_b (s_X0_four_13 hn hG.1 ma4 ra4 (q_oV ev16 (by omega) (by omega))) (fun r13 S14 h15 => ?_)
      obtain ⟨eS14, h15⟩ := h15
      replace eS14 := eS14.symm
      subst eS14
      have f18 := h15
      refine q_ok_atA hG ea4 ma4 ra4 rfl ?_
      obtain ⟨v22, ev22⟩ := q_ev ((((16 : Int64) + ((12 : Int64) * l4)) + (8 : Int64)).toInt)
      have f23 : v22 = v8 + (8) := q_addVJ ev22 ev8 (show q_eqv ((8 : Int64)).toInt (8) by unfold q_eqv; decide) (by omega) (by omega)
      refine q_ok_b (s_X0_four_13 hn hG.1 ma4 ra4 (q_oV ev22 (by omega) (by omega))) (fun r19 S20 h21 => ?_)
      obtain ⟨eS20, h21⟩ := h21
      replace eS20 := eS20.symm
      subst eS20
      have f24 := h21
      refine q_ok_ite (fun g25 => ?_) (fun g25 => ?_)
      · have f26 := q_eqV q_evr (show q_eqv ((-1 : Int64)).toInt (-1) by unfold q_eqv; decide) (q_cp_eq g25)
        exact s_X0_findInGroups_13_89 hn hG   
      · have f27 := q_neV q_evr (show q_eqv ((-1 : Int64)).toInt (-1) by unfold q_eqv; decide) (q_cn_eq g25)
        refine q_ok_ite (fun g28 => ?_) (fun g28 => ?_)
        · have f29 := q_eqV q_evr (show q_eqv ((-1 : Int64)).toInt (-1) by unfold q_eqv; decide) (q_cp_eq g28)
          exact s_X0_findInGroups_13_89 hn hG   
        · have f30 := q_neV q_evr (show q_eqv ((-1 : Int64)).toInt (-1) by unfold q_eqv; decide) (q_cn_eq g28)
          refine q_ok_ite (fun g31 => ?_) (fun g31 => ?_)
          · have f32 := q_eqV q_evr (show q_eqv ((-1 : Int64)).toInt (-1) by unfold q_eqv; decide) (q_cp_eq g31)
            exact s_X0_findInGroups_13_89 hn hG   
          · have f33 := q_neV q_evr (show q_eqv ((-1 : Int64)).toInt (-1) by unfold q_eqv; decide) (q_cn_eq g31)
            obtain ⟨v34, ev34⟩ := q_ev ((l1.toInt64).toInt)
            have f35 := q_rVI (x := l1) q_evr
            have f36 : v34 = l1.toInt := q_i2lV ev34 q_evr
            refine q_ok_ite (fun g37 => ?_) (fun g37 => ?_)
            · have f38 := q_ltV ev34 q_evr (q_cp_lt g37)
              exact s_X0_findInGroups_13_116 hn hG (B11 := (k : Int) + 1) (fun z0 z1 z2 z3 hz0 hz1 hz2 hz3  hm9 => ih z0 z1 z2 z3 hz0 hz1 hz2 hz3  (by omega)) _ _ _ _ hl0 (q_wd hl1 (by decide) (by decide)) (q_oV q_evr (by omega) (by omega)) (q_oV q_evr (by omega) (by omega)) (q_upV q_evr (by omega))
            · have f39 := q_leV q_evr ev34 (q_cn_lt g37)
              refine q_ok_ite (fun g40 => ?_) (fun g40 => ?_)
              · have f41 := q_ltV q_evr ev34 (q_cp_gt g40)
                exact s_X0_findInGroups_13_116 hn hG (B11 := (k : Int) + 1) (fun z0 z1 z2 z3 hz0 hz1 hz2 hz3  hm9 => ih z0 z1 z2 z3 hz0 hz1 hz2 hz3  (by omega)) _ _ _ _ hl0 (q_wd hl1 (by decide) (by decide)) (q_oV q_evr (by omega) (by omega)) (q_oV q_evr (by omega) (by omega)) (q_upV q_evr (by omega))
              · have f42 := q_leV ev34 q_evr (q_cn_gt g40)
                obtain ⟨v43, ev43⟩ := q_ev ((r19 + ((l1.toInt64) - r5)).toInt)
                obtain ⟨v44, ev44⟩ := q_ev (((l1.toInt64) - r5).toInt)
                have f45 : v44 = v34 - r5.toInt := q_subVJ ev44 ev34 q_evr (by omega) (by omega)
                have f46 : v43 = r19.toInt + v44 := q_addVJ ev43 q_evr ev44 (by omega) (by omega)
                exact q_ok_some ⟨rfl, (q_oV ev43 (by omega) (by omega))⟩
set_option maxHeartbeats 4000000 in
set_option maxRecDepth 100000 in
theorem s_X0_findInGroups_13 {ρ : Nat → Nat} {L : List Nat} {n : Nat} (hn : 18446744073709551616 ≤ n) {S : q_S} (hI : q_Inv ρ L S) {o : Nat} (mo : o ∈ L) (ro : ρ o = 13) {p0 : Int32} (hp0 : (0 ≤ p0.toInt ∧ p0.toInt ≤ 2147483647)) : q_ok (m_X0_findInGroups n S o p0) (fun r T => T = S ∧ (-2147483647 ≤ r.toInt ∧ r.toInt ≤ 6442450942)) := by
  have hG : q_G ρ L [] S S := q_G_refl hI
  unfold m_X0_findInGroups
  have z0 : (0 : Int32).toInt = 0 := rfl
  refine q_ok_atS hG (q_trI mo ro) rfl (fun mo ro => ?_)
  refine q_ok_b (s_X0_four_13 hn hG.1 mo ro (q_wd (show (12 : Int) ≤ (12 : Int64).toInt ∧ (12 : Int64).toInt ≤ (12 : Int) by decide) (by decide) (by decide))) (fun r1 S2 h3 => ?_)
  obtain ⟨eS2, h3⟩ := h3
  replace eS2 := eS2.symm
  subst eS2
  have f4 := h3
  exact s_X0_findInGroups_13_11 hn hG n _ _ _ _ (q_trI mo ro) (q_wd hp0 (by decide) (by decide)) (q_wd f4 (by decide) (by decide)) (q_wd (show (0 : Int) ≤ (0 : Int64).toInt ∧ (0 : Int64).toInt ≤ (0 : Int) by decide) (by decide) (by decide))  (q_upV (show q_eqv ((0 : Int64)).toInt (0) by unfold q_eqv; decide) (by omega))
set_option maxHeartbeats 4000000 in
set_option maxRecDepth 100000 in
theorem s_X4_two_1 {ρ : Nat → Nat} {L : List Nat} {n : Nat} (hn : 18446744073709551616 ≤ n) {S : q_S} (hI : q_Inv ρ L S) {o : Nat} (mo : o ∈ L) (ro : ρ o = 1) {p0 : Int64} (hp0 : (-9223372036854775808 ≤ p0.toInt ∧ p0.toInt ≤ 281474976710656)) {p1 : Int64} (hp1 : (0 ≤ p1.toInt ∧ p1.toInt ≤ 65535)) : q_ok (m_X4_two n S o p0 p1) (fun r T => T = S ∧ (-1 ≤ r.toInt ∧ r.toInt ≤ 65535)) := by
  have hG : q_G ρ L [] S S := q_G_refl hI
  unfold m_X4_two
  have z0 : (0 : Int32).toInt = 0 := rfl
  have f1 := q_rVJ (X := p0) q_evr
  refine q_ok_ite (fun g2 => ?_) (fun g2 => ?_)
  · have f3 := q_ltV q_evr (show q_eqv ((0 : Int64)).toInt (0) by unfold q_eqv; decide) (q_cp_lt g2)
    unfold m_X4_two_26
    exact q_ok_some ⟨rfl, (q_wd (show (-1 : Int) ≤ (-1 : Int32).toInt ∧ (-1 : Int32).toInt ≤ (-1 : Int) by decide) (by decide) (by decide))⟩
  · have f4 := q_leV (show q_eqv ((0 : Int64)).toInt (0) by unfold q_eqv; decide) q_evr (q_cn_lt g2)
    obtain ⟨v5, ev5⟩ := q_ev ((p0 + (1 : Int64)).toInt)
    have f6 : v5 = p0.toInt + (1) := q_addVJ ev5 q_evr (show q_eqv ((1 : Int64)).toInt (1) by unfold q_eqv; decide) (by omega) (by omega)
    refine q_ok_ite (fun g7 => ?_) (fun g7 => ?_)
    · have f8 := q_leV q_evr ev5 (q_cp_ge g7)
      unfold m_X4_two_26
      exact q_ok_some ⟨rfl, (q_wd (show (-1 : Int) ≤ (-1 : Int32).toInt ∧ (-1 : Int32).toInt ≤ (-1 : Int) by decide) (by decide) (by decide))⟩
    · have f9 := q_ltV ev5 q_evr (q_cn_ge g7)
      refine q_ok_atS hG (q_trI mo ro) rfl (fun mo ro => ?_)
      have f10 : q_sm _ := g_1_I1 hG mo ro
      obtain ⟨v11, ev11⟩ := q_ev (((q_I (S) o 1).toInt64).toInt)
      obtain ⟨v12, ev12⟩ := q_ev ((q_I (S) o 1).toInt)
      have f13 := q_bV ev12 f10
      have f14 : v11 = v12 := q_i2lV ev11 ev12
      refine q_ok_ite (fun g15 => ?_) (fun g15 => ?_)
      · have f16 := q_ltV ev5 ev11 (q_cp_lt g15)
        have t17 := g_1_R0 hG mo ro
        refine q_ok_at hG t17 rfl (fun a18 ma18 ra18 ea18 => ?_)
        obtain ⟨v19, ev19⟩ := q_ev ((p0.toInt32).toInt)
        have f20 : v19 = p0.toInt := q_l2iV ev19 q_evr (by omega) (by omega)
        refine q_ok_if (q_inV (g_2_N hG ma18 ra18) ev19 (by omega) (by omega)) ?_
        have f21 : q_sm _ := g_2_E hG ma18 ra18 (k := (p0.toInt32).toNatClampNeg)
        have t22 := g_1_R0 hG mo ro
        obtain ⟨v23, ev23⟩ := q_ev (((p0.toInt32) + (1 : Int32)).toInt)
        have f24 : v23 = v19 + (1) := q_addVI ev23 ev19 (show q_eqv ((1 : Int32)).toInt (1) by unfold q_eqv; decide) (by omega) (by omega)
        refine q_ok_if (q_inV (g_2_N hG ma18 ra18) ev23 (by omega) (by omega)) ?_
        have f25 : q_sm _ := g_2_E hG ma18 ra18 (k := ((p0.toInt32) + (1 : Int32)).toNatClampNeg)
        obtain ⟨v26, ev26⟩ := q_ev ((((q_I (S) a18 (p0.toInt32).toNatClampNeg) <<< ((8 : Int32) &&& 31)) ||| (q_I (S) a18 ((p0.toInt32) + (1 : Int32)).toNatClampNeg)).toInt)
        obtain ⟨v27, ev27⟩ := q_ev (((q_I (S) a18 (p0.toInt32).toNatClampNeg) <<< ((8 : Int32) &&& 31)).toInt)
        obtain ⟨v28, ev28⟩ := q_ev ((q_I (S) a18 (p0.toInt32).toNatClampNeg).toInt)
        have f29 := q_bV ev28 f21
        have f30 : v27 = v28 * 256 := q_shlVI 8 256 (by decide) (by decide) ev27 ev28 (by omega) (by omega)
        obtain ⟨v31, ev31⟩ := q_ev ((q_I (S) a18 ((p0.toInt32) + (1 : Int32)).toNatClampNeg).toInt)
        have f32 := q_bV ev31 f25
        have f33 := q_orVI 16 65536 (by decide) (by decide) ev26 ev27 ev31 (by omega) (by omega) (by omega) (by omega)
        exact q_ok_some ⟨rfl, (q_oV ev26 (by omega) (by omega))⟩
      · have f34 := q_leV ev11 ev5 (q_cn_lt g15)
        unfold m_X4_two_26
        exact q_ok_some ⟨rfl, (q_wd (show (-1 : Int) ≤ (-1 : Int32).toInt ∧ (-1 : Int32).toInt ≤ (-1 : Int) by decide) (by decide) (by decide))⟩
set_option maxHeartbeats 4000000 in
set_option maxRecDepth 100000 in
theorem s_X7_two_8 {ρ : Nat → Nat} {L : List Nat} {n : Nat} (hn : 18446744073709551616 ≤ n) {S : q_S} (hI : q_Inv ρ L S) {o : Nat} (mo : o ∈ L) (ro : ρ o = 8) {p0 : Int64} (hp0 : (-9223372036854775808 ≤ p0.toInt ∧ p0.toInt ≤ 17179869184)) : q_ok (m_X7_two n S o p0) (fun r T => T = S ∧ (-1 ≤ r.toInt ∧ r.toInt ≤ 65535)) := by
  have hG : q_G ρ L [] S S := q_G_refl hI
  unfold m_X7_two
  have z0 : (0 : Int32).toInt = 0 := rfl
  have f1 := q_rVJ (X := p0) q_evr
  refine q_ok_ite (fun g2 => ?_) (fun g2 => ?_)
  · have f3 := q_leV (show q_eqv ((0 : Int64)).toInt (0) by unfold q_eqv; decide) q_evr (q_cp_ge g2)
    refine q_ok_atS hG (q_trI mo ro) rfl (fun mo ro => ?_)
    have t4 := g_8_R0 hG mo ro
    have f5 : q_sm _ := g_8_I3 hG mo ro
    refine q_ok_b (s_X7_end_8 hn hG.1 mo ro) (fun r6 S7 h8 => ?_)
    obtain ⟨eS7, h8⟩ := h8
    replace eS7 := eS7.symm
    subst eS7
    have f9 := h8
    refine q_ok_at hG t4 rfl (fun a10 ma10 ra10 ea10 => ?_)
    refine q_ok_b (s_X4_two_1 hn hG.1 ma10 ra10 (q_wd (q_addBJ (-9223372036854775808) (17179870784) (q_i2lB f5) hp0 (by decide) (by decide) (by decide) (by decide)) (by decide) (by decide)) (q_wd f9 (by decide) (by decide))) (fun r11 S12 h13 => ?_)
    obtain ⟨eS12, h13⟩ := h13
    replace eS12 := eS12.symm
    subst eS12
    have f14 := h13
    unfold m_X7_two_28
    exact q_ok_some ⟨rfl, (q_wd f14 (by decide) (by decide))⟩
  · have f15 := q_ltV q_evr (show q_eqv ((0 : Int64)).toInt (0) by unfold q_eqv; decide) (q_cn_ge g2)
    unfold m_X7_two_28
    exact q_ok_some ⟨rfl, (q_wd (show (-1 : Int) ≤ (-1 : Int32).toInt ∧ (-1 : Int32).toInt ≤ (-1 : Int) by decide) (by decide) (by decide))⟩
set_option maxHeartbeats 4000000 in
set_option maxRecDepth 100000 in
theorem s_X0_two_13 {ρ : Nat → Nat} {L : List Nat} {n : Nat} (hn : 18446744073709551616 ≤ n) {S : q_S} (hI : q_Inv ρ L S) {o : Nat} (mo : o ∈ L) (ro : ρ o = 13) {p0 : Int64} (hp0 : (-2147483648 ≤ p0.toInt ∧ p0.toInt ≤ 2147483647)) : q_ok (m_X0_two n S o p0) (fun r T => T = S ∧ (-1 ≤ r.toInt ∧ r.toInt ≤ 65535)) := by
  have hG : q_G ρ L [] S S := q_G_refl hI
  unfold m_X0_two
  have z0 : (0 : Int32).toInt = 0 := rfl
  refine q_ok_atS hG (q_trI mo ro) rfl (fun mo ro => ?_)
  have t1 := g_13_R1 hG mo ro
  have f2 : q_sm _ := g_13_J2 hG mo ro
  refine q_ok_at hG t1 rfl (fun a3 ma3 ra3 ea3 => ?_)
  refine q_ok_b (s_X7_two_8 hn hG.1 ma3 ra3 (q_wd (q_addBJ (-2147483649) (6442450942) f2 hp0 (by decide) (by decide) (by decide) (by decide)) (by decide) (by decide))) (fun r4 S5 h6 => ?_)
  obtain ⟨eS5, h6⟩ := h6
  replace eS5 := eS5.symm
  subst eS5
  have f7 := h6
  exact q_ok_some ⟨rfl, (q_wd f7 (by decide) (by decide))⟩
set_option maxHeartbeats 4000000 in
set_option maxRecDepth 100000 in
theorem s_X0_findInRow_13 {ρ : Nat → Nat} {L : List Nat} {n : Nat} (hn : 18446744073709551616 ≤ n) {S : q_S} (hI : q_Inv ρ L S) {o : Nat} (mo : o ∈ L) (ro : ρ o = 13) {p0 : Int32} (hp0 : (0 ≤ p0.toInt ∧ p0.toInt ≤ 2147483647)) : q_ok (m_X0_findInRow n S o p0) (fun r T => T = S ∧ (-1 ≤ r.toInt ∧ r.toInt ≤ 65535)) := by
  have hG : q_G ρ L [] S S := q_G_refl hI
  unfold m_X0_findInRow
  have z0 : (0 : Int32).toInt = 0 := rfl
  refine q_ok_atS hG (q_trI mo ro) rfl (fun mo ro => ?_)
  refine q_ok_b (s_X0_two_13 hn hG.1 mo ro (q_wd (show (6 : Int) ≤ (6 : Int64).toInt ∧ (6 : Int64).toInt ≤ (6 : Int) by decide) (by decide) (by decide))) (fun r1 S2 h3 => ?_)
  obtain ⟨eS2, h3⟩ := h3
  replace eS2 := eS2.symm
  subst eS2
  have f4 := h3
  refine q_ok_atS hG (q_trI mo ro) rfl (fun mo ro => ?_)
  refine q_ok_b (s_X0_two_13 hn hG.1 mo ro (q_wd (show (8 : Int) ≤ (8 : Int64).toInt ∧ (8 : Int64).toInt ≤ (8 : Int) by decide) (by decide) (by decide))) (fun r5 S6 h7 => ?_)
  obtain ⟨eS6, h7⟩ := h7
  replace eS6 := eS6.symm
  subst eS6
  have f8 := h7
  refine q_ok_ite (fun g9 => ?_) (fun g9 => ?_)
  · have f10 := q_eqV q_evr (show q_eqv ((-1 : Int32)).toInt (-1) by unfold q_eqv; decide) (q_p_eq g9)
    unfold m_X0_findInRow_37
    unfold m_X0_findInRow_38
    refine q_ok_ite (fun g11 => ?_) (fun g11 => ?_)
    · have f12 := q_eqV (show q_eqv ((0 : Int32)).toInt (0) by unfold q_eqv; decide) (show q_eqv ((0 : Int32)).toInt (0) by unfold q_eqv; decide) (q_p_eq g11)
      unfold m_X0_findInRow_65
      exact q_ok_some ⟨rfl, (q_wd (show (0 : Int) ≤ (0 : Int32).toInt ∧ (0 : Int32).toInt ≤ (0 : Int) by decide) (by decide) (by decide))⟩
    · have f13 := q_neV (show q_eqv ((0 : Int32)).toInt (0) by unfold q_eqv; decide) (show q_eqv ((0 : Int32)).toInt (0) by unfold q_eqv; decide) (q_n_eq g11)
      exfalso; omega
  · have f14 := q_neV q_evr (show q_eqv ((-1 : Int32)).toInt (-1) by unfold q_eqv; decide) (q_n_eq g9)
    have f15 := q_rVI (x := p0) q_evr
    refine q_ok_ite (fun g16 => ?_) (fun g16 => ?_)
    · have f17 := q_ltV q_evr q_evr (q_p_lt g16)
      unfold m_X0_findInRow_37
      unfold m_X0_findInRow_38
      refine q_ok_ite (fun g18 => ?_) (fun g18 => ?_)
      · have f19 := q_eqV (show q_eqv ((0 : Int32)).toInt (0) by unfold q_eqv; decide) (show q_eqv ((0 : Int32)).toInt (0) by unfold q_eqv; decide) (q_p_eq g18)
        unfold m_X0_findInRow_65
        exact q_ok_some ⟨rfl, (q_wd (show (0 : Int) ≤ (0 : Int32).toInt ∧ (0 : Int32).toInt ≤ (0 : Int) by decide) (by decide) (by decide))⟩
      · have f20 := q_neV (show q_eqv ((0 : Int32)).toInt (0) by unfold q_eqv; decide) (show q_eqv ((0 : Int32)).toInt (0) by unfold q_eqv; decide) (q_n_eq g18)
        exfalso; omega
    · have f21 := q_leV q_evr q_evr (q_n_lt g16)
      obtain ⟨v22, ev22⟩ := q_ev ((p0 - r1).toInt)
      have f23 : v22 = p0.toInt - r1.toInt := q_subVI ev22 q_evr q_evr (by omega) (by omega)
      refine q_ok_ite (fun g24 => ?_) (fun g24 => ?_)
      · have f25 := q_leV q_evr ev22 (q_p_ge g24)
        unfold m_X0_findInRow_37
        unfold m_X0_findInRow_38
        refine q_ok_ite (fun g26 => ?_) (fun g26 => ?_)
        · have f27 := q_eqV (show q_eqv ((0 : Int32)).toInt (0) by unfold q_eqv; decide) (show q_eqv ((0 : Int32)).toInt (0) by unfold q_eqv; decide) (q_p_eq g26)
          unfold m_X0_findInRow_65
          exact q_ok_some ⟨rfl, (q_wd (show (0 : Int) ≤ (0 : Int32).toInt ∧ (0 : Int32).toInt ≤ (0 : Int) by decide) (by decide) (by decide))⟩
        · have f28 := q_neV (show q_eqv ((0 : Int32)).toInt (0) by unfold q_eqv; decide) (show q_eqv ((0 : Int32)).toInt (0) by unfold q_eqv; decide) (q_n_eq g26)
          exfalso; omega
      · have f29 := q_ltV ev22 q_evr (q_n_ge g24)
        unfold m_X0_findInRow_38
        refine q_ok_ite (fun g30 => ?_) (fun g30 => ?_)
        · have f31 := q_eqV (show q_eqv ((1 : Int32)).toInt (1) by unfold q_eqv; decide) (show q_eqv ((0 : Int32)).toInt (0) by unfold q_eqv; decide) (q_p_eq g30)
          exfalso; omega
        · have f32 := q_neV (show q_eqv ((1 : Int32)).toInt (1) by unfold q_eqv; decide) (show q_eqv ((0 : Int32)).toInt (0) by unfold q_eqv; decide) (q_n_eq g30)
          refine q_ok_atS hG (q_trI mo ro) rfl (fun mo ro => ?_)
          obtain ⟨v36, ev36⟩ := q_ev (((10 : Int64) + ((2 : Int64) * ((p0 - r1).toInt64))).toInt)
          obtain ⟨v37, ev37⟩ := q_ev (((2 : Int64) * ((p0 - r1).toInt64)).toInt)
          obtain ⟨v38, ev38⟩ := q_ev (((p0 - r1).toInt64).toInt)
          have f39 : v38 = v22 := q_i2lV ev38 ev22
          have f40 : v37 = (2) * v38 := q_mulVJ ev37 (show q_eqv ((2 : Int64)).toInt (2) by unfold q_eqv; decide) ev38 (by omega) (by omega)
          have f41 : v36 = (10) + v37 := q_addVJ ev36 (show q_eqv ((10 : Int64)).toInt (10) by unfold q_eqv; decide) ev37 (by omega) (by omega)
          refine q_ok_b (s_X0_two_13 hn hG.1 mo ro (q_oV ev36 (by omega) (by omega))) (fun r33 S34 h35 => ?_)
          obtain ⟨eS34, h35⟩ := h35
          replace eS34 := eS34.symm
          subst eS34
          have f42 := h35
          unfold m_X0_findInRow_65
          exact q_ok_some ⟨rfl, (q_wd f42 (by decide) (by decide))⟩
set_option maxHeartbeats 4000000 in
set_option maxRecDepth 100000 in
theorem s_X0_findInSegment_13_71 {ρ : Nat → Nat} {L : List Nat} {n : Nat} {S : q_S} (hn : 18446744073709551616 ≤ n) (hG : q_G ρ L [] S S)   : q_ok (m_X0_findInSegment_71 n S) (fun r T => T = S ∧ (0 ≤ r.toInt ∧ r.toInt ≤ 65535)) := by
  unfold m_X0_findInSegment_71
  have z0 : (0 : Int32).toInt = 0 := rfl
  exact q_ok_some ⟨rfl, (q_wd (show (0 : Int) ≤ (0 : Int32).toInt ∧ (0 : Int32).toInt ≤ (0 : Int) by decide) (by decide) (by decide))⟩
set_option maxHeartbeats 4000000 in
set_option maxRecDepth 100000 in
theorem s_X0_findInSegment_13_116 {ρ : Nat → Nat} {L : List Nat} {n : Nat} {S : q_S} (hn : 18446744073709551616 ≤ n) (hG : q_G ρ L [] S S)   : q_ok (m_X0_findInSegment_116 n S) (fun r T => T = S ∧ (0 ≤ r.toInt ∧ r.toInt ≤ 65535)) := by
  unfold m_X0_findInSegment_116
  have z0 : (0 : Int32).toInt = 0 := rfl
  unfold m_X0_findInSegment_128
  exact q_ok_some ⟨rfl, (q_wd (show (0 : Int) ≤ (0 : Int32).toInt ∧ (0 : Int32).toInt ≤ (0 : Int) by decide) (by decide) (by decide))⟩
set_option maxHeartbeats 4000000 in
set_option maxRecDepth 100000 in
theorem s_X0_findInSegment_13 {ρ : Nat → Nat} {L : List Nat} {n : Nat} (hn : 18446744073709551616 ≤ n) {S : q_S} (hI : q_Inv ρ L S) {o : Nat} (mo : o ∈ L) (ro : ρ o = 13) {p0 : Int32} (hp0 : (0 ≤ p0.toInt ∧ p0.toInt ≤ 65535)) {p1 : Int32} (hp1 : (-1 ≤ p1.toInt ∧ p1.toInt ≤ 65535)) {p2 : Int32} : q_ok (m_X0_findInSegment n S o p0 p1 p2) (fun r T => T = S ∧ (0 ≤ r.toInt ∧ r.toInt ≤ 65535)) := by
  have hG : q_G ρ L [] S S := q_G_refl hI
  unfold m_X0_findInSegment
  have z0 : (0 : Int32).toInt = 0 := rfl
  refine q_ok_atS hG (q_trI mo ro) rfl (fun mo ro => ?_)
  obtain ⟨v4, ev4⟩ := q_ev (((((16 : Int32) + p1) + p2).toInt64).toInt)
  obtain ⟨v5, ev5⟩ := q_ev ((((16 : Int32) + p1) + p2).toInt)
  obtain ⟨v6, ev6⟩ := q_ev (((16 : Int32) + p1).toInt)
  have f7 : v6 = (16) + p1.toInt := q_addVI ev6 (show q_eqv ((16 : Int32)).toInt (16) by unfold q_eqv; decide) q_evr (by omega) (by omega)
  have f8 := q_rVI (x := p2) q_evr
  have f9 := q_rVI (x := ((16 : Int32) + p1) + p2) ev5
  have f10 : v4 = v5 := q_i2lV ev4 ev5
  refine q_ok_b (s_X0_two_13 hn hG.1 mo ro (q_oV ev4 (by omega) (by omega))) (fun r1 S2 h3 => ?_)
  obtain ⟨eS2, h3⟩ := h3
  replace eS2 := eS2.symm
  subst eS2
  have f11 := h3
  refine q_ok_atS hG (q_trI mo ro) rfl (fun mo ro => ?_)
  obtain ⟨v15, ev15⟩ := q_ev (((((16 : Int32) + ((2 : Int32) * p1)) + p2).toInt64).toInt)
  obtain ⟨v16, ev16⟩ := q_ev ((((16 : Int32) + ((2 : Int32) * p1)) + p2).toInt)
  obtain ⟨v17, ev17⟩ := q_ev (((16 : Int32) + ((2 : Int32) * p1)).toInt)
  obtain ⟨v18, ev18⟩ := q_ev (((2 : Int32) * p1).toInt)
  have f19 : v18 = (2) * p1.toInt := q_mulVI ev18 (show q_eqv ((2 : Int32)).toInt (2) by unfold q_eqv; decide) q_evr (by omega) (by omega)
  have f20 : v17 = (16) + v18 := q_addVI ev17 (show q_eqv ((16 : Int32)).toInt (16) by unfold q_eqv; decide) ev18 (by omega) (by omega)
  have f21 := q_rVI (x := ((16 : Int32) + ((2 : Int32) * p1)) + p2) ev16
  have f22 : v15 = v16 := q_i2lV ev15 ev16
  refine q_ok_b (s_X0_two_13 hn hG.1 mo ro (q_oV ev15 (by omega) (by omega))) (fun r12 S13 h14 => ?_)
  obtain ⟨eS13, h14⟩ := h14
  replace eS13 := eS13.symm
  subst eS13
  have f23 := h14
  refine q_ok_atS hG (q_trI mo ro) rfl (fun mo ro => ?_)
  obtain ⟨v27, ev27⟩ := q_ev (((((16 : Int32) + ((3 : Int32) * p1)) + p2).toInt64).toInt)
  obtain ⟨v28, ev28⟩ := q_ev ((((16 : Int32) + ((3 : Int32) * p1)) + p2).toInt)
  obtain ⟨v29, ev29⟩ := q_ev (((16 : Int32) + ((3 : Int32) * p1)).toInt)
  obtain ⟨v30, ev30⟩ := q_ev (((3 : Int32) * p1).toInt)
  have f31 : v30 = (3) * p1.toInt := q_mulVI ev30 (show q_eqv ((3 : Int32)).toInt (3) by unfold q_eqv; decide) q_evr (by omega) (by omega)
  have f32 : v29 = (16) + v30 := q_addVI ev29 (show q_eqv ((16 : Int32)).toInt (16) by unfold q_eqv; decide) ev30 (by omega) (by omega)
  have f33 := q_rVI (x := ((16 : Int32) + ((3 : Int32) * p1)) + p2) ev28
  have f34 : v27 = v28 := q_i2lV ev27 ev28
  refine q_ok_b (s_X0_two_13 hn hG.1 mo ro (q_oV ev27 (by omega) (by omega))) (fun r24 S25 h26 => ?_)
  obtain ⟨eS25, h26⟩ := h26
  replace eS25 := eS25.symm
  subst eS25
  have f35 := h26
  refine q_ok_ite (fun g36 => ?_) (fun g36 => ?_)
  · have f37 := q_eqV q_evr (show q_eqv ((-1 : Int32)).toInt (-1) by unfold q_eqv; decide) (q_p_eq g36)
    exact s_X0_findInSegment_13_71 hn hG   
  · have f38 := q_neV q_evr (show q_eqv ((-1 : Int32)).toInt (-1) by unfold q_eqv; decide) (q_n_eq g36)
    refine q_ok_ite (fun g39 => ?_) (fun g39 => ?_)
    · have f40 := q_ltV q_evr q_evr (q_p_gt g39)
      exact s_X0_findInSegment_13_71 hn hG   
    · have f41 := q_leV q_evr q_evr (q_n_gt g39)
      refine q_ok_ite (fun g42 => ?_) (fun g42 => ?_)
      · have f43 := q_eqV q_evr (show q_eqv ((-1 : Int32)).toInt (-1) by unfold q_eqv; decide) (q_p_eq g42)
        exact s_X0_findInSegment_13_71 hn hG   
      · have f44 := q_neV q_evr (show q_eqv ((-1 : Int32)).toInt (-1) by unfold q_eqv; decide) (q_n_eq g42)
        refine q_ok_ite (fun g45 => ?_) (fun g45 => ?_)
        · have f46 := q_eqV q_evr (show q_eqv ((-1 : Int32)).toInt (-1) by unfold q_eqv; decide) (q_p_eq g45)
          exact s_X0_findInSegment_13_71 hn hG   
        · have f47 := q_neV q_evr (show q_eqv ((-1 : Int32)).toInt (-1) by unfold q_eqv; decide) (q_n_eq g45)
          refine q_ok_ite (fun g48 => ?_) (fun g48 => ?_)
          · have f49 := q_eqV q_evr (show q_eqv ((0 : Int32)).toInt (0) by unfold q_eqv; decide) (q_p_eq g48)
            obtain ⟨v50, ev50⟩ := q_ev (((p0 + r12) &&& (65535 : Int32)).toInt)
            have f51 := q_andRVI ev50 (show q_eqv ((65535 : Int32)).toInt (65535) by unfold q_eqv; decide) (by omega)
            exact q_ok_some ⟨rfl, (q_oV ev50 (by omega) (by omega))⟩
          · have f52 := q_neV q_evr (show q_eqv ((0 : Int32)).toInt (0) by unfold q_eqv; decide) (q_n_eq g48)
            refine q_ok_atS hG (q_trI mo ro) rfl (fun mo ro => ?_)
            obtain ⟨v56, ev56⟩ := q_ev (((((((16 : Int32) + ((3 : Int32) * p1)) + p2) + r24) + ((2 : Int32) * (p0 - r1))).toInt64).toInt)
            obtain ⟨v57, ev57⟩ := q_ev ((((((16 : Int32) + ((3 : Int32) * p1)) + p2) + r24) + ((2 : Int32) * (p0 - r1))).toInt)
            obtain ⟨v58, ev58⟩ := q_ev (((((16 : Int32) + ((3 : Int32) * p1)) + p2) + r24).toInt)
            have f59 := q_rVI (x := (((16 : Int32) + ((3 : Int32) * p1)) + p2) + r24) ev58
            obtain ⟨v60, ev60⟩ := q_ev (((2 : Int32) * (p0 - r1)).toInt)
            obtain ⟨v61, ev61⟩ := q_ev ((p0 - r1).toInt)
            have f62 : v61 = p0.toInt - r1.toInt := q_subVI ev61 q_evr q_evr (by omega) (by omega)
            have f63 : v60 = (2) * v61 := q_mulVI ev60 (show q_eqv ((2 : Int32)).toInt (2) by unfold q_eqv; decide) ev61 (by omega) (by omega)
            have f64 := q_rVI (x := ((((16 : Int32) + ((3 : Int32) * p1)) + p2) + r24) + ((2 : Int32) * (p0 - r1))) ev57
            have f65 : v56 = v57 := q_i2lV ev56 ev57
            refine q_ok_b (s_X0_two_13 hn hG.1 mo ro (q_oV ev56 (by omega) (by omega))) (fun r53 S54 h55 => ?_)
            obtain ⟨eS54, h55⟩ := h55
            replace eS54 := eS54.symm
            subst eS54
            have f66 := h55
            refine q_ok_ite (fun g67 => ?_) (fun g67 => ?_)
            · have f68 := q_eqV q_evr (show q_eqv ((-1 : Int32)).toInt (-1) by unfold q_eqv; decide) (q_p_eq g67)
              exact s_X0_findInSegment_13_116 hn hG   
            · have f69 := q_neV q_evr (show q_eqv ((-1 : Int32)).toInt (-1) by unfold q_eqv; decide) (q_n_eq g67)
              refine q_ok_ite (fun g70 => ?_) (fun g70 => ?_)
              · have f71 := q_eqV q_evr (show q_eqv ((0 : Int32)).toInt (0) by unfold q_eqv; decide) (q_p_eq g70)
                exact s_X0_findInSegment_13_116 hn hG   
              · have f72 := q_neV q_evr (show q_eqv ((0 : Int32)).toInt (0) by unfold q_eqv; decide) (q_n_eq g70)
                unfold m_X0_findInSegment_128
                obtain ⟨v73, ev73⟩ := q_ev (((r53 + r12) &&& (65535 : Int32)).toInt)
                have f74 := q_andRVI ev73 (show q_eqv ((65535 : Int32)).toInt (65535) by unfold q_eqv; decide) (by omega)
                exact q_ok_some ⟨rfl, (q_oV ev73 (by omega) (by omega))⟩
set_option maxHeartbeats 4000000 in
set_option maxRecDepth 100000 in
theorem s_X0_findInSegments_13_10 {ρ : Nat → Nat} {L : List Nat} {n : Nat} {S : q_S} (hn : 18446744073709551616 ≤ n) (hG : q_G ρ L [] S S)  : ∀ (k : Nat) (l0 : Option Nat) (l1 : Int32) (l2 : Int32) (l3 : Int32), q_tr ρ L l0 13 → (0 ≤ l1.toInt ∧ l1.toInt ≤ 2147483647) → (-1 ≤ l2.toInt ∧ l2.toInt ≤ 65535) → (0 ≤ l3.toInt ∧ l3.toInt ≤ 2147483647) → 2147483648 - l3.toInt ≤ (k : Int) → q_ok (m_X0_findInSegments_10 n k S l0 l1 l2 l3) (fun r T => T = S ∧ (0 ≤ r.toInt ∧ r.toInt ≤ 65535)) := by
  intro k
  induction k with
  | zero =>
    intro l0 l1 l2 l3 hl0 hl1 hl2 hl3 hm
    have f0 := q_rngI l3
    exfalso; omega
  | succ k ih =>
    intro l0 l1 l2 l3 hl0 hl1 hl2 hl3 hm
    rw [m_X0_findInSegments_10]
    have z0 : (0 : Int32).toInt = 0 := rfl
    refine q_ok_if (q_ne0VI (show q_eqv ((2 : Int32)).toInt (2) by unfold q_eqv; decide) (by omega)) ?_
    have f1 := q_rVI (x := l3) q_evr
    obtain ⟨v2, ev2⟩ := q_ev ((l2 / (2 : Int32)).toInt)
    have f3 := q_rVI (x := l2 / (2 : Int32)) ev2
    refine q_ok_ite (fun g4 => ?_) (fun g4 => ?_)
    · have f5 := q_leV ev2 q_evr (q_p_ge g4)
      exact q_ok_some ⟨rfl, (q_wd (show (0 : Int) ≤ (0 : Int32).toInt ∧ (0 : Int32).toInt ≤ (0 : Int) by decide) (by decide) (by decide))⟩
    · have f6 := q_ltV q_evr ev2 (q_n_ge g4)
      refine q_ok_at hG hl0 rfl (fun a7 ma7 ra7 ea7 => ?_)
      obtain ⟨v11, ev11⟩ := q_ev ((((14 : Int32) + ((2 : Int32) * l3)).toInt64).toInt)
      obtain ⟨v12, ev12⟩ := q_ev (((14 : Int32) + ((2 : Int32) * l3)).toInt)
      obtain ⟨v13, ev13⟩ := q_ev (((2 : Int32) * l3).toInt)
      have f14 := q_rVI (x := (2 : Int32) * l3) ev13
      have f15 := q_rVI (x := (14 : Int32) + ((2 : Int32) * l3)) ev12
      have f16 : v11 = v12 := q_i2lV ev11 ev12
      refine q_ok_b (s_X0_two_13 hn hG.1 ma7 ra7 (q_oV ev11 (by omega) (by omega))) (fun r8 S9 h10 => ?_)
      obtain ⟨eS9, h10⟩ := h10
      replace eS9 := eS9.symm
      subst eS9
      have f17 := h10
      refine q_ok_ite (fun g18 => ?_) (fun g18 => ?_)
      · have f19 := q_eqV q_evr (show q_eqv ((-1 : Int32)).toInt (-1) by unfold q_eqv; decide) (q_p_eq g18)
        exact q_ok_some ⟨rfl, (q_wd (show (0 : Int) ≤ (0 : Int32).toInt ∧ (0 : Int32).toInt ≤ (0 : Int) by decide) (by decide) (by decide))⟩
      · have f20 := q_neV q_evr (show q_eqv ((-1 : Int32)).toInt (-1) by unfold q_eqv; decide) (q_n_eq g18)
        have f21 := q_rVI (x := l1) q_evr
        refine q_ok_ite (fun g22 => ?_) (fun g22 => ?_)
        · have f23 := q_ltV q_evr q_evr (q_p_lt g22)
          obtain ⟨v24, ev24⟩ := q_ev ((l3 + (1)).toInt)
          have f25 : v24 = l3.toInt + (1) := q_addVI ev24 q_evr (show q_eqv ((1 : Int32)).toInt (1) by unfold q_eqv; decide) (by omega) (by omega)
          have f26 := q_rVI (x := l3 + (1)) ev24
          exact ih _ _ _ _ hl0 (q_wd hl1 (by decide) (by decide)) (q_wd hl2 (by decide) (by decide)) (q_oV ev24 (by omega) (by omega))  (q_upV ev24 (by omega))
        · have f27 := q_leV q_evr q_evr (q_n_lt g22)
          refine q_ok_atA hG ea7 ma7 ra7 rfl ?_
          refine q_ok_b (s_X0_findInSegment_13 hn hG.1 ma7 ra7 (q_oV q_evr (by omega) (by omega)) (q_wd hl2 (by decide) (by decide))) (fun r28 S29 h30 => ?_)
          obtain ⟨eS29, h30⟩ := h30
          replace eS29 := eS29.symm
          subst eS29
          have f31 := h30
          exact q_ok_some ⟨rfl, (q_wd f31 (by decide) (by decide))⟩
set_option maxHeartbeats 4000000 in
set_option maxRecDepth 100000 in
theorem s_X0_findInSegments_13 {ρ : Nat → Nat} {L : List Nat} {n : Nat} (hn : 18446744073709551616 ≤ n) {S : q_S} (hI : q_Inv ρ L S) {o : Nat} (mo : o ∈ L) (ro : ρ o = 13) {p0 : Int32} (hp0 : (0 ≤ p0.toInt ∧ p0.toInt ≤ 2147483647)) : q_ok (m_X0_findInSegments n S o p0) (fun r T => T = S ∧ (0 ≤ r.toInt ∧ r.toInt ≤ 65535)) := by
  have hG : q_G ρ L [] S S := q_G_refl hI
  unfold m_X0_findInSegments
  have z0 : (0 : Int32).toInt = 0 := rfl
  refine q_ok_atS hG (q_trI mo ro) rfl (fun mo ro => ?_)
  refine q_ok_b (s_X0_two_13 hn hG.1 mo ro (q_wd (show (6 : Int) ≤ (6 : Int64).toInt ∧ (6 : Int64).toInt ≤ (6 : Int) by decide) (by decide) (by decide))) (fun r1 S2 h3 => ?_)
  obtain ⟨eS2, h3⟩ := h3
  replace eS2 := eS2.symm
  subst eS2
  have f4 := h3
  exact s_X0_findInSegments_13_10 hn hG n _ _ _ _ (q_trI mo ro) (q_wd hp0 (by decide) (by decide)) (q_wd f4 (by decide) (by decide)) (q_wd (show (0 : Int) ≤ (0 : Int32).toInt ∧ (0 : Int32).toInt ≤ (0 : Int) by decide) (by decide) (by decide))  (q_upV (show q_eqv ((0 : Int32)).toInt (0) by unfold q_eqv; decide) (by omega))
set_option maxHeartbeats 4000000 in
set_option maxRecDepth 100000 in
theorem s_X4_one_1 {ρ : Nat → Nat} {L : List Nat} {n : Nat} (hn : 18446744073709551616 ≤ n) {S : q_S} (hI : q_Inv ρ L S) {o : Nat} (mo : o ∈ L) (ro : ρ o = 1) {p0 : Int64} (hp0 : (-9223372036854775808 ≤ p0.toInt ∧ p0.toInt ≤ 281474976710656)) {p1 : Int64} (hp1 : (0 ≤ p1.toInt ∧ p1.toInt ≤ 65535)) : q_ok (m_X4_one n S o p0 p1) (fun r T => T = S ∧ (-1 ≤ r.toInt ∧ r.toInt ≤ 255)) := by
  have hG : q_G ρ L [] S S := q_G_refl hI
  unfold m_X4_one
  have z0 : (0 : Int32).toInt = 0 := rfl
  have f1 := q_rVJ (X := p0) q_evr
  refine q_ok_ite (fun g2 => ?_) (fun g2 => ?_)
  · have f3 := q_ltV q_evr (show q_eqv ((0 : Int64)).toInt (0) by unfold q_eqv; decide) (q_cp_lt g2)
    unfold m_X4_one_32
    unfold m_X4_one_33
    exact q_ok_some ⟨rfl, (q_wd (show (-1 : Int) ≤ (-1 : Int32).toInt ∧ (-1 : Int32).toInt ≤ (-1 : Int) by decide) (by decide) (by decide))⟩
  · have f4 := q_leV (show q_eqv ((0 : Int64)).toInt (0) by unfold q_eqv; decide) q_evr (q_cn_lt g2)
    refine q_ok_ite (fun g5 => ?_) (fun g5 => ?_)
    · have f6 := q_leV q_evr q_evr (q_cp_ge g5)
      unfold m_X4_one_32
      unfold m_X4_one_33
      exact q_ok_some ⟨rfl, (q_wd (show (-1 : Int) ≤ (-1 : Int32).toInt ∧ (-1 : Int32).toInt ≤ (-1 : Int) by decide) (by decide) (by decide))⟩
    · have f7 := q_ltV q_evr q_evr (q_cn_ge g5)
      refine q_ok_atS hG (q_trI mo ro) rfl (fun mo ro => ?_)
      have f8 : q_sm _ := g_1_I1 hG mo ro
      obtain ⟨v9, ev9⟩ := q_ev (((q_I (S) o 1).toInt64).toInt)
      obtain ⟨v10, ev10⟩ := q_ev ((q_I (S) o 1).toInt)
      have f11 := q_bV ev10 f8
      have f12 : v9 = v10 := q_i2lV ev9 ev10
      refine q_ok_ite (fun g13 => ?_) (fun g13 => ?_)
      · have f14 := q_leV ev9 q_evr (q_cp_ge g13)
        unfold m_X4_one_32
        unfold m_X4_one_33
        exact q_ok_some ⟨rfl, (q_wd (show (-1 : Int) ≤ (-1 : Int32).toInt ∧ (-1 : Int32).toInt ≤ (-1 : Int) by decide) (by decide) (by decide))⟩
      · have f15 := q_ltV q_evr ev9 (q_cn_ge g13)
        have t16 := g_1_R0 hG mo ro
        refine q_ok_at hG t16 rfl (fun a17 ma17 ra17 ea17 => ?_)
        obtain ⟨v18, ev18⟩ := q_ev ((p0.toInt32).toInt)
        have f19 : v18 = p0.toInt := q_l2iV ev18 q_evr (by omega) (by omega)
        refine q_ok_if (q_inV (g_2_N hG ma17 ra17) ev18 (by omega) (by omega)) ?_
        have f20 : q_sm _ := g_2_E hG ma17 ra17 (k := (p0.toInt32).toNatClampNeg)
        unfold m_X4_one_33
        exact q_ok_some ⟨rfl, (q_wd f20 (by decide) (by decide))⟩
set_option maxHeartbeats 4000000 in
set_option maxRecDepth 100000 in
theorem s_X7_one_8 {ρ : Nat → Nat} {L : List Nat} {n : Nat} (hn : 18446744073709551616 ≤ n) {S : q_S} (hI : q_Inv ρ L S) {o : Nat} (mo : o ∈ L) (ro : ρ o = 8) {p0 : Int64} (hp0 : (-2147483648 ≤ p0.toInt ∧ p0.toInt ≤ 17179869184)) : q_ok (m_X7_one n S o p0) (fun r T => T = S ∧ (-1 ≤ r.toInt ∧ r.toInt ≤ 255)) := by
  have hG : q_G ρ L [] S S := q_G_refl hI
  unfold m_X7_one
  have z0 : (0 : Int32).toInt = 0 := rfl
  refine q_ok_ite (fun g1 => ?_) (fun g1 => ?_)
  · have f2 := q_leV (show q_eqv ((0 : Int64)).toInt (0) by unfold q_eqv; decide) q_evr (q_cp_ge g1)
    refine q_ok_atS hG (q_trI mo ro) rfl (fun mo ro => ?_)
    have t3 := g_8_R0 hG mo ro
    have f4 : q_sm _ := g_8_I3 hG mo ro
    refine q_ok_b (s_X7_end_8 hn hG.1 mo ro) (fun r5 S6 h7 => ?_)
    obtain ⟨eS6, h7⟩ := h7
    replace eS6 := eS6.symm
    subst eS6
    have f8 := h7
    refine q_ok_at hG t3 rfl (fun a9 ma9 ra9 ea9 => ?_)
    refine q_ok_b (s_X4_one_1 hn hG.1 ma9 ra9 (q_wd (q_addBJ (-2147483648) (17179870784) (q_i2lB f4) hp0 (by decide) (by decide) (by decide) (by decide)) (by decide) (by decide)) (q_wd f8 (by decide) (by decide))) (fun r10 S11 h12 => ?_)
    obtain ⟨eS11, h12⟩ := h12
    replace eS11 := eS11.symm
    subst eS11
    have f13 := h12
    unfold m_X7_one_28
    exact q_ok_some ⟨rfl, (q_wd f13 (by decide) (by decide))⟩
  · have f14 := q_ltV q_evr (show q_eqv ((0 : Int64)).toInt (0) by unfold q_eqv; decide) (q_cn_ge g1)
    unfold m_X7_one_28
    exact q_ok_some ⟨rfl, (q_wd (show (-1 : Int) ≤ (-1 : Int32).toInt ∧ (-1 : Int32).toInt ≤ (-1 : Int) by decide) (by decide) (by decide))⟩
set_option maxHeartbeats 4000000 in
set_option maxRecDepth 100000 in
theorem s_X0_findBy_13 {ρ : Nat → Nat} {L : List Nat} {n : Nat} (hn : 18446744073709551616 ≤ n) {S : q_S} (hI : q_Inv ρ L S) {o : Nat} (mo : o ∈ L) (ro : ρ o = 13) {p0 : Int32} (hp0 : (0 ≤ p0.toInt ∧ p0.toInt ≤ 12)) {p1 : Int32} (hp1 : (0 ≤ p1.toInt ∧ p1.toInt ≤ 2147483647)) : q_ok (m_X0_findBy n S o p0 p1) (fun r T => T = S ∧ (-2147483648 ≤ r.toInt ∧ r.toInt ≤ 17179869184)) := by
  have hG : q_G ρ L [] S S := q_G_refl hI
  unfold m_X0_findBy
  have z0 : (0 : Int32).toInt = 0 := rfl
  refine q_ok_ite (fun g1 => ?_) (fun g1 => ?_)
  · have f2 := q_eqV q_evr (show q_eqv ((0 : Int32)).toInt (0) by unfold q_eqv; decide) (q_p_eq g1)
    have f3 := q_rVI (x := p1) q_evr
    refine q_ok_ite (fun g4 => ?_) (fun g4 => ?_)
    · have f5 := q_leV (show q_eqv ((256 : Int32)).toInt (256) by unfold q_eqv; decide) q_evr (q_p_ge g4)
      unfold m_X0_findBy_66
      exact q_ok_some ⟨rfl, (q_wd (show (0 : Int) ≤ (0 : Int64).toInt ∧ (0 : Int64).toInt ≤ (0 : Int) by decide) (by decide) (by decide))⟩
    · have f6 := q_ltV q_evr (show q_eqv ((256 : Int32)).toInt (256) by unfold q_eqv; decide) (q_n_ge g4)
      refine q_ok_atS hG (q_trI mo ro) rfl (fun mo ro => ?_)
      have t7 := g_13_R1 hG mo ro
      have f8 : q_sm _ := g_13_J2 hG mo ro
      refine q_ok_at hG t7 rfl (fun a9 ma9 ra9 ea9 => ?_)
      refine q_ok_b (s_X7_one_8 hn hG.1 ma9 ra9 (q_wd (q_addBJ (5) (6442450948) (q_addBJ (5) (4294967301) f8 (show (6 : Int) ≤ (6 : Int64).toInt ∧ (6 : Int64).toInt ≤ (6 : Int) by decide) (by decide) (by decide) (by decide) (by decide)) (q_i2lB hp1) (by decide) (by decide) (by decide) (by decide)) (by decide) (by decide))) (fun r10 S11 h12 => ?_)
      obtain ⟨eS11, h12⟩ := h12
      replace eS11 := eS11.symm
      subst eS11
      have f13 := h12
      unfold m_X0_findBy_66
      exact q_ok_some ⟨rfl, (q_wd (q_i2lB f13) (by decide) (by decide))⟩
  have f14 := q_neV q_evr (show q_eqv ((0 : Int32)).toInt (0) by unfold q_eqv; decide) (q_n_eq g1)
  refine q_ok_ite (fun g15 => ?_) (fun g15 => ?_)
  · have f16 := q_eqV q_evr (show q_eqv ((4 : Int32)).toInt (4) by unfold q_eqv; decide) (q_p_eq g15)
    refine q_ok_atS hG (q_trI mo ro) rfl (fun mo ro => ?_)
    refine q_ok_b (s_X0_findInSegments_13 hn hG.1 mo ro (q_wd hp1 (by decide) (by decide))) (fun r17 S18 h19 => ?_)
    obtain ⟨eS18, h19⟩ := h19
    replace eS18 := eS18.symm
    subst eS18
    have f20 := h19
    exact q_ok_some ⟨rfl, (q_wd (q_i2lB f20) (by decide) (by decide))⟩
  have f21 := q_neV q_evr (show q_eqv ((4 : Int32)).toInt (4) by unfold q_eqv; decide) (q_n_eq g15)
  refine q_ok_ite (fun g22 => ?_) (fun g22 => ?_)
  · have f23 := q_eqV q_evr (show q_eqv ((6 : Int32)).toInt (6) by unfold q_eqv; decide) (q_p_eq g22)
    refine q_ok_atS hG (q_trI mo ro) rfl (fun mo ro => ?_)
    refine q_ok_b (s_X0_findInRow_13 hn hG.1 mo ro (q_wd hp1 (by decide) (by decide))) (fun r24 S25 h26 => ?_)
    obtain ⟨eS25, h26⟩ := h26
    replace eS25 := eS25.symm
    subst eS25
    have f27 := h26
    exact q_ok_some ⟨rfl, (q_wd (q_i2lB f27) (by decide) (by decide))⟩
  have f28 := q_neV q_evr (show q_eqv ((6 : Int32)).toInt (6) by unfold q_eqv; decide) (q_n_eq g22)
  refine q_ok_atS hG (q_trI mo ro) rfl (fun mo ro => ?_)
  refine q_ok_b (s_X0_findInGroups_13 hn hG.1 mo ro (q_wd hp1 (by decide) (by decide))) (fun r29 S30 h31 => ?_)
  obtain ⟨eS30, h31⟩ := h31
  replace eS30 := eS30.symm
  subst eS30
  have f32 := h31
  exact q_ok_some ⟨rfl, (q_wd f32 (by decide) (by decide))⟩
set_option maxHeartbeats 4000000 in
set_option maxRecDepth 100000 in
theorem s_X8_has_6 {ρ : Nat → Nat} {L : List Nat} {n : Nat} (hn : 18446744073709551616 ≤ n) {S : q_S} (hI : q_Inv ρ L S) {o : Nat} (mo : o ∈ L) (ro : ρ o = 6) {p0 : Int32} : q_ok (m_X8_has n S o p0) (fun r T => T = S ∧ (0 ≤ r.toInt ∧ r.toInt ≤ 1) ∧ q_sm ((r.toInt = 1 → (0 : Int32).toInt ≤ p0.toInt ∧ p0.toInt < (q_I (S) o 3).toInt))) := by
  have hG : q_G ρ L [] S S := q_G_refl hI
  unfold m_X8_has
  have z0 : (0 : Int32).toInt = 0 := rfl
  have f1 := q_rVI (x := p0) q_evr
  refine q_ok_ite (fun g2 => ?_) (fun g2 => ?_)
  · have f3 := q_ltV q_evr (show q_eqv ((0 : Int32)).toInt (0) by unfold q_eqv; decide) (q_p_lt g2)
    unfold m_X8_has_16
    unfold m_X8_has_17
    refine q_ok_if (q_b01V (show q_eqv ((0 : Int32)).toInt (0) by unfold q_eqv; decide) (by omega) (by omega)) ?_
    obtain ⟨v4, ev4⟩ := q_ev ((q_I (S) o 3).toInt)
    have f5 := q_rVI (x := q_I (S) o 3) ev4
    exact q_ok_some ⟨rfl, (q_wd (show (0 : Int) ≤ (0 : Int32).toInt ∧ (0 : Int32).toInt ≤ (0 : Int) by decide) (by decide) (by decide)), fun h9 => absurd h9 (by decide)⟩
  · have f6 := q_leV (show q_eqv ((0 : Int32)).toInt (0) by unfold q_eqv; decide) q_evr (q_n_lt g2)
    refine q_ok_atS hG (q_trI mo ro) rfl (fun mo ro => ?_)
    have f7 : q_sm _ := g_6_I3 hG mo ro
    obtain ⟨v8, ev8⟩ := q_ev ((q_I (S) o 3).toInt)
    have f9 := q_bV ev8 f7
    refine q_ok_ite (fun g10 => ?_) (fun g10 => ?_)
    · have f11 := q_leV ev8 q_evr (q_p_ge g10)
      unfold m_X8_has_16
      unfold m_X8_has_17
      refine q_ok_if (q_b01V (show q_eqv ((0 : Int32)).toInt (0) by unfold q_eqv; decide) (by omega) (by omega)) ?_
      exact q_ok_some ⟨rfl, (q_wd (show (0 : Int) ≤ (0 : Int32).toInt ∧ (0 : Int32).toInt ≤ (0 : Int) by decide) (by decide) (by decide)), fun h9 => absurd h9 (by decide)⟩
    · have f12 := q_ltV q_evr ev8 (q_n_ge g10)
      unfold m_X8_has_17
      refine q_ok_if (q_b01V (show q_eqv ((1 : Int32)).toInt (1) by unfold q_eqv; decide) (by omega) (by omega)) ?_
      exact q_ok_some ⟨rfl, (q_wd (show (1 : Int) ≤ (1 : Int32).toInt ∧ (1 : Int32).toInt ≤ (1 : Int) by decide) (by decide) (by decide)), fun _ => ⟨(q_geW q_evr (show q_eqv ((0 : Int32)).toInt (0) by unfold q_eqv; decide) (by omega)), (q_ltW q_evr ev8 (by omega))⟩⟩
set_option maxHeartbeats 4000000 in
set_option maxRecDepth 100000 in
theorem s_X8_get_6 {ρ : Nat → Nat} {L : List Nat} {n : Nat} (hn : 18446744073709551616 ≤ n) {S : q_S} (hI : q_Inv ρ L S) {o : Nat} (mo : o ∈ L) (ro : ρ o = 6) {p0 : Int32} : q_ok (m_X8_get n S o p0) (fun r T => T = S ∧ r ∈ L ∧ ρ r = 8) := by
  have hG : q_G ρ L [] S S := q_G_refl hI
  unfold m_X8_get
  have z0 : (0 : Int32).toInt = 0 := rfl
  refine q_ok_atS hG (q_trI mo ro) rfl (fun mo ro => ?_)
  refine q_ok_b (s_X8_has_6 hn hG.1 mo ro) (fun r1 S2 h3 => ?_)
  obtain ⟨eS2, h3⟩ := h3
  replace eS2 := eS2.symm
  subst eS2
  have f4 := h3
  have f5 := q_rVI (x := p0) q_evr
  obtain ⟨v6, ev6⟩ := q_ev ((q_I (S) o 3).toInt)
  have f7 := q_bV ev6 (g_6_I3 hG mo ro)
  have f8 : r1.toInt = 1 → (0) ≤ p0.toInt := fun h9 => q_leV (show q_eqv ((0 : Int32)).toInt (0) by unfold q_eqv; decide) q_evr (f4.2 h9).1
  have f9 : r1.toInt = 1 → p0.toInt < v6 := fun h9 => q_ltV q_evr ev6 (f4.2 h9).2
  refine q_ok_ite (fun g10 => ?_) (fun g10 => ?_)
  · have f11 := q_eqV q_evr (show q_eqv ((0 : Int32)).toInt (0) by unfold q_eqv; decide) (q_p_eq g10)
    refine q_ok_atS hG (q_trI mo ro) rfl (fun mo ro => ?_)
    have t12 := g_6_R2 hG mo ro
    unfold m_X8_get_21
    refine q_ok_at hG t12 rfl (fun a13 ma13 ra13 ea13 => ?_)
    exact q_ok_some ⟨rfl, ma13, ra13⟩
  · have f14 := q_neV q_evr (show q_eqv ((0 : Int32)).toInt (0) by unfold q_eqv; decide) (q_n_eq g10)
    refine q_ok_atS hG (q_trI mo ro) rfl (fun mo ro => ?_)
    have t15 := g_6_R1 hG mo ro
    refine q_ok_at hG t15 rfl (fun a16 ma16 ra16 ea16 => ?_)
    refine q_ok_if (q_inV (g_7_N hG ma16 ra16) q_evr (by omega) (by omega)) ?_
    have t17 := g_7_RE hG ma16 ra16 (k := (p0).toNatClampNeg) (q_idxV q_evr (by omega) (by omega))
    unfold m_X8_get_21
    refine q_ok_at hG t17 rfl (fun a18 ma18 ra18 ea18 => ?_)
    exact q_ok_some ⟨rfl, ma18, ra18⟩
set_option maxHeartbeats 4000000 in
set_option maxRecDepth 100000 in
theorem s_X8_indexOf_6_2 {ρ : Nat → Nat} {L : List Nat} {n : Nat} {S : q_S} (hn : 18446744073709551616 ≤ n) (hG : q_G ρ L [] S S)  : ∀ (k : Nat) (l0 : Option Nat) (l1 : Int64) (l3 : Int32), q_tr ρ L l0 6 → (65535 ≤ l1.toInt ∧ l1.toInt ≤ 2147483647) → (0 ≤ l3.toInt ∧ l3.toInt ≤ 24) → 2147483648 - l3.toInt ≤ (k : Int) → q_ok (m_X8_indexOf_2 n k S l0 l1 l3) (fun r T => T = S ∧ (-1 ≤ r.toInt ∧ r.toInt ≤ 23)) := by
  intro k
  induction k with
  | zero =>
    intro l0 l1 l3 hl0 hl1 hl3 hm
    have f0 := q_rngI l3
    exfalso; omega
  | succ k ih =>
    intro l0 l1 l3 hl0 hl1 hl3 hm
    rw [m_X8_indexOf_2]
    have z0 : (0 : Int32).toInt = 0 := rfl
    refine q_ok_at hG hl0 rfl (fun a1 ma1 ra1 ea1 => ?_)
    have f2 : q_sm _ := g_6_I3 hG ma1 ra1
    obtain ⟨v3, ev3⟩ := q_ev ((q_I (S) a1 3).toInt)
    have f4 := q_bV ev3 f2
    refine q_ok_ite (fun g5 => ?_) (fun g5 => ?_)
    · have f6 := q_leV ev3 q_evr (q_p_ge g5)
      exact q_ok_some ⟨rfl, (q_wd (show (-1 : Int) ≤ (-1 : Int32).toInt ∧ (-1 : Int32).toInt ≤ (-1 : Int) by decide) (by decide) (by decide))⟩
    · have f7 := q_ltV q_evr ev3 (q_n_ge g5)
      have t8 := g_6_R1 hG ma1 ra1
      refine q_ok_at hG t8 rfl (fun a9 ma9 ra9 ea9 => ?_)
      refine q_ok_if (q_inV (g_7_N hG ma9 ra9) q_evr (by omega) (by omega)) ?_
      have t10 := g_7_RE hG ma9 ra9 (k := (l3).toNatClampNeg) (q_idxV q_evr (by omega) (by omega))
      refine q_ok_at hG t10 rfl (fun a11 ma11 ra11 ea11 => ?_)
      have f12 : q_sm _ := g_8_J1 hG ma11 ra11
      obtain ⟨v13, ev13⟩ := q_ev ((q_J (S) a11 1).toInt)
      have f14 := q_bV ev13 f12
      refine q_ok_ite (fun g15 => ?_) (fun g15 => ?_)
      · have f16 := q_eqV ev13 q_evr (q_cp_eq g15)
        exact q_ok_some ⟨rfl, (q_oV q_evr (by omega) (by omega))⟩
      · have f17 := q_neV ev13 q_evr (q_cn_eq g15)
        obtain ⟨v18, ev18⟩ := q_ev ((l3 + (1)).toInt)
        have f19 : v18 = l3.toInt + (1) := q_addVI ev18 q_evr (show q_eqv ((1 : Int32)).toInt (1) by unfold q_eqv; decide) (by omega) (by omega)
        exact ih _ _ _ hl0 (q_wd hl1 (by decide) (by decide)) (q_oV ev18 (by omega) (by omega))  (q_upV ev18 (by omega))
set_option maxHeartbeats 4000000 in
set_option maxRecDepth 100000 in
theorem s_X8_indexOf_6 {ρ : Nat → Nat} {L : List Nat} {n : Nat} (hn : 18446744073709551616 ≤ n) {S : q_S} (hI : q_Inv ρ L S) {o : Nat} (mo : o ∈ L) (ro : ρ o = 6) {p0 : Int64} (hp0 : (65535 ≤ p0.toInt ∧ p0.toInt ≤ 2147483647)) : q_ok (m_X8_indexOf n S o p0) (fun r T => T = S ∧ (-1 ≤ r.toInt ∧ r.toInt ≤ 23)) := by
  have hG : q_G ρ L [] S S := q_G_refl hI
  unfold m_X8_indexOf
  have z0 : (0 : Int32).toInt = 0 := rfl
  exact s_X8_indexOf_6_2 hn hG n _ _ _ (q_trI mo ro) (q_wd hp0 (by decide) (by decide)) (q_wd (show (0 : Int) ≤ (0 : Int32).toInt ∧ (0 : Int32).toInt ≤ (0 : Int) by decide) (by decide) (by decide))  (q_upV (show q_eqv ((0 : Int32)).toInt (0) by unfold q_eqv; decide) (by omega))
