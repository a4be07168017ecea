def M_X8_loadEntry_6 : List Nat := [513, 514, 515, 516]
set_option maxHeartbeats 4000000 in
set_option maxRecDepth 100000 in
theorem s_X8_loadEntry_6 {ρ : Nat → Nat} {L : List Nat} {n : Nat} (hn : 18446744073709551616 ≤ n) {S : q_S} (hI : q_Inv ρ L S) {o : Nat} (mo : o ∈ L) (ro : ρ o = 6) {p0 : Int32} (hp0 : (0 ≤ p0.toInt ∧ p0.toInt ≤ 23)) : q_ok (m_X8_loadEntry n S o p0) (fun r T => q_G ρ L M_X8_loadEntry_6 S T ∧ (0 ≤ r.toInt ∧ r.toInt ≤ 1)) := by
  have hG : q_G ρ L M_X8_loadEntry_6 S S := q_G_refl hI
  unfold m_X8_loadEntry
  have z0 : (0 : Int32).toInt = 0 := rfl
  refine q_ok_atS hG (q_trI mo ro) rfl (fun mo ro => ?_)
  have t1 := g_6_R0 hG mo ro
  refine q_ok_at hG t1 rfl (fun a2 ma2 ra2 ea2 => ?_)
  refine q_ok_b (s_X4_size_1 hn hG.1 ma2 ra2) (fun r3 S4 h5 => ?_)
  obtain ⟨eS4, h5⟩ := h5
  replace eS4 := eS4.symm
  subst eS4
  have f6 := h5
  refine q_ok_atS hG (q_trI mo ro) rfl (fun mo ro => ?_)
  have t7 := g_6_R0 hG mo ro
  refine q_ok_atA hG ea2 ma2 ra2 rfl ?_
  obtain ⟨v11, ev11⟩ := q_ev (((((12 : Int32) + ((16 : Int32) * p0)) + (8 : Int32)).toInt64).toInt)
  obtain ⟨v12, ev12⟩ := q_ev ((((12 : Int32) + ((16 : Int32) * p0)) + (8 : Int32)).toInt)
  obtain ⟨v13, ev13⟩ := q_ev (((12 : Int32) + ((16 : Int32) * p0)).toInt)
  obtain ⟨v14, ev14⟩ := q_ev (((16 : Int32) * p0).toInt)
  have f15 : v14 = (16) * p0.toInt := q_mulVI ev14 (show q_eqv ((16 : Int32)).toInt (16) by unfold q_eqv; decide) q_evr (by omega) (by omega)
  have f16 : v13 = (12) + v14 := q_addVI ev13 (show q_eqv ((12 : Int32)).toInt (12) by unfold q_eqv; decide) ev14 (by omega) (by omega)
  have f17 : v12 = v13 + (8) := q_addVI ev12 ev13 (show q_eqv ((8 : Int32)).toInt (8) by unfold q_eqv; decide) (by omega) (by omega)
  have f18 : v11 = v12 := q_i2lV ev11 ev12
  refine q_ok_b (s_X4_four_1 hn hG.1 ma2 ra2 (q_oV ev11 (by omega) (by omega)) (q_wd (q_i2lB f6) (by decide) (by decide))) (fun r8 S9 h10 => ?_)
  obtain ⟨eS9, h10⟩ := h10
  replace eS9 := eS9.symm
  subst eS9
  have f19 := h10
  refine q_ok_atS hG (q_trI mo ro) rfl (fun mo ro => ?_)
  have t20 := g_6_R0 hG mo ro
  refine q_ok_atA hG ea2 ma2 ra2 rfl ?_
  obtain ⟨v24, ev24⟩ := q_ev (((((12 : Int32) + ((16 : Int32) * p0)) + (12 : Int32)).toInt64).toInt)
  obtain ⟨v25, ev25⟩ := q_ev ((((12 : Int32) + ((16 : Int32) * p0)) + (12 : Int32)).toInt)
  have f26 : v25 = v13 + (12) := q_addVI ev25 ev13 (show q_eqv ((12 : Int32)).toInt (12) by unfold q_eqv; decide) (by omega) (by omega)
  have f27 : v24 = v25 := q_i2lV ev24 ev25
  refine q_ok_b (s_X4_four_1 hn hG.1 ma2 ra2 (q_oV ev24 (by omega) (by omega)) (q_wd (q_i2lB f6) (by decide) (by decide))) (fun r21 S22 h23 => ?_)
  obtain ⟨eS22, h23⟩ := h23
  replace eS22 := eS22.symm
  subst eS22
  have f28 := h23
  refine q_ok_ite (fun g29 => ?_) (fun g29 => ?_)
  · have f30 := q_eqV q_evr (show q_eqv ((-1 : Int64)).toInt (-1) by unfold q_eqv; decide) (q_cp_eq g29)
    unfold m_X8_loadEntry_75
    refine q_ok_if (q_b01V (show q_eqv ((0 : Int32)).toInt (0) by unfold q_eqv; decide) (by omega) (by omega)) ?_
    exact q_ok_some ⟨hG, (q_wd (show (0 : Int) ≤ (0 : Int32).toInt ∧ (0 : Int32).toInt ≤ (0 : Int) by decide) (by decide) (by decide))⟩
  · have f31 := q_neV q_evr (show q_eqv ((-1 : Int64)).toInt (-1) by unfold q_eqv; decide) (q_cn_eq g29)
    refine q_ok_ite (fun g32 => ?_) (fun g32 => ?_)
    · have f33 := q_eqV q_evr (show q_eqv ((-1 : Int64)).toInt (-1) by unfold q_eqv; decide) (q_cp_eq g32)
      unfold m_X8_loadEntry_75
      refine q_ok_if (q_b01V (show q_eqv ((0 : Int32)).toInt (0) by unfold q_eqv; decide) (by omega) (by omega)) ?_
      exact q_ok_some ⟨hG, (q_wd (show (0 : Int) ≤ (0 : Int32).toInt ∧ (0 : Int32).toInt ≤ (0 : Int) by decide) (by decide) (by decide))⟩
    · have f34 := q_neV q_evr (show q_eqv ((-1 : Int64)).toInt (-1) by unfold q_eqv; decide) (q_cn_eq g32)
      obtain ⟨v35, ev35⟩ := q_ev ((r8 + r21).toInt)
      have f36 : v35 = r8.toInt + r21.toInt := q_addVJ ev35 q_evr q_evr (by omega) (by omega)
      obtain ⟨v37, ev37⟩ := q_ev ((r3.toInt64).toInt)
      have f38 : v37 = r3.toInt := q_i2lV ev37 q_evr
      refine q_ok_ite (fun g39 => ?_) (fun g39 => ?_)
      · have f40 := q_leV ev35 ev37 (q_cp_le g39)
        refine q_ok_atS hG (q_trI mo ro) rfl (fun mo ro => ?_)
        have t41 := g_6_R1 hG mo ro
        refine q_ok_at hG t41 rfl (fun a42 ma42 ra42 ea42 => ?_)
        refine q_ok_if (q_inV (g_7_N hG ma42 ra42) q_evr (by omega) (by omega)) ?_
        have t43 := g_7_RE hG ma42 ra42 (k := (p0).toNatClampNeg) (q_idxV q_evr (by omega) (by omega))
        have t44 := g_6_R0 hG mo ro
        refine q_ok_atA hG ea2 ma2 ra2 rfl ?_
        obtain ⟨v48, ev48⟩ := q_ev ((((12 : Int32) + ((16 : Int32) * p0)).toInt64).toInt)
        have f49 : v48 = v13 := q_i2lV ev48 ev13
        refine q_ok_b (s_X4_four_1 hn hG.1 ma2 ra2 (q_oV ev48 (by omega) (by omega)) (q_wd (q_i2lB f6) (by decide) (by decide))) (fun r45 S46 h47 => ?_)
        obtain ⟨eS46, h47⟩ := h47
        replace eS46 := eS46.symm
        subst eS46
        have f50 := h47
        refine q_ok_atS hG (q_trI mo ro) rfl (fun mo ro => ?_)
        have t51 := g_6_R0 hG mo ro
        refine q_ok_atA hG ea2 ma2 ra2 rfl ?_
        obtain ⟨v55, ev55⟩ := q_ev (((((12 : Int32) + ((16 : Int32) * p0)) + (4 : Int32)).toInt64).toInt)
        obtain ⟨v56, ev56⟩ := q_ev ((((12 : Int32) + ((16 : Int32) * p0)) + (4 : Int32)).toInt)
        have f57 : v56 = v13 + (4) := q_addVI ev56 ev13 (show q_eqv ((4 : Int32)).toInt (4) by unfold q_eqv; decide) (by omega) (by omega)
        have f58 : v55 = v56 := q_i2lV ev55 ev56
        refine q_ok_b (s_X4_four_1 hn hG.1 ma2 ra2 (q_oV ev55 (by omega) (by omega)) (q_wd (q_i2lB f6) (by decide) (by decide))) (fun r52 S53 h54 => ?_)
        obtain ⟨eS53, h54⟩ := h54
        replace eS53 := eS53.symm
        subst eS53
        have f59 := h54
        refine q_ok_at hG t43 rfl (fun a60 ma60 ra60 ea60 => ?_)
        obtain ⟨v64, ev64⟩ := q_ev ((r8.toInt32).toInt)
        have f65 : v64 = r8.toInt := q_l2iV ev64 q_evr (by omega) (by omega)
        obtain ⟨v66, ev66⟩ := q_ev ((r21.toInt32).toInt)
        have f67 : v66 = r21.toInt := q_l2iV ev66 q_evr (by omega) (by omega)
        refine q_ok_b (s_X7_set_8 hn hG.1 ma60 ra60 (q_wd f50 (by decide) (by decide)) (q_wd f59 (by decide) (by decide)) (q_oV ev64 (by omega) (by omega)) (q_oV ev66 (by omega) (by omega))) (fun r61 S62 h63 => ?_)
        have hG := q_G_call hG h63 (by decide)
        refine q_ok_if (q_b01V (show q_eqv ((1 : Int32)).toInt (1) by unfold q_eqv; decide) (by omega) (by omega)) ?_
        exact q_ok_some ⟨hG, (q_wd (show (1 : Int) ≤ (1 : Int32).toInt ∧ (1 : Int32).toInt ≤ (1 : Int) by decide) (by decide) (by decide))⟩
      · have f68 := q_ltV ev37 ev35 (q_cn_le g39)
        unfold m_X8_loadEntry_75
        refine q_ok_if (q_b01V (show q_eqv ((0 : Int32)).toInt (0) by unfold q_eqv; decide) (by omega) (by omega)) ?_
        exact q_ok_some ⟨hG, (q_wd (show (0 : Int) ≤ (0 : Int32).toInt ∧ (0 : Int32).toInt ≤ (0 : Int) by decide) (by decide) (by decide))⟩
def M_X8_load_6 : List Nat := [387, 513, 514, 515, 516]
set_option maxHeartbeats 4000000 in
set_option maxRecDepth 100000 in
theorem s_X8_load_6_40 {ρ : Nat → Nat} {L : List Nat} {n : Nat} (hn : 18446744073709551616 ≤ n) {S0 : q_S}  : ∀ (k : Nat) (S : q_S) (l0 : Option Nat) (l1 : Int32) (l2 : Int32), q_G ρ L M_X8_load_6 S0 S → q_tr ρ L l0 6 → (-1 ≤ l1.toInt ∧ l1.toInt ≤ 24) → (0 ≤ l2.toInt ∧ l2.toInt ≤ 24) → 2147483648 - l2.toInt ≤ (k : Int) → q_ok (m_X8_load_40 n k S l0 l1 l2) (fun r T => q_G ρ L M_X8_load_6 S0 T ∧ (-2147483648 ≤ r.toInt ∧ r.toInt ≤ 24)) := by
  intro k
  induction k with
  | zero =>
    intro S l0 l1 l2 hG hl0 hl1 hl2 hm
    have f0 := q_rngI l2
    exfalso; omega
  | succ k ih =>
    intro S l0 l1 l2 hG hl0 hl1 hl2 hm
    rw [m_X8_load_40]
    have z0 : (0 : Int32).toInt = 0 := rfl
    refine q_ok_ite (fun g1 => ?_) (fun g1 => ?_)
    · have f2 := q_leV q_evr q_evr (q_p_ge g1)
      refine q_ok_at hG hl0 rfl (fun a3 ma3 ra3 ea3 => ?_)
      have hG := u_6_I3 (x := l1) hG ma3 ra3 (by decide) (q_wd hl1 (by decide) (by decide))
      have f4 : q_sm _ := g_6_I3 hG ma3 ra3
      have e5 : q_I (q_sI (S) a3 3 (l1)) a3 3 = l1 := q_hitI
      exact q_ok_some ⟨hG, (q_wd f4 (by decide) (by decide))⟩
    · have f6 := q_ltV q_evr q_evr (q_n_ge g1)
      refine q_ok_at hG hl0 rfl (fun a7 ma7 ra7 ea7 => ?_)
      refine q_ok_b (s_X8_loadEntry_6 hn hG.1 ma7 ra7 (q_oV q_evr (by omega) (by omega))) (fun r8 S9 h10 => ?_)
      have hG := q_G_call hG h10.1 (by decide)
      have f11 := h10.2
      refine q_ok_ite (fun g12 => ?_) (fun g12 => ?_)
      · have f13 := q_eqV q_evr (show q_eqv ((0 : Int32)).toInt (0) by unfold q_eqv; decide) (q_p_eq g12)
        exact q_ok_some ⟨hG, (q_wd (q_subBI (-25) (-1) (show (-1 : Int) ≤ (-1 : Int32).toInt ∧ (-1 : Int32).toInt ≤ (-1 : Int) by decide) hl2 (by decide) (by decide) (by decide) (by decide)) (by decide) (by decide))⟩
      · have f14 := q_neV q_evr (show q_eqv ((0 : Int32)).toInt (0) by unfold q_eqv; decide) (q_n_eq g12)
        obtain ⟨v15, ev15⟩ := q_ev ((l2 + (1)).toInt)
        have f16 : v15 = l2.toInt + (1) := q_addVI ev15 q_evr (show q_eqv ((1 : Int32)).toInt (1) by unfold q_eqv; decide) (by omega) (by omega)
        exact ih _ _ _ _ hG hl0 (q_wd hl1 (by decide) (by decide)) (q_oV ev15 (by omega) (by omega))  (q_upV ev15 (by omega))
set_option maxHeartbeats 4000000 in
set_option maxRecDepth 100000 in
theorem s_X8_load_6 {ρ : Nat → Nat} {L : List Nat} {n : Nat} (hn : 18446744073709551616 ≤ n) {S : q_S} (hI : q_Inv ρ L S) {o : Nat} (mo : o ∈ L) (ro : ρ o = 6) : q_ok (m_X8_load n S o) (fun r T => q_G ρ L M_X8_load_6 S T ∧ (-2147483648 ≤ r.toInt ∧ r.toInt ≤ 24)) := by
  have hG : q_G ρ L M_X8_load_6 S S := q_G_refl hI
  unfold m_X8_load
  have z0 : (0 : Int32).toInt = 0 := rfl
  refine q_ok_atS hG (q_trI mo ro) rfl (fun mo ro => ?_)
  have hG := u_6_I3 (x := (0 : Int32)) hG mo ro (by decide) (q_wd (show (0 : Int) ≤ (0 : Int32).toInt ∧ (0 : Int32).toInt ≤ (0 : Int) by decide) (by decide) (by decide))
  have t1 := g_6_R0 hG mo ro
  refine q_ok_at hG t1 rfl (fun a2 ma2 ra2 ea2 => ?_)
  refine q_ok_b (s_X4_size_1 hn hG.1 ma2 ra2) (fun r3 S4 h5 => ?_)
  obtain ⟨eS4, h5⟩ := h5
  replace eS4 := eS4.symm
  subst eS4
  have f6 := h5
  refine q_ok_ite (fun g7 => ?_) (fun g7 => ?_)
  · have f8 := q_leV (show q_eqv ((12 : Int32)).toInt (12) by unfold q_eqv; decide) q_evr (q_p_ge g7)
    refine q_ok_atS hG (q_trI mo ro) rfl (fun mo ro => ?_)
    have t9 := g_6_R0 hG mo ro
    refine q_ok_atA hG ea2 ma2 ra2 rfl ?_
    refine q_ok_b (s_X4_two_1 hn hG.1 ma2 ra2 (q_wd (show (4 : Int) ≤ (4 : Int64).toInt ∧ (4 : Int64).toInt ≤ (4 : Int) by decide) (by decide) (by decide)) (q_wd (show (12 : Int) ≤ (12 : Int64).toInt ∧ (12 : Int64).toInt ≤ (12 : Int) by decide) (by decide) (by decide))) (fun r10 S11 h12 => ?_)
    obtain ⟨eS11, h12⟩ := h12
    replace eS11 := eS11.symm
    subst eS11
    have f13 := h12
    refine q_ok_b (s_J9_min_7cf53 n _ _ _) (fun r14 S15 h16 => ?_)
    obtain ⟨eS15, h16⟩ := h16
    replace h16 := q_mmVN q_evr (show q_eqv ((24 : Int32)).toInt (24) by unfold q_eqv; decide) h16
    replace eS15 := eS15.symm
    subst eS15
    exact s_X8_load_6_40 hn n _ _ _ _ hG (q_trI mo ro) (q_oV q_evr (by omega) (by omega)) (q_wd (show (0 : Int) ≤ (0 : Int32).toInt ∧ (0 : Int32).toInt ≤ (0 : Int) by decide) (by decide) (by decide))  (q_upV (show q_eqv ((0 : Int32)).toInt (0) by unfold q_eqv; decide) (by omega))
  · have f17 := q_ltV q_evr (show q_eqv ((12 : Int32)).toInt (12) by unfold q_eqv; decide) (q_n_ge g7)
    exact q_ok_some ⟨hG, (q_wd (show (-1 : Int) ≤ (-1 : Int32).toInt ∧ (-1 : Int32).toInt ≤ (-1 : Int) by decide) (by decide) (by decide))⟩
set_option maxHeartbeats 4000000 in
set_option maxRecDepth 100000 in
theorem s_X7_total_8_66 {ρ : Nat → Nat} {L : List Nat} {n : Nat} {S : q_S} (hn : 18446744073709551616 ≤ n) (hG : q_G ρ L [] S S)  {k5 : q_S → Option Nat → Int32 → Int64 → Int32 → Option (Int64 × q_S)} {B5 : Int} (hk5 : ∀ (z0 : Option Nat) (z1 : Int32) (z2 : Int64) (z3 : Int32), q_tr ρ L z0 8 → (0 ≤ z1.toInt ∧ z1.toInt ≤ 1) → (0 ≤ z3.toInt ∧ z3.toInt ≤ 2400) → 2147483648 - z3.toInt < B5 → q_ok (k5 S z0 z1 z2 z3) (fun r T => T = S ∧ (0 ≤ r.toInt ∧ r.toInt ≤ 4294967295))) (l0 : Option Nat) (l1 : Int32) (l2 : Int64) (l4 : Int32) (hl0 : q_tr ρ L l0 8) (hl1 : (0 ≤ l1.toInt ∧ l1.toInt ≤ 1)) (hl4 : (0 ≤ l4.toInt ∧ l4.toInt ≤ 1600)) (hm5 : 2147483648 - l4.toInt ≤ B5) : q_ok (m_X7_total_66 n k5 S l0 l1 l2 l4) (fun r T => T = S ∧ (0 ≤ r.toInt ∧ r.toInt ≤ 4294967295)) := by
  unfold m_X7_total_66
  have z0 : (0 : Int32).toInt = 0 := rfl
  obtain ⟨v1, ev1⟩ := q_ev ((l4 + (1)).toInt)
  have f2 : v1 = l4.toInt + (1) := q_addVI ev1 q_evr (show q_eqv ((1 : Int32)).toInt (1) by unfold q_eqv; decide) (by omega) (by omega)
  exact hk5 _ _ _ _ hl0 (q_wd hl1 (by decide) (by decide)) (q_wd (q_addBI (1) (1601) hl4 (show (1 : Int) ≤ (1 : Int32).toInt ∧ (1 : Int32).toInt ≤ (1 : Int) by decide) (by decide) (by decide) (by decide) (by decide)) (by decide) (by decide))  (q_upVl ev1 (by omega))
set_option maxHeartbeats 4000000 in
set_option maxRecDepth 100000 in
theorem s_X7_total_8_36 {ρ : Nat → Nat} {L : List Nat} {n : Nat} {S : q_S} (hn : 18446744073709551616 ≤ n) (hG : q_G ρ L [] S S)  {k5 : q_S → Option Nat → Int32 → Int64 → Int32 → Option (Int64 × q_S)} {B5 : Int} (hk5 : ∀ (z0 : Option Nat) (z1 : Int32) (z2 : Int64) (z3 : Int32), q_tr ρ L z0 8 → (0 ≤ z1.toInt ∧ z1.toInt ≤ 1) → (0 ≤ z3.toInt ∧ z3.toInt ≤ 2400) → 2147483648 - z3.toInt < B5 → q_ok (k5 S z0 z1 z2 z3) (fun r T => T = S ∧ (0 ≤ r.toInt ∧ r.toInt ≤ 4294967295))) (l0 : Option Nat) (l1 : Int32) (l2 : Int64) (l4 : Int32) (hl0 : q_tr ρ L l0 8) (hl1 : (0 ≤ l1.toInt ∧ l1.toInt ≤ 1)) (hl4 : (0 ≤ l4.toInt ∧ l4.toInt ≤ 1600)) (hm5 : 2147483648 - l4.toInt ≤ B5) : q_ok (m_X7_total_36 n k5 S l0 l1 l2 l4) (fun r T => T = S ∧ (0 ≤ r.toInt ∧ r.toInt ≤ 4294967295)) := by
  unfold m_X7_total_36
  have z0 : (0 : Int32).toInt = 0 := rfl
  unfold m_X7_total_37
  refine q_ok_ite (fun g1 => ?_) (fun g1 => ?_)
  · have f2 := q_eqV (show q_eqv ((0 : Int32)).toInt (0) by unfold q_eqv; decide) (show q_eqv ((0 : Int32)).toInt (0) by unfold q_eqv; decide) (q_p_eq g1)
    refine q_ok_at hG hl0 rfl (fun a3 ma3 ra3 ea3 => ?_)
    refine q_ok_b (s_X7_one_8 hn hG.1 ma3 ra3 (q_wd (q_i2lB hl4) (by decide) (by decide))) (fun r4 S5 h6 => ?_)
    obtain ⟨eS5, h6⟩ := h6
    replace eS5 := eS5.symm
    subst eS5
    have f7 := h6
    exact s_X7_total_8_66 hn hG hk5 _ _ _ _ hl0 (q_wd hl1 (by decide) (by decide)) (q_wd hl4 (by decide) (by decide)) (q_upV q_evr (by omega))
  · have f8 := q_neV (show q_eqv ((0 : Int32)).toInt (0) by unfold q_eqv; decide) (show q_eqv ((0 : Int32)).toInt (0) by unfold q_eqv; decide) (q_n_eq g1)
    exfalso; omega
set_option maxHeartbeats 4000000 in
set_option maxRecDepth 100000 in
theorem s_X7_total_8_5 {ρ : Nat → Nat} {L : List Nat} {n : Nat} {S : q_S} (hn : 18446744073709551616 ≤ n) (hG : q_G ρ L [] S S)  : ∀ (k : Nat) (l0 : Option Nat) (l1 : Int32) (l2 : Int64) (l4 : Int32), q_tr ρ L l0 8 → (0 ≤ l1.toInt ∧ l1.toInt ≤ 1) → (0 ≤ l4.toInt ∧ l4.toInt ≤ 2400) → 2147483648 - l4.toInt ≤ (k : Int) → q_ok (m_X7_total_5 n k S l0 l1 l2 l4) (fun r T => T = S ∧ (0 ≤ r.toInt ∧ r.toInt ≤ 4294967295)) := by
  intro k
  induction k with
  | zero =>
    intro l0 l1 l2 l4 hl0 hl1 hl4 hm
    have f0 := q_rngI l4
    exfalso; omega
  | succ k ih =>
    intro l0 l1 l2 l4 hl0 hl1 hl4 hm
    rw [m_X7_total_5]
    have z0 : (0 : Int32).toInt = 0 := rfl
    refine q_ok_at hG hl0 rfl (fun a1 ma1 ra1 ea1 => ?_)
    have f2 : q_sm _ := g_8_I4 hG ma1 ra1
    obtain ⟨v3, ev3⟩ := q_ev ((q_I (S) a1 4).toInt)
    have f4 := q_bV ev3 f2
    refine q_ok_ite (fun g5 => ?_) (fun g5 => ?_)
    · have f6 := q_leV ev3 q_evr (q_p_ge g5)
      obtain ⟨v7, ev7⟩ := q_ev ((l2 &&& (4294967295 : Int64)).toInt)
      have f8 := q_andRVJ ev7 (show q_eqv ((4294967295 : Int64)).toInt (4294967295) by unfold q_eqv; decide) (by omega)
      exact q_ok_some ⟨rfl, (q_oV ev7 (by omega) (by omega))⟩
    · have f9 := q_ltV q_evr ev3 (q_n_ge g5)
      refine q_ok_ite (fun g10 => ?_) (fun g10 => ?_)
      · have f11 := q_eqV q_evr (show q_eqv ((0 : Int32)).toInt (0) by unfold q_eqv; decide) (q_p_eq g10)
        exact s_X7_total_8_36 hn hG (B5 := (k : Int) + 1) (fun z0 z1 z2 z3 hz0 hz1 hz3  hm9 => ih z0 z1 z2 z3 hz0 hz1 hz3  (by omega)) _ _ _ _ hl0 (q_wd hl1 (by decide) (by decide)) (q_oV q_evr (by omega) (by omega)) (q_upV q_evr (by omega))
      · have f12 := q_neV q_evr (show q_eqv ((0 : Int32)).toInt (0) by unfold q_eqv; decide) (q_n_eq g10)
        refine q_ok_ite (fun g13 => ?_) (fun g13 => ?_)
        · have f14 := q_ltV q_evr (show q_eqv ((8 : Int32)).toInt (8) by unfold q_eqv; decide) (q_p_lt g13)
          exact s_X7_total_8_36 hn hG (B5 := (k : Int) + 1) (fun z0 z1 z2 z3 hz0 hz1 hz3  hm9 => ih z0 z1 z2 z3 hz0 hz1 hz3  (by omega)) _ _ _ _ hl0 (q_wd hl1 (by decide) (by decide)) (q_oV q_evr (by omega) (by omega)) (q_upV q_evr (by omega))
        · have f15 := q_leV (show q_eqv ((8 : Int32)).toInt (8) by unfold q_eqv; decide) q_evr (q_n_lt g13)
          refine q_ok_ite (fun g16 => ?_) (fun g16 => ?_)
          · have f17 := q_leV (show q_eqv ((12 : Int32)).toInt (12) by unfold q_eqv; decide) q_evr (q_p_ge g16)
            exact s_X7_total_8_36 hn hG (B5 := (k : Int) + 1) (fun z0 z1 z2 z3 hz0 hz1 hz3  hm9 => ih z0 z1 z2 z3 hz0 hz1 hz3  (by omega)) _ _ _ _ hl0 (q_wd hl1 (by decide) (by decide)) (q_oV q_evr (by omega) (by omega)) (q_upV q_evr (by omega))
          · have f18 := q_ltV q_evr (show q_eqv ((12 : Int32)).toInt (12) by unfold q_eqv; decide) (q_n_ge g16)
            unfold m_X7_total_37
            refine q_ok_ite (fun g19 => ?_) (fun g19 => ?_)
            · have f20 := q_eqV (show q_eqv ((1 : Int32)).toInt (1) by unfold q_eqv; decide) (show q_eqv ((0 : Int32)).toInt (0) by unfold q_eqv; decide) (q_p_eq g19)
              exfalso; omega
            · have f21 := q_neV (show q_eqv ((1 : Int32)).toInt (1) by unfold q_eqv; decide) (show q_eqv ((0 : Int32)).toInt (0) by unfold q_eqv; decide) (q_n_eq g19)
              exact s_X7_total_8_66 hn hG (B5 := (k : Int) + 1) (fun z0 z1 z2 z3 hz0 hz1 hz3  hm9 => ih z0 z1 z2 z3 hz0 hz1 hz3  (by omega)) _ _ _ _ hl0 (q_wd hl1 (by decide) (by decide)) (q_oV q_evr (by omega) (by omega)) (q_upV q_evr (by omega))
set_option maxHeartbeats 4000000 in
set_option maxRecDepth 100000 in
theorem s_X7_total_8 {ρ : Nat → Nat} {L : List Nat} {n : Nat} (hn : 18446744073709551616 ≤ n) {S : q_S} (hI : q_Inv ρ L S) {o : Nat} (mo : o ∈ L) (ro : ρ o = 8) {p0 : Int32} (hp0 : (0 ≤ p0.toInt ∧ p0.toInt ≤ 1)) : q_ok (m_X7_total n S o p0) (fun r T => T = S ∧ (0 ≤ r.toInt ∧ r.toInt ≤ 4294967295)) := by
  have hG : q_G ρ L [] S S := q_G_refl hI
  unfold m_X7_total
  have z0 : (0 : Int32).toInt = 0 := rfl
  exact s_X7_total_8_5 hn hG n _ _ _ _ (q_trI mo ro) (q_wd hp0 (by decide) (by decide)) (q_wd (show (0 : Int) ≤ (0 : Int32).toInt ∧ (0 : Int32).toInt ≤ (0 : Int) by decide) (by decide) (by decide))  (q_upV (show q_eqv ((0 : Int32)).toInt (0) by unfold q_eqv; decide) (by omega))
set_option maxHeartbeats 4000000 in
set_option maxRecDepth 100000 in
theorem s_X8_totalOf_6 {ρ : Nat → Nat} {L : List Nat} {n : Nat} (hn : 18446744073709551616 ≤ n) {S : q_S} (hI : q_Inv ρ L S) {o : Nat} (mo : o ∈ L) (ro : ρ o = 6) {p0 : Int32} (hp0 : (0 ≤ p0.toInt ∧ p0.toInt ≤ 23)) : q_ok (m_X8_totalOf n S o p0) (fun r T => T = S ∧ (0 ≤ r.toInt ∧ r.toInt ≤ 4294967295)) := by
  have hG : q_G ρ L [] S S := q_G_refl hI
  unfold m_X8_totalOf
  have z0 : (0 : Int32).toInt = 0 := rfl
  refine q_ok_atS hG (q_trI mo ro) rfl (fun mo ro => ?_)
  refine q_ok_b (s_X8_get_6 hn hG.1 mo ro) (fun r1 S2 h3 => ?_)
  obtain ⟨eS2, h3⟩ := h3
  replace eS2 := eS2.symm
  subst eS2
  refine q_ok_atS hG (q_trI mo ro) rfl (fun mo ro => ?_)
  refine q_ok_b (s_X8_indexOf_6 hn hG.1 mo ro (q_wd (show (1751474532 : Int) ≤ (1751474532 : Int64).toInt ∧ (1751474532 : Int64).toInt ≤ (1751474532 : Int) by decide) (by decide) (by decide))) (fun r4 S5 h6 => ?_)
  obtain ⟨eS5, h6⟩ := h6
  replace eS5 := eS5.symm
  subst eS5
  have f7 := h6
  refine q_ok_ite (fun g8 => ?_) (fun g8 => ?_)
  · have f9 := q_eqV q_evr q_evr (q_p_eq g8)
    unfold m_X8_totalOf_21
    refine q_ok_atS hG (q_trI h3.1 h3.2) rfl (fun mr1 rr1 => ?_)
    refine q_ok_b (s_X7_total_8 hn hG.1 mr1 rr1 (q_wd (show (1 : Int) ≤ (1 : Int32).toInt ∧ (1 : Int32).toInt ≤ (1 : Int) by decide) (by decide) (by decide))) (fun r10 S11 h12 => ?_)
    obtain ⟨eS11, h12⟩ := h12
    replace eS11 := eS11.symm
    subst eS11
    have f13 := h12
    exact q_ok_some ⟨rfl, (q_wd f13 (by decide) (by decide))⟩
  · have f14 := q_neV q_evr q_evr (q_n_eq g8)
    unfold m_X8_totalOf_21
    refine q_ok_atS hG (q_trI h3.1 h3.2) rfl (fun mr1 rr1 => ?_)
    refine q_ok_b (s_X7_total_8 hn hG.1 mr1 rr1 (q_wd (show (0 : Int) ≤ (0 : Int32).toInt ∧ (0 : Int32).toInt ≤ (0 : Int) by decide) (by decide) (by decide))) (fun r15 S16 h17 => ?_)
    obtain ⟨eS16, h17⟩ := h17
    replace eS16 := eS16.symm
    subst eS16
    have f18 := h17
    exact q_ok_some ⟨rfl, (q_wd f18 (by decide) (by decide))⟩
set_option maxHeartbeats 4000000 in
set_option maxRecDepth 100000 in
theorem s_X9_isFull_3 {ρ : Nat → Nat} {L : List Nat} {n : Nat} (hn : 18446744073709551616 ≤ n) {S : q_S} (hI : q_Inv ρ L S) {o : Nat} (mo : o ∈ L) (ro : ρ o = 3) : q_ok (m_X9_isFull n S o) (fun r T => T = S ∧ (0 ≤ r.toInt ∧ r.toInt ≤ 1) ∧ q_sm ((r.toInt = 0 → (q_I (S) o 2).toInt < (100 : Int32).toInt) ∧ (r.toInt = 1 → (100 : Int32).toInt ≤ (q_I (S) o 2).toInt))) := by
  have hG : q_G ρ L [] S S := q_G_refl hI
  unfold m_X9_isFull
  have z0 : (0 : Int32).toInt = 0 := rfl
  refine q_ok_atS hG (q_trI mo ro) rfl (fun mo ro => ?_)
  have f1 : q_sm _ := g_3_I2 hG mo ro
  obtain ⟨v2, ev2⟩ := q_ev ((q_I (S) o 2).toInt)
  have f3 := q_bV ev2 f1
  refine q_ok_ite (fun g4 => ?_) (fun g4 => ?_)
  · have f5 := q_ltV ev2 (show q_eqv ((100 : Int32)).toInt (100) by unfold q_eqv; decide) (q_p_lt g4)
    unfold m_X9_isFull_14
    refine q_ok_if (q_b01V (show q_eqv ((0 : Int32)).toInt (0) by unfold q_eqv; decide) (by omega) (by omega)) ?_
    exact q_ok_some ⟨rfl, (q_wd (show (0 : Int) ≤ (0 : Int32).toInt ∧ (0 : Int32).toInt ≤ (0 : Int) by decide) (by decide) (by decide)), ⟨fun _ => (q_ltW ev2 (show q_eqv ((100 : Int32)).toInt (100) by unfold q_eqv; decide) (by omega)), fun h9 => absurd h9 (by decide)⟩⟩
  · have f6 := q_leV (show q_eqv ((100 : Int32)).toInt (100) by unfold q_eqv; decide) ev2 (q_n_lt g4)
    unfold m_X9_isFull_14
    refine q_ok_if (q_b01V (show q_eqv ((1 : Int32)).toInt (1) by unfold q_eqv; decide) (by omega) (by omega)) ?_
    exact q_ok_some ⟨rfl, (q_wd (show (1 : Int) ≤ (1 : Int32).toInt ∧ (1 : Int32).toInt ≤ (1 : Int) by decide) (by decide) (by decide)), ⟨fun h9 => absurd h9 (by decide), fun _ => (q_geW ev2 (show q_eqv ((100 : Int32)).toInt (100) by unfold q_eqv; decide) (by omega))⟩⟩
def M_X9_tell_3 : List Nat := [194, 256, 320]
set_option maxHeartbeats 4000000 in
set_option maxRecDepth 100000 in
theorem s_X9_tell_3 {ρ : Nat → Nat} {L : List Nat} {n : Nat} (hn : 18446744073709551616 ≤ n) {S : q_S} (hI : q_Inv ρ L S) {o : Nat} (mo : o ∈ L) (ro : ρ o = 3) {p0 : Int32} (hp0 : (1 ≤ p0.toInt ∧ p0.toInt ≤ 5)) {p1 : Int32} (hp1 : (0 ≤ p1.toInt ∧ p1.toInt ≤ 65535)) : q_ok (m_X9_tell n S o p0 p1) (fun _ T => q_G ρ L M_X9_tell_3 S T) := by
  have hG : q_G ρ L M_X9_tell_3 S S := q_G_refl hI
  unfold m_X9_tell
  have z0 : (0 : Int32).toInt = 0 := rfl
  refine q_ok_atS hG (q_trI mo ro) rfl (fun mo ro => ?_)
  refine q_ok_b (s_X9_isFull_3 hn hG.1 mo ro) (fun r1 S2 h3 => ?_)
  obtain ⟨eS2, h3⟩ := h3
  replace eS2 := eS2.symm
  subst eS2
  have f4 := h3
  obtain ⟨v5, ev5⟩ := q_ev ((q_I (S) o 2).toInt)
  have f6 := q_bV ev5 (g_3_I2 hG mo ro)
  have f7 : r1.toInt = 0 → v5 < (100) := fun h9 => q_ltV ev5 (show q_eqv ((100 : Int32)).toInt (100) by unfold q_eqv; decide) (f4.2.1 h9)
  have f8 : r1.toInt = 1 → (100) ≤ v5 := fun h9 => q_leV (show q_eqv ((100 : Int32)).toInt (100) by unfold q_eqv; decide) ev5 (f4.2.2 h9)
  refine q_ok_ite (fun g9 => ?_) (fun g9 => ?_)
  · have f10 := q_eqV q_evr (show q_eqv ((0 : Int32)).toInt (0) by unfold q_eqv; decide) (q_p_eq g9)
    refine q_ok_atS hG (q_trI mo ro) rfl (fun mo ro => ?_)
    have t11 := g_3_R0 hG mo ro
    have f12 : q_sm _ := g_3_I2 hG mo ro
    refine q_ok_at hG t11 rfl (fun a13 ma13 ra13 ea13 => ?_)
    refine q_ok_if (q_inV (g_4_N hG ma13 ra13) ev5 (by omega) (by omega)) ?_
    have hG := u_4_E (k := (q_I (S) o 2).toNatClampNeg) (x := p0) hG ma13 ra13 (by decide) (q_wd hp0 (by decide) (by decide))
    have t14 := g_3_R1 hG mo ro
    have f15 : q_sm _ := g_3_I2 hG mo ro
    have e16 : q_I (q_sI (S) a13 (q_I (S) o 2).toNatClampNeg (p0)) o 2 = q_I (S) o 2 := (q_fwI ro ra13 (by decide))
    refine q_ok_at hG t14 rfl (fun a17 ma17 ra17 ea17 => ?_)
    obtain ⟨v18, ev18⟩ := q_ev ((q_I (q_sI (S) a13 (q_I (S) o 2).toNatClampNeg (p0)) o 2).toInt)
    have f19 : v18 = v5 := q_eqVI e16 ev18 ev5
    refine q_ok_if (q_inV (g_5_N hG ma17 ra17) ev18 (by omega) (by omega)) ?_
    have hG := u_5_E (k := (q_I (q_sI (S) a13 (q_I (S) o 2).toNatClampNeg (p0)) o 2).toNatClampNeg) (x := p1) hG ma17 ra17 (by decide) (q_wd hp1 (by decide) (by decide))
    refine q_ok_let (fun S20 eS20 => ?_)
    rw [← eS20] at hG
    have f21 : q_sm _ := g_3_I2 hG mo ro
    have e22 : q_I (S20) o 2 = q_I (q_sI (S) a13 (q_I (S) o 2).toNatClampNeg (p0)) o 2 := (Eq.trans (q_leI eS20) (q_fwI ro ra17 (by decide)))
    obtain ⟨v23, ev23⟩ := q_ev (((q_I (S20) o 2) + (1 : Int32)).toInt)
    obtain ⟨v24, ev24⟩ := q_ev ((q_I (S20) o 2).toInt)
    have f25 : v24 = v18 := q_eqVI e22 ev24 ev18
    have f26 : v23 = v24 + (1) := q_addVI ev23 ev24 (show q_eqv ((1 : Int32)).toInt (1) by unfold q_eqv; decide) (by omega) (by omega)
    have hG := u_3_I2 (x := (q_I (S20) o 2) + (1 : Int32)) hG mo ro (by decide) (q_oV ev23 (by omega) (by omega))
    unfold m_X9_tell_37
    exact q_ok_some hG
  · have f27 := q_neV q_evr (show q_eqv ((0 : Int32)).toInt (0) by unfold q_eqv; decide) (q_n_eq g9)
    unfold m_X9_tell_37
    exact q_ok_some hG
def M_X8_tellWrongSums_6_3 : List Nat := [194, 256, 320]
set_option maxHeartbeats 4000000 in
set_option maxRecDepth 100000 in
theorem s_X8_tellWrongSums_6_3_34 {ρ : Nat → Nat} {L : List Nat} {n : Nat} (hn : 18446744073709551616 ≤ n) {S0 : q_S}  {k2 : q_S → Option Nat → Option Nat → Int32 → Option (Unit × q_S)} {B2 : Int} (hk2 : ∀ (S : q_S) (z0 : Option Nat) (z1 : Option Nat) (z2 : Int32), q_G ρ L M_X8_tellWrongSums_6_3 S0 S → q_tr ρ L z0 6 → q_tr ρ L z1 3 → (0 ≤ z2.toInt ∧ z2.toInt ≤ 24) → 2147483648 - z2.toInt < B2 → q_ok (k2 S z0 z1 z2) (fun _ T => q_G ρ L M_X8_tellWrongSums_6_3 S0 T)) (S : q_S) (l0 : Option Nat) (l1 : Option Nat) (l2 : Int32) (hG : q_G ρ L M_X8_tellWrongSums_6_3 S0 S) (hl0 : q_tr ρ L l0 6) (hl1 : q_tr ρ L l1 3) (hl2 : (0 ≤ l2.toInt ∧ l2.toInt ≤ 23)) (hm2 : 2147483648 - l2.toInt ≤ B2) : q_ok (m_X8_tellWrongSums_34 n k2 S l0 l1 l2) (fun _ T => q_G ρ L M_X8_tellWrongSums_6_3 S0 T) := by
  unfold m_X8_tellWrongSums_34
  have z0 : (0 : Int32).toInt = 0 := rfl
  obtain ⟨v1, ev1⟩ := q_ev ((l2 + (1)).toInt)
  have f2 : v1 = l2.toInt + (1) := q_addVI ev1 q_evr (show q_eqv ((1 : Int32)).toInt (1) by unfold q_eqv; decide) (by omega) (by omega)
  exact hk2 _ _ _ _ hG hl0 hl1 (q_wd (q_addBI (1) (24) hl2 (show (1 : Int) ≤ (1 : Int32).toInt ∧ (1 : Int32).toInt ≤ (1 : Int) by decide) (by decide) (by decide) (by decide) (by decide)) (by decide) (by decide))  (q_upVl ev1 (by omega))
set_option maxHeartbeats 4000000 in
set_option maxRecDepth 100000 in
theorem s_X8_tellWrongSums_6_3_2 {ρ : Nat → Nat} {L : List Nat} {n : Nat} (hn : 18446744073709551616 ≤ n) {S0 : q_S}  : ∀ (k : Nat) (S : q_S) (l0 : Option Nat) (l1 : Option Nat) (l2 : Int32), q_G ρ L M_X8_tellWrongSums_6_3 S0 S → q_tr ρ L l0 6 → q_tr ρ L l1 3 → (0 ≤ l2.toInt ∧ l2.toInt ≤ 24) → 2147483648 - l2.toInt ≤ (k : Int) → q_ok (m_X8_tellWrongSums_2 n k S l0 l1 l2) (fun _ T => q_G ρ L M_X8_tellWrongSums_6_3 S0 T) := by
  intro k
  induction k with
  | zero =>
    intro S l0 l1 l2 hG hl0 hl1 hl2 hm
    have f0 := q_rngI l2
    exfalso; omega
  | succ k ih =>
    intro S l0 l1 l2 hG hl0 hl1 hl2 hm
    rw [m_X8_tellWrongSums_2]
    have z0 : (0 : Int32).toInt = 0 := rfl
    refine q_ok_at hG hl0 rfl (fun a1 ma1 ra1 ea1 => ?_)
    have f2 : q_sm _ := g_6_I3 hG ma1 ra1
    obtain ⟨v3, ev3⟩ := q_ev ((q_I (S) a1 3).toInt)
    have f4 := q_bV ev3 f2
    refine q_ok_ite (fun g5 => ?_) (fun g5 => ?_)
    · have f6 := q_leV ev3 q_evr (q_p_ge g5)
      exact q_ok_some hG
    · have f7 := q_ltV q_evr ev3 (q_n_ge g5)
      refine q_ok_b (s_X8_totalOf_6 hn hG.1 ma1 ra1 (q_oV q_evr (by omega) (by omega))) (fun r8 S9 h10 => ?_)
      obtain ⟨eS9, h10⟩ := h10
      replace eS9 := eS9.symm
      subst eS9
      have f11 := h10
      refine q_ok_atA hG ea1 ma1 ra1 rfl ?_
      have t12 := g_6_R1 hG ma1 ra1
      refine q_ok_at hG t12 rfl (fun a13 ma13 ra13 ea13 => ?_)
      refine q_ok_if (q_inV (g_7_N hG ma13 ra13) q_evr (by omega) (by omega)) ?_
      have t14 := g_7_RE hG ma13 ra13 (k := (l2).toNatClampNeg) (q_idxV q_evr (by omega) (by omega))
      refine q_ok_at hG t14 rfl (fun a15 ma15 ra15 ea15 => ?_)
      have f16 : q_sm _ := g_8_J2 hG ma15 ra15
      obtain ⟨v17, ev17⟩ := q_ev ((q_J (S) a15 2).toInt)
      have f18 := q_bV ev17 f16
      refine q_ok_ite (fun g19 => ?_) (fun g19 => ?_)
      · have f20 := q_eqV q_evr ev17 (q_cp_eq g19)
        exact s_X8_tellWrongSums_6_3_34 hn (B2 := (k : Int) + 1) (fun S9 z0 z1 z2 hG9 hz0 hz1 hz2  hm9 => ih S9 z0 z1 z2 hG9 hz0 hz1 hz2  (by omega)) _ _ _ _ hG hl0 hl1 (q_oV q_evr (by omega) (by omega)) (q_upV q_evr (by omega))
      · have f21 := q_neV q_evr ev17 (q_cn_eq g19)
        refine q_ok_at hG hl1 rfl (fun a22 ma22 ra22 ea22 => ?_)
        refine q_ok_b (s_X9_tell_3 hn hG.1 ma22 ra22 (q_wd (show (2 : Int) ≤ (2 : Int32).toInt ∧ (2 : Int32).toInt ≤ (2 : Int) by decide) (by decide) (by decide)) (q_wd hl2 (by decide) (by decide))) (fun r23 S24 h25 => ?_)
        have hG := q_G_call hG h25 (by decide)
        exact s_X8_tellWrongSums_6_3_34 hn (B2 := (k : Int) + 1) (fun S9 z0 z1 z2 hG9 hz0 hz1 hz2  hm9 => ih S9 z0 z1 z2 hG9 hz0 hz1 hz2  (by omega)) _ _ _ _ hG hl0 hl1 (q_oV q_evr (by omega) (by omega)) (q_upV q_evr (by omega))
set_option maxHeartbeats 4000000 in
set_option maxRecDepth 100000 in
theorem s_X8_tellWrongSums_6_3 {ρ : Nat → Nat} {L : List Nat} {n : Nat} (hn : 18446744073709551616 ≤ n) {S : q_S} (hI : q_Inv ρ L S) {o : Nat} (mo : o ∈ L) (ro : ρ o = 6) {p0 : Option Nat} (tp0 : q_tr ρ L p0 3) : q_ok (m_X8_tellWrongSums n S o p0) (fun _ T => q_G ρ L M_X8_tellWrongSums_6_3 S T) := by
  have hG : q_G ρ L M_X8_tellWrongSums_6_3 S S := q_G_refl hI
  unfold m_X8_tellWrongSums
  have z0 : (0 : Int32).toInt = 0 := rfl
  exact s_X8_tellWrongSums_6_3_2 hn n _ _ _ _ hG (q_trI mo ro) tp0 (q_wd (show (0 : Int) ≤ (0 : Int32).toInt ∧ (0 : Int32).toInt ≤ (0 : Int) by decide) (by decide) (by decide))  (q_upV (show q_eqv ((0 : Int32)).toInt (0) by unfold q_eqv; decide) (by omega))
def M_X9_clear_3 : List Nat := [194]
set_option maxHeartbeats 4000000 in
set_option maxRecDepth 100000 in
theorem s_X9_clear_3 {ρ : Nat → Nat} {L : List Nat} {n : Nat} (hn : 18446744073709551616 ≤ n) {S : q_S} (hI : q_Inv ρ L S) {o : Nat} (mo : o ∈ L) (ro : ρ o = 3) : q_ok (m_X9_clear n S o) (fun _ T => q_G ρ L M_X9_clear_3 S T) := by
  have hG : q_G ρ L M_X9_clear_3 S S := q_G_refl hI
  unfold m_X9_clear
  have z0 : (0 : Int32).toInt = 0 := rfl
  refine q_ok_atS hG (q_trI mo ro) rfl (fun mo ro => ?_)
  have hG := u_3_I2 (x := (0 : Int32)) hG mo ro (by decide) (q_wd (show (0 : Int) ≤ (0 : Int32).toInt ∧ (0 : Int32).toInt ≤ (0 : Int) by decide) (by decide) (by decide))
  exact q_ok_some hG
def M_X11_read_0 : List Nat := [194, 256, 320, 387, 513, 514, 515, 516, 580, 581, 582, 583, 584, 585, 640, 1284, 1285, 1344, 1408, 1472, 1536, 1792, 1985, 1986, 1987, 1988, 1989, 1990, 1991, 1992, 1993, 1994, 1995, 1996, 1997, 2049, 2050, 2051, 2052, 2053, 2054, 2055, 2056, 2057, 2058, 2059, 2060, 2061, 2113, 2114, 2115, 2116, 2117, 2118, 2119, 2120, 2121, 2122, 2123, 2124, 2125, 2177, 2178, 2179, 2180, 2181, 2182, 2183, 2184, 2185, 2186, 2187, 2188, 2189, 2241, 2242, 2243, 2244, 2245, 2246, 2247, 2248, 2249, 2250, 2251, 2252, 2253]
set_option maxHeartbeats 4000000 in
set_option maxRecDepth 100000 in
theorem s_X11_read_0 {ρ : Nat → Nat} {L : List Nat} {n : Nat} (hn : 18446744073709551616 ≤ n) {S : q_S} (hI : q_Inv ρ L S) {o : Nat} (mo : o ∈ L) (ro : ρ o = 0) : q_ok (m_X11_read n S o) (fun r T => q_G ρ L M_X11_read_0 S T ∧ (-2147483648 ≤ r.toInt ∧ r.toInt ≤ 24)) := by
  have hG : q_G ρ L M_X11_read_0 S S := q_G_refl hI
  unfold m_X11_read
  have z0 : (0 : Int32).toInt = 0 := rfl
  refine q_ok_atS hG (q_trI mo ro) rfl (fun mo ro => ?_)
  have t1 := g_0_R1 hG mo ro
  refine q_ok_at hG t1 rfl (fun a2 ma2 ra2 ea2 => ?_)
  refine q_ok_b (s_X9_clear_3 hn hG.1 ma2 ra2) (fun r3 S4 h5 => ?_)
  have hG := q_G_call hG h5 (by decide)
  refine q_ok_atS hG (q_trI mo ro) rfl (fun mo ro => ?_)
  have t6 := g_0_R2 hG mo ro
  refine q_ok_at hG t6 rfl (fun a7 ma7 ra7 ea7 => ?_)
  refine q_ok_b (s_X8_load_6 hn hG.1 ma7 ra7) (fun r8 S9 h10 => ?_)
  have hG := q_G_call hG h10.1 (by decide)
  have f11 := h10.2
  refine q_ok_atS hG (q_trI mo ro) rfl (fun mo ro => ?_)
  have t12 := g_0_R2 hG mo ro
  have e13 : q_R (S9) o 2 = q_R (S4) o 2 := (q_unR h10.1 mo ro (by decide))
  have t14 := g_0_R1 hG mo ro
  have e15 : q_R (S9) o 1 = q_R (S) o 1 := (Eq.trans (q_unR h10.1 mo ro (by decide)) (q_unR h5 mo ro (by decide)))
  refine q_ok_atA hG (Eq.trans e13 ea7) ma7 ra7 rfl ?_
  refine q_ok_b (s_X8_tellWrongSums_6_3 hn hG.1 ma7 ra7 t14) (fun r16 S17 h18 => ?_)
  have hG := q_G_call hG h18 (by decide)
  refine q_ok_atS hG (q_trI mo ro) rfl (fun mo ro => ?_)
  have t19 := g_0_R3 hG mo ro
  refine q_ok_at hG t19 rfl (fun a20 ma20 ra20 ea20 => ?_)
  refine q_ok_b (s_X6_load_9 hn hG.1 ma20 ra20) (fun r21 S22 h23 => ?_)
  have hG := q_G_call hG h23 (by decide)
  refine q_ok_atS hG (q_trI mo ro) rfl (fun mo ro => ?_)
  have t24 := g_0_R5 hG mo ro
  refine q_ok_at hG t24 rfl (fun a25 ma25 ra25 ea25 => ?_)
  refine q_ok_b (s_X5_survey_14 hn hG.1 ma25 ra25) (fun r26 S27 h28 => ?_)
  have hG := q_G_call hG h28 (by decide)
  exact q_ok_some ⟨hG, (q_wd f11 (by decide) (by decide))⟩
set_option maxHeartbeats 4000000 in
set_option maxRecDepth 100000 in
theorem s_X2_size_36 {ρ : Nat → Nat} {L : List Nat} {n : Nat} (hn : 18446744073709551616 ≤ n) {S : q_S} (hI : q_Inv ρ L S) {o : Nat} (mo : o ∈ L) (ro : ρ o = 36) : q_ok (m_X2_size n S o) (fun r T => T = S ∧ (0 ≤ r.toInt ∧ r.toInt ≤ 120)) := by
  have hG : q_G ρ L [] S S := q_G_refl hI
  unfold m_X2_size
  have z0 : (0 : Int32).toInt = 0 := rfl
  refine q_ok_atS hG (q_trI mo ro) rfl (fun mo ro => ?_)
  have f1 : q_sm _ := g_36_I1 hG mo ro
  exact q_ok_some ⟨rfl, (q_wd f1 (by decide) (by decide))⟩
set_option maxHeartbeats 4000000 in
set_option maxRecDepth 100000 in
theorem s_X3_has_15 {ρ : Nat → Nat} {L : List Nat} {n : Nat} (hn : 18446744073709551616 ≤ n) {S : q_S} (hI : q_Inv ρ L S) {o : Nat} (mo : o ∈ L) (ro : ρ o = 15) {p0 : Int32} : q_ok (m_X3_has n S o p0) (fun r T => T = S ∧ (0 ≤ r.toInt ∧ r.toInt ≤ 1) ∧ q_sm ((r.toInt = 1 → (0 : Int32).toInt ≤ p0.toInt ∧ p0.toInt < (q_I (S) o 4).toInt))) := by
  have hG : q_G ρ L [] S S := q_G_refl hI
  unfold m_X3_has
  have z0 : (0 : Int32).toInt = 0 := rfl
  have f1 := q_rVI (x := p0) q_evr
  refine q_ok_ite (fun g2 => ?_) (fun g2 => ?_)
  · have f3 := q_ltV q_evr (show q_eqv ((0 : Int32)).toInt (0) by unfold q_eqv; decide) (q_p_lt g2)
    unfold m_X3_has_16
    unfold m_X3_has_17
    refine q_ok_if (q_b01V (show q_eqv ((0 : Int32)).toInt (0) by unfold q_eqv; decide) (by omega) (by omega)) ?_
    obtain ⟨v4, ev4⟩ := q_ev ((q_I (S) o 4).toInt)
    have f5 := q_rVI (x := q_I (S) o 4) ev4
    exact q_ok_some ⟨rfl, (q_wd (show (0 : Int) ≤ (0 : Int32).toInt ∧ (0 : Int32).toInt ≤ (0 : Int) by decide) (by decide) (by decide)), fun h9 => absurd h9 (by decide)⟩
  · have f6 := q_leV (show q_eqv ((0 : Int32)).toInt (0) by unfold q_eqv; decide) q_evr (q_n_lt g2)
    refine q_ok_atS hG (q_trI mo ro) rfl (fun mo ro => ?_)
    have f7 : q_sm _ := g_15_I4 hG mo ro
    obtain ⟨v8, ev8⟩ := q_ev ((q_I (S) o 4).toInt)
    have f9 := q_bV ev8 f7
    refine q_ok_ite (fun g10 => ?_) (fun g10 => ?_)
    · have f11 := q_leV ev8 q_evr (q_p_ge g10)
      unfold m_X3_has_16
      unfold m_X3_has_17
      refine q_ok_if (q_b01V (show q_eqv ((0 : Int32)).toInt (0) by unfold q_eqv; decide) (by omega) (by omega)) ?_
      exact q_ok_some ⟨rfl, (q_wd (show (0 : Int) ≤ (0 : Int32).toInt ∧ (0 : Int32).toInt ≤ (0 : Int) by decide) (by decide) (by decide)), fun h9 => absurd h9 (by decide)⟩
    · have f12 := q_ltV q_evr ev8 (q_n_ge g10)
      unfold m_X3_has_17
      refine q_ok_if (q_b01V (show q_eqv ((1 : Int32)).toInt (1) by unfold q_eqv; decide) (by omega) (by omega)) ?_
      exact q_ok_some ⟨rfl, (q_wd (show (1 : Int) ≤ (1 : Int32).toInt ∧ (1 : Int32).toInt ≤ (1 : Int) by decide) (by decide) (by decide)), fun _ => ⟨(q_geW q_evr (show q_eqv ((0 : Int32)).toInt (0) by unfold q_eqv; decide) (by omega)), (q_ltW q_evr ev8 (by omega))⟩⟩
set_option maxHeartbeats 4000000 in
set_option maxRecDepth 100000 in
theorem s_X3_isOn_15 {ρ : Nat → Nat} {L : List Nat} {n : Nat} (hn : 18446744073709551616 ≤ n) {S : q_S} (hI : q_Inv ρ L S) {o : Nat} (mo : o ∈ L) (ro : ρ o = 15) {p0 : Int32} : q_ok (m_X3_isOn n S o p0) (fun r T => T = S ∧ (0 ≤ r.toInt ∧ r.toInt ≤ 1)) := by
  have hG : q_G ρ L [] S S := q_G_refl hI
  unfold m_X3_isOn
  have z0 : (0 : Int32).toInt = 0 := rfl
  refine q_ok_atS hG (q_trI mo ro) rfl (fun mo ro => ?_)
  refine q_ok_b (s_X3_has_15 hn hG.1 mo ro) (fun r1 S2 h3 => ?_)
  obtain ⟨eS2, h3⟩ := h3
  replace eS2 := eS2.symm
  subst eS2
  have f4 := h3
  have f5 := q_rVI (x := p0) q_evr
  obtain ⟨v6, ev6⟩ := q_ev ((q_I (S) o 4).toInt)
  have f7 := q_bV ev6 (g_15_I4 hG mo ro)
  have f8 : r1.toInt = 1 → (0) ≤ p0.toInt := fun h9 => q_leV (show q_eqv ((0 : Int32)).toInt (0) by unfold q_eqv; decide) q_evr (f4.2 h9).1
  have f9 : r1.toInt = 1 → p0.toInt < v6 := fun h9 => q_ltV q_evr ev6 (f4.2 h9).2
  refine q_ok_ite (fun g10 => ?_) (fun g10 => ?_)
  · have f11 := q_eqV q_evr (show q_eqv ((0 : Int32)).toInt (0) by unfold q_eqv; decide) (q_p_eq g10)
    unfold m_X3_isOn_23
    unfold m_X3_isOn_24
    refine q_ok_if (q_b01V (show q_eqv ((0 : Int32)).toInt (0) by unfold q_eqv; decide) (by omega) (by omega)) ?_
    exact q_ok_some ⟨rfl, (q_wd (show (0 : Int) ≤ (0 : Int32).toInt ∧ (0 : Int32).toInt ≤ (0 : Int) by decide) (by decide) (by decide))⟩
  · have f12 := q_neV q_evr (show q_eqv ((0 : Int32)).toInt (0) by unfold q_eqv; decide) (q_n_eq g10)
    refine q_ok_atS hG (q_trI mo ro) rfl (fun mo ro => ?_)
    have t13 := g_15_R2 hG mo ro
    refine q_ok_at hG t13 rfl (fun a14 ma14 ra14 ea14 => ?_)
    refine q_ok_if (q_inV (g_18_N hG ma14 ra14) q_evr (by omega) (by omega)) ?_
    have f15 : q_sm _ := g_18_E hG ma14 ra14 (k := (p0).toNatClampNeg)
    obtain ⟨v16, ev16⟩ := q_ev (((q_I (S) a14 (p0).toNatClampNeg) &&& (1 : Int32)).toInt)
    have f17 := q_andRVI ev16 (show q_eqv ((1 : Int32)).toInt (1) by unfold q_eqv; decide) (by omega)
    refine q_ok_ite (fun g18 => ?_) (fun g18 => ?_)
    · have f19 := q_eqV ev16 (show q_eqv ((0 : Int32)).toInt (0) by unfold q_eqv; decide) (q_p_eq g18)
      unfold m_X3_isOn_23
      unfold m_X3_isOn_24
      refine q_ok_if (q_b01V (show q_eqv ((0 : Int32)).toInt (0) by unfold q_eqv; decide) (by omega) (by omega)) ?_
      exact q_ok_some ⟨rfl, (q_wd (show (0 : Int) ≤ (0 : Int32).toInt ∧ (0 : Int32).toInt ≤ (0 : Int) by decide) (by decide) (by decide))⟩
    · have f20 := q_neV ev16 (show q_eqv ((0 : Int32)).toInt (0) by unfold q_eqv; decide) (q_n_eq g18)
      unfold m_X3_isOn_24
      refine q_ok_if (q_b01V (show q_eqv ((1 : Int32)).toInt (1) by unfold q_eqv; decide) (by omega) (by omega)) ?_
      exact q_ok_some ⟨rfl, (q_wd (show (1 : Int) ≤ (1 : Int32).toInt ∧ (1 : Int32).toInt ≤ (1 : Int) by decide) (by decide) (by decide))⟩
set_option maxHeartbeats 4000000 in
set_option maxRecDepth 100000 in
theorem s_X2_firstOn_15_2 {ρ : Nat → Nat} {L : List Nat} {n : Nat} {S : q_S} (hn : 18446744073709551616 ≤ n) (hG : q_G ρ L [] S S)  : ∀ (k : Nat) (l0 : Option Nat) (l1 : Int32) (l2 : Int32) (l3 : Int32), q_tr ρ L l0 15 → (0 ≤ l1.toInt ∧ l1.toInt ≤ 118) → (1 ≤ l2.toInt ∧ l2.toInt ≤ 119) → (0 ≤ l3.toInt ∧ l3.toInt ≤ 120) → 2147483648 - l3.toInt ≤ (k : Int) → q_ok (m_X2_firstOn_2 n k S l0 l1 l2 l3) (fun r T => T = S ∧ (0 ≤ r.toInt ∧ r.toInt ≤ 119)) := by
  intro k
  induction k with
  | zero =>
    intro l0 l1 l2 l3 hl0 hl1 hl2 hl3 hm
    have f0 := q_rngI l3
    exfalso; omega
  | succ k ih =>
    intro l0 l1 l2 l3 hl0 hl1 hl2 hl3 hm
    rw [m_X2_firstOn_2]
    have z0 : (0 : Int32).toInt = 0 := rfl
    refine q_ok_ite (fun g1 => ?_) (fun g1 => ?_)
    · have f2 := q_ltV q_evr q_evr (q_p_gt g1)
      exact q_ok_some ⟨rfl, (q_wd hl1 (by decide) (by decide))⟩
    · have f3 := q_leV q_evr q_evr (q_n_gt g1)
      refine q_ok_at hG hl0 rfl (fun a4 ma4 ra4 ea4 => ?_)
      refine q_ok_b (s_X3_isOn_15 hn hG.1 ma4 ra4) (fun r5 S6 h7 => ?_)
      obtain ⟨eS6, h7⟩ := h7
      replace eS6 := eS6.symm
      subst eS6
      have f8 := h7
      refine q_ok_ite (fun g9 => ?_) (fun g9 => ?_)
      · have f10 := q_eqV q_evr (show q_eqv ((0 : Int32)).toInt (0) by unfold q_eqv; decide) (q_p_eq g9)
        obtain ⟨v11, ev11⟩ := q_ev ((l3 + (1)).toInt)
        have f12 : v11 = l3.toInt + (1) := q_addVI ev11 q_evr (show q_eqv ((1 : Int32)).toInt (1) by unfold q_eqv; decide) (by omega) (by omega)
        exact ih _ _ _ _ hl0 (q_wd hl1 (by decide) (by decide)) (q_wd hl2 (by decide) (by decide)) (q_oV ev11 (by omega) (by omega))  (q_upV ev11 (by omega))
      · have f13 := q_neV q_evr (show q_eqv ((0 : Int32)).toInt (0) by unfold q_eqv; decide) (q_n_eq g9)
        exact q_ok_some ⟨rfl, (q_oV q_evr (by omega) (by omega))⟩
set_option maxHeartbeats 4000000 in
set_option maxRecDepth 100000 in
theorem s_X2_firstOn_15 {ρ : Nat → Nat} {L : List Nat} {n : Nat} (hn : 18446744073709551616 ≤ n) {S : q_S} (hI : q_Inv ρ L S) {p0 : Option Nat} (tp0 : q_tr ρ L p0 15) {p1 : Int32} (hp1 : (0 ≤ p1.toInt ∧ p1.toInt ≤ 118)) {p2 : Int32} (hp2 : (1 ≤ p2.toInt ∧ p2.toInt ≤ 119)) : q_ok (m_X2_firstOn n S p0 p1 p2) (fun r T => T = S ∧ (0 ≤ r.toInt ∧ r.toInt ≤ 119)) := by
  have hG : q_G ρ L [] S S := q_G_refl hI
  unfold m_X2_firstOn
  have z0 : (0 : Int32).toInt = 0 := rfl
  exact s_X2_firstOn_15_2 hn hG n _ _ _ _ tp0 (q_wd hp1 (by decide) (by decide)) (q_wd hp2 (by decide) (by decide)) (q_wd hp1 (by decide) (by decide))  (q_upV q_evr (by omega))
def M_X2_put_36 : List Nat := [2305, 2306, 2307, 2368]
set_option maxHeartbeats 4000000 in
set_option maxRecDepth 100000 in
theorem s_X2_put_36 {ρ : Nat → Nat} {L : List Nat} {n : Nat} (hn : 18446744073709551616 ≤ n) {S : q_S} (hI : q_Inv ρ L S) {o : Nat} (mo : o ∈ L) (ro : ρ o = 36) {p0 : Int32} (hp0 : (0 ≤ p0.toInt ∧ p0.toInt ≤ 119)) {p1 : Int32} (hp1 : (0 ≤ p1.toInt ∧ p1.toInt ≤ 1)) {p2 : Int32} {p3 : Int32} {p4 : Int32} {p5 : Int32} : q_ok (m_X2_put n S o p0 p1 p2 p3 p4 p5) (fun _ T => q_G ρ L M_X2_put_36 S T) := by
  have hG : q_G ρ L M_X2_put_36 S S := q_G_refl hI
  unfold m_X2_put
  have z0 : (0 : Int32).toInt = 0 := rfl
  refine q_ok_atS hG (q_trI mo ro) rfl (fun mo ro => ?_)
  have f1 : q_sm _ := g_36_I1 hG mo ro
  have t2 := g_36_R0 hG mo ro
  refine q_ok_at hG t2 rfl (fun a3 ma3 ra3 ea3 => ?_)
  have t4 := g_37_N hG ma3 ra3
  obtain ⟨v5, ev5⟩ := q_ev ((((8 : Int32) * (q_I (S) o 1)) + (8 : Int32)).toInt)
  obtain ⟨v6, ev6⟩ := q_ev (((8 : Int32) * (q_I (S) o 1)).toInt)
  obtain ⟨v7, ev7⟩ := q_ev ((q_I (S) o 1).toInt)
  have f8 := q_bV ev7 f1
  have f9 : v6 = (8) * v7 := q_mulVI ev6 (show q_eqv ((8 : Int32)).toInt (8) by unfold q_eqv; decide) ev7 (by omega) (by omega)
  have f10 : v5 = v6 + (8) := q_addVI ev5 ev6 (show q_eqv ((8 : Int32)).toInt (8) by unfold q_eqv; decide) (by omega) (by omega)
  obtain ⟨v11, ev11⟩ := q_ev ((nI (q_N (S) a3)).toInt)
  have f12 := q_lenV ev11 t4 (by decide)
  refine q_ok_ite (fun g13 => ?_) (fun g13 => ?_)
  · have f14 := q_leV ev5 ev11 (q_p_le g13)
    have t15 := g_36_R0 hG mo ro
    refine q_ok_if (q_inV (g_37_N hG ma3 ra3) ev6 (by omega) (by omega)) ?_
    have hG := u_37_E (k := ((8 : Int32) * (q_I (S) o 1)).toNatClampNeg) (x := p0) hG ma3 ra3 (by decide)
    have t16 := g_36_R0 hG mo ro
    have e17 : q_R (q_sI (S) a3 ((8 : Int32) * (q_I (S) o 1)).toNatClampNeg (p0)) o 0 = q_R (S) o 0 := q_skRI
    refine q_ok_atA hG (Eq.trans e17 ea3) ma3 ra3 rfl ?_
    obtain ⟨v18, ev18⟩ := q_ev ((((8 : Int32) * (q_I (S) o 1)) + (1 : Int32)).toInt)
    have f19 : v18 = v6 + (1) := q_addVI ev18 ev6 (show q_eqv ((1 : Int32)).toInt (1) by unfold q_eqv; decide) (by omega) (by omega)
    refine q_ok_if (q_inV (g_37_N hG ma3 ra3) ev18 (by omega) (by omega)) ?_
    have hG := u_37_E (k := (((8 : Int32) * (q_I (S) o 1)) + (1 : Int32)).toNatClampNeg) (x := p1) hG ma3 ra3 (by decide)
    refine q_ok_let (fun S20 eS20 => ?_)
    rw [← eS20] at hG
    have t21 := g_36_R0 hG mo ro
    have e22 : q_R (S20) o 0 = q_R (q_sI (S) a3 ((8 : Int32) * (q_I (S) o 1)).toNatClampNeg (p0)) o 0 := (Eq.trans (q_leR eS20) q_skRI)
    refine q_ok_atA hG (Eq.trans e22 (Eq.trans e17 ea3)) ma3 ra3 rfl ?_
    obtain ⟨v23, ev23⟩ := q_ev ((((8 : Int32) * (q_I (S) o 1)) + (2 : Int32)).toInt)
    have f24 : v23 = v6 + (2) := q_addVI ev23 ev6 (show q_eqv ((2 : Int32)).toInt (2) by unfold q_eqv; decide) (by omega) (by omega)
    refine q_ok_if (q_inV (g_37_N hG ma3 ra3) ev23 (by omega) (by omega)) ?_
    have hG := u_37_E (k := (((8 : Int32) * (q_I (S) o 1)) + (2 : Int32)).toNatClampNeg) (x := q_I (S20) o 2) hG ma3 ra3 (by decide)
    have t25 := g_36_R0 hG mo ro
    have e26 : q_R (q_sI (S20) a3 (((8 : Int32) * (q_I (S) o 1)) + (2 : Int32)).toNatClampNeg (q_I (S20) o 2)) o 0 = q_R (S20) o 0 := q_skRI
    refine q_ok_atA hG (Eq.trans e26 (Eq.trans e22 (Eq.trans e17 ea3))) ma3 ra3 rfl ?_
    obtain ⟨v27, ev27⟩ := q_ev ((((8 : Int32) * (q_I (S) o 1)) + (3 : Int32)).toInt)
    have f28 : v27 = v6 + (3) := q_addVI ev27 ev6 (show q_eqv ((3 : Int32)).toInt (3) by unfold q_eqv; decide) (by omega) (by omega)
    refine q_ok_if (q_inV (g_37_N hG ma3 ra3) ev27 (by omega) (by omega)) ?_
    have hG := u_37_E (k := (((8 : Int32) * (q_I (S) o 1)) + (3 : Int32)).toNatClampNeg) (x := q_I (q_sI (S20) a3 (((8 : Int32) * (q_I (S) o 1)) + (2 : Int32)).toNatClampNeg (q_I (S20) o 2)) o 3) hG ma3 ra3 (by decide)
    refine q_ok_let (fun S29 eS29 => ?_)
    rw [← eS29] at hG
    have t30 := g_36_R0 hG mo ro
    have e31 : q_R (S29) o 0 = q_R (q_sI (S20) a3 (((8 : Int32) * (q_I (S) o 1)) + (2 : Int32)).toNatClampNeg (q_I (S20) o 2)) o 0 := (Eq.trans (q_leR eS29) q_skRI)
    refine q_ok_atA hG (Eq.trans e31 (Eq.trans e26 (Eq.trans e22 (Eq.trans e17 ea3)))) ma3 ra3 rfl ?_
    obtain ⟨v32, ev32⟩ := q_ev ((((8 : Int32) * (q_I (S) o 1)) + (4 : Int32)).toInt)
    have f33 : v32 = v6 + (4) := q_addVI ev32 ev6 (show q_eqv ((4 : Int32)).toInt (4) by unfold q_eqv; decide) (by omega) (by omega)
    refine q_ok_if (q_inV (g_37_N hG ma3 ra3) ev32 (by omega) (by omega)) ?_
    have hG := u_37_E (k := (((8 : Int32) * (q_I (S) o 1)) + (4 : Int32)).toNatClampNeg) (x := p2) hG ma3 ra3 (by decide)
    have t34 := g_36_R0 hG mo ro
    have e35 : q_R (q_sI (S29) a3 (((8 : Int32) * (q_I (S) o 1)) + (4 : Int32)).toNatClampNeg (p2)) o 0 = q_R (S29) o 0 := q_skRI
    refine q_ok_atA hG (Eq.trans e35 (Eq.trans e31 (Eq.trans e26 (Eq.trans e22 (Eq.trans e17 ea3))))) ma3 ra3 rfl ?_
    obtain ⟨v36, ev36⟩ := q_ev ((((8 : Int32) * (q_I (S) o 1)) + (5 : Int32)).toInt)
    have f37 : v36 = v6 + (5) := q_addVI ev36 ev6 (show q_eqv ((5 : Int32)).toInt (5) by unfold q_eqv; decide) (by omega) (by omega)
    refine q_ok_if (q_inV (g_37_N hG ma3 ra3) ev36 (by omega) (by omega)) ?_
    have hG := u_37_E (k := (((8 : Int32) * (q_I (S) o 1)) + (5 : Int32)).toNatClampNeg) (x := p3) hG ma3 ra3 (by decide)
    refine q_ok_let (fun S38 eS38 => ?_)
    rw [← eS38] at hG
    have t39 := g_36_R0 hG mo ro
    have e40 : q_R (S38) o 0 = q_R (q_sI (S29) a3 (((8 : Int32) * (q_I (S) o 1)) + (4 : Int32)).toNatClampNeg (p2)) o 0 := (Eq.trans (q_leR eS38) q_skRI)
    refine q_ok_atA hG (Eq.trans e40 (Eq.trans e35 (Eq.trans e31 (Eq.trans e26 (Eq.trans e22 (Eq.trans e17 ea3)))))) ma3 ra3 rfl ?_
    obtain ⟨v41, ev41⟩ := q_ev ((((8 : Int32) * (q_I (S) o 1)) + (6 : Int32)).toInt)
    have f42 : v41 = v6 + (6) := q_addVI ev41 ev6 (show q_eqv ((6 : Int32)).toInt (6) by unfold q_eqv; decide) (by omega) (by omega)
    refine q_ok_if (q_inV (g_37_N hG ma3 ra3) ev41 (by omega) (by omega)) ?_
    have hG := u_37_E (k := (((8 : Int32) * (q_I (S) o 1)) + (6 : Int32)).toNatClampNeg) (x := p4) hG ma3 ra3 (by decide)
    have t43 := g_36_R0 hG mo ro
    have e44 : q_R (q_sI (S38) a3 (((8 : Int32) * (q_I (S) o 1)) + (6 : Int32)).toNatClampNeg (p4)) o 0 = q_R (S38) o 0 := q_skRI
    refine q_ok_atA hG (Eq.trans e44 (Eq.trans e40 (Eq.trans e35 (Eq.trans e31 (Eq.trans e26 (Eq.trans e22 (Eq.trans e17 ea3))))))) ma3 ra3 rfl ?_
    obtain ⟨v45, ev45⟩ := q_ev ((((8 : Int32) * (q_I (S) o 1)) + (7 : Int32)).toInt)
    have f46 : v45 = v6 + (7) := q_addVI ev45 ev6 (show q_eqv ((7 : Int32)).toInt (7) by unfold q_eqv; decide) (by omega) (by omega)
    refine q_ok_if (q_inV (g_37_N hG ma3 ra3) ev45 (by omega) (by omega)) ?_
    have hG := u_37_E (k := (((8 : Int32) * (q_I (S) o 1)) + (7 : Int32)).toNatClampNeg) (x := p5) hG ma3 ra3 (by decide)
    refine q_ok_let (fun S47 eS47 => ?_)
    rw [← eS47] at hG
    have f48 : q_sm _ := g_36_I1 hG mo ro
    have e49 : q_I (S47) o 1 = q_I (S) o 1 := (Eq.trans (q_leI eS47) (Eq.trans (q_fwI ro ra3 (by decide)) (Eq.trans (q_fwI ro ra3 (by decide)) (Eq.trans (q_leI eS38) (Eq.trans (q_fwI ro ra3 (by decide)) (Eq.trans (q_fwI ro ra3 (by decide)) (Eq.trans (q_leI eS29) (Eq.trans (q_fwI ro ra3 (by decide)) (Eq.trans (q_fwI ro ra3 (by decide)) (Eq.trans (q_leI eS20) (Eq.trans (q_fwI ro ra3 (by decide)) (q_fwI ro ra3 (by decide)))))))))))))
    obtain ⟨v50, ev50⟩ := q_ev (((q_I (S47) o 1) + (1 : Int32)).toInt)
    obtain ⟨v51, ev51⟩ := q_ev ((q_I (S47) o 1).toInt)
    have f52 : v51 = v7 := q_eqVI e49 ev51 ev7
    have f53 : v50 = v51 + (1) := q_addVI ev50 ev51 (show q_eqv ((1 : Int32)).toInt (1) by unfold q_eqv; decide) (by omega) (by omega)
    have hG := u_36_I1 (x := (q_I (S47) o 1) + (1 : Int32)) hG mo ro (by decide) (q_oV ev50 (by omega) (by omega))
    have hG := u_36_I2 (x := p4) hG mo ro (by decide)
    refine q_ok_let (fun S54 eS54 => ?_)
    rw [← eS54] at hG
    have hG := u_36_I3 (x := p5) hG mo ro (by decide)
    exact q_ok_some hG
  · have f55 := q_ltV ev11 ev5 (q_n_le g13)
    exact q_ok_some hG
set_option maxHeartbeats 4000000 in
set_option maxRecDepth 100000 in
theorem s_X3_x_15 {ρ : Nat → Nat} {L : List Nat} {n : Nat} (hn : 18446744073709551616 ≤ n) {S : q_S} (hI : q_Inv ρ L S) {o : Nat} (mo : o ∈ L) (ro : ρ o = 15) {p0 : Int32} : q_ok (m_X3_x n S o p0) (fun r T => T = S) := by
  have hG : q_G ρ L [] S S := q_G_refl hI
  unfold m_X3_x
  have z0 : (0 : Int32).toInt = 0 := rfl
  refine q_ok_atS hG (q_trI mo ro) rfl (fun mo ro => ?_)
  refine q_ok_b (s_X3_has_15 hn hG.1 mo ro) (fun r1 S2 h3 => ?_)
  obtain ⟨eS2, h3⟩ := h3
  replace eS2 := eS2.symm
  subst eS2
  have f4 := h3
  have f5 := q_rVI (x := p0) q_evr
  obtain ⟨v6, ev6⟩ := q_ev ((q_I (S) o 4).toInt)
  have f7 := q_bV ev6 (g_15_I4 hG mo ro)
  have f8 : r1.toInt = 1 → (0) ≤ p0.toInt := fun h9 => q_leV (show q_eqv ((0 : Int32)).toInt (0) by unfold q_eqv; decide) q_evr (f4.2 h9).1
  have f9 : r1.toInt = 1 → p0.toInt < v6 := fun h9 => q_ltV q_evr ev6 (f4.2 h9).2
  refine q_ok_ite (fun g10 => ?_) (fun g10 => ?_)
  · have f11 := q_eqV q_evr (show q_eqv ((0 : Int32)).toInt (0) by unfold q_eqv; decide) (q_p_eq g10)
    unfold m_X3_x_18
    exact q_ok_some rfl
  · have f12 := q_neV q_evr (show q_eqv ((0 : Int32)).toInt (0) by unfold q_eqv; decide) (q_n_eq g10)
    refine q_ok_atS hG (q_trI mo ro) rfl (fun mo ro => ?_)
    have t13 := g_15_R0 hG mo ro
    refine q_ok_at hG t13 rfl (fun a14 ma14 ra14 ea14 => ?_)
    refine q_ok_if (q_inV (g_16_N hG ma14 ra14) q_evr (by omega) (by omega)) ?_
    unfold m_X3_x_18
    exact q_ok_some rfl
set_option maxHeartbeats 4000000 in
set_option maxRecDepth 100000 in
theorem s_X3_y_15 {ρ : Nat → Nat} {L : List Nat} {n : Nat} (hn : 18446744073709551616 ≤ n) {S : q_S} (hI : q_Inv ρ L S) {o : Nat} (mo : o ∈ L) (ro : ρ o = 15) {p0 : Int32} : q_ok (m_X3_y n S o p0) (fun r T => T = S) := by
  have hG : q_G ρ L [] S S := q_G_refl hI
  unfold m_X3_y
  have z0 : (0 : Int32).toInt = 0 := rfl
  refine q_ok_atS hG (q_trI mo ro) rfl (fun mo ro => ?_)
  refine q_ok_b (s_X3_has_15 hn hG.1 mo ro) (fun r1 S2 h3 => ?_)
  obtain ⟨eS2, h3⟩ := h3
  replace eS2 := eS2.symm
  subst eS2
  have f4 := h3
  have f5 := q_rVI (x := p0) q_evr
  obtain ⟨v6, ev6⟩ := q_ev ((q_I (S) o 4).toInt)
  have f7 := q_bV ev6 (g_15_I4 hG mo ro)
  have f8 : r1.toInt = 1 → (0) ≤ p0.toInt := fun h9 => q_leV (show q_eqv ((0 : Int32)).toInt (0) by unfold q_eqv; decide) q_evr (f4.2 h9).1
  have f9 : r1.toInt = 1 → p0.toInt < v6 := fun h9 => q_ltV q_evr ev6 (f4.2 h9).2
  refine q_ok_ite (fun g10 => ?_) (fun g10 => ?_)
  · have f11 := q_eqV q_evr (show q_eqv ((0 : Int32)).toInt (0) by unfold q_eqv; decide) (q_p_eq g10)
    unfold m_X3_y_18
    exact q_ok_some rfl
  · have f12 := q_neV q_evr (show q_eqv ((0 : Int32)).toInt (0) by unfold q_eqv; decide) (q_n_eq g10)
    refine q_ok_atS hG (q_trI mo ro) rfl (fun mo ro => ?_)
    have t13 := g_15_R1 hG mo ro
    refine q_ok_at hG t13 rfl (fun a14 ma14 ra14 ea14 => ?_)
    refine q_ok_if (q_inV (g_17_N hG ma14 ra14) q_evr (by omega) (by omega)) ?_
    unfold m_X3_y_18
    exact q_ok_some rfl
def M_X2_tracePoint_36_15 : List Nat := [2305, 2306, 2307, 2368]
set_option maxHeartbeats 4000000 in
set_option maxRecDepth 100000 in
theorem s_X2_tracePoint_36_15_128 {ρ : Nat → Nat} {L : List Nat} {n : Nat} (hn : 18446744073709551616 ≤ n) {S0 : q_S}  (S : q_S) (hG : q_G ρ L M_X2_tracePoint_36_15 S0 S) : q_ok (m_X2_tracePoint_128 n S) (fun _ T => q_G ρ L M_X2_tracePoint_36_15 S0 T) := by
  unfold m_X2_tracePoint_128
  have z0 : (0 : Int32).toInt = 0 := rfl
  exact q_ok_some hG
set_option maxHeartbeats 4000000 in
set_option maxRecDepth 100000 in
theorem s_X2_tracePoint_36_15 {ρ : Nat → Nat} {L : List Nat} {n : Nat} (hn : 18446744073709551616 ≤ n) {S : q_S} (hI : q_Inv ρ L S) {o : Nat} (mo : o ∈ L) (ro : ρ o = 36) {p0 : Option Nat} (tp0 : q_tr ρ L p0 15) {p1 : Int32} (hp1 : (0 ≤ p1.toInt ∧ p1.toInt ≤ 119)) {p2 : Int32} {p3 : Int32} : q_ok (m_X2_tracePoint n S o p0 p1 p2 p3) (fun _ T => q_G ρ L M_X2_tracePoint_36_15 S T) := by
  have hG : q_G ρ L M_X2_tracePoint_36_15 S S := q_G_refl hI
  unfold m_X2_tracePoint
  have z0 : (0 : Int32).toInt = 0 := rfl
  refine q_ok_at hG tp0 rfl (fun a1 ma1 ra1 ea1 => ?_)
  refine q_ok_b (s_X3_x_15 hn hG.1 ma1 ra1) (fun r2 S3 h4 => ?_)
  have eS3 := h4
  replace eS3 := eS3.symm
  subst eS3
  refine q_ok_atA hG ea1 ma1 ra1 rfl ?_
  refine q_ok_b (s_X3_y_15 hn hG.1 ma1 ra1) (fun r5 S6 h7 => ?_)
  have eS6 := h7
  replace eS6 := eS6.symm
  subst eS6
  refine q_ok_atA hG ea1 ma1 ra1 rfl ?_
  refine q_ok_b (s_X3_x_15 hn hG.1 ma1 ra1) (fun r8 S9 h10 => ?_)
  have eS9 := h10
  replace eS9 := eS9.symm
  subst eS9
  refine q_ok_atA hG ea1 ma1 ra1 rfl ?_
  refine q_ok_b (s_X3_y_15 hn hG.1 ma1 ra1) (fun r11 S12 h13 => ?_)
  have eS12 := h13
  replace eS12 := eS12.symm
  subst eS12
  refine q_ok_atA hG ea1 ma1 ra1 rfl ?_
  refine q_ok_b (s_X3_isOn_15 hn hG.1 ma1 ra1) (fun r14 S15 h16 => ?_)
  obtain ⟨eS15, h16⟩ := h16
  replace eS15 := eS15.symm
  subst eS15
  have f17 := h16
  refine q_ok_atA hG ea1 ma1 ra1 rfl ?_
  refine q_ok_b (s_X3_isOn_15 hn hG.1 ma1 ra1) (fun r18 S19 h20 => ?_)
  obtain ⟨eS19, h20⟩ := h20
  replace eS19 := eS19.symm
  subst eS19
  have f21 := h20
  refine q_ok_ite (fun g22 => ?_) (fun g22 => ?_)
  · have f23 := q_eqV q_evr (show q_eqv ((0 : Int32)).toInt (0) by unfold q_eqv; decide) (q_p_eq g22)
    refine q_ok_ite (fun g24 => ?_) (fun g24 => ?_)
    · have f25 := q_eqV q_evr (show q_eqv ((0 : Int32)).toInt (0) by unfold q_eqv; decide) (q_p_eq g24)
      unfold m_X2_tracePoint_71
      refine q_ok_ite (fun g26 => ?_) (fun g26 => ?_)
      · have f27 := q_eqV q_evr (show q_eqv ((0 : Int32)).toInt (0) by unfold q_eqv; decide) (q_p_eq g26)
        unfold m_X2_tracePoint_86
        refine q_ok_atS hG (q_trI mo ro) rfl (fun mo ro => ?_)
        refine q_ok_b (s_X2_put_36 hn hG.1 mo ro (q_wd hp1 (by decide) (by decide)) (q_wd (show (1 : Int) ≤ (1 : Int32).toInt ∧ (1 : Int32).toInt ≤ (1 : Int) by decide) (by decide) (by decide))) (fun r28 S29 h30 => ?_)
        have hG := q_G_call hG h30 (by decide)
        exact q_ok_some hG
      · have f31 := q_neV q_evr (show q_eqv ((0 : Int32)).toInt (0) by unfold q_eqv; decide) (q_n_eq g26)
        exfalso; omega
    · have f32 := q_neV q_evr (show q_eqv ((0 : Int32)).toInt (0) by unfold q_eqv; decide) (q_n_eq g24)
      unfold m_X2_tracePoint_71
      refine q_ok_ite (fun g33 => ?_) (fun g33 => ?_)
      · have f34 := q_eqV q_evr (show q_eqv ((0 : Int32)).toInt (0) by unfold q_eqv; decide) (q_p_eq g33)
        exfalso; omega
      · have f35 := q_neV q_evr (show q_eqv ((0 : Int32)).toInt (0) by unfold q_eqv; decide) (q_n_eq g33)
        unfold m_X2_tracePoint_86
        refine q_ok_atS hG (q_trI mo ro) rfl (fun mo ro => ?_)
        refine q_ok_b (s_X2_put_36 hn hG.1 mo ro (q_wd hp1 (by decide) (by decide)) (q_wd (show (1 : Int) ≤ (1 : Int32).toInt ∧ (1 : Int32).toInt ≤ (1 : Int) by decide) (by decide) (by decide))) (fun r36 S37 h38 => ?_)
        have hG := q_G_call hG h38 (by decide)
        exact q_ok_some hG
  · have f39 := q_neV q_evr (show q_eqv ((0 : Int32)).toInt (0) by unfold q_eqv; decide) (q_n_eq g22)
    refine q_ok_atS hG (q_trI mo ro) rfl (fun mo ro => ?_)
    have hG := u_36_I2 (x := (2 : Int32) * r2) hG mo ro (by decide)
    have hG := u_36_I3 (x := (2 : Int32) * r5) hG mo ro (by decide)
    refine q_ok_ite (fun g40 => ?_) (fun g40 => ?_)
    · have f41 := q_eqV q_evr (show q_eqv ((0 : Int32)).toInt (0) by unfold q_eqv; decide) (q_p_eq g40)
      exact s_X2_tracePoint_36_15_128 hn _ hG 
    · have f42 := q_neV q_evr (show q_eqv ((0 : Int32)).toInt (0) by unfold q_eqv; decide) (q_n_eq g40)
      refine q_ok_b (s_X2_put_36 hn hG.1 mo ro (q_wd hp1 (by decide) (by decide)) (q_wd (show (0 : Int) ≤ (0 : Int32).toInt ∧ (0 : Int32).toInt ≤ (0 : Int) by decide) (by decide) (by decide))) (fun r43 S44 h45 => ?_)
      have hG := q_G_call hG h45 (by decide)
      exact s_X2_tracePoint_36_15_128 hn _ hG 
