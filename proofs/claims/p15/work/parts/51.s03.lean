set_option maxHeartbeats 4000000 in
set_option maxRecDepth 100000 in
theorem s_X10_one_38 {ρ : Nat → Nat} {L : List Nat} {n : Nat} (hn : 18446744073709551616 ≤ n) {S : q_S} (hI : q_Inv ρ L S) {o : Nat} (mo : o ∈ L) (ro : ρ o = 38) {p0 : Int32} : q_ok (m_X10_one n S o p0) (fun r T => T = S ∧ (-1 ≤ r.toInt ∧ r.toInt ≤ 255)) := by
  have hG : q_G ρ L [] S S := q_G_refl hI
  unfold m_X10_one
  have z0 : (0 : Int32).toInt = 0 := rfl
  refine q_ok_atS hG (q_trI mo ro) rfl (fun mo ro => ?_)
  have t1 := g_38_R3 hG mo ro
  have t2 := g_38_R3 hG mo ro
  refine q_ok_at hG t1 rfl (fun a3 ma3 ra3 ea3 => ?_)
  refine q_ok_b (s_X4_size_39 hn hG.1 ma3 ra3) (fun r4 S5 h6 => ?_)
  obtain ⟨eS5, h6⟩ := h6
  replace eS5 := eS5.symm
  subst eS5
  have f7 := h6
  refine q_ok_atA hG ea3 ma3 ra3 rfl ?_
  obtain ⟨v11, ev11⟩ := q_ev ((p0.toInt64).toInt)
  have f12 := q_rVI (x := p0) q_evr
  have f13 : v11 = p0.toInt := q_i2lV ev11 q_evr
  refine q_ok_b (s_X4_one_39 hn hG.1 ma3 ra3 (q_oV ev11 (by omega) (by omega)) (q_wd (q_i2lB f7) (by decide) (by decide))) (fun r8 S9 h10 => ?_)
  obtain ⟨eS9, h10⟩ := h10
  replace eS9 := eS9.symm
  subst eS9
  have f14 := h10
  exact q_ok_some ⟨rfl, (q_wd f14 (by decide) (by decide))⟩
def M_X4_push_1 : List Nat := [65, 128]
set_option maxHeartbeats 4000000 in
set_option maxRecDepth 100000 in
theorem s_X4_push_1 {ρ : Nat → Nat} {L : List Nat} {n : Nat} (hn : 18446744073709551616 ≤ n) {S : q_S} (hI : q_Inv ρ L S) {o : Nat} (mo : o ∈ L) (ro : ρ o = 1) {p0 : Int32} : q_ok (m_X4_push n S o p0) (fun _ T => q_G ρ L M_X4_push_1 S T) := by
  have hG : q_G ρ L M_X4_push_1 S S := q_G_refl hI
  unfold m_X4_push
  have z0 : (0 : Int32).toInt = 0 := rfl
  refine q_ok_atS hG (q_trI mo ro) rfl (fun mo ro => ?_)
  have f1 : q_sm _ := g_1_I1 hG mo ro
  have t2 := g_1_R0 hG mo ro
  refine q_ok_at hG t2 rfl (fun a3 ma3 ra3 ea3 => ?_)
  have t4 := g_2_N hG ma3 ra3
  obtain ⟨v5, ev5⟩ := q_ev ((q_I (S) o 1).toInt)
  have f6 := q_bV ev5 f1
  obtain ⟨v7, ev7⟩ := q_ev ((nI (q_N (S) a3)).toInt)
  have f8 := q_lenV ev7 t4 (by decide)
  refine q_ok_ite (fun g9 => ?_) (fun g9 => ?_)
  · have f10 := q_leV ev7 ev5 (q_p_ge g9)
    unfold m_X4_push_36
    exact q_ok_some hG
  · have f11 := q_ltV ev5 ev7 (q_n_ge g9)
    have t12 := g_1_R0 hG mo ro
    refine q_ok_if (q_inV (g_2_N hG ma3 ra3) ev5 (by omega) (by omega)) ?_
    obtain ⟨v13, ev13⟩ := q_ev ((p0 &&& (255 : Int32)).toInt)
    have f14 := q_andRVI ev13 (show q_eqv ((255 : Int32)).toInt (255) by unfold q_eqv; decide) (by omega)
    have hG := u_2_E (k := (q_I (S) o 1).toNatClampNeg) (x := p0 &&& (255 : Int32)) hG ma3 ra3 (by decide) (q_oV ev13 (by omega) (by omega))
    have f15 : q_sm _ := g_1_I1 hG mo ro
    have e16 : q_I (q_sI (S) a3 (q_I (S) o 1).toNatClampNeg (p0 &&& (255 : Int32))) o 1 = q_I (S) o 1 := (q_fwI ro ra3 (by decide))
    obtain ⟨v17, ev17⟩ := q_ev (((q_I (q_sI (S) a3 (q_I (S) o 1).toNatClampNeg (p0 &&& (255 : Int32))) o 1) + (1 : Int32)).toInt)
    obtain ⟨v18, ev18⟩ := q_ev ((q_I (q_sI (S) a3 (q_I (S) o 1).toNatClampNeg (p0 &&& (255 : Int32))) o 1).toInt)
    have f19 : v18 = v5 := q_eqVI e16 ev18 ev5
    have f20 : v17 = v18 + (1) := q_addVI ev17 ev18 (show q_eqv ((1 : Int32)).toInt (1) by unfold q_eqv; decide) (by omega) (by omega)
    have hG := u_1_I1 (x := (q_I (q_sI (S) a3 (q_I (S) o 1).toNatClampNeg (p0 &&& (255 : Int32))) o 1) + (1 : Int32)) hG mo ro (by decide) (q_oV ev17 (by omega) (by omega))
    unfold m_X4_push_36
    exact q_ok_some hG
set_option maxHeartbeats 4000000 in
set_option maxRecDepth 100000 in
theorem s_X4_size_1 {ρ : Nat → Nat} {L : List Nat} {n : Nat} (hn : 18446744073709551616 ≤ n) {S : q_S} (hI : q_Inv ρ L S) {o : Nat} (mo : o ∈ L) (ro : ρ o = 1) : q_ok (m_X4_size n S o) (fun r T => T = S ∧ (0 ≤ r.toInt ∧ r.toInt ≤ 1600)) := by
  have hG : q_G ρ L [] S S := q_G_refl hI
  unfold m_X4_size
  have z0 : (0 : Int32).toInt = 0 := rfl
  refine q_ok_atS hG (q_trI mo ro) rfl (fun mo ro => ?_)
  have f1 : q_sm _ := g_1_I1 hG mo ro
  exact q_ok_some ⟨rfl, (q_wd f1 (by decide) (by decide))⟩
def M_X11_add_0 : List Nat := [65, 128]
set_option maxHeartbeats 4000000 in
set_option maxRecDepth 100000 in
theorem s_X11_add_0_26 {ρ : Nat → Nat} {L : List Nat} {n : Nat} (hn : 18446744073709551616 ≤ n) {S0 : q_S}  (S : q_S) (hG : q_G ρ L M_X11_add_0 S0 S) : q_ok (m_X11_add_26 n S) (fun r T => q_G ρ L M_X11_add_0 S0 T ∧ (-1 ≤ r.toInt ∧ r.toInt ≤ 1600)) := by
  unfold m_X11_add_26
  have z0 : (0 : Int32).toInt = 0 := rfl
  exact q_ok_some ⟨hG, (q_wd (show (-1 : Int) ≤ (-1 : Int32).toInt ∧ (-1 : Int32).toInt ≤ (-1 : Int) by decide) (by decide) (by decide))⟩
set_option maxHeartbeats 4000000 in
set_option maxRecDepth 100000 in
theorem s_X11_add_0_31 {ρ : Nat → Nat} {L : List Nat} {n : Nat} (hn : 18446744073709551616 ≤ n) {S0 : q_S}  : ∀ (k : Nat) (S : q_S) (l0 : Option Nat) (l1 : Int64) (l3 : Int32) (l4 : Int32), q_G ρ L M_X11_add_0 S0 S → q_tr ρ L l0 0 → (1 ≤ l3.toInt ∧ l3.toInt ≤ 8) → (0 ≤ l4.toInt ∧ l4.toInt ≤ 8) → 2147483648 - l4.toInt ≤ (k : Int) → q_ok (m_X11_add_31 n k S l0 l1 l3 l4) (fun r T => q_G ρ L M_X11_add_0 S0 T ∧ (-1 ≤ r.toInt ∧ r.toInt ≤ 1600)) := by
  intro k
  induction k with
  | zero =>
    intro S l0 l1 l3 l4 hG hl0 hl3 hl4 hm
    have f0 := q_rngI l4
    exfalso; omega
  | succ k ih =>
    intro S l0 l1 l3 l4 hG hl0 hl3 hl4 hm
    rw [m_X11_add_31]
    have z0 : (0 : Int32).toInt = 0 := rfl
    refine q_ok_ite (fun g1 => ?_) (fun g1 => ?_)
    · have f2 := q_leV q_evr q_evr (q_p_ge g1)
      refine q_ok_at hG hl0 rfl (fun a3 ma3 ra3 ea3 => ?_)
      have t4 := g_0_R0 hG ma3 ra3
      refine q_ok_at hG t4 rfl (fun a5 ma5 ra5 ea5 => ?_)
      refine q_ok_b (s_X4_size_1 hn hG.1 ma5 ra5) (fun r6 S7 h8 => ?_)
      obtain ⟨eS7, h8⟩ := h8
      replace eS7 := eS7.symm
      subst eS7
      have f9 := h8
      exact q_ok_some ⟨hG, (q_wd f9 (by decide) (by decide))⟩
    · have f10 := q_ltV q_evr q_evr (q_n_ge g1)
      refine q_ok_at hG hl0 rfl (fun a11 ma11 ra11 ea11 => ?_)
      have t12 := g_0_R0 hG ma11 ra11
      refine q_ok_at hG t12 rfl (fun a13 ma13 ra13 ea13 => ?_)
      refine q_ok_b (s_X4_push_1 hn hG.1 ma13 ra13) (fun r14 S15 h16 => ?_)
      have hG := q_G_call hG h16 (by decide)
      obtain ⟨v17, ev17⟩ := q_ev ((l4 + (1)).toInt)
      have f18 : v17 = l4.toInt + (1) := q_addVI ev17 q_evr (show q_eqv ((1 : Int32)).toInt (1) by unfold q_eqv; decide) (by omega) (by omega)
      exact ih _ _ _ _ _ hG hl0 (q_wd hl3 (by decide) (by decide)) (q_oV ev17 (by omega) (by omega))  (q_upV ev17 (by omega))
set_option maxHeartbeats 4000000 in
set_option maxRecDepth 100000 in
theorem s_X11_add_0 {ρ : Nat → Nat} {L : List Nat} {n : Nat} (hn : 18446744073709551616 ≤ n) {S : q_S} (hI : q_Inv ρ L S) {o : Nat} (mo : o ∈ L) (ro : ρ o = 0) {p0 : Int64} {p1 : Int32} : q_ok (m_X11_add n S o p0 p1) (fun r T => q_G ρ L M_X11_add_0 S T ∧ (-1 ≤ r.toInt ∧ r.toInt ≤ 1600)) := by
  have hG : q_G ρ L M_X11_add_0 S S := q_G_refl hI
  unfold m_X11_add
  have z0 : (0 : Int32).toInt = 0 := rfl
  have f1 := q_rVI (x := p1) q_evr
  refine q_ok_ite (fun g2 => ?_) (fun g2 => ?_)
  · have f3 := q_ltV q_evr (show q_eqv ((1 : Int32)).toInt (1) by unfold q_eqv; decide) (q_p_lt g2)
    exact s_X11_add_0_26 hn _ hG 
  · have f4 := q_leV (show q_eqv ((1 : Int32)).toInt (1) by unfold q_eqv; decide) q_evr (q_n_lt g2)
    refine q_ok_ite (fun g5 => ?_) (fun g5 => ?_)
    · have f6 := q_ltV (show q_eqv ((8 : Int32)).toInt (8) by unfold q_eqv; decide) q_evr (q_p_gt g5)
      exact s_X11_add_0_26 hn _ hG 
    · have f7 := q_leV q_evr (show q_eqv ((8 : Int32)).toInt (8) by unfold q_eqv; decide) (q_n_gt g5)
      refine q_ok_atS hG (q_trI mo ro) rfl (fun mo ro => ?_)
      have t8 := g_0_R0 hG mo ro
      refine q_ok_at hG t8 rfl (fun a9 ma9 ra9 ea9 => ?_)
      refine q_ok_b (s_X4_size_1 hn hG.1 ma9 ra9) (fun r10 S11 h12 => ?_)
      obtain ⟨eS11, h12⟩ := h12
      replace eS11 := eS11.symm
      subst eS11
      have f13 := h12
      obtain ⟨v14, ev14⟩ := q_ev ((r10 + p1).toInt)
      have f15 : v14 = r10.toInt + p1.toInt := q_addVI ev14 q_evr q_evr (by omega) (by omega)
      refine q_ok_ite (fun g16 => ?_) (fun g16 => ?_)
      · have f17 := q_leV ev14 (show q_eqv ((1600 : Int32)).toInt (1600) by unfold q_eqv; decide) (q_p_le g16)
        exact s_X11_add_0_31 hn n _ _ _ _ _ hG (q_trI mo ro) (q_oV q_evr (by omega) (by omega)) (q_wd (show (0 : Int) ≤ (0 : Int32).toInt ∧ (0 : Int32).toInt ≤ (0 : Int) by decide) (by decide) (by decide))  (q_upV (show q_eqv ((0 : Int32)).toInt (0) by unfold q_eqv; decide) (by omega))
      · have f18 := q_ltV (show q_eqv ((1600 : Int32)).toInt (1600) by unfold q_eqv; decide) ev14 (q_n_le g16)
        exact s_X11_add_0_26 hn _ hG 
set_option maxHeartbeats 4000000 in
set_option maxRecDepth 100000 in
theorem s_X11_at_0 {ρ : Nat → Nat} {L : List Nat} {n : Nat} (hn : 18446744073709551616 ≤ n) {S : q_S} (hI : q_Inv ρ L S) {o : Nat} (mo : o ∈ L) (ro : ρ o = 0) {p0 : Int32} : q_ok (m_X11_at n S o p0) (fun r T => T = S ∧ (-1 ≤ r.toInt ∧ r.toInt ≤ 255)) := by
  have hG : q_G ρ L [] S S := q_G_refl hI
  unfold m_X11_at
  have z0 : (0 : Int32).toInt = 0 := rfl
  refine q_ok_atS hG (q_trI mo ro) rfl (fun mo ro => ?_)
  have t1 := g_0_R7 hG mo ro
  refine q_ok_at hG t1 rfl (fun a2 ma2 ra2 ea2 => ?_)
  refine q_ok_b (s_X10_one_38 hn hG.1 ma2 ra2) (fun r3 S4 h5 => ?_)
  obtain ⟨eS4, h5⟩ := h5
  replace eS4 := eS4.symm
  subst eS4
  have f6 := h5
  exact q_ok_some ⟨rfl, (q_wd f6 (by decide) (by decide))⟩
set_option maxHeartbeats 4000000 in
set_option maxRecDepth 100000 in
theorem s_X3_contours_15 {ρ : Nat → Nat} {L : List Nat} {n : Nat} (hn : 18446744073709551616 ≤ n) {S : q_S} (hI : q_Inv ρ L S) {o : Nat} (mo : o ∈ L) (ro : ρ o = 15) : q_ok (m_X3_contours n S o) (fun r T => T = S ∧ (0 ≤ r.toInt ∧ r.toInt ≤ 120)) := by
  have hG : q_G ρ L [] S S := q_G_refl hI
  unfold m_X3_contours
  have z0 : (0 : Int32).toInt = 0 := rfl
  refine q_ok_atS hG (q_trI mo ro) rfl (fun mo ro => ?_)
  have f1 : q_sm _ := g_15_I5 hG mo ro
  exact q_ok_some ⟨rfl, (q_wd f1 (by decide) (by decide))⟩
set_option maxHeartbeats 4000000 in
set_option maxRecDepth 100000 in
theorem s_X3_size_15 {ρ : Nat → Nat} {L : List Nat} {n : Nat} (hn : 18446744073709551616 ≤ n) {S : q_S} (hI : q_Inv ρ L S) {o : Nat} (mo : o ∈ L) (ro : ρ o = 15) : q_ok (m_X3_size n S o) (fun r T => T = S ∧ (0 ≤ r.toInt ∧ r.toInt ≤ 120)) := by
  have hG : q_G ρ L [] S S := q_G_refl hI
  unfold m_X3_size
  have z0 : (0 : Int32).toInt = 0 := rfl
  refine q_ok_atS hG (q_trI mo ro) rfl (fun mo ro => ?_)
  have f1 : q_sm _ := g_15_I4 hG mo ro
  exact q_ok_some ⟨rfl, (q_wd f1 (by decide) (by decide))⟩
set_option maxHeartbeats 4000000 in
set_option maxRecDepth 100000 in
theorem s_X5_points_14 {ρ : Nat → Nat} {L : List Nat} {n : Nat} (hn : 18446744073709551616 ≤ n) {S : q_S} (hI : q_Inv ρ L S) {o : Nat} (mo : o ∈ L) (ro : ρ o = 14) : q_ok (m_X5_points n S o) (fun r T => T = S ∧ r ∈ L ∧ ρ r = 15) := by
  have hG : q_G ρ L [] S S := q_G_refl hI
  unfold m_X5_points
  have z0 : (0 : Int32).toInt = 0 := rfl
  refine q_ok_atS hG (q_trI mo ro) rfl (fun mo ro => ?_)
  have t1 := g_14_R2 hG mo ro
  refine q_ok_at hG t1 rfl (fun a2 ma2 ra2 ea2 => ?_)
  exact q_ok_some ⟨rfl, ma2, ra2⟩
set_option maxHeartbeats 4000000 in
set_option maxRecDepth 100000 in
theorem s_X6_used_9 {ρ : Nat → Nat} {L : List Nat} {n : Nat} (hn : 18446744073709551616 ≤ n) {S : q_S} (hI : q_Inv ρ L S) {o : Nat} (mo : o ∈ L) (ro : ρ o = 9) : q_ok (m_X6_used n S o) (fun r T => T = S ∧ (0 ≤ r.toInt ∧ r.toInt ≤ 200)) := by
  have hG : q_G ρ L [] S S := q_G_refl hI
  unfold m_X6_used
  have z0 : (0 : Int32).toInt = 0 := rfl
  refine q_ok_atS hG (q_trI mo ro) rfl (fun mo ro => ?_)
  have f1 : q_sm _ := g_9_I4 hG mo ro
  exact q_ok_some ⟨rfl, (q_wd f1 (by decide) (by decide))⟩
set_option maxHeartbeats 4000000 in
set_option maxRecDepth 100000 in
theorem s_X11_count_0 {ρ : Nat → Nat} {L : List Nat} {n : Nat} (hn : 18446744073709551616 ≤ n) {S : q_S} (hI : q_Inv ρ L S) {o : Nat} (mo : o ∈ L) (ro : ρ o = 0) {p0 : Int32} : q_ok (m_X11_count n S o p0) (fun r T => T = S ∧ (-1 ≤ r.toInt ∧ r.toInt ≤ 200)) := by
  have hG : q_G ρ L [] S S := q_G_refl hI
  unfold m_X11_count
  have z0 : (0 : Int32).toInt = 0 := rfl
  have f1 := q_rVI (x := p0) q_evr
  refine q_ok_ite (fun g2 => ?_) (fun g2 => ?_)
  · have f3 := q_eqV q_evr (show q_eqv ((0 : Int32)).toInt (0) by unfold q_eqv; decide) (q_p_eq g2)
    refine q_ok_atS hG (q_trI mo ro) rfl (fun mo ro => ?_)
    have t4 := g_0_R2 hG mo ro
    refine q_ok_at hG t4 rfl (fun a5 ma5 ra5 ea5 => ?_)
    refine q_ok_b (s_X8_size_6 hn hG.1 ma5 ra5) (fun r6 S7 h8 => ?_)
    obtain ⟨eS7, h8⟩ := h8
    replace eS7 := eS7.symm
    subst eS7
    have f9 := h8
    exact q_ok_some ⟨rfl, (q_wd f9 (by decide) (by decide))⟩
  have f10 := q_neV q_evr (show q_eqv ((0 : Int32)).toInt (0) by unfold q_eqv; decide) (q_n_eq g2)
  refine q_ok_ite (fun g11 => ?_) (fun g11 => ?_)
  · have f12 := q_eqV q_evr (show q_eqv ((1 : Int32)).toInt (1) by unfold q_eqv; decide) (q_p_eq g11)
    refine q_ok_atS hG (q_trI mo ro) rfl (fun mo ro => ?_)
    have t13 := g_0_R3 hG mo ro
    refine q_ok_at hG t13 rfl (fun a14 ma14 ra14 ea14 => ?_)
    refine q_ok_b (s_X6_size_9 hn hG.1 ma14 ra14) (fun r15 S16 h17 => ?_)
    obtain ⟨eS16, h17⟩ := h17
    replace eS16 := eS16.symm
    subst eS16
    have f18 := h17
    exact q_ok_some ⟨rfl, (q_wd f18 (by decide) (by decide))⟩
  have f19 := q_neV q_evr (show q_eqv ((1 : Int32)).toInt (1) by unfold q_eqv; decide) (q_n_eq g11)
  refine q_ok_ite (fun g20 => ?_) (fun g20 => ?_)
  · have f21 := q_eqV q_evr (show q_eqv ((2 : Int32)).toInt (2) by unfold q_eqv; decide) (q_p_eq g20)
    refine q_ok_atS hG (q_trI mo ro) rfl (fun mo ro => ?_)
    have t22 := g_0_R3 hG mo ro
    refine q_ok_at hG t22 rfl (fun a23 ma23 ra23 ea23 => ?_)
    refine q_ok_b (s_X6_used_9 hn hG.1 ma23 ra23) (fun r24 S25 h26 => ?_)
    obtain ⟨eS25, h26⟩ := h26
    replace eS25 := eS25.symm
    subst eS25
    have f27 := h26
    exact q_ok_some ⟨rfl, (q_wd f27 (by decide) (by decide))⟩
  have f28 := q_neV q_evr (show q_eqv ((2 : Int32)).toInt (2) by unfold q_eqv; decide) (q_n_eq g20)
  refine q_ok_ite (fun g29 => ?_) (fun g29 => ?_)
  · have f30 := q_eqV q_evr (show q_eqv ((3 : Int32)).toInt (3) by unfold q_eqv; decide) (q_p_eq g29)
    refine q_ok_atS hG (q_trI mo ro) rfl (fun mo ro => ?_)
    have t31 := g_0_R5 hG mo ro
    refine q_ok_at hG t31 rfl (fun a32 ma32 ra32 ea32 => ?_)
    refine q_ok_b (s_X5_points_14 hn hG.1 ma32 ra32) (fun r33 S34 h35 => ?_)
    obtain ⟨eS34, h35⟩ := h35
    replace eS34 := eS34.symm
    subst eS34
    refine q_ok_atS hG (q_trI h35.1 h35.2) rfl (fun mr33 rr33 => ?_)
    refine q_ok_b (s_X3_size_15 hn hG.1 mr33 rr33) (fun r36 S37 h38 => ?_)
    obtain ⟨eS37, h38⟩ := h38
    replace eS37 := eS37.symm
    subst eS37
    have f39 := h38
    exact q_ok_some ⟨rfl, (q_wd f39 (by decide) (by decide))⟩
  have f40 := q_neV q_evr (show q_eqv ((3 : Int32)).toInt (3) by unfold q_eqv; decide) (q_n_eq g29)
  refine q_ok_ite (fun g41 => ?_) (fun g41 => ?_)
  · have f42 := q_eqV q_evr (show q_eqv ((4 : Int32)).toInt (4) by unfold q_eqv; decide) (q_p_eq g41)
    refine q_ok_atS hG (q_trI mo ro) rfl (fun mo ro => ?_)
    have t43 := g_0_R5 hG mo ro
    refine q_ok_at hG t43 rfl (fun a44 ma44 ra44 ea44 => ?_)
    refine q_ok_b (s_X5_points_14 hn hG.1 ma44 ra44) (fun r45 S46 h47 => ?_)
    obtain ⟨eS46, h47⟩ := h47
    replace eS46 := eS46.symm
    subst eS46
    refine q_ok_atS hG (q_trI h47.1 h47.2) rfl (fun mr45 rr45 => ?_)
    refine q_ok_b (s_X3_contours_15 hn hG.1 mr45 rr45) (fun r48 S49 h50 => ?_)
    obtain ⟨eS49, h50⟩ := h50
    replace eS49 := eS49.symm
    subst eS49
    have f51 := h50
    exact q_ok_some ⟨rfl, (q_wd f51 (by decide) (by decide))⟩
  have f52 := q_neV q_evr (show q_eqv ((4 : Int32)).toInt (4) by unfold q_eqv; decide) (q_n_eq g41)
  refine q_ok_if (by omega) ?_
  exact q_ok_some ⟨rfl, (q_wd (show (-1 : Int) ≤ (-1 : Int32).toInt ∧ (-1 : Int32).toInt ≤ (-1 : Int) by decide) (by decide) (by decide))⟩
def M_X6_mark_9 : List Nat := [580, 640, 704]
set_option maxHeartbeats 4000000 in
set_option maxRecDepth 100000 in
theorem s_X6_mark_9 {ρ : Nat → Nat} {L : List Nat} {n : Nat} (hn : 18446744073709551616 ≤ n) {S : q_S} (hI : q_Inv ρ L S) {o : Nat} (mo : o ∈ L) (ro : ρ o = 9) {p0 : Int32} (hp0 : (0 ≤ p0.toInt ∧ p0.toInt ≤ 65535)) : q_ok (m_X6_mark n S o p0) (fun _ T => q_G ρ L M_X6_mark_9 S T) := by
  have hG : q_G ρ L M_X6_mark_9 S S := q_G_refl hI
  unfold m_X6_mark
  have z0 : (0 : Int32).toInt = 0 := rfl
  refine q_ok_atS hG (q_trI mo ro) rfl (fun mo ro => ?_)
  refine q_ok_b (s_X6_has_9 hn hG.1 mo ro) (fun r1 S2 h3 => ?_)
  obtain ⟨eS2, h3⟩ := h3
  replace eS2 := eS2.symm
  subst eS2
  have f4 := h3
  obtain ⟨v5, ev5⟩ := q_ev ((q_I (S) o 5).toInt)
  have f6 := q_bV ev5 (g_9_I5 hG mo ro)
  have f7 : r1.toInt = 1 → (0) ≤ p0.toInt := fun h9 => q_leV (show q_eqv ((0 : Int32)).toInt (0) by unfold q_eqv; decide) q_evr (f4.2 h9).1
  have f8 : r1.toInt = 1 → p0.toInt < v5 := fun h9 => q_ltV q_evr ev5 (f4.2 h9).2
  refine q_ok_ite (fun g9 => ?_) (fun g9 => ?_)
  · have f10 := q_eqV q_evr (show q_eqv ((0 : Int32)).toInt (0) by unfold q_eqv; decide) (q_p_eq g9)
    unfold m_X6_mark_54
    exact q_ok_some hG
  · have f11 := q_neV q_evr (show q_eqv ((0 : Int32)).toInt (0) by unfold q_eqv; decide) (q_n_eq g9)
    refine q_ok_atS hG (q_trI mo ro) rfl (fun mo ro => ?_)
    have t12 := g_9_R2 hG mo ro
    refine q_ok_at hG t12 rfl (fun a13 ma13 ra13 ea13 => ?_)
    refine q_ok_if (q_inV (g_10_N hG ma13 ra13) q_evr (by omega) (by omega)) ?_
    have f14 : q_sm _ := g_10_E hG ma13 ra13 (k := (p0).toNatClampNeg)
    obtain ⟨v15, ev15⟩ := q_ev ((q_I (S) a13 (p0).toNatClampNeg).toInt)
    have f16 := q_bV ev15 f14
    refine q_ok_ite (fun g17 => ?_) (fun g17 => ?_)
    · have f18 := q_eqV ev15 (show q_eqv ((0 : Int32)).toInt (0) by unfold q_eqv; decide) (q_p_eq g17)
      have f19 : q_sm _ := g_9_I4 hG mo ro
      obtain ⟨v20, ev20⟩ := q_ev ((q_I (S) o 4).toInt)
      have f21 := q_bV ev20 f19
      refine q_ok_ite (fun g22 => ?_) (fun g22 => ?_)
      · have f23 := q_leV (show q_eqv ((200 : Int32)).toInt (200) by unfold q_eqv; decide) ev20 (q_p_ge g22)
        unfold m_X6_mark_54
        exact q_ok_some hG
      · have f24 := q_ltV ev20 (show q_eqv ((200 : Int32)).toInt (200) by unfold q_eqv; decide) (q_n_ge g22)
        have t25 := g_9_R2 hG mo ro
        refine q_ok_if (q_inV (g_10_N hG ma13 ra13) q_evr (by omega) (by omega)) ?_
        obtain ⟨v26, ev26⟩ := q_ev ((vp_nar .boolean ((1 : Int32))).toInt)
        have f27 : v26 = (1) := q_narV ev26 (show q_eqv ((1 : Int32)).toInt (1) by unfold q_eqv; decide) (by omega) (by omega)
        have hG := u_10_E (k := (p0).toNatClampNeg) (x := vp_nar .boolean ((1 : Int32))) hG ma13 ra13 (by decide) (q_oV ev26 (by omega) (by omega))
        have t28 := g_9_R3 hG mo ro
        have f29 : q_sm _ := g_9_I4 hG mo ro
        have e30 : q_I (q_sI (S) a13 (p0).toNatClampNeg (vp_nar .boolean ((1 : Int32)))) o 4 = q_I (S) o 4 := (q_fwI ro ra13 (by decide))
        refine q_ok_at hG t28 rfl (fun a31 ma31 ra31 ea31 => ?_)
        obtain ⟨v32, ev32⟩ := q_ev ((q_I (q_sI (S) a13 (p0).toNatClampNeg (vp_nar .boolean ((1 : Int32)))) o 4).toInt)
        have f33 : v32 = v20 := q_eqVI e30 ev32 ev20
        refine q_ok_if (q_inV (g_11_N hG ma31 ra31) ev32 (by omega) (by omega)) ?_
        have hG := u_11_E (k := (q_I (q_sI (S) a13 (p0).toNatClampNeg (vp_nar .boolean ((1 : Int32)))) o 4).toNatClampNeg) (x := p0) hG ma31 ra31 (by decide) (q_oV q_evr (by omega) (by omega))
        refine q_ok_let (fun S34 eS34 => ?_)
        rw [← eS34] at hG
        have f35 : q_sm _ := g_9_I4 hG mo ro
        have e36 : q_I (S34) o 4 = q_I (q_sI (S) a13 (p0).toNatClampNeg (vp_nar .boolean ((1 : Int32)))) o 4 := (Eq.trans (q_leI eS34) (q_fwI ro ra31 (by decide)))
        obtain ⟨v37, ev37⟩ := q_ev (((q_I (S34) o 4) + (1 : Int32)).toInt)
        obtain ⟨v38, ev38⟩ := q_ev ((q_I (S34) o 4).toInt)
        have f39 : v38 = v32 := q_eqVI e36 ev38 ev32
        have f40 : v37 = v38 + (1) := q_addVI ev37 ev38 (show q_eqv ((1 : Int32)).toInt (1) by unfold q_eqv; decide) (by omega) (by omega)
        have hG := u_9_I4 (x := (q_I (S34) o 4) + (1 : Int32)) hG mo ro (by decide) (q_oV ev37 (by omega) (by omega))
        unfold m_X6_mark_54
        exact q_ok_some hG
    · have f41 := q_neV ev15 (show q_eqv ((0 : Int32)).toInt (0) by unfold q_eqv; decide) (q_n_eq g17)
      unfold m_X6_mark_54
      exact q_ok_some hG
set_option maxHeartbeats 4000000 in
set_option maxRecDepth 100000 in
theorem s_X1_hasMore_12 {ρ : Nat → Nat} {L : List Nat} {n : Nat} (hn : 18446744073709551616 ≤ n) {S : q_S} (hI : q_Inv ρ L S) {o : Nat} (mo : o ∈ L) (ro : ρ o = 12) : q_ok (m_X1_hasMore n S o) (fun r T => T = S ∧ (0 ≤ r.toInt ∧ r.toInt ≤ 1)) := by
  have hG : q_G ρ L [] S S := q_G_refl hI
  unfold m_X1_hasMore
  have z0 : (0 : Int32).toInt = 0 := rfl
  refine q_ok_atS hG (q_trI mo ro) rfl (fun mo ro => ?_)
  have f1 : q_sm _ := g_12_I6 hG mo ro
  obtain ⟨v2, ev2⟩ := q_ev (((q_I (S) o 6) &&& (32 : Int32)).toInt)
  have f3 := q_andRVI ev2 (show q_eqv ((32 : Int32)).toInt (32) by unfold q_eqv; decide) (by omega)
  refine q_ok_ite (fun g4 => ?_) (fun g4 => ?_)
  · have f5 := q_eqV ev2 (show q_eqv ((0 : Int32)).toInt (0) by unfold q_eqv; decide) (q_p_eq g4)
    unfold m_X1_hasMore_15
    refine q_ok_if (q_b01V (show q_eqv ((0 : Int32)).toInt (0) by unfold q_eqv; decide) (by omega) (by omega)) ?_
    exact q_ok_some ⟨rfl, (q_wd (show (0 : Int) ≤ (0 : Int32).toInt ∧ (0 : Int32).toInt ≤ (0 : Int) by decide) (by decide) (by decide))⟩
  · have f6 := q_neV ev2 (show q_eqv ((0 : Int32)).toInt (0) by unfold q_eqv; decide) (q_n_eq g4)
    unfold m_X1_hasMore_15
    refine q_ok_if (q_b01V (show q_eqv ((1 : Int32)).toInt (1) by unfold q_eqv; decide) (by omega) (by omega)) ?_
    exact q_ok_some ⟨rfl, (q_wd (show (1 : Int) ≤ (1 : Int32).toInt ∧ (1 : Int32).toInt ≤ (1 : Int) by decide) (by decide) (by decide))⟩
set_option maxHeartbeats 4000000 in
set_option maxRecDepth 100000 in
theorem s_X1_hasParts_12 {ρ : Nat → Nat} {L : List Nat} {n : Nat} (hn : 18446744073709551616 ≤ n) {S : q_S} (hI : q_Inv ρ L S) {o : Nat} (mo : o ∈ L) (ro : ρ o = 12) : q_ok (m_X1_hasParts n S o) (fun r T => T = S ∧ (0 ≤ r.toInt ∧ r.toInt ≤ 1) ∧ q_sm ((r.toInt = 0 → (0 : Int32).toInt ≤ (q_I (S) o 5).toInt) ∧ (r.toInt = 1 → (q_I (S) o 5).toInt < (0 : Int32).toInt))) := by
  have hG : q_G ρ L [] S S := q_G_refl hI
  unfold m_X1_hasParts
  have z0 : (0 : Int32).toInt = 0 := rfl
  refine q_ok_atS hG (q_trI mo ro) rfl (fun mo ro => ?_)
  have f1 : q_sm _ := g_12_I5 hG mo ro
  obtain ⟨v2, ev2⟩ := q_ev ((q_I (S) o 5).toInt)
  have f3 := q_bV ev2 f1
  refine q_ok_ite (fun g4 => ?_) (fun g4 => ?_)
  · have f5 := q_leV (show q_eqv ((0 : Int32)).toInt (0) by unfold q_eqv; decide) ev2 (q_p_ge g4)
    unfold m_X1_hasParts_12
    refine q_ok_if (q_b01V (show q_eqv ((0 : Int32)).toInt (0) by unfold q_eqv; decide) (by omega) (by omega)) ?_
    exact q_ok_some ⟨rfl, (q_wd (show (0 : Int) ≤ (0 : Int32).toInt ∧ (0 : Int32).toInt ≤ (0 : Int) by decide) (by decide) (by decide)), ⟨fun _ => (q_geW ev2 (show q_eqv ((0 : Int32)).toInt (0) by unfold q_eqv; decide) (by omega)), fun h9 => absurd h9 (by decide)⟩⟩
  · have f6 := q_ltV ev2 (show q_eqv ((0 : Int32)).toInt (0) by unfold q_eqv; decide) (q_n_ge g4)
    unfold m_X1_hasParts_12
    refine q_ok_if (q_b01V (show q_eqv ((1 : Int32)).toInt (1) by unfold q_eqv; decide) (by omega) (by omega)) ?_
    exact q_ok_some ⟨rfl, (q_wd (show (1 : Int) ≤ (1 : Int32).toInt ∧ (1 : Int32).toInt ≤ (1 : Int) by decide) (by decide) (by decide)), ⟨fun h9 => absurd h9 (by decide), fun _ => (q_ltW ev2 (show q_eqv ((0 : Int32)).toInt (0) by unfold q_eqv; decide) (by omega))⟩⟩
set_option maxHeartbeats 4000000 in
set_option maxRecDepth 100000 in
theorem s_X1_isEmpty_12 {ρ : Nat → Nat} {L : List Nat} {n : Nat} (hn : 18446744073709551616 ≤ n) {S : q_S} (hI : q_Inv ρ L S) {o : Nat} (mo : o ∈ L) (ro : ρ o = 12) : q_ok (m_X1_isEmpty n S o) (fun r T => T = S ∧ (0 ≤ r.toInt ∧ r.toInt ≤ 1)) := by
  have hG : q_G ρ L [] S S := q_G_refl hI
  unfold m_X1_isEmpty
  have z0 : (0 : Int32).toInt = 0 := rfl
  refine q_ok_atS hG (q_trI mo ro) rfl (fun mo ro => ?_)
  have f1 : q_sm _ := g_12_I1 hG mo ro
  obtain ⟨v2, ev2⟩ := q_ev ((q_I (S) o 1).toInt)
  have f3 := q_bV ev2 f1
  refine q_ok_if (q_b01V ev2 (by omega) (by omega)) ?_
  exact q_ok_some ⟨rfl, (q_wd f1 (by decide) (by decide))⟩
set_option maxHeartbeats 4000000 in
set_option maxRecDepth 100000 in
theorem s_X1_isMoved_12 {ρ : Nat → Nat} {L : List Nat} {n : Nat} (hn : 18446744073709551616 ≤ n) {S : q_S} (hI : q_Inv ρ L S) {o : Nat} (mo : o ∈ L) (ro : ρ o = 12) : q_ok (m_X1_isMoved n S o) (fun r T => T = S ∧ (0 ≤ r.toInt ∧ r.toInt ≤ 1)) := by
  have hG : q_G ρ L [] S S := q_G_refl hI
  unfold m_X1_isMoved
  have z0 : (0 : Int32).toInt = 0 := rfl
  refine q_ok_atS hG (q_trI mo ro) rfl (fun mo ro => ?_)
  have f1 : q_sm _ := g_12_I6 hG mo ro
  obtain ⟨v2, ev2⟩ := q_ev (((q_I (S) o 6) &&& (2 : Int32)).toInt)
  have f3 := q_andRVI ev2 (show q_eqv ((2 : Int32)).toInt (2) by unfold q_eqv; decide) (by omega)
  refine q_ok_ite (fun g4 => ?_) (fun g4 => ?_)
  · have f5 := q_eqV ev2 (show q_eqv ((0 : Int32)).toInt (0) by unfold q_eqv; decide) (q_p_eq g4)
    unfold m_X1_isMoved_14
    refine q_ok_if (q_b01V (show q_eqv ((0 : Int32)).toInt (0) by unfold q_eqv; decide) (by omega) (by omega)) ?_
    exact q_ok_some ⟨rfl, (q_wd (show (0 : Int) ≤ (0 : Int32).toInt ∧ (0 : Int32).toInt ≤ (0 : Int) by decide) (by decide) (by decide))⟩
  · have f6 := q_neV ev2 (show q_eqv ((0 : Int32)).toInt (0) by unfold q_eqv; decide) (q_n_eq g4)
    unfold m_X1_isMoved_14
    refine q_ok_if (q_b01V (show q_eqv ((1 : Int32)).toInt (1) by unfold q_eqv; decide) (by omega) (by omega)) ?_
    exact q_ok_some ⟨rfl, (q_wd (show (1 : Int) ≤ (1 : Int32).toInt ∧ (1 : Int32).toInt ≤ (1 : Int) by decide) (by decide) (by decide))⟩
def M_X1_seen_12 : List Nat := [770, 771]
set_option maxHeartbeats 4000000 in
set_option maxRecDepth 100000 in
theorem s_X1_seen_12 {ρ : Nat → Nat} {L : List Nat} {n : Nat} (hn : 18446744073709551616 ≤ n) {S : q_S} (hI : q_Inv ρ L S) {o : Nat} (mo : o ∈ L) (ro : ρ o = 12) {p0 : Int32} (hp0 : (-1 ≤ p0.toInt ∧ p0.toInt ≤ 65535)) {p1 : Int32} (hp1 : (1 ≤ p1.toInt ∧ p1.toInt ≤ 2)) (ht : (q_J S o 3).toInt ≤ 140739635838976) : q_ok (m_X1_seen n S o p0 p1) (fun r T => q_G ρ L M_X1_seen_12 S T ∧ (0 ≤ r.toInt ∧ r.toInt ≤ 65535) ∧ q_sm ((q_J T o 3).toInt ≤ (q_J S o 3).toInt + 2)) := by
  have hG : q_G ρ L M_X1_seen_12 S S := q_G_refl hI
  unfold m_X1_seen
  have z0 : (0 : Int32).toInt = 0 := rfl
  have f1 : q_sm _ := g_12_J3 hG mo ro
  obtain ⟨v2, ev2⟩ := q_ev ((q_J (S) o 3).toInt)
  have f3 := q_bV ev2 f1
  have f4 := q_leCv ev2 ht
  refine q_ok_atS hG (q_trI mo ro) rfl (fun mo ro => ?_)
  obtain ⟨v5, ev5⟩ := q_ev (((q_J (S) o 3) + (p1.toInt64)).toInt)
  obtain ⟨v6, ev6⟩ := q_ev ((p1.toInt64).toInt)
  have f7 : v6 = p1.toInt := q_i2lV ev6 q_evr
  have f8 : v5 = v2 + v6 := q_addVJ ev5 ev2 ev6 (by omega) (by omega)
  have hG := u_12_J3 (x := (q_J (S) o 3) + (p1.toInt64)) hG mo ro (by decide) (q_oV ev5 (by omega) (by omega))
  have f9 : q_sm _ := g_12_I2 hG mo ro
  obtain ⟨v10, ev10⟩ := q_ev ((q_I (q_sJ (S) o 3 ((q_J (S) o 3) + (p1.toInt64))) o 2).toInt)
  have f11 := q_bV ev10 f9
  refine q_ok_ite (fun g12 => ?_) (fun g12 => ?_)
  · have f13 := q_eqV ev10 (show q_eqv ((0 : Int32)).toInt (0) by unfold q_eqv; decide) (q_p_eq g12)
    refine q_ok_ite (fun g14 => ?_) (fun g14 => ?_)
    · have f15 := q_eqV q_evr (show q_eqv ((-1 : Int32)).toInt (-1) by unfold q_eqv; decide) (q_p_eq g14)
      unfold m_X1_seen_24
      unfold m_X1_seen_29
      refine q_ok_atS hG (q_trI mo ro) rfl (fun mo ro => ?_)
      refine q_ok_if (q_b01V (show q_eqv ((1 : Int32)).toInt (1) by unfold q_eqv; decide) (by omega) (by omega)) ?_
      have hG := u_12_I2 (x := (1 : Int32)) hG mo ro (by decide) (q_wd (show (1 : Int) ≤ (1 : Int32).toInt ∧ (1 : Int32).toInt ≤ (1 : Int) by decide) (by decide) (by decide))
      refine q_ok_ite (fun g16 => ?_) (fun g16 => ?_)
      · have f17 := q_eqV q_evr (show q_eqv ((-1 : Int32)).toInt (-1) by unfold q_eqv; decide) (q_p_eq g16)
        unfold m_X1_seen_42
        have e18 : q_J (q_sI (q_sJ (S) o 3 ((q_J (S) o 3) + (p1.toInt64))) o 2 ((1 : Int32))) o 3 = (q_J (S) o 3) + (p1.toInt64) := (Eq.trans q_skJI q_hitJ)
        obtain ⟨v19, ev19⟩ := q_ev ((q_J (q_sI (q_sJ (S) o 3 ((q_J (S) o 3) + (p1.toInt64))) o 2 ((1 : Int32))) o 3).toInt)
        have f20 : v19 = v5 := q_eqVJ e18 ev19 ev5
        exact q_ok_some ⟨hG, (q_wd (show (0 : Int) ≤ (0 : Int32).toInt ∧ (0 : Int32).toInt ≤ (0 : Int) by decide) (by decide) (by decide)), (q_leD ev19 ev2 (by omega))⟩
      · have f21 := q_neV q_evr (show q_eqv ((-1 : Int32)).toInt (-1) by unfold q_eqv; decide) (q_n_eq g16)
        exfalso; omega
    · have f22 := q_neV q_evr (show q_eqv ((-1 : Int32)).toInt (-1) by unfold q_eqv; decide) (q_n_eq g14)
      unfold m_X1_seen_29
      refine q_ok_atS hG (q_trI mo ro) rfl (fun mo ro => ?_)
      refine q_ok_if (q_b01V (show q_eqv ((0 : Int32)).toInt (0) by unfold q_eqv; decide) (by omega) (by omega)) ?_
      have hG := u_12_I2 (x := (0 : Int32)) hG mo ro (by decide) (q_wd (show (0 : Int) ≤ (0 : Int32).toInt ∧ (0 : Int32).toInt ≤ (0 : Int) by decide) (by decide) (by decide))
      refine q_ok_ite (fun g23 => ?_) (fun g23 => ?_)
      · have f24 := q_eqV q_evr (show q_eqv ((-1 : Int32)).toInt (-1) by unfold q_eqv; decide) (q_p_eq g23)
        exfalso; omega
      · have f25 := q_neV q_evr (show q_eqv ((-1 : Int32)).toInt (-1) by unfold q_eqv; decide) (q_n_eq g23)
        unfold m_X1_seen_42
        have e26 : q_J (q_sI (q_sJ (S) o 3 ((q_J (S) o 3) + (p1.toInt64))) o 2 ((0 : Int32))) o 3 = (q_J (S) o 3) + (p1.toInt64) := (Eq.trans q_skJI q_hitJ)
        obtain ⟨v27, ev27⟩ := q_ev ((q_J (q_sI (q_sJ (S) o 3 ((q_J (S) o 3) + (p1.toInt64))) o 2 ((0 : Int32))) o 3).toInt)
        have f28 : v27 = v5 := q_eqVJ e26 ev27 ev5
        exact q_ok_some ⟨hG, (q_oV q_evr (by omega) (by omega)), (q_leD ev27 ev2 (by omega))⟩
  · have f29 := q_neV ev10 (show q_eqv ((0 : Int32)).toInt (0) by unfold q_eqv; decide) (q_n_eq g12)
    unfold m_X1_seen_24
    unfold m_X1_seen_29
    refine q_ok_atS hG (q_trI mo ro) rfl (fun mo ro => ?_)
    refine q_ok_if (q_b01V (show q_eqv ((1 : Int32)).toInt (1) by unfold q_eqv; decide) (by omega) (by omega)) ?_
    have hG := u_12_I2 (x := (1 : Int32)) hG mo ro (by decide) (q_wd (show (1 : Int) ≤ (1 : Int32).toInt ∧ (1 : Int32).toInt ≤ (1 : Int) by decide) (by decide) (by decide))
    refine q_ok_ite (fun g30 => ?_) (fun g30 => ?_)
    · have f31 := q_eqV q_evr (show q_eqv ((-1 : Int32)).toInt (-1) by unfold q_eqv; decide) (q_p_eq g30)
      unfold m_X1_seen_42
      have e32 : q_J (q_sI (q_sJ (S) o 3 ((q_J (S) o 3) + (p1.toInt64))) o 2 ((1 : Int32))) o 3 = (q_J (S) o 3) + (p1.toInt64) := (Eq.trans q_skJI q_hitJ)
      obtain ⟨v33, ev33⟩ := q_ev ((q_J (q_sI (q_sJ (S) o 3 ((q_J (S) o 3) + (p1.toInt64))) o 2 ((1 : Int32))) o 3).toInt)
      have f34 : v33 = v5 := q_eqVJ e32 ev33 ev5
      exact q_ok_some ⟨hG, (q_wd (show (0 : Int) ≤ (0 : Int32).toInt ∧ (0 : Int32).toInt ≤ (0 : Int) by decide) (by decide) (by decide)), (q_leD ev33 ev2 (by omega))⟩
    · have f35 := q_neV q_evr (show q_eqv ((-1 : Int32)).toInt (-1) by unfold q_eqv; decide) (q_n_eq g30)
      unfold m_X1_seen_42
      have e36 : q_J (q_sI (q_sJ (S) o 3 ((q_J (S) o 3) + (p1.toInt64))) o 2 ((1 : Int32))) o 3 = (q_J (S) o 3) + (p1.toInt64) := (Eq.trans q_skJI q_hitJ)
      obtain ⟨v37, ev37⟩ := q_ev ((q_J (q_sI (q_sJ (S) o 3 ((q_J (S) o 3) + (p1.toInt64))) o 2 ((1 : Int32))) o 3).toInt)
      have f38 : v37 = v5 := q_eqVJ e36 ev37 ev5
      exact q_ok_some ⟨hG, (q_oV q_evr (by omega) (by omega)), (q_leD ev37 ev2 (by omega))⟩
def M_X1_one_12 : List Nat := [770, 771]
set_option maxHeartbeats 4000000 in
set_option maxRecDepth 100000 in
theorem s_X1_one_12 {ρ : Nat → Nat} {L : List Nat} {n : Nat} (hn : 18446744073709551616 ≤ n) {S : q_S} (hI : q_Inv ρ L S) {o : Nat} (mo : o ∈ L) (ro : ρ o = 12) (ht : (q_J S o 3).toInt ≤ 140738562097152) : q_ok (m_X1_one n S o) (fun r T => q_G ρ L M_X1_one_12 S T ∧ (0 ≤ r.toInt ∧ r.toInt ≤ 65535) ∧ q_sm ((q_J T o 3).toInt ≤ (q_J S o 3).toInt + 2)) := by
  have hG : q_G ρ L M_X1_one_12 S S := q_G_refl hI
  unfold m_X1_one
  have z0 : (0 : Int32).toInt = 0 := rfl
  have f1 : q_sm _ := g_12_J3 hG mo ro
  obtain ⟨v2, ev2⟩ := q_ev ((q_J (S) o 3).toInt)
  have f3 := q_bV ev2 f1
  have f4 := q_leCv ev2 ht
  refine q_ok_atS hG (q_trI mo ro) rfl (fun mo ro => ?_)
  have t5 := g_12_R0 hG mo ro
  have f6 : q_sm _ := g_12_J4 hG mo ro
  refine q_ok_at hG t5 rfl (fun a7 ma7 ra7 ea7 => ?_)
  refine q_ok_b (s_X4_one_1 hn hG.1 ma7 ra7 (q_wd f1 (by decide) (by decide)) (q_wd f6 (by decide) (by decide))) (fun r8 S9 h10 => ?_)
  obtain ⟨eS9, h10⟩ := h10
  replace eS9 := eS9.symm
  subst eS9
  have f11 := h10
  refine q_ok_atS hG (q_trI mo ro) rfl (fun mo ro => ?_)
  refine q_ok_b (s_X1_seen_12 hn hG.1 mo ro (q_wd f11 (by decide) (by decide)) (q_wd (show (1 : Int) ≤ (1 : Int32).toInt ∧ (1 : Int32).toInt ≤ (1 : Int) by decide) (by decide) (by decide)) (q_leC ev2 (by omega))) (fun r12 S13 h14 => ?_)
  have hG := q_G_call hG h14.1 (by decide)
  have f15 := h14.2.1
  have f16 : q_sm _ := g_12_J3 hG mo ro
  obtain ⟨v17, ev17⟩ := q_ev ((q_J (S13) o 3).toInt)
  have f18 := q_bV ev17 f16
  have f19 := q_leDv ev17 ev2 (h14.2.2)
  exact q_ok_some ⟨hG, (q_wd f15 (by decide) (by decide)), (q_leD ev17 ev2 (by omega))⟩
def M_X1_two_12 : List Nat := [770, 771]
set_option maxHeartbeats 4000000 in
set_option maxRecDepth 100000 in
theorem s_X1_two_12 {ρ : Nat → Nat} {L : List Nat} {n : Nat} (hn : 18446744073709551616 ≤ n) {S : q_S} (hI : q_Inv ρ L S) {o : Nat} (mo : o ∈ L) (ro : ρ o = 12) (ht : (q_J S o 3).toInt ≤ 140738562097152) : q_ok (m_X1_two n S o) (fun r T => q_G ρ L M_X1_two_12 S T ∧ (0 ≤ r.toInt ∧ r.toInt ≤ 65535) ∧ q_sm ((q_J T o 3).toInt ≤ (q_J S o 3).toInt + 2)) := by
  have hG : q_G ρ L M_X1_two_12 S S := q_G_refl hI
  unfold m_X1_two
  have z0 : (0 : Int32).toInt = 0 := rfl
  have f1 : q_sm _ := g_12_J3 hG mo ro
  obtain ⟨v2, ev2⟩ := q_ev ((q_J (S) o 3).toInt)
  have f3 := q_bV ev2 f1
  have f4 := q_leCv ev2 ht
  refine q_ok_atS hG (q_trI mo ro) rfl (fun mo ro => ?_)
  have t5 := g_12_R0 hG mo ro
  have f6 : q_sm _ := g_12_J4 hG mo ro
  refine q_ok_at hG t5 rfl (fun a7 ma7 ra7 ea7 => ?_)
  refine q_ok_b (s_X4_two_1 hn hG.1 ma7 ra7 (q_wd f1 (by decide) (by decide)) (q_wd f6 (by decide) (by decide))) (fun r8 S9 h10 => ?_)
  obtain ⟨eS9, h10⟩ := h10
  replace eS9 := eS9.symm
  subst eS9
  have f11 := h10
  refine q_ok_atS hG (q_trI mo ro) rfl (fun mo ro => ?_)
  refine q_ok_b (s_X1_seen_12 hn hG.1 mo ro (q_wd f11 (by decide) (by decide)) (q_wd (show (2 : Int) ≤ (2 : Int32).toInt ∧ (2 : Int32).toInt ≤ (2 : Int) by decide) (by decide) (by decide)) (q_leC ev2 (by omega))) (fun r12 S13 h14 => ?_)
  have hG := q_G_call hG h14.1 (by decide)
  have f15 := h14.2.1
  have f16 : q_sm _ := g_12_J3 hG mo ro
  obtain ⟨v17, ev17⟩ := q_ev ((q_J (S13) o 3).toInt)
  have f18 := q_bV ev17 f16
  have f19 := q_leDv ev17 ev2 (h14.2.2)
  exact q_ok_some ⟨hG, (q_wd f15 (by decide) (by decide)), (q_leD ev17 ev2 (by omega))⟩
def M_X1_nextNumber_12 : List Nat := [770, 771]
set_option maxHeartbeats 4000000 in
set_option maxRecDepth 100000 in
theorem s_X1_nextNumber_12 {ρ : Nat → Nat} {L : List Nat} {n : Nat} (hn : 18446744073709551616 ≤ n) {S : q_S} (hI : q_Inv ρ L S) {o : Nat} (mo : o ∈ L) (ro : ρ o = 12) (ht : (q_J S o 3).toInt ≤ 140738025226240) : q_ok (m_X1_nextNumber n S o) (fun r T => q_G ρ L M_X1_nextNumber_12 S T ∧ (-32768 ≤ r.toInt ∧ r.toInt ≤ 65535) ∧ q_sm ((q_J T o 3).toInt ≤ (q_J S o 3).toInt + 2)) := by
  have hG : q_G ρ L M_X1_nextNumber_12 S S := q_G_refl hI
  unfold m_X1_nextNumber
  have z0 : (0 : Int32).toInt = 0 := rfl
  have f1 : q_sm _ := g_12_J3 hG mo ro
  obtain ⟨v2, ev2⟩ := q_ev ((q_J (S) o 3).toInt)
  have f3 := q_bV ev2 f1
  have f4 := q_leCv ev2 ht
  refine q_ok_atS hG (q_trI mo ro) rfl (fun mo ro => ?_)
  have f5 : q_sm _ := g_12_I6 hG mo ro
  obtain ⟨v6, ev6⟩ := q_ev (((q_I (S) o 6) &&& (1 : Int32)).toInt)
  have f7 := q_andRVI ev6 (show q_eqv ((1 : Int32)).toInt (1) by unfold q_eqv; decide) (by omega)
  refine q_ok_ite (fun g8 => ?_) (fun g8 => ?_)
  · have f9 := q_eqV ev6 (show q_eqv ((0 : Int32)).toInt (0) by unfold q_eqv; decide) (q_p_eq g8)
    unfold m_X1_nextNumber_14
    refine q_ok_ite (fun g10 => ?_) (fun g10 => ?_)
    · have f11 := q_eqV (show q_eqv ((0 : Int32)).toInt (0) by unfold q_eqv; decide) (show q_eqv ((0 : Int32)).toInt (0) by unfold q_eqv; decide) (q_p_eq g10)
      refine q_ok_atS hG (q_trI mo ro) rfl (fun mo ro => ?_)
      refine q_ok_b (s_X1_one_12 hn hG.1 mo ro (q_leC ev2 (by omega))) (fun r12 S13 h14 => ?_)
      have hG := q_G_call hG h14.1 (by decide)
      have f15 := h14.2.1
      have f16 : q_sm _ := g_12_J3 hG mo ro
      obtain ⟨v17, ev17⟩ := q_ev ((q_J (S13) o 3).toInt)
      have f18 := q_bV ev17 f16
      have f19 := q_leDv ev17 ev2 (h14.2.2)
      unfold m_X1_nextNumber_30
      refine q_ok_ite (fun g20 => ?_) (fun g20 => ?_)
      · have f21 := q_eqV (show q_eqv ((0 : Int32)).toInt (0) by unfold q_eqv; decide) (show q_eqv ((0 : Int32)).toInt (0) by unfold q_eqv; decide) (q_p_eq g20)
        unfold m_X1_nextNumber_43
        refine q_ok_atS hG (q_trI mo ro) rfl (fun mo ro => ?_)
        refine q_ok_b (s_X1_isMoved_12 hn hG.1 mo ro) (fun r22 S23 h24 => ?_)
        obtain ⟨eS23, h24⟩ := h24
        replace eS23 := eS23.symm
        subst eS23
        have f25 := h24
        refine q_ok_ite (fun g26 => ?_) (fun g26 => ?_)
        · have f27 := q_eqV q_evr (show q_eqv ((0 : Int32)).toInt (0) by unfold q_eqv; decide) (q_p_eq g26)
          unfold m_X1_nextNumber_64
          unfold m_X1_nextNumber_65
          exact q_ok_some ⟨hG, (q_wd f15 (by decide) (by decide)), (q_leD ev17 ev2 (by omega))⟩
        · have f28 := q_neV q_evr (show q_eqv ((0 : Int32)).toInt (0) by unfold q_eqv; decide) (q_n_eq g26)
          refine q_ok_ite (fun g29 => ?_) (fun g29 => ?_)
          · have f30 := q_ltV q_evr (show q_eqv ((128 : Int32)).toInt (128) by unfold q_eqv; decide) (q_p_lt g29)
            unfold m_X1_nextNumber_64
            unfold m_X1_nextNumber_65
            exact q_ok_some ⟨hG, (q_wd f15 (by decide) (by decide)), (q_leD ev17 ev2 (by omega))⟩
          · have f31 := q_leV (show q_eqv ((128 : Int32)).toInt (128) by unfold q_eqv; decide) q_evr (q_n_lt g29)
            unfold m_X1_nextNumber_65
            obtain ⟨v32, ev32⟩ := q_ev ((r12 - ((2 : Int32) * (128 : Int32))).toInt)
            obtain ⟨v33, ev33⟩ := q_ev (((2 : Int32) * (128 : Int32)).toInt)
            have f34 : v33 = (2) * (128) := q_mulVI ev33 (show q_eqv ((2 : Int32)).toInt (2) by unfold q_eqv; decide) (show q_eqv ((128 : Int32)).toInt (128) by unfold q_eqv; decide) (by omega) (by omega)
            have f35 : v32 = r12.toInt - v33 := q_subVI ev32 q_evr ev33 (by omega) (by omega)
            exact q_ok_some ⟨hG, (q_oV ev32 (by omega) (by omega)), (q_leD ev17 ev2 (by omega))⟩
      · have f36 := q_neV (show q_eqv ((0 : Int32)).toInt (0) by unfold q_eqv; decide) (show q_eqv ((0 : Int32)).toInt (0) by unfold q_eqv; decide) (q_n_eq g20)
        exfalso; omega
    · have f37 := q_neV (show q_eqv ((0 : Int32)).toInt (0) by unfold q_eqv; decide) (show q_eqv ((0 : Int32)).toInt (0) by unfold q_eqv; decide) (q_n_eq g10)
      exfalso; omega
  · have f38 := q_neV ev6 (show q_eqv ((0 : Int32)).toInt (0) by unfold q_eqv; decide) (q_n_eq g8)
    unfold m_X1_nextNumber_14
    refine q_ok_ite (fun g39 => ?_) (fun g39 => ?_)
    · have f40 := q_eqV (show q_eqv ((1 : Int32)).toInt (1) by unfold q_eqv; decide) (show q_eqv ((0 : Int32)).toInt (0) by unfold q_eqv; decide) (q_p_eq g39)
      exfalso; omega
    · have f41 := q_neV (show q_eqv ((1 : Int32)).toInt (1) by unfold q_eqv; decide) (show q_eqv ((0 : Int32)).toInt (0) by unfold q_eqv; decide) (q_n_eq g39)
      refine q_ok_atS hG (q_trI mo ro) rfl (fun mo ro => ?_)
      refine q_ok_b (s_X1_two_12 hn hG.1 mo ro (q_leC ev2 (by omega))) (fun r42 S43 h44 => ?_)
      have hG := q_G_call hG h44.1 (by decide)
      have f45 := h44.2.1
      have f46 : q_sm _ := g_12_J3 hG mo ro
      obtain ⟨v47, ev47⟩ := q_ev ((q_J (S43) o 3).toInt)
      have f48 := q_bV ev47 f46
      have f49 := q_leDv ev47 ev2 (h44.2.2)
      unfold m_X1_nextNumber_30
      refine q_ok_ite (fun g50 => ?_) (fun g50 => ?_)
      · have f51 := q_eqV (show q_eqv ((1 : Int32)).toInt (1) by unfold q_eqv; decide) (show q_eqv ((0 : Int32)).toInt (0) by unfold q_eqv; decide) (q_p_eq g50)
        exfalso; omega
      · have f52 := q_neV (show q_eqv ((1 : Int32)).toInt (1) by unfold q_eqv; decide) (show q_eqv ((0 : Int32)).toInt (0) by unfold q_eqv; decide) (q_n_eq g50)
        unfold m_X1_nextNumber_43
        refine q_ok_atS hG (q_trI mo ro) rfl (fun mo ro => ?_)
        refine q_ok_b (s_X1_isMoved_12 hn hG.1 mo ro) (fun r53 S54 h55 => ?_)
        obtain ⟨eS54, h55⟩ := h55
        replace eS54 := eS54.symm
        subst eS54
        have f56 := h55
        refine q_ok_ite (fun g57 => ?_) (fun g57 => ?_)
        · have f58 := q_eqV q_evr (show q_eqv ((0 : Int32)).toInt (0) by unfold q_eqv; decide) (q_p_eq g57)
          unfold m_X1_nextNumber_64
          unfold m_X1_nextNumber_65
          exact q_ok_some ⟨hG, (q_wd f45 (by decide) (by decide)), (q_leD ev47 ev2 (by omega))⟩
        · have f59 := q_neV q_evr (show q_eqv ((0 : Int32)).toInt (0) by unfold q_eqv; decide) (q_n_eq g57)
          refine q_ok_ite (fun g60 => ?_) (fun g60 => ?_)
          · have f61 := q_ltV q_evr (show q_eqv ((32768 : Int32)).toInt (32768) by unfold q_eqv; decide) (q_p_lt g60)
            unfold m_X1_nextNumber_64
            unfold m_X1_nextNumber_65
            exact q_ok_some ⟨hG, (q_wd f45 (by decide) (by decide)), (q_leD ev47 ev2 (by omega))⟩
          · have f62 := q_leV (show q_eqv ((32768 : Int32)).toInt (32768) by unfold q_eqv; decide) q_evr (q_n_lt g60)
            unfold m_X1_nextNumber_65
            obtain ⟨v63, ev63⟩ := q_ev ((r42 - ((2 : Int32) * (32768 : Int32))).toInt)
            obtain ⟨v64, ev64⟩ := q_ev (((2 : Int32) * (32768 : Int32)).toInt)
            have f65 : v64 = (2) * (32768) := q_mulVI ev64 (show q_eqv ((2 : Int32)).toInt (2) by unfold q_eqv; decide) (show q_eqv ((32768 : Int32)).toInt (32768) by unfold q_eqv; decide) (by omega) (by omega)
            have f66 : v63 = r42.toInt - v64 := q_subVI ev63 q_evr ev64 (by omega) (by omega)
            exact q_ok_some ⟨hG, (q_oV ev63 (by omega) (by omega)), (q_leD ev47 ev2 (by omega))⟩
set_option maxHeartbeats 4000000 in
set_option maxRecDepth 100000 in
theorem s_X11_signed {ρ : Nat → Nat} {L : List Nat} {n : Nat} (hn : 18446744073709551616 ≤ n) {S : q_S} (hI : q_Inv ρ L S) {p0 : Int32} (hp0 : (0 ≤ p0.toInt ∧ p0.toInt ≤ 65535)) : q_ok (m_X11_signed n S p0) (fun r T => T = S ∧ (-32768 ≤ r.toInt ∧ r.toInt ≤ 32767)) := by
  have hG : q_G ρ L [] S S := q_G_refl hI
  unfold m_X11_signed
  have z0 : (0 : Int32).toInt = 0 := rfl
  refine q_ok_ite (fun g1 => ?_) (fun g1 => ?_)
  · have f2 := q_ltV q_evr (show q_eqv ((32768 : Int32)).toInt (32768) by unfold q_eqv; decide) (q_p_lt g1)
    unfold m_X11_signed_14
    exact q_ok_some ⟨rfl, (q_oV q_evr (by omega) (by omega))⟩
  · have f3 := q_leV (show q_eqv ((32768 : Int32)).toInt (32768) by unfold q_eqv; decide) q_evr (q_n_lt g1)
    unfold m_X11_signed_14
    obtain ⟨v4, ev4⟩ := q_ev ((p0 - (65536 : Int32)).toInt)
    have f5 : v4 = p0.toInt - (65536) := q_subVI ev4 q_evr (show q_eqv ((65536 : Int32)).toInt (65536) by unfold q_eqv; decide) (by omega) (by omega)
    exact q_ok_some ⟨rfl, (q_oV ev4 (by omega) (by omega))⟩
def M_X1_signedTwo_12 : List Nat := [770, 771]
set_option maxHeartbeats 4000000 in
set_option maxRecDepth 100000 in
theorem s_X1_signedTwo_12 {ρ : Nat → Nat} {L : List Nat} {n : Nat} (hn : 18446744073709551616 ≤ n) {S : q_S} (hI : q_Inv ρ L S) {o : Nat} (mo : o ∈ L) (ro : ρ o = 12) (ht : (q_J S o 3).toInt ≤ 140738562097152) : q_ok (m_X1_signedTwo n S o) (fun r T => q_G ρ L M_X1_signedTwo_12 S T ∧ (-32768 ≤ r.toInt ∧ r.toInt ≤ 32767) ∧ q_sm ((q_J T o 3).toInt ≤ (q_J S o 3).toInt + 2)) := by
  have hG : q_G ρ L M_X1_signedTwo_12 S S := q_G_refl hI
  unfold m_X1_signedTwo
  have z0 : (0 : Int32).toInt = 0 := rfl
  have f1 : q_sm _ := g_12_J3 hG mo ro
  obtain ⟨v2, ev2⟩ := q_ev ((q_J (S) o 3).toInt)
  have f3 := q_bV ev2 f1
  have f4 := q_leCv ev2 ht
  refine q_ok_atS hG (q_trI mo ro) rfl (fun mo ro => ?_)
  have t5 := g_12_R0 hG mo ro
  have f6 : q_sm _ := g_12_J4 hG mo ro
  refine q_ok_at hG t5 rfl (fun a7 ma7 ra7 ea7 => ?_)
  refine q_ok_b (s_X4_two_1 hn hG.1 ma7 ra7 (q_wd f1 (by decide) (by decide)) (q_wd f6 (by decide) (by decide))) (fun r8 S9 h10 => ?_)
  obtain ⟨eS9, h10⟩ := h10
  replace eS9 := eS9.symm
  subst eS9
  have f11 := h10
  refine q_ok_atS hG (q_trI mo ro) rfl (fun mo ro => ?_)
  refine q_ok_b (s_X1_seen_12 hn hG.1 mo ro (q_wd f11 (by decide) (by decide)) (q_wd (show (2 : Int) ≤ (2 : Int32).toInt ∧ (2 : Int32).toInt ≤ (2 : Int) by decide) (by decide) (by decide)) (q_leC ev2 (by omega))) (fun r12 S13 h14 => ?_)
  have hG := q_G_call hG h14.1 (by decide)
  have f15 := h14.2.1
  have f16 : q_sm _ := g_12_J3 hG mo ro
  obtain ⟨v17, ev17⟩ := q_ev ((q_J (S13) o 3).toInt)
  have f18 := q_bV ev17 f16
  have f19 := q_leDv ev17 ev2 (h14.2.2)
  refine q_ok_b (s_X11_signed hn hG.1 (q_wd f15 (by decide) (by decide))) (fun r20 S21 h22 => ?_)
  obtain ⟨eS21, h22⟩ := h22
  replace eS21 := eS21.symm
  subst eS21
  have f23 := h22
  exact q_ok_some ⟨hG, (q_wd f23 (by decide) (by decide)), (q_leD ev17 ev2 (by omega))⟩
def M_X1_nextScales_12 : List Nat := [770, 771, 778, 779, 780, 781]
set_option maxHeartbeats 4000000 in
set_option maxRecDepth 100000 in
theorem s_X1_nextScales_12 {ρ : Nat → Nat} {L : List Nat} {n : Nat} (hn : 18446744073709551616 ≤ n) {S : q_S} (hI : q_Inv ρ L S) {o : Nat} (mo : o ∈ L) (ro : ρ o = 12) (ht : (q_J S o 3).toInt ≤ 140737756790784) : q_ok (m_X1_nextScales n S o) (fun _ T => q_G ρ L M_X1_nextScales_12 S T ∧ q_sm ((q_J T o 3).toInt ≤ (q_J S o 3).toInt + 8)) := by
  have hG : q_G ρ L M_X1_nextScales_12 S S := q_G_refl hI
  unfold m_X1_nextScales
  have z0 : (0 : Int32).toInt = 0 := rfl
  have f1 : q_sm _ := g_12_J3 hG mo ro
  obtain ⟨v2, ev2⟩ := q_ev ((q_J (S) o 3).toInt)
  have f3 := q_bV ev2 f1
  have f4 := q_leCv ev2 ht
  refine q_ok_atS hG (q_trI mo ro) rfl (fun mo ro => ?_)
  have hG := u_12_I10 (x := (16384 : Int32)) hG mo ro (by decide) (q_wd (show (16384 : Int) ≤ (16384 : Int32).toInt ∧ (16384 : Int32).toInt ≤ (16384 : Int) by decide) (by decide) (by decide))
  have hG := u_12_I11 (x := (0 : Int32)) hG mo ro (by decide) (q_wd (show (0 : Int) ≤ (0 : Int32).toInt ∧ (0 : Int32).toInt ≤ (0 : Int) by decide) (by decide) (by decide))
  refine q_ok_let (fun S5 eS5 => ?_)
  rw [← eS5] at hG
  have hG := u_12_I12 (x := (0 : Int32)) hG mo ro (by decide) (q_wd (show (0 : Int) ≤ (0 : Int32).toInt ∧ (0 : Int32).toInt ≤ (0 : Int) by decide) (by decide) (by decide))
  have hG := u_12_I13 (x := (16384 : Int32)) hG mo ro (by decide) (q_wd (show (16384 : Int) ≤ (16384 : Int32).toInt ∧ (16384 : Int32).toInt ≤ (16384 : Int) by decide) (by decide) (by decide))
  refine q_ok_let (fun S6 eS6 => ?_)
  rw [← eS6] at hG
  have f7 : q_sm _ := g_12_I6 hG mo ro
  obtain ⟨v8, ev8⟩ := q_ev (((q_I (S6) o 6) &&& (8 : Int32)).toInt)
  have f9 := q_andRVI ev8 (show q_eqv ((8 : Int32)).toInt (8) by unfold q_eqv; decide) (by omega)
  refine q_ok_ite (fun g10 => ?_) (fun g10 => ?_)
  · have f11 := q_eqV ev8 (show q_eqv ((0 : Int32)).toInt (0) by unfold q_eqv; decide) (q_p_eq g10)
    obtain ⟨v12, ev12⟩ := q_ev (((q_I (S6) o 6) &&& (64 : Int32)).toInt)
    have f13 := q_andRVI ev12 (show q_eqv ((64 : Int32)).toInt (64) by unfold q_eqv; decide) (by omega)
    refine q_ok_ite (fun g14 => ?_) (fun g14 => ?_)
    · have f15 := q_eqV ev12 (show q_eqv ((0 : Int32)).toInt (0) by unfold q_eqv; decide) (q_p_eq g14)
      obtain ⟨v16, ev16⟩ := q_ev (((q_I (S6) o 6) &&& (128 : Int32)).toInt)
      have f17 := q_andRVI ev16 (show q_eqv ((128 : Int32)).toInt (128) by unfold q_eqv; decide) (by omega)
      refine q_ok_ite (fun g18 => ?_) (fun g18 => ?_)
      · have f19 := q_eqV ev16 (show q_eqv ((0 : Int32)).toInt (0) by unfold q_eqv; decide) (q_p_eq g18)
        unfold m_X1_nextScales_125
        have e20 : q_J (S6) o 3 = q_J (S) o 3 := (Eq.trans (q_leJ eS6) (Eq.trans q_skJI (Eq.trans q_skJI (Eq.trans (q_leJ eS5) (Eq.trans q_skJI q_skJI)))))
        obtain ⟨v21, ev21⟩ := q_ev ((q_J (S6) o 3).toInt)
        have f22 : v21 = v2 := q_eqVJ e20 ev21 ev2
        exact q_ok_some ⟨hG, (q_leD ev21 ev2 (by omega))⟩
      · have f23 := q_neV ev16 (show q_eqv ((0 : Int32)).toInt (0) by unfold q_eqv; decide) (q_n_eq g18)
        have e27 : q_J (S6) o 3 = q_J (S) o 3 := (Eq.trans (q_leJ eS6) (Eq.trans q_skJI (Eq.trans q_skJI (Eq.trans (q_leJ eS5) (Eq.trans q_skJI q_skJI)))))
        obtain ⟨v28, ev28⟩ := q_ev ((q_J (S6) o 3).toInt)
        have f29 : v28 = v2 := q_eqVJ e27 ev28 ev2
        refine q_ok_b (s_X1_signedTwo_12 hn hG.1 mo ro (q_leC ev28 (by omega))) (fun r24 S25 h26 => ?_)
        have hG := q_G_call hG h26.1 (by decide)
        have f30 := h26.2.1
        have f31 : q_sm _ := g_12_J3 hG mo ro
        obtain ⟨v32, ev32⟩ := q_ev ((q_J (S25) o 3).toInt)
        have f33 := q_bV ev32 f31
        have f34 := q_leDv ev32 ev28 (h26.2.2)
        refine q_ok_atS hG (q_trI mo ro) rfl (fun mo ro => ?_)
        have hG := u_12_I10 (x := r24) hG mo ro (by decide) (q_wd f30 (by decide) (by decide))
        have e38 : q_J (q_sI (S25) o 10 (r24)) o 3 = q_J (S25) o 3 := q_skJI
        obtain ⟨v39, ev39⟩ := q_ev ((q_J (q_sI (S25) o 10 (r24)) o 3).toInt)
        have f40 : v39 = v32 := q_eqVJ e38 ev39 ev32
        refine q_ok_b (s_X1_signedTwo_12 hn hG.1 mo ro (q_leC ev39 (by omega))) (fun r35 S36 h37 => ?_)
        have hG := q_G_call hG h37.1 (by decide)
        have f41 := h37.2.1
        have f42 : q_sm _ := g_12_J3 hG mo ro
        obtain ⟨v43, ev43⟩ := q_ev ((q_J (S36) o 3).toInt)
        have f44 := q_bV ev43 f42
        have f45 := q_leDv ev43 ev39 (h37.2.2)
        refine q_ok_atS hG (q_trI mo ro) rfl (fun mo ro => ?_)
        have hG := u_12_I11 (x := r35) hG mo ro (by decide) (q_wd f41 (by decide) (by decide))
        have e49 : q_J (q_sI (S36) o 11 (r35)) o 3 = q_J (S36) o 3 := q_skJI
        obtain ⟨v50, ev50⟩ := q_ev ((q_J (q_sI (S36) o 11 (r35)) o 3).toInt)
        have f51 : v50 = v43 := q_eqVJ e49 ev50 ev43
        refine q_ok_b (s_X1_signedTwo_12 hn hG.1 mo ro (q_leC ev50 (by omega))) (fun r46 S47 h48 => ?_)
        have hG := q_G_call hG h48.1 (by decide)
        have f52 := h48.2.1
        have f53 : q_sm _ := g_12_J3 hG mo ro
        obtain ⟨v54, ev54⟩ := q_ev ((q_J (S47) o 3).toInt)
        have f55 := q_bV ev54 f53
        have f56 := q_leDv ev54 ev50 (h48.2.2)
        refine q_ok_atS hG (q_trI mo ro) rfl (fun mo ro => ?_)
        have hG := u_12_I12 (x := r46) hG mo ro (by decide) (q_wd f52 (by decide) (by decide))
        have e60 : q_J (q_sI (S47) o 12 (r46)) o 3 = q_J (S47) o 3 := q_skJI
        obtain ⟨v61, ev61⟩ := q_ev ((q_J (q_sI (S47) o 12 (r46)) o 3).toInt)
        have f62 : v61 = v54 := q_eqVJ e60 ev61 ev54
        refine q_ok_b (s_X1_signedTwo_12 hn hG.1 mo ro (q_leC ev61 (by omega))) (fun r57 S58 h59 => ?_)
        have hG := q_G_call hG h59.1 (by decide)
        have f63 := h59.2.1
        have f64 : q_sm _ := g_12_J3 hG mo ro
        obtain ⟨v65, ev65⟩ := q_ev ((q_J (S58) o 3).toInt)
        have f66 := q_bV ev65 f64
        have f67 := q_leDv ev65 ev61 (h59.2.2)
        refine q_ok_atS hG (q_trI mo ro) rfl (fun mo ro => ?_)
        have hG := u_12_I13 (x := r57) hG mo ro (by decide) (q_wd f63 (by decide) (by decide))
        unfold m_X1_nextScales_125
        have e68 : q_J (q_sI (S58) o 13 (r57)) o 3 = q_J (S58) o 3 := q_skJI
        obtain ⟨v69, ev69⟩ := q_ev ((q_J (q_sI (S58) o 13 (r57)) o 3).toInt)
        have f70 : v69 = v65 := q_eqVJ e68 ev69 ev65
        exact q_ok_some ⟨hG, (q_leD ev69 ev2 (by omega))⟩
    · have f71 := q_neV ev12 (show q_eqv ((0 : Int32)).toInt (0) by unfold q_eqv; decide) (q_n_eq g14)
      have e75 : q_J (S6) o 3 = q_J (S) o 3 := (Eq.trans (q_leJ eS6) (Eq.trans q_skJI (Eq.trans q_skJI (Eq.trans (q_leJ eS5) (Eq.trans q_skJI q_skJI)))))
      obtain ⟨v76, ev76⟩ := q_ev ((q_J (S6) o 3).toInt)
      have f77 : v76 = v2 := q_eqVJ e75 ev76 ev2
      refine q_ok_b (s_X1_signedTwo_12 hn hG.1 mo ro (q_leC ev76 (by omega))) (fun r72 S73 h74 => ?_)
      have hG := q_G_call hG h74.1 (by decide)
      have f78 := h74.2.1
      have f79 : q_sm _ := g_12_J3 hG mo ro
      obtain ⟨v80, ev80⟩ := q_ev ((q_J (S73) o 3).toInt)
      have f81 := q_bV ev80 f79
      have f82 := q_leDv ev80 ev76 (h74.2.2)
      refine q_ok_atS hG (q_trI mo ro) rfl (fun mo ro => ?_)
      have hG := u_12_I10 (x := r72) hG mo ro (by decide) (q_wd f78 (by decide) (by decide))
      have e86 : q_J (q_sI (S73) o 10 (r72)) o 3 = q_J (S73) o 3 := q_skJI
      obtain ⟨v87, ev87⟩ := q_ev ((q_J (q_sI (S73) o 10 (r72)) o 3).toInt)
      have f88 : v87 = v80 := q_eqVJ e86 ev87 ev80
      refine q_ok_b (s_X1_signedTwo_12 hn hG.1 mo ro (q_leC ev87 (by omega))) (fun r83 S84 h85 => ?_)
      have hG := q_G_call hG h85.1 (by decide)
      have f89 := h85.2.1
      have f90 : q_sm _ := g_12_J3 hG mo ro
      obtain ⟨v91, ev91⟩ := q_ev ((q_J (S84) o 3).toInt)
      have f92 := q_bV ev91 f90
      have f93 := q_leDv ev91 ev87 (h85.2.2)
      refine q_ok_atS hG (q_trI mo ro) rfl (fun mo ro => ?_)
      have hG := u_12_I13 (x := r83) hG mo ro (by decide) (q_wd f89 (by decide) (by decide))
      unfold m_X1_nextScales_125
      have e94 : q_J (q_sI (S84) o 13 (r83)) o 3 = q_J (S84) o 3 := q_skJI
      obtain ⟨v95, ev95⟩ := q_ev ((q_J (q_sI (S84) o 13 (r83)) o 3).toInt)
      have f96 : v95 = v91 := q_eqVJ e94 ev95 ev91
      exact q_ok_some ⟨hG, (q_leD ev95 ev2 (by omega))⟩
  · have f97 := q_neV ev8 (show q_eqv ((0 : Int32)).toInt (0) by unfold q_eqv; decide) (q_n_eq g10)
    have e101 : q_J (S6) o 3 = q_J (S) o 3 := (Eq.trans (q_leJ eS6) (Eq.trans q_skJI (Eq.trans q_skJI (Eq.trans (q_leJ eS5) (Eq.trans q_skJI q_skJI)))))
    obtain ⟨v102, ev102⟩ := q_ev ((q_J (S6) o 3).toInt)
    have f103 : v102 = v2 := q_eqVJ e101 ev102 ev2
    refine q_ok_b (s_X1_signedTwo_12 hn hG.1 mo ro (q_leC ev102 (by omega))) (fun r98 S99 h100 => ?_)
    have hG := q_G_call hG h100.1 (by decide)
    have f104 := h100.2.1
    have f105 : q_sm _ := g_12_J3 hG mo ro
    obtain ⟨v106, ev106⟩ := q_ev ((q_J (S99) o 3).toInt)
    have f107 := q_bV ev106 f105
    have f108 := q_leDv ev106 ev102 (h100.2.2)
    refine q_ok_atS hG (q_trI mo ro) rfl (fun mo ro => ?_)
    have hG := u_12_I10 (x := r98) hG mo ro (by decide) (q_wd f104 (by decide) (by decide))
    have f109 : q_sm _ := g_12_I10 hG mo ro
    have e110 : q_I (q_sI (S99) o 10 (r98)) o 10 = r98 := q_hitI
    have hG := u_12_I13 (x := q_I (q_sI (S99) o 10 (r98)) o 10) hG mo ro (by decide) (q_wd f109 (by decide) (by decide))
    refine q_ok_let (fun S111 eS111 => ?_)
    rw [← eS111] at hG
    unfold m_X1_nextScales_125
    have e112 : q_J (S111) o 3 = q_J (S99) o 3 := (Eq.trans (q_leJ eS111) (Eq.trans q_skJI q_skJI))
    obtain ⟨v113, ev113⟩ := q_ev ((q_J (S111) o 3).toInt)
    have f114 : v113 = v106 := q_eqVJ e112 ev113 ev106
    exact q_ok_some ⟨hG, (q_leD ev113 ev2 (by omega))⟩
