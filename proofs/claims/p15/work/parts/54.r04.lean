def M_X12_number_45_k4 : List Nat := [2888]
set_option maxHeartbeats 4000000 in
set_option maxRecDepth 100000 in
theorem s_X12_number_45_k4_40 {ρ : Nat → Nat} {L : List Nat} {n : Nat} (hn : 18446744073709551616 ≤ n) {S0 : q_S} {o : Nat} (mo : o ∈ L) (ro : ρ o = 45) {p0 : Int32} {p1 : Int64} {p2 : Int32}  : ∀ (k : Nat) (S : q_S) (l1 : Int32) (l2 : Int64) (l4 : Int32) (l5 : Int64) (l7 : Int32), q_G ρ L M_X12_number_45_k4 S0 S → (0 ≤ l1.toInt ∧ l1.toInt ≤ 23) → (0 ≤ l2.toInt ∧ l2.toInt ≤ 1600) → (4 ≤ l4.toInt ∧ l4.toInt ≤ 4) → (0 ≤ l5.toInt ∧ l5.toInt ≤ 4294967295) → (0 ≤ l7.toInt ∧ l7.toInt ≤ 4) → ((q_fE S o 6 (l1 : Int32).toNatClampNeg).toInt + (l2).toInt + (l4).toInt ≤ 1600) → ((q_I S o 8).toInt = 0 → (q_I S0 o 8).toInt = 0) → ((l1).toInt = (p0).toInt) → ((l7).toInt ≤ (l4).toInt) → ((l7).toInt = 0 → (l5).toInt ≤ 0) → ((l7).toInt = 1 → (l5).toInt ≤ 255) → ((l7).toInt = 2 → (l5).toInt ≤ 65535) → ((l7).toInt = 3 → (l5).toInt ≤ 16777215) → ((l7).toInt = 4 → (l5).toInt ≤ 4294967295) → 2147483648 - l7.toInt ≤ (k : Int) → q_ok (m_X12_number_40 n k S (some o) l1 l2 l4 l5 l7) (fun r T => q_G ρ L M_X12_number_45_k4 S0 T ∧ (0 ≤ r.toInt ∧ r.toInt ≤ 4294967295) ∧ q_sm (((q_I T o 8).toInt = 0 → (q_I S0 o 8).toInt = 0) ∧ ((q_I T o 8).toInt = 0 → 0 ≤ (p0).toInt))) := by
  intro k
  induction k with
  | zero =>
    intro S l1 l2 l4 l5 l7 hG hl1 hl2 hl4 hl5 hl7 hf0 hf1 hf2 hf3 hf4 hf5 hf6 hf7 hf8 hm
    have f0 := q_rngI l7
    exfalso; omega
  | succ k ih =>
    intro S l1 l2 l4 l5 l7 hG hl1 hl2 hl4 hl5 hl7 hf0 hf1 hf2 hf3 hf4 hf5 hf6 hf7 hf8 hm
    rw [m_X12_number_40]
    have z0 : (0 : Int32).toInt = 0 := rfl
    have t1 := g_45_R6 hG mo ro
    obtain ⟨a2, ea2, ma2, ra2⟩ := id t1
    have f3 : q_sm _ := g_49_E hG ma2 ra2 (k := (l1).toNatClampNeg)
    have t4 := g_45_R6 hG mo ro
    have t5 := g_45_R7 hG mo ro
    obtain ⟨a6, ea6, ma6, ra6⟩ := id t5
    have f7 : q_sm _ := g_50_E hG ma6 ra6 (k := (l1).toNatClampNeg)
    obtain ⟨v8, ev8⟩ := q_ev ((q_I (S) a2 (l1).toNatClampNeg).toInt)
    have f9 := q_bV ev8 f3
    obtain ⟨v10, ev10⟩ := q_ev ((q_I (S) a6 (l1).toNatClampNeg).toInt)
    have f11 := q_bV ev10 f7
    have f12 : v8 + v10 ≤ 1600 := q_to2 (fun x0 x1 => x0 + x1 ≤ 1600) ev8 ev10 (hG.1.2.2.2 a2 a6 ma2 ma6 ra2 ra6 _)
    have e13 : q_fE (S) o 6 ((l1 : Int32)).toNatClampNeg = q_I (S) a2 (l1).toNatClampNeg := q_fEe ea2
    obtain ⟨v14, ev14⟩ := q_ev ((q_fE (S) o 6 ((l1 : Int32)).toNatClampNeg).toInt)
    have f15 : v14 = v8 := q_eqVI e13 ev14 ev8
    have f16 : v14 + l2.toInt + l4.toInt ≤ 1600 := q_to3 (fun x0 x1 x2 => x0 + x1 + x2 ≤ 1600) ev14 q_evr q_evr hf0
    have f17 : q_sm _ := g_45_I8 hG mo ro
    obtain ⟨v18, ev18⟩ := q_ev ((q_I (S) o 8).toInt)
    have f19 := q_bV ev18 f17
    obtain ⟨v20, ev20⟩ := q_ev ((q_I (S0) o 8).toInt)
    have f21 := q_rVI (x := q_I (S0) o 8) ev20
    have f22 : v18 = 0 → v20 = 0 := q_to2 (fun x0 x1 => x0 = 0 → x1 = 0) ev18 ev20 hf1
    have f23 := q_rVI (x := p0) q_evr
    have f24 : l1.toInt = p0.toInt := q_to2 (fun x0 x1 => x0 = x1) q_evr q_evr hf2
    have f25 : l7.toInt ≤ l4.toInt := q_to2 (fun x0 x1 => x0 ≤ x1) q_evr q_evr hf3
    have f26 : l7.toInt = 0 → l5.toInt ≤ 0 := q_to2 (fun x0 x1 => x0 = 0 → x1 ≤ 0) q_evr q_evr hf4
    have f27 : l7.toInt = 1 → l5.toInt ≤ 255 := q_to2 (fun x0 x1 => x0 = 1 → x1 ≤ 255) q_evr q_evr hf5
    have f28 : l7.toInt = 2 → l5.toInt ≤ 65535 := q_to2 (fun x0 x1 => x0 = 2 → x1 ≤ 65535) q_evr q_evr hf6
    have f29 : l7.toInt = 3 → l5.toInt ≤ 16777215 := q_to2 (fun x0 x1 => x0 = 3 → x1 ≤ 16777215) q_evr q_evr hf7
    have f30 : l7.toInt = 4 → l5.toInt ≤ 4294967295 := q_to2 (fun x0 x1 => x0 = 4 → x1 ≤ 4294967295) q_evr q_evr hf8
    refine q_ok_ite (fun g31 => ?_) (fun g31 => ?_)
    · have f32 := q_leV q_evr q_evr (q_p_ge g31)
      exact q_ok_some ⟨hG, (q_wd hl5 (by decide) (by decide)), (q_smI ⟨(q_bw2 (fun x0 x1 => x0 = 0 → x1 = 0) ev18 ev20 (by omega)), (q_bw2 (fun x0 x1 => x0 = 0 → 0 ≤ x1) ev18 q_evr (by omega))⟩)⟩
    · have f33 := q_ltV q_evr q_evr (q_n_ge g31)
      refine q_ok_atS hG (q_trI mo ro) rfl (fun mo ro => ?_)
      have t34 := g_45_R1 hG mo ro
      have t35 := g_45_R6 hG mo ro
      refine q_ok_atA hG ea2 ma2 ra2 rfl ?_
      refine q_ok_if (q_inV (g_49_N hG ma2 ra2) q_evr (by omega) (by omega)) ?_
      refine q_ok_at hG t34 rfl (fun a36 ma36 ra36 ea36 => ?_)
      obtain ⟨v37, ev37⟩ := q_ev ((((q_I (S) a2 (l1).toNatClampNeg) + (l2.toInt32)) + l7).toInt)
      obtain ⟨v38, ev38⟩ := q_ev (((q_I (S) a2 (l1).toNatClampNeg) + (l2.toInt32)).toInt)
      obtain ⟨v39, ev39⟩ := q_ev ((l2.toInt32).toInt)
      have f40 : v39 = l2.toInt := q_l2iV ev39 q_evr (by omega) (by omega)
      have f41 : v38 = v8 + v39 := q_addVI ev38 ev8 ev39 (by omega) (by omega)
      have f42 : v37 = v38 + l7.toInt := q_addVI ev37 ev38 q_evr (by omega) (by omega)
      refine q_ok_if (q_inV (g_46_N hG ma36 ra36) ev37 (by omega) (by omega)) ?_
      have f43 : q_sm _ := g_46_E hG ma36 ra36 (k := (((q_I (S) a2 (l1).toNatClampNeg) + (l2.toInt32)) + l7).toNatClampNeg)
      obtain ⟨v44, ev44⟩ := q_ev ((((256 : Int64) * l5) + ((q_I (S) a36 (((q_I (S) a2 (l1).toNatClampNeg) + (l2.toInt32)) + l7).toNatClampNeg).toInt64)).toInt)
      obtain ⟨v45, ev45⟩ := q_ev (((256 : Int64) * l5).toInt)
      have f46 : v45 = (256) * l5.toInt := q_mulVJ ev45 (show q_eqv ((256 : Int64)).toInt (256) by unfold q_eqv; decide) q_evr (by omega) (by omega)
      obtain ⟨v47, ev47⟩ := q_ev (((q_I (S) a36 (((q_I (S) a2 (l1).toNatClampNeg) + (l2.toInt32)) + l7).toNatClampNeg).toInt64).toInt)
      obtain ⟨v48, ev48⟩ := q_ev ((q_I (S) a36 (((q_I (S) a2 (l1).toNatClampNeg) + (l2.toInt32)) + l7).toNatClampNeg).toInt)
      have f49 := q_bV ev48 f43
      have f50 : v47 = v48 := q_i2lV ev47 ev48
      have f51 : v44 = v45 + v47 := q_addVJ ev44 ev45 ev47 (by omega) (by omega)
      obtain ⟨v52, ev52⟩ := q_ev ((l7 + (1)).toInt)
      have f53 : v52 = l7.toInt + (1) := q_addVI ev52 q_evr (show q_eqv ((1 : Int32)).toInt (1) by unfold q_eqv; decide) (by omega) (by omega)
      have t54 := g_45_R6 hG mo ro
      have e55 : q_fE (S) o 6 ((l1 : Int32)).toNatClampNeg = q_I (S) a2 (l1).toNatClampNeg := q_fEe ea2
      exact ih _ _ _ _ _ _ hG (q_wd hl1 (by decide) (by decide)) (q_wd hl2 (by decide) (by decide)) (q_wd hl4 (by decide) (by decide)) (q_oV ev44 (by omega) (by omega)) (q_oV ev52 (by omega) (by omega)) (q_bw3 (fun x0 x1 x2 => x0 + x1 + x2 ≤ 1600) ev14 q_evr q_evr (by omega)) (q_bw2 (fun x0 x1 => x0 = 0 → x1 = 0) ev18 ev20 (by omega)) (q_bw2 (fun x0 x1 => x0 = x1) q_evr q_evr (by omega)) (q_bw2 (fun x0 x1 => x0 ≤ x1) ev52 q_evr (by omega)) (q_bw2 (fun x0 x1 => x0 = 0 → x1 ≤ 0) ev52 ev44 (by omega)) (q_bw2 (fun x0 x1 => x0 = 1 → x1 ≤ 255) ev52 ev44 (by omega)) (q_bw2 (fun x0 x1 => x0 = 2 → x1 ≤ 65535) ev52 ev44 (by omega)) (q_bw2 (fun x0 x1 => x0 = 3 → x1 ≤ 16777215) ev52 ev44 (by omega)) (q_bw2 (fun x0 x1 => x0 = 4 → x1 ≤ 4294967295) ev52 ev44 (by omega))  (q_upV ev52 (by omega))
set_option maxHeartbeats 4000000 in
set_option maxRecDepth 100000 in
theorem s_X12_number_45_k4 {ρ : Nat → Nat} {L : List Nat} {n : Nat} (hn : 18446744073709551616 ≤ n) {S : q_S} (hI : q_Inv ρ L S) {o : Nat} (mo : o ∈ L) (ro : ρ o = 45) {p0 : Int32} (hp0 : (-1 ≤ p0.toInt ∧ p0.toInt ≤ 23)) {p1 : Int64} (hp1 : (-1152921504606846976 ≤ p1.toInt ∧ p1.toInt ≤ 1152921504606846976)) {p2 : Int32} (hp2 : (4 ≤ p2.toInt ∧ p2.toInt ≤ 4)) : q_ok (m_X12_number n S o p0 p1 p2) (fun r T => q_G ρ L M_X12_number_45_k4 S T ∧ (0 ≤ r.toInt ∧ r.toInt ≤ 4294967295) ∧ q_sm (((q_I T o 8).toInt = 0 → (q_I S o 8).toInt = 0) ∧ ((q_I T o 8).toInt = 0 → 0 ≤ (p0).toInt))) := by
  have hG : q_G ρ L M_X12_number_45_k4 S S := q_G_refl hI
  unfold m_X12_number
  have z0 : (0 : Int32).toInt = 0 := rfl
  have f1 : q_sm _ := g_45_I8 hG mo ro
  refine q_ok_ite (fun g2 => ?_) (fun g2 => ?_)
  · have f3 := q_eqV q_evr (show q_eqv ((-1 : Int32)).toInt (-1) by unfold q_eqv; decide) (q_p_eq g2)
    unfold m_X12_number_27
    refine q_ok_atS hG (q_trI mo ro) rfl (fun mo ro => ?_)
    refine q_ok_if (q_b01V (show q_eqv ((1 : Int32)).toInt (1) by unfold q_eqv; decide) (by omega) (by omega)) ?_
    have hG := u_45_I8 (x := (1 : Int32)) hG mo ro (by decide) (q_wd (show (1 : Int) ≤ (1 : Int32).toInt ∧ (1 : Int32).toInt ≤ (1 : Int) by decide) (by decide) (by decide))
    have f4 : q_sm _ := g_45_I8 hG mo ro
    have e5 : q_I (q_sI (S) o 8 ((1 : Int32))) o 8 = (1 : Int32) := q_hitI
    obtain ⟨v6, ev6⟩ := q_ev ((q_I (q_sI (S) o 8 ((1 : Int32))) o 8).toInt)
    have f7 : v6 = (1) := q_eqVI e5 ev6 (show q_eqv ((1 : Int32)).toInt (1) by unfold q_eqv; decide)
    obtain ⟨v8, ev8⟩ := q_ev ((q_I (S) o 8).toInt)
    have f9 := q_bV ev8 f1
    exact q_ok_some ⟨hG, (q_wd (show (0 : Int) ≤ (0 : Int64).toInt ∧ (0 : Int64).toInt ≤ (0 : Int) by decide) (by decide) (by decide)), (q_smI ⟨(q_bw2 (fun x0 x1 => x0 = 0 → x1 = 0) ev6 ev8 (by omega)), (q_bw2 (fun x0 x1 => x0 = 0 → 0 ≤ x1) ev6 q_evr (by omega))⟩)⟩
  · have f10 := q_neV q_evr (show q_eqv ((-1 : Int32)).toInt (-1) by unfold q_eqv; decide) (q_n_eq g2)
    refine q_ok_ite (fun g11 => ?_) (fun g11 => ?_)
    · have f12 := q_ltV q_evr (show q_eqv ((0 : Int64)).toInt (0) by unfold q_eqv; decide) (q_cp_lt g11)
      unfold m_X12_number_27
      refine q_ok_atS hG (q_trI mo ro) rfl (fun mo ro => ?_)
      refine q_ok_if (q_b01V (show q_eqv ((1 : Int32)).toInt (1) by unfold q_eqv; decide) (by omega) (by omega)) ?_
      have hG := u_45_I8 (x := (1 : Int32)) hG mo ro (by decide) (q_wd (show (1 : Int) ≤ (1 : Int32).toInt ∧ (1 : Int32).toInt ≤ (1 : Int) by decide) (by decide) (by decide))
      have f13 : q_sm _ := g_45_I8 hG mo ro
      have e14 : q_I (q_sI (S) o 8 ((1 : Int32))) o 8 = (1 : Int32) := q_hitI
      obtain ⟨v15, ev15⟩ := q_ev ((q_I (q_sI (S) o 8 ((1 : Int32))) o 8).toInt)
      have f16 : v15 = (1) := q_eqVI e14 ev15 (show q_eqv ((1 : Int32)).toInt (1) by unfold q_eqv; decide)
      obtain ⟨v17, ev17⟩ := q_ev ((q_I (S) o 8).toInt)
      have f18 := q_bV ev17 f1
      exact q_ok_some ⟨hG, (q_wd (show (0 : Int) ≤ (0 : Int64).toInt ∧ (0 : Int64).toInt ≤ (0 : Int) by decide) (by decide) (by decide)), (q_smI ⟨(q_bw2 (fun x0 x1 => x0 = 0 → x1 = 0) ev15 ev17 (by omega)), (q_bw2 (fun x0 x1 => x0 = 0 → 0 ≤ x1) ev15 q_evr (by omega))⟩)⟩
    · have f19 := q_leV (show q_eqv ((0 : Int64)).toInt (0) by unfold q_eqv; decide) q_evr (q_cn_lt g11)
      refine q_ok_atS hG (q_trI mo ro) rfl (fun mo ro => ?_)
      have t20 := g_45_R7 hG mo ro
      refine q_ok_at hG t20 rfl (fun a21 ma21 ra21 ea21 => ?_)
      refine q_ok_if (q_inV (g_50_N hG ma21 ra21) q_evr (by omega) (by omega)) ?_
      have f22 : q_sm _ := g_50_E hG ma21 ra21 (k := (p0).toNatClampNeg)
      have t23 := g_45_R6 hG mo ro
      obtain ⟨a24, ea24, ma24, ra24⟩ := id t23
      have f25 : q_sm _ := g_49_E hG ma24 ra24 (k := (p0).toNatClampNeg)
      have t26 := g_45_R7 hG mo ro
      obtain ⟨v27, ev27⟩ := q_ev ((q_I (S) a24 (p0).toNatClampNeg).toInt)
      have f28 := q_bV ev27 f25
      obtain ⟨v29, ev29⟩ := q_ev ((q_I (S) a21 (p0).toNatClampNeg).toInt)
      have f30 := q_bV ev29 f22
      have f31 : v27 + v29 ≤ 1600 := q_to2 (fun x0 x1 => x0 + x1 ≤ 1600) ev27 ev29 (hG.1.2.2.2 a24 a21 ma24 ma21 ra24 ra21 _)
      obtain ⟨v32, ev32⟩ := q_ev ((p1 + (p2.toInt64)).toInt)
      obtain ⟨v33, ev33⟩ := q_ev ((p2.toInt64).toInt)
      have f34 : v33 = p2.toInt := q_i2lV ev33 q_evr
      have f35 : v32 = p1.toInt + v33 := q_addVJ ev32 q_evr ev33 (by omega) (by omega)
      obtain ⟨v36, ev36⟩ := q_ev (((q_I (S) a21 (p0).toNatClampNeg).toInt64).toInt)
      have f37 : v36 = v29 := q_i2lV ev36 ev29
      refine q_ok_ite (fun g38 => ?_) (fun g38 => ?_)
      · have f39 := q_leV ev32 ev36 (q_cp_le g38)
        have t40 := g_45_R6 hG mo ro
        have e41 : q_fE (S) o 6 ((p0 : Int32)).toNatClampNeg = q_I (S) a24 (p0).toNatClampNeg := q_fEe ea24
        obtain ⟨v42, ev42⟩ := q_ev ((q_fE (S) o 6 ((p0 : Int32)).toNatClampNeg).toInt)
        have f43 : v42 = v27 := q_eqVI e41 ev42 ev27
        obtain ⟨v44, ev44⟩ := q_ev ((q_I (S) o 8).toInt)
        have f45 := q_bV ev44 f1
        exact s_X12_number_45_k4_40 hn mo ro (p0 := p0) (p1 := p1) (p2 := p2) n _ _ _ _ _ _ hG (q_oV q_evr (by omega) (by omega)) (q_oV q_evr (by omega) (by omega)) (q_wd hp2 (by decide) (by decide)) (q_wd (show (0 : Int) ≤ (0 : Int64).toInt ∧ (0 : Int64).toInt ≤ (0 : Int) by decide) (by decide) (by decide)) (q_wd (show (0 : Int) ≤ (0 : Int32).toInt ∧ (0 : Int32).toInt ≤ (0 : Int) by decide) (by decide) (by decide)) (q_bw3 (fun x0 x1 x2 => x0 + x1 + x2 ≤ 1600) ev42 q_evr q_evr (by omega)) (q_bw2 (fun x0 x1 => x0 = 0 → x1 = 0) ev44 ev44 (by omega)) (q_bw2 (fun x0 x1 => x0 = x1) q_evr q_evr (by omega)) (q_bw2 (fun x0 x1 => x0 ≤ x1) (show q_eqv ((0 : Int32)).toInt (0) by unfold q_eqv; decide) q_evr (by omega)) (q_bw2 (fun x0 x1 => x0 = 0 → x1 ≤ 0) (show q_eqv ((0 : Int32)).toInt (0) by unfold q_eqv; decide) (show q_eqv ((0 : Int64)).toInt (0) by unfold q_eqv; decide) (by omega)) (q_bw2 (fun x0 x1 => x0 = 1 → x1 ≤ 255) (show q_eqv ((0 : Int32)).toInt (0) by unfold q_eqv; decide) (show q_eqv ((0 : Int64)).toInt (0) by unfold q_eqv; decide) (by omega)) (q_bw2 (fun x0 x1 => x0 = 2 → x1 ≤ 65535) (show q_eqv ((0 : Int32)).toInt (0) by unfold q_eqv; decide) (show q_eqv ((0 : Int64)).toInt (0) by unfold q_eqv; decide) (by omega)) (q_bw2 (fun x0 x1 => x0 = 3 → x1 ≤ 16777215) (show q_eqv ((0 : Int32)).toInt (0) by unfold q_eqv; decide) (show q_eqv ((0 : Int64)).toInt (0) by unfold q_eqv; decide) (by omega)) (q_bw2 (fun x0 x1 => x0 = 4 → x1 ≤ 4294967295) (show q_eqv ((0 : Int32)).toInt (0) by unfold q_eqv; decide) (show q_eqv ((0 : Int64)).toInt (0) by unfold q_eqv; decide) (by omega))  (q_upV (show q_eqv ((0 : Int32)).toInt (0) by unfold q_eqv; decide) (by omega))
      · have f46 := q_ltV ev36 ev32 (q_cn_le g38)
        unfold m_X12_number_27
        refine q_ok_atS hG (q_trI mo ro) rfl (fun mo ro => ?_)
        refine q_ok_if (q_b01V (show q_eqv ((1 : Int32)).toInt (1) by unfold q_eqv; decide) (by omega) (by omega)) ?_
        have hG := u_45_I8 (x := (1 : Int32)) hG mo ro (by decide) (q_wd (show (1 : Int) ≤ (1 : Int32).toInt ∧ (1 : Int32).toInt ≤ (1 : Int) by decide) (by decide) (by decide))
        have f47 : q_sm _ := g_45_I8 hG mo ro
        have e48 : q_I (q_sI (S) o 8 ((1 : Int32))) o 8 = (1 : Int32) := q_hitI
        obtain ⟨v49, ev49⟩ := q_ev ((q_I (q_sI (S) o 8 ((1 : Int32))) o 8).toInt)
        have f50 : v49 = (1) := q_eqVI e48 ev49 (show q_eqv ((1 : Int32)).toInt (1) by unfold q_eqv; decide)
        obtain ⟨v51, ev51⟩ := q_ev ((q_I (S) o 8).toInt)
        have f52 := q_bV ev51 f1
        exact q_ok_some ⟨hG, (q_wd (show (0 : Int) ≤ (0 : Int64).toInt ∧ (0 : Int64).toInt ≤ (0 : Int) by decide) (by decide) (by decide)), (q_smI ⟨(q_bw2 (fun x0 x1 => x0 = 0 → x1 = 0) ev49 ev51 (by omega)), (q_bw2 (fun x0 x1 => x0 = 0 → 0 ≤ x1) ev49 q_evr (by omega))⟩)⟩
def M_X12_locaAt_45 : List Nat := [2888]
set_option maxHeartbeats 4000000 in
set_option maxRecDepth 100000 in
theorem s_X12_locaAt_45 {ρ : Nat → Nat} {L : List Nat} {n : Nat} (hn : 18446744073709551616 ≤ n) {S : q_S} (hI : q_Inv ρ L S) {o : Nat} (mo : o ∈ L) (ro : ρ o = 45) {p0 : Int32} (hp0 : (0 ≤ p0.toInt ∧ p0.toInt ≤ 200)) : q_ok (m_X12_locaAt n S o p0) (fun r T => q_G ρ L M_X12_locaAt_45 S T ∧ (0 ≤ r.toInt ∧ r.toInt ≤ 4294967295)) := by
  have hG : q_G ρ L M_X12_locaAt_45 S S := q_G_refl hI
  unfold m_X12_locaAt
  have z0 : (0 : Int32).toInt = 0 := rfl
  refine q_ok_atS hG (q_trI mo ro) rfl (fun mo ro => ?_)
  refine q_ok_b (s_X12_find_45 hn hG.1 mo ro (q_wd (show (1751474532 : Int) ≤ (1751474532 : Int64).toInt ∧ (1751474532 : Int64).toInt ≤ (1751474532 : Int) by decide) (by decide) (by decide))) (fun r1 S2 h3 => ?_)
  obtain ⟨eS2, h3⟩ := h3
  replace eS2 := eS2.symm
  subst eS2
  have f4 := h3.1
  have e5 : r1 = q_fd (S) o ((1751474532 : Int64)) := Int32.toInt_inj.mp (q_smE (h3.2))
  subst e5
  obtain ⟨v6, ev6⟩ := q_ev ((q_fd (S) o ((1751474532 : Int64))).toInt)
  have f7 := q_rVI (x := q_fd (S) o ((1751474532 : Int64))) ev6
  have f8 := q_bV ev6 f4
  refine q_ok_atS hG (q_trI mo ro) rfl (fun mo ro => ?_)
  have f12 : q_sm _ := g_45_I8 hG mo ro
  refine q_ok_b (s_X12_two_45 hn hG.1 mo ro (q_oV ev6 (by omega) (by omega)) (q_wd (show (50 : Int) ≤ (50 : Int64).toInt ∧ (50 : Int64).toInt ≤ (50 : Int) by decide) (by decide) (by decide))) (fun r9 S10 h11 => ?_)
  have hG := q_G_call hG h11.1 (by decide)
  have f13 := h11.2.1
  have f14 : q_sm _ := g_45_I8 hG mo ro
  obtain ⟨v15, ev15⟩ := q_ev ((q_I (S10) o 8).toInt)
  have f16 := q_bV ev15 f14
  obtain ⟨v17, ev17⟩ := q_ev ((q_I (S) o 8).toInt)
  have f18 := q_bV ev17 f12
  have f19 : v15 = 0 → v17 = 0 := q_to2 (fun x0 x1 => x0 = 0 → x1 = 0) ev15 ev17 ((q_smE (h11.2.2)))
  refine q_ok_ite (fun g20 => ?_) (fun g20 => ?_)
  · have f21 := q_eqV q_evr (show q_eqv ((1 : Int32)).toInt (1) by unfold q_eqv; decide) (q_p_eq g20)
    unfold m_X12_locaAt_23
    refine q_ok_ite (fun g22 => ?_) (fun g22 => ?_)
    · have f23 := q_eqV (show q_eqv ((1 : Int32)).toInt (1) by unfold q_eqv; decide) (show q_eqv ((0 : Int32)).toInt (0) by unfold q_eqv; decide) (q_p_eq g22)
      exfalso; omega
    · have f24 := q_neV (show q_eqv ((1 : Int32)).toInt (1) by unfold q_eqv; decide) (show q_eqv ((0 : Int32)).toInt (0) by unfold q_eqv; decide) (q_n_eq g22)
      refine q_ok_atS hG (q_trI mo ro) rfl (fun mo ro => ?_)
      refine q_ok_b (s_X12_find_45 hn hG.1 mo ro (q_wd (show (1819239265 : Int) ≤ (1819239265 : Int64).toInt ∧ (1819239265 : Int64).toInt ≤ (1819239265 : Int) by decide) (by decide) (by decide))) (fun r25 S26 h27 => ?_)
      obtain ⟨eS26, h27⟩ := h27
      replace eS26 := eS26.symm
      subst eS26
      have f28 := h27.1
      have e29 : r25 = q_fd (S10) o ((1819239265 : Int64)) := Int32.toInt_inj.mp (q_smE (h27.2))
      subst e29
      obtain ⟨v30, ev30⟩ := q_ev ((q_fd (S10) o ((1819239265 : Int64))).toInt)
      have f31 := q_rVI (x := q_fd (S10) o ((1819239265 : Int64))) ev30
      have f32 := q_bV ev30 f28
      refine q_ok_atS hG (q_trI mo ro) rfl (fun mo ro => ?_)
      obtain ⟨v36, ev36⟩ := q_ev (((4 : Int64) * (p0.toInt64)).toInt)
      obtain ⟨v37, ev37⟩ := q_ev ((p0.toInt64).toInt)
      have f38 : v37 = p0.toInt := q_i2lV ev37 q_evr
      have f39 : v36 = (4) * v37 := q_mulVJ ev36 (show q_eqv ((4 : Int64)).toInt (4) by unfold q_eqv; decide) ev37 (by omega) (by omega)
      refine q_ok_b (s_X12_number_45_k4 hn hG.1 mo ro (q_oV ev30 (by omega) (by omega)) (q_oV ev36 (by omega) (by omega)) (q_wd (show (4 : Int) ≤ (4 : Int32).toInt ∧ (4 : Int32).toInt ≤ (4 : Int) by decide) (by decide) (by decide))) (fun r33 S34 h35 => ?_)
      have hG := q_G_call hG h35.1 (by decide)
      have f40 := h35.2.1
      have f41 : q_sm _ := g_45_I8 hG mo ro
      obtain ⟨v42, ev42⟩ := q_ev ((q_I (S34) o 8).toInt)
      have f43 := q_bV ev42 f41
      have f44 : v42 = 0 → v15 = 0 := q_to2 (fun x0 x1 => x0 = 0 → x1 = 0) ev42 ev15 ((q_smE (h35.2.2)).1)
      have f45 : v42 = 0 → 0 ≤ v30 := q_to2 (fun x0 x1 => x0 = 0 → 0 ≤ x1) ev42 ev30 ((q_smE (h35.2.2)).2)
      unfold m_X12_locaAt_71
      exact q_ok_some ⟨hG, (q_wd f40 (by decide) (by decide))⟩
  · have f46 := q_neV q_evr (show q_eqv ((1 : Int32)).toInt (1) by unfold q_eqv; decide) (q_n_eq g20)
    unfold m_X12_locaAt_23
    refine q_ok_ite (fun g47 => ?_) (fun g47 => ?_)
    · have f48 := q_eqV (show q_eqv ((0 : Int32)).toInt (0) by unfold q_eqv; decide) (show q_eqv ((0 : Int32)).toInt (0) by unfold q_eqv; decide) (q_p_eq g47)
      refine q_ok_atS hG (q_trI mo ro) rfl (fun mo ro => ?_)
      refine q_ok_b (s_X12_find_45 hn hG.1 mo ro (q_wd (show (1819239265 : Int) ≤ (1819239265 : Int64).toInt ∧ (1819239265 : Int64).toInt ≤ (1819239265 : Int) by decide) (by decide) (by decide))) (fun r49 S50 h51 => ?_)
      obtain ⟨eS50, h51⟩ := h51
      replace eS50 := eS50.symm
      subst eS50
      have f52 := h51.1
      have e53 : r49 = q_fd (S10) o ((1819239265 : Int64)) := Int32.toInt_inj.mp (q_smE (h51.2))
      subst e53
      obtain ⟨v54, ev54⟩ := q_ev ((q_fd (S10) o ((1819239265 : Int64))).toInt)
      have f55 := q_rVI (x := q_fd (S10) o ((1819239265 : Int64))) ev54
      have f56 := q_bV ev54 f52
      refine q_ok_atS hG (q_trI mo ro) rfl (fun mo ro => ?_)
      obtain ⟨v60, ev60⟩ := q_ev (((2 : Int64) * (p0.toInt64)).toInt)
      obtain ⟨v61, ev61⟩ := q_ev ((p0.toInt64).toInt)
      have f62 : v61 = p0.toInt := q_i2lV ev61 q_evr
      have f63 : v60 = (2) * v61 := q_mulVJ ev60 (show q_eqv ((2 : Int64)).toInt (2) by unfold q_eqv; decide) ev61 (by omega) (by omega)
      refine q_ok_b (s_X12_two_45 hn hG.1 mo ro (q_oV ev54 (by omega) (by omega)) (q_oV ev60 (by omega) (by omega))) (fun r57 S58 h59 => ?_)
      have hG := q_G_call hG h59.1 (by decide)
      have f64 := h59.2.1
      have f65 : q_sm _ := g_45_I8 hG mo ro
      obtain ⟨v66, ev66⟩ := q_ev ((q_I (S58) o 8).toInt)
      have f67 := q_bV ev66 f65
      have f68 : v66 = 0 → v15 = 0 := q_to2 (fun x0 x1 => x0 = 0 → x1 = 0) ev66 ev15 ((q_smE (h59.2.2)))
      unfold m_X12_locaAt_71
      obtain ⟨v69, ev69⟩ := q_ev (((2 : Int64) * (r57.toInt64)).toInt)
      obtain ⟨v70, ev70⟩ := q_ev ((r57.toInt64).toInt)
      have f71 : v70 = r57.toInt := q_i2lV ev70 q_evr
      have f72 : v69 = (2) * v70 := q_mulVJ ev69 (show q_eqv ((2 : Int64)).toInt (2) by unfold q_eqv; decide) ev70 (by omega) (by omega)
      exact q_ok_some ⟨hG, (q_oV ev69 (by omega) (by omega))⟩
    · have f73 := q_neV (show q_eqv ((0 : Int32)).toInt (0) by unfold q_eqv; decide) (show q_eqv ((0 : Int32)).toInt (0) by unfold q_eqv; decide) (q_n_eq g47)
      exfalso; omega
def M_X12_lookData_45 : List Nat := [2888, 2901, 2902, 2903]
set_option maxHeartbeats 4000000 in
set_option maxRecDepth 100000 in
theorem s_X12_lookData_45 {ρ : Nat → Nat} {L : List Nat} {n : Nat} (hn : 18446744073709551616 ≤ n) {S : q_S} (hI : q_Inv ρ L S) {o : Nat} (mo : o ∈ L) (ro : ρ o = 45) {p0 : Int32} (hp0 : (0 ≤ p0.toInt ∧ p0.toInt ≤ 199)) : q_ok (m_X12_lookData n S o p0) (fun r T => q_G ρ L M_X12_lookData_45 S T ∧ (0 ≤ r.toInt ∧ r.toInt ≤ 1)) := by
  have hG : q_G ρ L M_X12_lookData_45 S S := q_G_refl hI
  unfold m_X12_lookData
  have z0 : (0 : Int32).toInt = 0 := rfl
  refine q_ok_atS hG (q_trI mo ro) rfl (fun mo ro => ?_)
  refine q_ok_if (q_b01V (show q_eqv ((0 : Int32)).toInt (0) by unfold q_eqv; decide) (by omega) (by omega)) ?_
  have hG := u_45_I8 (x := (0 : Int32)) hG mo ro (by decide) (q_wd (show (0 : Int) ≤ (0 : Int32).toInt ∧ (0 : Int32).toInt ≤ (0 : Int) by decide) (by decide) (by decide))
  refine q_ok_b (s_X12_locaAt_45 hn hG.1 mo ro (q_wd hp0 (by decide) (by decide))) (fun r1 S2 h3 => ?_)
  have hG := q_G_call hG h3.1 (by decide)
  have f4 := h3.2
  refine q_ok_atS hG (q_trI mo ro) rfl (fun mo ro => ?_)
  refine q_ok_b (s_X12_locaAt_45 hn hG.1 mo ro (q_wd (q_addBI (1) (200) hp0 (show (1 : Int) ≤ (1 : Int32).toInt ∧ (1 : Int32).toInt ≤ (1 : Int) by decide) (by decide) (by decide) (by decide) (by decide)) (by decide) (by decide))) (fun r5 S6 h7 => ?_)
  have hG := q_G_call hG h7.1 (by decide)
  have f8 := h7.2
  refine q_ok_ite (fun g9 => ?_) (fun g9 => ?_)
  · have f10 := q_eqV q_evr q_evr (q_cp_eq g9)
    unfold m_X12_lookData_33
    refine q_ok_atS hG (q_trI mo ro) rfl (fun mo ro => ?_)
    refine q_ok_if (q_b01V (show q_eqv ((1 : Int32)).toInt (1) by unfold q_eqv; decide) (by omega) (by omega)) ?_
    have hG := u_45_I23 (x := (1 : Int32)) hG mo ro (by decide) (q_wd (show (1 : Int) ≤ (1 : Int32).toInt ∧ (1 : Int32).toInt ≤ (1 : Int) by decide) (by decide) (by decide))
    refine q_ok_ite (fun g11 => ?_) (fun g11 => ?_)
    · have f12 := q_leV q_evr (show q_eqv ((1600 : Int64)).toInt (1600) by unfold q_eqv; decide) (q_cp_le g11)
      unfold m_X12_lookData_53
      refine q_ok_atS hG (q_trI mo ro) rfl (fun mo ro => ?_)
      obtain ⟨v13, ev13⟩ := q_ev ((r1.toInt32).toInt)
      have f14 : v13 = r1.toInt := q_l2iV ev13 q_evr (by omega) (by omega)
      have hG := u_45_I21 (x := r1.toInt32) hG mo ro (by decide) (q_oV ev13 (by omega) (by omega))
      refine q_ok_ite (fun g15 => ?_) (fun g15 => ?_)
      · have f16 := q_leV q_evr (show q_eqv ((1600 : Int64)).toInt (1600) by unfold q_eqv; decide) (q_cp_le g15)
        unfold m_X12_lookData_75
        refine q_ok_atS hG (q_trI mo ro) rfl (fun mo ro => ?_)
        obtain ⟨v17, ev17⟩ := q_ev ((r5.toInt32).toInt)
        have f18 : v17 = r5.toInt := q_l2iV ev17 q_evr (by omega) (by omega)
        have hG := u_45_I22 (x := r5.toInt32) hG mo ro (by decide) (q_oV ev17 (by omega) (by omega))
        refine q_ok_atS hG (q_trI mo ro) rfl (fun mo ro => ?_)
        have f19 : q_sm _ := g_45_I8 hG mo ro
        obtain ⟨v20, ev20⟩ := q_ev ((q_I (q_sI (q_sI (q_sI (S6) o 23 ((1 : Int32))) o 21 (r1.toInt32)) o 22 (r5.toInt32)) o 8).toInt)
        have f21 := q_bV ev20 f19
        refine q_ok_ite (fun g22 => ?_) (fun g22 => ?_)
        · have f23 := q_eqV ev20 (show q_eqv ((0 : Int32)).toInt (0) by unfold q_eqv; decide) (q_p_eq g22)
          unfold m_X12_lookData_90
          refine q_ok_if (q_b01V (show q_eqv ((1 : Int32)).toInt (1) by unfold q_eqv; decide) (by omega) (by omega)) ?_
          exact q_ok_some ⟨hG, (q_wd (show (1 : Int) ≤ (1 : Int32).toInt ∧ (1 : Int32).toInt ≤ (1 : Int) by decide) (by decide) (by decide))⟩
        · have f24 := q_neV ev20 (show q_eqv ((0 : Int32)).toInt (0) by unfold q_eqv; decide) (q_n_eq g22)
          unfold m_X12_lookData_90
          refine q_ok_if (q_b01V (show q_eqv ((0 : Int32)).toInt (0) by unfold q_eqv; decide) (by omega) (by omega)) ?_
          exact q_ok_some ⟨hG, (q_wd (show (0 : Int) ≤ (0 : Int32).toInt ∧ (0 : Int32).toInt ≤ (0 : Int) by decide) (by decide) (by decide))⟩
      · have f25 := q_ltV (show q_eqv ((1600 : Int64)).toInt (1600) by unfold q_eqv; decide) q_evr (q_cn_le g15)
        unfold m_X12_lookData_75
        refine q_ok_atS hG (q_trI mo ro) rfl (fun mo ro => ?_)
        have hG := u_45_I22 (x := (1601 : Int32)) hG mo ro (by decide) (q_wd (show (1601 : Int) ≤ (1601 : Int32).toInt ∧ (1601 : Int32).toInt ≤ (1601 : Int) by decide) (by decide) (by decide))
        refine q_ok_atS hG (q_trI mo ro) rfl (fun mo ro => ?_)
        have f26 : q_sm _ := g_45_I8 hG mo ro
        obtain ⟨v27, ev27⟩ := q_ev ((q_I (q_sI (q_sI (q_sI (S6) o 23 ((1 : Int32))) o 21 (r1.toInt32)) o 22 ((1601 : Int32))) o 8).toInt)
        have f28 := q_bV ev27 f26
        refine q_ok_ite (fun g29 => ?_) (fun g29 => ?_)
        · have f30 := q_eqV ev27 (show q_eqv ((0 : Int32)).toInt (0) by unfold q_eqv; decide) (q_p_eq g29)
          unfold m_X12_lookData_90
          refine q_ok_if (q_b01V (show q_eqv ((1 : Int32)).toInt (1) by unfold q_eqv; decide) (by omega) (by omega)) ?_
          exact q_ok_some ⟨hG, (q_wd (show (1 : Int) ≤ (1 : Int32).toInt ∧ (1 : Int32).toInt ≤ (1 : Int) by decide) (by decide) (by decide))⟩
        · have f31 := q_neV ev27 (show q_eqv ((0 : Int32)).toInt (0) by unfold q_eqv; decide) (q_n_eq g29)
          unfold m_X12_lookData_90
          refine q_ok_if (q_b01V (show q_eqv ((0 : Int32)).toInt (0) by unfold q_eqv; decide) (by omega) (by omega)) ?_
          exact q_ok_some ⟨hG, (q_wd (show (0 : Int) ≤ (0 : Int32).toInt ∧ (0 : Int32).toInt ≤ (0 : Int) by decide) (by decide) (by decide))⟩
    · have f32 := q_ltV (show q_eqv ((1600 : Int64)).toInt (1600) by unfold q_eqv; decide) q_evr (q_cn_le g11)
      unfold m_X12_lookData_53
      refine q_ok_atS hG (q_trI mo ro) rfl (fun mo ro => ?_)
      have hG := u_45_I21 (x := (1601 : Int32)) hG mo ro (by decide) (q_wd (show (1601 : Int) ≤ (1601 : Int32).toInt ∧ (1601 : Int32).toInt ≤ (1601 : Int) by decide) (by decide) (by decide))
      refine q_ok_ite (fun g33 => ?_) (fun g33 => ?_)
      · have f34 := q_leV q_evr (show q_eqv ((1600 : Int64)).toInt (1600) by unfold q_eqv; decide) (q_cp_le g33)
        unfold m_X12_lookData_75
        refine q_ok_atS hG (q_trI mo ro) rfl (fun mo ro => ?_)
        obtain ⟨v35, ev35⟩ := q_ev ((r5.toInt32).toInt)
        have f36 : v35 = r5.toInt := q_l2iV ev35 q_evr (by omega) (by omega)
        have hG := u_45_I22 (x := r5.toInt32) hG mo ro (by decide) (q_oV ev35 (by omega) (by omega))
        refine q_ok_atS hG (q_trI mo ro) rfl (fun mo ro => ?_)
        have f37 : q_sm _ := g_45_I8 hG mo ro
        obtain ⟨v38, ev38⟩ := q_ev ((q_I (q_sI (q_sI (q_sI (S6) o 23 ((1 : Int32))) o 21 ((1601 : Int32))) o 22 (r5.toInt32)) o 8).toInt)
        have f39 := q_bV ev38 f37
        refine q_ok_ite (fun g40 => ?_) (fun g40 => ?_)
        · have f41 := q_eqV ev38 (show q_eqv ((0 : Int32)).toInt (0) by unfold q_eqv; decide) (q_p_eq g40)
          unfold m_X12_lookData_90
          refine q_ok_if (q_b01V (show q_eqv ((1 : Int32)).toInt (1) by unfold q_eqv; decide) (by omega) (by omega)) ?_
          exact q_ok_some ⟨hG, (q_wd (show (1 : Int) ≤ (1 : Int32).toInt ∧ (1 : Int32).toInt ≤ (1 : Int) by decide) (by decide) (by decide))⟩
        · have f42 := q_neV ev38 (show q_eqv ((0 : Int32)).toInt (0) by unfold q_eqv; decide) (q_n_eq g40)
          unfold m_X12_lookData_90
          refine q_ok_if (q_b01V (show q_eqv ((0 : Int32)).toInt (0) by unfold q_eqv; decide) (by omega) (by omega)) ?_
          exact q_ok_some ⟨hG, (q_wd (show (0 : Int) ≤ (0 : Int32).toInt ∧ (0 : Int32).toInt ≤ (0 : Int) by decide) (by decide) (by decide))⟩
      · have f43 := q_ltV (show q_eqv ((1600 : Int64)).toInt (1600) by unfold q_eqv; decide) q_evr (q_cn_le g33)
        unfold m_X12_lookData_75
        refine q_ok_atS hG (q_trI mo ro) rfl (fun mo ro => ?_)
        have hG := u_45_I22 (x := (1601 : Int32)) hG mo ro (by decide) (q_wd (show (1601 : Int) ≤ (1601 : Int32).toInt ∧ (1601 : Int32).toInt ≤ (1601 : Int) by decide) (by decide) (by decide))
        refine q_ok_atS hG (q_trI mo ro) rfl (fun mo ro => ?_)
        have f44 : q_sm _ := g_45_I8 hG mo ro
        obtain ⟨v45, ev45⟩ := q_ev ((q_I (q_sI (q_sI (q_sI (S6) o 23 ((1 : Int32))) o 21 ((1601 : Int32))) o 22 ((1601 : Int32))) o 8).toInt)
        have f46 := q_bV ev45 f44
        refine q_ok_ite (fun g47 => ?_) (fun g47 => ?_)
        · have f48 := q_eqV ev45 (show q_eqv ((0 : Int32)).toInt (0) by unfold q_eqv; decide) (q_p_eq g47)
          unfold m_X12_lookData_90
          refine q_ok_if (q_b01V (show q_eqv ((1 : Int32)).toInt (1) by unfold q_eqv; decide) (by omega) (by omega)) ?_
          exact q_ok_some ⟨hG, (q_wd (show (1 : Int) ≤ (1 : Int32).toInt ∧ (1 : Int32).toInt ≤ (1 : Int) by decide) (by decide) (by decide))⟩
        · have f49 := q_neV ev45 (show q_eqv ((0 : Int32)).toInt (0) by unfold q_eqv; decide) (q_n_eq g47)
          unfold m_X12_lookData_90
          refine q_ok_if (q_b01V (show q_eqv ((0 : Int32)).toInt (0) by unfold q_eqv; decide) (by omega) (by omega)) ?_
          exact q_ok_some ⟨hG, (q_wd (show (0 : Int) ≤ (0 : Int32).toInt ∧ (0 : Int32).toInt ≤ (0 : Int) by decide) (by decide) (by decide))⟩
  · have f50 := q_neV q_evr q_evr (q_cn_eq g9)
    unfold m_X12_lookData_33
    refine q_ok_atS hG (q_trI mo ro) rfl (fun mo ro => ?_)
    refine q_ok_if (q_b01V (show q_eqv ((0 : Int32)).toInt (0) by unfold q_eqv; decide) (by omega) (by omega)) ?_
    have hG := u_45_I23 (x := (0 : Int32)) hG mo ro (by decide) (q_wd (show (0 : Int) ≤ (0 : Int32).toInt ∧ (0 : Int32).toInt ≤ (0 : Int) by decide) (by decide) (by decide))
    refine q_ok_ite (fun g51 => ?_) (fun g51 => ?_)
    · have f52 := q_leV q_evr (show q_eqv ((1600 : Int64)).toInt (1600) by unfold q_eqv; decide) (q_cp_le g51)
      unfold m_X12_lookData_53
      refine q_ok_atS hG (q_trI mo ro) rfl (fun mo ro => ?_)
      obtain ⟨v53, ev53⟩ := q_ev ((r1.toInt32).toInt)
      have f54 : v53 = r1.toInt := q_l2iV ev53 q_evr (by omega) (by omega)
      have hG := u_45_I21 (x := r1.toInt32) hG mo ro (by decide) (q_oV ev53 (by omega) (by omega))
      refine q_ok_ite (fun g55 => ?_) (fun g55 => ?_)
      · have f56 := q_leV q_evr (show q_eqv ((1600 : Int64)).toInt (1600) by unfold q_eqv; decide) (q_cp_le g55)
        unfold m_X12_lookData_75
        refine q_ok_atS hG (q_trI mo ro) rfl (fun mo ro => ?_)
        obtain ⟨v57, ev57⟩ := q_ev ((r5.toInt32).toInt)
        have f58 : v57 = r5.toInt := q_l2iV ev57 q_evr (by omega) (by omega)
        have hG := u_45_I22 (x := r5.toInt32) hG mo ro (by decide) (q_oV ev57 (by omega) (by omega))
        refine q_ok_atS hG (q_trI mo ro) rfl (fun mo ro => ?_)
        have f59 : q_sm _ := g_45_I8 hG mo ro
        obtain ⟨v60, ev60⟩ := q_ev ((q_I (q_sI (q_sI (q_sI (S6) o 23 ((0 : Int32))) o 21 (r1.toInt32)) o 22 (r5.toInt32)) o 8).toInt)
        have f61 := q_bV ev60 f59
        refine q_ok_ite (fun g62 => ?_) (fun g62 => ?_)
        · have f63 := q_eqV ev60 (show q_eqv ((0 : Int32)).toInt (0) by unfold q_eqv; decide) (q_p_eq g62)
          unfold m_X12_lookData_90
          refine q_ok_if (q_b01V (show q_eqv ((1 : Int32)).toInt (1) by unfold q_eqv; decide) (by omega) (by omega)) ?_
          exact q_ok_some ⟨hG, (q_wd (show (1 : Int) ≤ (1 : Int32).toInt ∧ (1 : Int32).toInt ≤ (1 : Int) by decide) (by decide) (by decide))⟩
        · have f64 := q_neV ev60 (show q_eqv ((0 : Int32)).toInt (0) by unfold q_eqv; decide) (q_n_eq g62)
          unfold m_X12_lookData_90
          refine q_ok_if (q_b01V (show q_eqv ((0 : Int32)).toInt (0) by unfold q_eqv; decide) (by omega) (by omega)) ?_
          exact q_ok_some ⟨hG, (q_wd (show (0 : Int) ≤ (0 : Int32).toInt ∧ (0 : Int32).toInt ≤ (0 : Int) by decide) (by decide) (by decide))⟩
      · have f65 := q_ltV (show q_eqv ((1600 : Int64)).toInt (1600) by unfold q_eqv; decide) q_evr (q_cn_le g55)
        unfold m_X12_lookData_75
        refine q_ok_atS hG (q_trI mo ro) rfl (fun mo ro => ?_)
        have hG := u_45_I22 (x := (1601 : Int32)) hG mo ro (by decide) (q_wd (show (1601 : Int) ≤ (1601 : Int32).toInt ∧ (1601 : Int32).toInt ≤ (1601 : Int) by decide) (by decide) (by decide))
        refine q_ok_atS hG (q_trI mo ro) rfl (fun mo ro => ?_)
        have f66 : q_sm _ := g_45_I8 hG mo ro
        obtain ⟨v67, ev67⟩ := q_ev ((q_I (q_sI (q_sI (q_sI (S6) o 23 ((0 : Int32))) o 21 (r1.toInt32)) o 22 ((1601 : Int32))) o 8).toInt)
        have f68 := q_bV ev67 f66
        refine q_ok_ite (fun g69 => ?_) (fun g69 => ?_)
        · have f70 := q_eqV ev67 (show q_eqv ((0 : Int32)).toInt (0) by unfold q_eqv; decide) (q_p_eq g69)
          unfold m_X12_lookData_90
          refine q_ok_if (q_b01V (show q_eqv ((1 : Int32)).toInt (1) by unfold q_eqv; decide) (by omega) (by omega)) ?_
          exact q_ok_some ⟨hG, (q_wd (show (1 : Int) ≤ (1 : Int32).toInt ∧ (1 : Int32).toInt ≤ (1 : Int) by decide) (by decide) (by decide))⟩
        · have f71 := q_neV ev67 (show q_eqv ((0 : Int32)).toInt (0) by unfold q_eqv; decide) (q_n_eq g69)
          unfold m_X12_lookData_90
          refine q_ok_if (q_b01V (show q_eqv ((0 : Int32)).toInt (0) by unfold q_eqv; decide) (by omega) (by omega)) ?_
          exact q_ok_some ⟨hG, (q_wd (show (0 : Int) ≤ (0 : Int32).toInt ∧ (0 : Int32).toInt ≤ (0 : Int) by decide) (by decide) (by decide))⟩
    · have f72 := q_ltV (show q_eqv ((1600 : Int64)).toInt (1600) by unfold q_eqv; decide) q_evr (q_cn_le g51)
      unfold m_X12_lookData_53
      refine q_ok_atS hG (q_trI mo ro) rfl (fun mo ro => ?_)
      have hG := u_45_I21 (x := (1601 : Int32)) hG mo ro (by decide) (q_wd (show (1601 : Int) ≤ (1601 : Int32).toInt ∧ (1601 : Int32).toInt ≤ (1601 : Int) by decide) (by decide) (by decide))
      refine q_ok_ite (fun g73 => ?_) (fun g73 => ?_)
      · have f74 := q_leV q_evr (show q_eqv ((1600 : Int64)).toInt (1600) by unfold q_eqv; decide) (q_cp_le g73)
        unfold m_X12_lookData_75
        refine q_ok_atS hG (q_trI mo ro) rfl (fun mo ro => ?_)
        obtain ⟨v75, ev75⟩ := q_ev ((r5.toInt32).toInt)
        have f76 : v75 = r5.toInt := q_l2iV ev75 q_evr (by omega) (by omega)
        have hG := u_45_I22 (x := r5.toInt32) hG mo ro (by decide) (q_oV ev75 (by omega) (by omega))
        refine q_ok_atS hG (q_trI mo ro) rfl (fun mo ro => ?_)
        have f77 : q_sm _ := g_45_I8 hG mo ro
        obtain ⟨v78, ev78⟩ := q_ev ((q_I (q_sI (q_sI (q_sI (S6) o 23 ((0 : Int32))) o 21 ((1601 : Int32))) o 22 (r5.toInt32)) o 8).toInt)
        have f79 := q_bV ev78 f77
        refine q_ok_ite (fun g80 => ?_) (fun g80 => ?_)
        · have f81 := q_eqV ev78 (show q_eqv ((0 : Int32)).toInt (0) by unfold q_eqv; decide) (q_p_eq g80)
          unfold m_X12_lookData_90
          refine q_ok_if (q_b01V (show q_eqv ((1 : Int32)).toInt (1) by unfold q_eqv; decide) (by omega) (by omega)) ?_
          exact q_ok_some ⟨hG, (q_wd (show (1 : Int) ≤ (1 : Int32).toInt ∧ (1 : Int32).toInt ≤ (1 : Int) by decide) (by decide) (by decide))⟩
        · have f82 := q_neV ev78 (show q_eqv ((0 : Int32)).toInt (0) by unfold q_eqv; decide) (q_n_eq g80)
          unfold m_X12_lookData_90
          refine q_ok_if (q_b01V (show q_eqv ((0 : Int32)).toInt (0) by unfold q_eqv; decide) (by omega) (by omega)) ?_
          exact q_ok_some ⟨hG, (q_wd (show (0 : Int) ≤ (0 : Int32).toInt ∧ (0 : Int32).toInt ≤ (0 : Int) by decide) (by decide) (by decide))⟩
      · have f83 := q_ltV (show q_eqv ((1600 : Int64)).toInt (1600) by unfold q_eqv; decide) q_evr (q_cn_le g73)
        unfold m_X12_lookData_75
        refine q_ok_atS hG (q_trI mo ro) rfl (fun mo ro => ?_)
        have hG := u_45_I22 (x := (1601 : Int32)) hG mo ro (by decide) (q_wd (show (1601 : Int) ≤ (1601 : Int32).toInt ∧ (1601 : Int32).toInt ≤ (1601 : Int) by decide) (by decide) (by decide))
        refine q_ok_atS hG (q_trI mo ro) rfl (fun mo ro => ?_)
        have f84 : q_sm _ := g_45_I8 hG mo ro
        obtain ⟨v85, ev85⟩ := q_ev ((q_I (q_sI (q_sI (q_sI (S6) o 23 ((0 : Int32))) o 21 ((1601 : Int32))) o 22 ((1601 : Int32))) o 8).toInt)
        have f86 := q_bV ev85 f84
        refine q_ok_ite (fun g87 => ?_) (fun g87 => ?_)
        · have f88 := q_eqV ev85 (show q_eqv ((0 : Int32)).toInt (0) by unfold q_eqv; decide) (q_p_eq g87)
          unfold m_X12_lookData_90
          refine q_ok_if (q_b01V (show q_eqv ((1 : Int32)).toInt (1) by unfold q_eqv; decide) (by omega) (by omega)) ?_
          exact q_ok_some ⟨hG, (q_wd (show (1 : Int) ≤ (1 : Int32).toInt ∧ (1 : Int32).toInt ≤ (1 : Int) by decide) (by decide) (by decide))⟩
        · have f89 := q_neV ev85 (show q_eqv ((0 : Int32)).toInt (0) by unfold q_eqv; decide) (q_n_eq g87)
          unfold m_X12_lookData_90
          refine q_ok_if (q_b01V (show q_eqv ((0 : Int32)).toInt (0) by unfold q_eqv; decide) (by omega) (by omega)) ?_
          exact q_ok_some ⟨hG, (q_wd (show (0 : Int) ≤ (0 : Int32).toInt ∧ (0 : Int32).toInt ≤ (0 : Int) by decide) (by decide) (by decide))⟩
