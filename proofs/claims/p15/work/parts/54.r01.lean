def M_X12_number_45_k2 : List Nat := [2888]
set_option maxHeartbeats 4000000 in
set_option maxRecDepth 100000 in
theorem s_X12_number_45_k2_40 {ρ : Nat → Nat} {L : List Nat} {n : Nat} (hn : 18446744073709551616 ≤ n) {S0 : q_S} {o : Nat} (mo : o ∈ L) (ro : ρ o = 45) {p0 : Int32} {p1 : Int64} {p2 : Int32}  : ∀ (k : Nat) (S : q_S) (l1 : Int32) (l2 : Int64) (l4 : Int32) (l5 : Int64) (l7 : Int32), q_G ρ L M_X12_number_45_k2 S0 S → (0 ≤ l1.toInt ∧ l1.toInt ≤ 23) → (0 ≤ l2.toInt ∧ l2.toInt ≤ 1600) → (2 ≤ l4.toInt ∧ l4.toInt ≤ 2) → (0 ≤ l5.toInt ∧ l5.toInt ≤ 4294967295) → (0 ≤ l7.toInt ∧ l7.toInt ≤ 4) → ((q_fE S o 6 (l1 : Int32).toNatClampNeg).toInt + (l2).toInt + (l4).toInt ≤ 1600) → ((q_I S o 8).toInt = 0 → (q_I S0 o 8).toInt = 0) → ((l1).toInt = (p0).toInt) → ((l7).toInt ≤ (l4).toInt) → ((l7).toInt = 0 → (l5).toInt ≤ 0) → ((l7).toInt = 1 → (l5).toInt ≤ 255) → ((l7).toInt = 2 → (l5).toInt ≤ 65535) → ((l7).toInt = 3 → (l5).toInt ≤ 16777215) → ((l7).toInt = 4 → (l5).toInt ≤ 4294967295) → 2147483648 - l7.toInt ≤ (k : Int) → q_ok (m_X12_number_40 n k S (some o) l1 l2 l4 l5 l7) (fun r T => q_G ρ L M_X12_number_45_k2 S0 T ∧ (0 ≤ r.toInt ∧ r.toInt ≤ 65535) ∧ q_sm (((q_I T o 8).toInt = 0 → (q_I S0 o 8).toInt = 0) ∧ ((q_I T o 8).toInt = 0 → 0 ≤ (p0).toInt))) := by
  intro k
  induction k with
  | zero =>
    intro S l1 l2 l4 l5 l7 hG hl1 hl2 hl4 hl5 hl7 hf0 hf1 hf2 hf3 hf4 hf5 hf6 hf7 hf8 hm
    have f0 := q_rngI l7
    exfalso; omega
  | succ k ih =>
    intro S l1 l2 l4 l5 l7 hG hl1 hl2 hl4 hl5 hl7 hf0 hf1 hf2 hf3 hf4 hf5 hf6 hf7 hf8 hm
    rw [m_X12_number_40]
    have z0 : (0 : Int32).toInt = 0 := rfl
    have t1 := g_45_R6 hG mo ro
    obtain ⟨a2, ea2, ma2, ra2⟩ := id t1
    have f3 : q_sm _ := g_49_E hG ma2 ra2 (k := (l1).toNatClampNeg)
    have t4 := g_45_R6 hG mo ro
    have t5 := g_45_R7 hG mo ro
    obtain ⟨a6, ea6, ma6, ra6⟩ := id t5
    have f7 : q_sm _ := g_50_E hG ma6 ra6 (k := (l1).toNatClampNeg)
    obtain ⟨v8, ev8⟩ := q_ev ((q_I (S) a2 (l1).toNatClampNeg).toInt)
    have f9 := q_bV ev8 f3
    obtain ⟨v10, ev10⟩ := q_ev ((q_I (S) a6 (l1).toNatClampNeg).toInt)
    have f11 := q_bV ev10 f7
    have f12 : v8 + v10 ≤ 1600 := q_to2 (fun x0 x1 => x0 + x1 ≤ 1600) ev8 ev10 (hG.1.2.2.2 a2 a6 ma2 ma6 ra2 ra6 _)
    have e13 : q_fE (S) o 6 ((l1 : Int32)).toNatClampNeg = q_I (S) a2 (l1).toNatClampNeg := q_fEe ea2
    obtain ⟨v14, ev14⟩ := q_ev ((q_fE (S) o 6 ((l1 : Int32)).toNatClampNeg).toInt)
    have f15 : v14 = v8 := q_eqVI e13 ev14 ev8
    have f16 : v14 + l2.toInt + l4.toInt ≤ 1600 := q_to3 (fun x0 x1 x2 => x0 + x1 + x2 ≤ 1600) ev14 q_evr q_evr hf0
    have f17 : q_sm _ := g_45_I8 hG mo ro
    obtain ⟨v18, ev18⟩ := q_ev ((q_I (S) o 8).toInt)
    have f19 := q_bV ev18 f17
    obtain ⟨v20, ev20⟩ := q_ev ((q_I (S0) o 8).toInt)
    have f21 := q_rVI (x := q_I (S0) o 8) ev20
    have f22 : v18 = 0 → v20 = 0 := q_to2 (fun x0 x1 => x0 = 0 → x1 = 0) ev18 ev20 hf1
    have f23 := q_rVI (x := p0) q_evr
    have f24 : l1.toInt = p0.toInt := q_to2 (fun x0 x1 => x0 = x1) q_evr q_evr hf2
    have f25 : l7.toInt ≤ l4.toInt := q_to2 (fun x0 x1 => x0 ≤ x1) q_evr q_evr hf3
    have f26 : l7.toInt = 0 → l5.toInt ≤ 0 := q_to2 (fun x0 x1 => x0 = 0 → x1 ≤ 0) q_evr q_evr hf4
    have f27 : l7.toInt = 1 → l5.toInt ≤ 255 := q_to2 (fun x0 x1 => x0 = 1 → x1 ≤ 255) q_evr q_evr hf5
    have f28 : l7.toInt = 2 → l5.toInt ≤ 65535 := q_to2 (fun x0 x1 => x0 = 2 → x1 ≤ 65535) q_evr q_evr hf6
    have f29 : l7.toInt = 3 → l5.toInt ≤ 16777215 := q_to2 (fun x0 x1 => x0 = 3 → x1 ≤ 16777215) q_evr q_evr hf7
    have f30 : l7.toInt = 4 → l5.toInt ≤ 4294967295 := q_to2 (fun x0 x1 => x0 = 4 → x1 ≤ 4294967295) q_evr q_evr hf8
    refine q_ok_ite (fun g31 => ?_) (fun g31 => ?_)
    · have f32 := q_leV q_evr q_evr (q_p_ge g31)
      exact q_ok_some ⟨hG, (q_oV q_evr (by omega) (by omega)), (q_smI ⟨(q_bw2 (fun x0 x1 => x0 = 0 → x1 = 0) ev18 ev20 (by omega)), (q_bw2 (fun x0 x1 => x0 = 0 → 0 ≤ x1) ev18 q_evr (by omega))⟩)⟩
    · have f33 := q_ltV q_evr q_evr (q_n_ge g31)
      refine q_ok_atS hG (q_trI mo ro) rfl (fun mo ro => ?_)
      have t34 := g_45_R1 hG mo ro
      have t35 := g_45_R6 hG mo ro
      refine q_ok_atA hG ea2 ma2 ra2 rfl ?_
      refine q_ok_if (q_inV (g_49_N hG ma2 ra2) q_evr (by omega) (by omega)) ?_
      refine q_ok_at hG t34 rfl (fun a36 ma36 ra36 ea36 => ?_)
      obtain ⟨v37, ev37⟩ := q_ev ((((q_I (S) a2 (l1).toNatClampNeg) + (l2.toInt32)) + l7).toInt)
      obtain ⟨v38, ev38⟩ := q_ev (((q_I (S) a2 (l1).toNatClampNeg) + (l2.toInt32)).toInt)
      obtain ⟨v39, ev39⟩ := q_ev ((l2.toInt32).toInt)
      have f40 : v39 = l2.toInt := q_l2iV ev39 q_evr (by omega) (by omega)
      have f41 : v38 = v8 + v39 := q_addVI ev38 ev8 ev39 (by omega) (by omega)
      have f42 : v37 = v38 + l7.toInt := q_addVI ev37 ev38 q_evr (by omega) (by omega)
      refine q_ok_if (q_inV (g_46_N hG ma36 ra36) ev37 (by omega) (by omega)) ?_
      have f43 : q_sm _ := g_46_E hG ma36 ra36 (k := (((q_I (S) a2 (l1).toNatClampNeg) + (l2.toInt32)) + l7).toNatClampNeg)
      obtain ⟨v44, ev44⟩ := q_ev ((((256 : Int64) * l5) + ((q_I (S) a36 (((q_I (S) a2 (l1).toNatClampNeg) + (l2.toInt32)) + l7).toNatClampNeg).toInt64)).toInt)
      obtain ⟨v45, ev45⟩ := q_ev (((256 : Int64) * l5).toInt)
      have f46 : v45 = (256) * l5.toInt := q_mulVJ ev45 (show q_eqv ((256 : Int64)).toInt (256) by unfold q_eqv; decide) q_evr (by omega) (by omega)
      obtain ⟨v47, ev47⟩ := q_ev (((q_I (S) a36 (((q_I (S) a2 (l1).toNatClampNeg) + (l2.toInt32)) + l7).toNatClampNeg).toInt64).toInt)
      obtain ⟨v48, ev48⟩ := q_ev ((q_I (S) a36 (((q_I (S) a2 (l1).toNatClampNeg) + (l2.toInt32)) + l7).toNatClampNeg).toInt)
      have f49 := q_bV ev48 f43
      have f50 : v47 = v48 := q_i2lV ev47 ev48
      have f51 : v44 = v45 + v47 := q_addVJ ev44 ev45 ev47 (by omega) (by omega)
      obtain ⟨v52, ev52⟩ := q_ev ((l7 + (1)).toInt)
      have f53 : v52 = l7.toInt + (1) := q_addVI ev52 q_evr (show q_eqv ((1 : Int32)).toInt (1) by unfold q_eqv; decide) (by omega) (by omega)
      have t54 := g_45_R6 hG mo ro
      have e55 : q_fE (S) o 6 ((l1 : Int32)).toNatClampNeg = q_I (S) a2 (l1).toNatClampNeg := q_fEe ea2
      exact ih _ _ _ _ _ _ hG (q_wd hl1 (by decide) (by decide)) (q_wd hl2 (by decide) (by decide)) (q_wd hl4 (by decide) (by decide)) (q_oV ev44 (by omega) (by omega)) (q_oV ev52 (by omega) (by omega)) (q_bw3 (fun x0 x1 x2 => x0 + x1 + x2 ≤ 1600) ev14 q_evr q_evr (by omega)) (q_bw2 (fun x0 x1 => x0 = 0 → x1 = 0) ev18 ev20 (by omega)) (q_bw2 (fun x0 x1 => x0 = x1) q_evr q_evr (by omega)) (q_bw2 (fun x0 x1 => x0 ≤ x1) ev52 q_evr (by omega)) (q_bw2 (fun x0 x1 => x0 = 0 → x1 ≤ 0) ev52 ev44 (by omega)) (q_bw2 (fun x0 x1 => x0 = 1 → x1 ≤ 255) ev52 ev44 (by omega)) (q_bw2 (fun x0 x1 => x0 = 2 → x1 ≤ 65535) ev52 ev44 (by omega)) (q_bw2 (fun x0 x1 => x0 = 3 → x1 ≤ 16777215) ev52 ev44 (by omega)) (q_bw2 (fun x0 x1 => x0 = 4 → x1 ≤ 4294967295) ev52 ev44 (by omega))  (q_upV ev52 (by omega))
set_option maxHeartbeats 4000000 in
set_option maxRecDepth 100000 in
theorem s_X12_number_45_k2 {ρ : Nat → Nat} {L : List Nat} {n : Nat} (hn : 18446744073709551616 ≤ n) {S : q_S} (hI : q_Inv ρ L S) {o : Nat} (mo : o ∈ L) (ro : ρ o = 45) {p0 : Int32} (hp0 : (-1 ≤ p0.toInt ∧ p0.toInt ≤ 23)) {p1 : Int64} (hp1 : (-1152921504606846976 ≤ p1.toInt ∧ p1.toInt ≤ 1152921504606846976)) {p2 : Int32} (hp2 : (2 ≤ p2.toInt ∧ p2.toInt ≤ 2)) : q_ok (m_X12_number n S o p0 p1 p2) (fun r T => q_G ρ L M_X12_number_45_k2 S T ∧ (0 ≤ r.toInt ∧ r.toInt ≤ 65535) ∧ q_sm (((q_I T o 8).toInt = 0 → (q_I S o 8).toInt = 0) ∧ ((q_I T o 8).toInt = 0 → 0 ≤ (p0).toInt))) := by
  have hG : q_G ρ L M_X12_number_45_k2 S S := q_G_refl hI
  unfold m_X12_number
  have z0 : (0 : Int32).toInt = 0 := rfl
  have f1 : q_sm _ := g_45_I8 hG mo ro
  refine q_ok_ite (fun g2 => ?_) (fun g2 => ?_)
  · have f3 := q_eqV q_evr (show q_eqv ((-1 : Int32)).toInt (-1) by unfold q_eqv; decide) (q_p_eq g2)
    unfold m_X12_number_27
    refine q_ok_atS hG (q_trI mo ro) rfl (fun mo ro => ?_)
    refine q_ok_if (q_b01V (show q_eqv ((1 : Int32)).toInt (1) by unfold q_eqv; decide) (by omega) (by omega)) ?_
    have hG := u_45_I8 (x := (1 : Int32)) hG mo ro (by decide) (q_wd (show (1 : Int) ≤ (1 : Int32).toInt ∧ (1 : Int32).toInt ≤ (1 : Int) by decide) (by decide) (by decide))
    have f4 : q_sm _ := g_45_I8 hG mo ro
    have e5 : q_I (q_sI (S) o 8 ((1 : Int32))) o 8 = (1 : Int32) := q_hitI
    obtain ⟨v6, ev6⟩ := q_ev ((q_I (q_sI (S) o 8 ((1 : Int32))) o 8).toInt)
    have f7 : v6 = (1) := q_eqVI e5 ev6 (show q_eqv ((1 : Int32)).toInt (1) by unfold q_eqv; decide)
    obtain ⟨v8, ev8⟩ := q_ev ((q_I (S) o 8).toInt)
    have f9 := q_bV ev8 f1
    exact q_ok_some ⟨hG, (q_wd (show (0 : Int) ≤ (0 : Int64).toInt ∧ (0 : Int64).toInt ≤ (0 : Int) by decide) (by decide) (by decide)), (q_smI ⟨(q_bw2 (fun x0 x1 => x0 = 0 → x1 = 0) ev6 ev8 (by omega)), (q_bw2 (fun x0 x1 => x0 = 0 → 0 ≤ x1) ev6 q_evr (by omega))⟩)⟩
  · have f10 := q_neV q_evr (show q_eqv ((-1 : Int32)).toInt (-1) by unfold q_eqv; decide) (q_n_eq g2)
    refine q_ok_ite (fun g11 => ?_) (fun g11 => ?_)
    · have f12 := q_ltV q_evr (show q_eqv ((0 : Int64)).toInt (0) by unfold q_eqv; decide) (q_cp_lt g11)
      unfold m_X12_number_27
      refine q_ok_atS hG (q_trI mo ro) rfl (fun mo ro => ?_)
      refine q_ok_if (q_b01V (show q_eqv ((1 : Int32)).toInt (1) by unfold q_eqv; decide) (by omega) (by omega)) ?_
      have hG := u_45_I8 (x := (1 : Int32)) hG mo ro (by decide) (q_wd (show (1 : Int) ≤ (1 : Int32).toInt ∧ (1 : Int32).toInt ≤ (1 : Int) by decide) (by decide) (by decide))
      have f13 : q_sm _ := g_45_I8 hG mo ro
      have e14 : q_I (q_sI (S) o 8 ((1 : Int32))) o 8 = (1 : Int32) := q_hitI
      obtain ⟨v15, ev15⟩ := q_ev ((q_I (q_sI (S) o 8 ((1 : Int32))) o 8).toInt)
      have f16 : v15 = (1) := q_eqVI e14 ev15 (show q_eqv ((1 : Int32)).toInt (1) by unfold q_eqv; decide)
      obtain ⟨v17, ev17⟩ := q_ev ((q_I (S) o 8).toInt)
      have f18 := q_bV ev17 f1
      exact q_ok_some ⟨hG, (q_wd (show (0 : Int) ≤ (0 : Int64).toInt ∧ (0 : Int64).toInt ≤ (0 : Int) by decide) (by decide) (by decide)), (q_smI ⟨(q_bw2 (fun x0 x1 => x0 = 0 → x1 = 0) ev15 ev17 (by omega)), (q_bw2 (fun x0 x1 => x0 = 0 → 0 ≤ x1) ev15 q_evr (by omega))⟩)⟩
    · have f19 := q_leV (show q_eqv ((0 : Int64)).toInt (0) by unfold q_eqv; decide) q_evr (q_cn_lt g11)
      refine q_ok_atS hG (q_trI mo ro) rfl (fun mo ro => ?_)
      have t20 := g_45_R7 hG mo ro
      refine q_ok_at hG t20 rfl (fun a21 ma21 ra21 ea21 => ?_)
      refine q_ok_if (q_inV (g_50_N hG ma21 ra21) q_evr (by omega) (by omega)) ?_
      have f22 : q_sm _ := g_50_E hG ma21 ra21 (k := (p0).toNatClampNeg)
      have t23 := g_45_R6 hG mo ro
      obtain ⟨a24, ea24, ma24, ra24⟩ := id t23
      have f25 : q_sm _ := g_49_E hG ma24 ra24 (k := (p0).toNatClampNeg)
      have t26 := g_45_R7 hG mo ro
      obtain ⟨v27, ev27⟩ := q_ev ((q_I (S) a24 (p0).toNatClampNeg).toInt)
      have f28 := q_bV ev27 f25
      obtain ⟨v29, ev29⟩ := q_ev ((q_I (S) a21 (p0).toNatClampNeg).toInt)
      have f30 := q_bV ev29 f22
      have f31 : v27 + v29 ≤ 1600 := q_to2 (fun x0 x1 => x0 + x1 ≤ 1600) ev27 ev29 (hG.1.2.2.2 a24 a21 ma24 ma21 ra24 ra21 _)
      obtain ⟨v32, ev32⟩ := q_ev ((p1 + (p2.toInt64)).toInt)
      obtain ⟨v33, ev33⟩ := q_ev ((p2.toInt64).toInt)
      have f34 : v33 = p2.toInt := q_i2lV ev33 q_evr
      have f35 : v32 = p1.toInt + v33 := q_addVJ ev32 q_evr ev33 (by omega) (by omega)
      obtain ⟨v36, ev36⟩ := q_ev (((q_I (S) a21 (p0).toNatClampNeg).toInt64).toInt)
      have f37 : v36 = v29 := q_i2lV ev36 ev29
      refine q_ok_ite (fun g38 => ?_) (fun g38 => ?_)
      · have f39 := q_leV ev32 ev36 (q_cp_le g38)
        have t40 := g_45_R6 hG mo ro
        have e41 : q_fE (S) o 6 ((p0 : Int32)).toNatClampNeg = q_I (S) a24 (p0).toNatClampNeg := q_fEe ea24
        obtain ⟨v42, ev42⟩ := q_ev ((q_fE (S) o 6 ((p0 : Int32)).toNatClampNeg).toInt)
        have f43 : v42 = v27 := q_eqVI e41 ev42 ev27
        obtain ⟨v44, ev44⟩ := q_ev ((q_I (S) o 8).toInt)
        have f45 := q_bV ev44 f1
        exact s_X12_number_45_k2_40 hn mo ro (p0 := p0) (p1 := p1) (p2 := p2) n _ _ _ _ _ _ hG (q_oV q_evr (by omega) (by omega)) (q_oV q_evr (by omega) (by omega)) (q_wd hp2 (by decide) (by decide)) (q_wd (show (0 : Int) ≤ (0 : Int64).toInt ∧ (0 : Int64).toInt ≤ (0 : Int) by decide) (by decide) (by decide)) (q_wd (show (0 : Int) ≤ (0 : Int32).toInt ∧ (0 : Int32).toInt ≤ (0 : Int) by decide) (by decide) (by decide)) (q_bw3 (fun x0 x1 x2 => x0 + x1 + x2 ≤ 1600) ev42 q_evr q_evr (by omega)) (q_bw2 (fun x0 x1 => x0 = 0 → x1 = 0) ev44 ev44 (by omega)) (q_bw2 (fun x0 x1 => x0 = x1) q_evr q_evr (by omega)) (q_bw2 (fun x0 x1 => x0 ≤ x1) (show q_eqv ((0 : Int32)).toInt (0) by unfold q_eqv; decide) q_evr (by omega)) (q_bw2 (fun x0 x1 => x0 = 0 → x1 ≤ 0) (show q_eqv ((0 : Int32)).toInt (0) by unfold q_eqv; decide) (show q_eqv ((0 : Int64)).toInt (0) by unfold q_eqv; decide) (by omega)) (q_bw2 (fun x0 x1 => x0 = 1 → x1 ≤ 255) (show q_eqv ((0 : Int32)).toInt (0) by unfold q_eqv; decide) (show q_eqv ((0 : Int64)).toInt (0) by unfold q_eqv; decide) (by omega)) (q_bw2 (fun x0 x1 => x0 = 2 → x1 ≤ 65535) (show q_eqv ((0 : Int32)).toInt (0) by unfold q_eqv; decide) (show q_eqv ((0 : Int64)).toInt (0) by unfold q_eqv; decide) (by omega)) (q_bw2 (fun x0 x1 => x0 = 3 → x1 ≤ 16777215) (show q_eqv ((0 : Int32)).toInt (0) by unfold q_eqv; decide) (show q_eqv ((0 : Int64)).toInt (0) by unfold q_eqv; decide) (by omega)) (q_bw2 (fun x0 x1 => x0 = 4 → x1 ≤ 4294967295) (show q_eqv ((0 : Int32)).toInt (0) by unfold q_eqv; decide) (show q_eqv ((0 : Int64)).toInt (0) by unfold q_eqv; decide) (by omega))  (q_upV (show q_eqv ((0 : Int32)).toInt (0) by unfold q_eqv; decide) (by omega))
      · have f46 := q_ltV ev36 ev32 (q_cn_le g38)
        unfold m_X12_number_27
        refine q_ok_atS hG (q_trI mo ro) rfl (fun mo ro => ?_)
        refine q_ok_if (q_b01V (show q_eqv ((1 : Int32)).toInt (1) by unfold q_eqv; decide) (by omega) (by omega)) ?_
        have hG := u_45_I8 (x := (1 : Int32)) hG mo ro (by decide) (q_wd (show (1 : Int) ≤ (1 : Int32).toInt ∧ (1 : Int32).toInt ≤ (1 : Int) by decide) (by decide) (by decide))
        have f47 : q_sm _ := g_45_I8 hG mo ro
        have e48 : q_I (q_sI (S) o 8 ((1 : Int32))) o 8 = (1 : Int32) := q_hitI
        obtain ⟨v49, ev49⟩ := q_ev ((q_I (q_sI (S) o 8 ((1 : Int32))) o 8).toInt)
        have f50 : v49 = (1) := q_eqVI e48 ev49 (show q_eqv ((1 : Int32)).toInt (1) by unfold q_eqv; decide)
        obtain ⟨v51, ev51⟩ := q_ev ((q_I (S) o 8).toInt)
        have f52 := q_bV ev51 f1
        exact q_ok_some ⟨hG, (q_wd (show (0 : Int) ≤ (0 : Int64).toInt ∧ (0 : Int64).toInt ≤ (0 : Int) by decide) (by decide) (by decide)), (q_smI ⟨(q_bw2 (fun x0 x1 => x0 = 0 → x1 = 0) ev49 ev51 (by omega)), (q_bw2 (fun x0 x1 => x0 = 0 → 0 ≤ x1) ev49 q_evr (by omega))⟩)⟩
def M_X12_data_45_k2 : List Nat := [2888]
set_option maxHeartbeats 4000000 in
set_option maxRecDepth 100000 in
theorem s_X12_data_45_k2 {ρ : Nat → Nat} {L : List Nat} {n : Nat} (hn : 18446744073709551616 ≤ n) {S : q_S} (hI : q_Inv ρ L S) {o : Nat} (mo : o ∈ L) (ro : ρ o = 45) {p0 : Int32} (hp0 : (0 ≤ p0.toInt ∧ p0.toInt ≤ 70000)) {p1 : Int32} (hp1 : (2 ≤ p1.toInt ∧ p1.toInt ≤ 2)) : q_ok (m_X12_data n S o p0 p1) (fun r T => q_G ρ L M_X12_data_45_k2 S T ∧ (0 ≤ r.toInt ∧ r.toInt ≤ 65535) ∧ q_sm (((q_I T o 8).toInt = 0 → (q_I S o 8).toInt = 0) ∧ ((q_I T o 8).toInt = 0 → (q_I T o 21).toInt + (p0).toInt + (p1).toInt ≤ (q_I T o 22).toInt) ∧ ((q_I T o 8).toInt = 0 → 0 ≤ (q_fd T o (1735162214)).toInt))) := by
  have hG : q_G ρ L M_X12_data_45_k2 S S := q_G_refl hI
  unfold m_X12_data
  have z0 : (0 : Int32).toInt = 0 := rfl
  have f1 : q_sm _ := g_45_I8 hG mo ro
  refine q_ok_atS hG (q_trI mo ro) rfl (fun mo ro => ?_)
  have f2 : q_sm _ := g_45_I21 hG mo ro
  have f3 : q_sm _ := g_45_I22 hG mo ro
  obtain ⟨v4, ev4⟩ := q_ev ((((q_I (S) o 21) + p0) + p1).toInt)
  obtain ⟨v5, ev5⟩ := q_ev (((q_I (S) o 21) + p0).toInt)
  obtain ⟨v6, ev6⟩ := q_ev ((q_I (S) o 21).toInt)
  have f7 := q_bV ev6 f2
  have f8 : v5 = v6 + p0.toInt := q_addVI ev5 ev6 q_evr (by omega) (by omega)
  have f9 : v4 = v5 + p1.toInt := q_addVI ev4 ev5 q_evr (by omega) (by omega)
  obtain ⟨v10, ev10⟩ := q_ev ((q_I (S) o 22).toInt)
  have f11 := q_bV ev10 f3
  refine q_ok_ite (fun g12 => ?_) (fun g12 => ?_)
  · have f13 := q_leV ev4 ev10 (q_p_le g12)
    refine q_ok_b (s_X12_find_45 hn hG.1 mo ro (q_wd (show (1735162214 : Int) ≤ (1735162214 : Int64).toInt ∧ (1735162214 : Int64).toInt ≤ (1735162214 : Int) by decide) (by decide) (by decide))) (fun r14 S15 h16 => ?_)
    obtain ⟨eS15, h16⟩ := h16
    replace eS15 := eS15.symm
    subst eS15
    have f17 := h16.1
    have e18 : r14 = q_fd (S) o ((1735162214 : Int64)) := Int32.toInt_inj.mp (q_smE (h16.2))
    subst e18
    obtain ⟨v19, ev19⟩ := q_ev ((q_fd (S) o ((1735162214 : Int64))).toInt)
    have f20 := q_rVI (x := q_fd (S) o ((1735162214 : Int64))) ev19
    have f21 := q_bV ev19 f17
    refine q_ok_atS hG (q_trI mo ro) rfl (fun mo ro => ?_)
    refine q_ok_b (s_X12_number_45_k2 hn hG.1 mo ro (q_oV ev19 (by omega) (by omega)) (q_wd (q_i2lB (q_addBI (0) (71601) f2 hp0 (by decide) (by decide) (by decide) (by decide))) (by decide) (by decide)) (q_wd hp1 (by decide) (by decide))) (fun r22 S23 h24 => ?_)
    have hG := q_G_call hG h24.1 (by decide)
    have f25 := h24.2.1
    have f26 : q_sm _ := g_45_I8 hG mo ro
    obtain ⟨v27, ev27⟩ := q_ev ((q_I (S23) o 8).toInt)
    have f28 := q_bV ev27 f26
    obtain ⟨v29, ev29⟩ := q_ev ((q_I (S) o 8).toInt)
    have f30 := q_bV ev29 f1
    have f31 : v27 = 0 → v29 = 0 := q_to2 (fun x0 x1 => x0 = 0 → x1 = 0) ev27 ev29 ((q_smE (h24.2.2)).1)
    have f32 : v27 = 0 → 0 ≤ v19 := q_to2 (fun x0 x1 => x0 = 0 → 0 ≤ x1) ev27 ev19 ((q_smE (h24.2.2)).2)
    have f33 : q_sm _ := g_45_I21 hG mo ro
    have e34 : q_I (S23) o 21 = q_I (S) o 21 := (q_unI h24.1 mo ro (by decide))
    have f35 : q_sm _ := g_45_I22 hG mo ro
    have e36 : q_I (S23) o 22 = q_I (S) o 22 := (q_unI h24.1 mo ro (by decide))
    obtain ⟨v37, ev37⟩ := q_ev ((q_I (S23) o 21).toInt)
    have f38 : v37 = v6 := q_eqVI e34 ev37 ev6
    obtain ⟨v39, ev39⟩ := q_ev ((q_I (S23) o 22).toInt)
    have f40 : v39 = v10 := q_eqVI e36 ev39 ev10
    have e41 : q_fd (S23) o ((1735162214 : Int64)) = q_fd (S) o ((1735162214 : Int64)) := (q_fdU h24.1 mo ro (by decide) (by decide) (by decide))
    obtain ⟨v42, ev42⟩ := q_ev ((q_fd (S23) o ((1735162214 : Int64))).toInt)
    have f43 : v42 = v19 := q_eqVI e41 ev42 ev19
    obtain ⟨v44, ev44⟩ := q_ev ((r22.toInt32).toInt)
    have f45 : v44 = r22.toInt := q_l2iV ev44 q_evr (by omega) (by omega)
    exact q_ok_some ⟨hG, (q_oV ev44 (by omega) (by omega)), (q_smI ⟨(q_bw2 (fun x0 x1 => x0 = 0 → x1 = 0) ev27 ev29 (by omega)), (q_bw5 (fun x0 x1 x2 x3 x4 => x0 = 0 → x1 + x2 + x3 ≤ x4) ev27 ev37 q_evr q_evr ev39 (by omega)), (q_bw2 (fun x0 x1 => x0 = 0 → 0 ≤ x1) ev27 ev42 (by omega))⟩)⟩
  · have f46 := q_ltV ev10 ev4 (q_n_le g12)
    refine q_ok_if (q_b01V (show q_eqv ((1 : Int32)).toInt (1) by unfold q_eqv; decide) (by omega) (by omega)) ?_
    have hG := u_45_I8 (x := (1 : Int32)) hG mo ro (by decide) (q_wd (show (1 : Int) ≤ (1 : Int32).toInt ∧ (1 : Int32).toInt ≤ (1 : Int) by decide) (by decide) (by decide))
    have f47 : q_sm _ := g_45_I8 hG mo ro
    have e48 : q_I (q_sI (S) o 8 ((1 : Int32))) o 8 = (1 : Int32) := q_hitI
    obtain ⟨v49, ev49⟩ := q_ev ((q_I (q_sI (S) o 8 ((1 : Int32))) o 8).toInt)
    have f50 : v49 = (1) := q_eqVI e48 ev49 (show q_eqv ((1 : Int32)).toInt (1) by unfold q_eqv; decide)
    obtain ⟨v51, ev51⟩ := q_ev ((q_I (S) o 8).toInt)
    have f52 := q_bV ev51 f1
    have f53 : q_sm _ := g_45_I21 hG mo ro
    have e54 : q_I (q_sI (S) o 8 ((1 : Int32))) o 21 = q_I (S) o 21 := (q_ffI (by decide))
    have f55 : q_sm _ := g_45_I22 hG mo ro
    have e56 : q_I (q_sI (S) o 8 ((1 : Int32))) o 22 = q_I (S) o 22 := (q_ffI (by decide))
    obtain ⟨v57, ev57⟩ := q_ev ((q_I (q_sI (S) o 8 ((1 : Int32))) o 21).toInt)
    have f58 : v57 = v6 := q_eqVI e54 ev57 ev6
    obtain ⟨v59, ev59⟩ := q_ev ((q_I (q_sI (S) o 8 ((1 : Int32))) o 22).toInt)
    have f60 : v59 = v10 := q_eqVI e56 ev59 ev10
    obtain ⟨v61, ev61⟩ := q_ev ((q_fd (q_sI (S) o 8 ((1 : Int32))) o ((1735162214 : Int64))).toInt)
    have f62 := q_rVI (x := q_fd (q_sI (S) o 8 ((1 : Int32))) o ((1735162214 : Int64))) ev61
    exact q_ok_some ⟨hG, (q_wd (show (0 : Int) ≤ (0 : Int32).toInt ∧ (0 : Int32).toInt ≤ (0 : Int) by decide) (by decide) (by decide)), (q_smI ⟨(q_bw2 (fun x0 x1 => x0 = 0 → x1 = 0) ev49 ev51 (by omega)), (q_bw5 (fun x0 x1 x2 x3 x4 => x0 = 0 → x1 + x2 + x3 ≤ x4) ev49 ev57 q_evr q_evr ev59 (by omega)), (q_bw2 (fun x0 x1 => x0 = 0 → 0 ≤ x1) ev49 ev61 (by omega))⟩)⟩
set_option maxHeartbeats 4000000 in
set_option maxRecDepth 100000 in
theorem s_X12_signed {ρ : Nat → Nat} {L : List Nat} {n : Nat} (hn : 18446744073709551616 ≤ n) {S : q_S} (hI : q_Inv ρ L S) {p0 : Int32} (hp0 : (0 ≤ p0.toInt ∧ p0.toInt ≤ 65535)) : q_ok (m_X12_signed n S p0) (fun r T => T = S ∧ (-32768 ≤ r.toInt ∧ r.toInt ≤ 32767)) := by
  have hG : q_G ρ L [] S S := q_G_refl hI
  unfold m_X12_signed
  have z0 : (0 : Int32).toInt = 0 := rfl
  refine q_ok_ite (fun g1 => ?_) (fun g1 => ?_)
  · have f2 := q_leV q_evr (show q_eqv ((32767 : Int32)).toInt (32767) by unfold q_eqv; decide) (q_p_le g1)
    unfold m_X12_signed_15
    exact q_ok_some ⟨rfl, (q_oV q_evr (by omega) (by omega))⟩
  · have f3 := q_ltV (show q_eqv ((32767 : Int32)).toInt (32767) by unfold q_eqv; decide) q_evr (q_n_le g1)
    unfold m_X12_signed_15
    obtain ⟨v4, ev4⟩ := q_ev ((p0 - (65536 : Int32)).toInt)
    have f5 : v4 = p0.toInt - (65536) := q_subVI ev4 q_evr (show q_eqv ((65536 : Int32)).toInt (65536) by unfold q_eqv; decide) (by omega) (by omega)
    exact q_ok_some ⟨rfl, (q_oV ev4 (by omega) (by omega))⟩
def M_X12_addOne_45 : List Nat := [2888, 2922]
set_option maxHeartbeats 4000000 in
set_option maxRecDepth 100000 in
theorem s_X12_addOne_45 {ρ : Nat → Nat} {L : List Nat} {n : Nat} (hn : 18446744073709551616 ≤ n) {S : q_S} (hI : q_Inv ρ L S) {o : Nat} (mo : o ∈ L) (ro : ρ o = 45) {p0 : Int32} (hp0 : (0 ≤ p0.toInt ∧ p0.toInt ≤ 119)) {p1 : Int32} (hp1 : (0 ≤ p1.toInt ∧ p1.toInt ≤ 70000)) {p2 : Int32} {p3 : Int32} (hp3 : (2 ≤ p3.toInt ∧ p3.toInt ≤ 4)) {p4 : Int32} (hp4 : (16 ≤ p4.toInt ∧ p4.toInt ≤ 32)) : q_ok (m_X12_addOne n S o p0 p1 p2 p3 p4) (fun r T => q_G ρ L M_X12_addOne_45 S T ∧ (0 ≤ r.toInt ∧ r.toInt ≤ 2) ∧ q_sm (((q_I T o 8).toInt = 0 → (q_I S o 8).toInt = 0) ∧ ((q_I T o 8).toInt = 0 → (r).toInt = 0 ∨ (q_I T o 21).toInt + (p1).toInt + (r).toInt ≤ (q_I T o 22).toInt))) := by
  have hG : q_G ρ L M_X12_addOne_45 S S := q_G_refl hI
  unfold m_X12_addOne
  have z0 : (0 : Int32).toInt = 0 := rfl
  have f1 : q_sm _ := g_45_I8 hG mo ro
  refine q_ok_atS hG (q_trI mo ro) rfl (fun mo ro => ?_)
  have t2 := g_45_R20 hG mo ro
  refine q_ok_at hG t2 rfl (fun a3 ma3 ra3 ea3 => ?_)
  refine q_ok_if (q_inV (g_59_N hG ma3 ra3) q_evr (by omega) (by omega)) ?_
  have f4 : q_sm _ := g_59_E hG ma3 ra3 (k := (p0).toNatClampNeg)
  obtain ⟨v5, ev5⟩ := q_ev (((q_I (S) a3 (p0).toNatClampNeg) &&& p4).toInt)
  have f6 := q_andRVI ev5 q_evr (by omega)
  refine q_ok_ite (fun g7 => ?_) (fun g7 => ?_)
  · have f8 := q_eqV ev5 (show q_eqv ((0 : Int32)).toInt (0) by unfold q_eqv; decide) (q_p_eq g7)
    unfold m_X12_addOne_17
    refine q_ok_atS hG (q_trI mo ro) rfl (fun mo ro => ?_)
    have t9 := g_45_R20 hG mo ro
    refine q_ok_atA hG ea3 ma3 ra3 rfl ?_
    refine q_ok_if (q_inV (g_59_N hG ma3 ra3) q_evr (by omega) (by omega)) ?_
    obtain ⟨v10, ev10⟩ := q_ev (((q_I (S) a3 (p0).toNatClampNeg) &&& p3).toInt)
    have f11 := q_andRVI ev10 q_evr (by omega)
    refine q_ok_ite (fun g12 => ?_) (fun g12 => ?_)
    · have f13 := q_eqV ev10 (show q_eqv ((0 : Int32)).toInt (0) by unfold q_eqv; decide) (q_p_eq g12)
      refine q_ok_ite (fun g14 => ?_) (fun g14 => ?_)
      · have f15 := q_eqV (show q_eqv ((0 : Int32)).toInt (0) by unfold q_eqv; decide) (show q_eqv ((0 : Int32)).toInt (0) by unfold q_eqv; decide) (q_p_eq g14)
        refine q_ok_b (s_X12_data_45_k2 hn hG.1 mo ro (q_wd hp1 (by decide) (by decide)) (q_wd (show (2 : Int) ≤ (2 : Int32).toInt ∧ (2 : Int32).toInt ≤ (2 : Int) by decide) (by decide) (by decide))) (fun r16 S17 h18 => ?_)
        have hG := q_G_call hG h18.1 (by decide)
        have f19 := h18.2.1
        have f20 : q_sm _ := g_45_I8 hG mo ro
        obtain ⟨v21, ev21⟩ := q_ev ((q_I (S17) o 8).toInt)
        have f22 := q_bV ev21 f20
        obtain ⟨v23, ev23⟩ := q_ev ((q_I (S) o 8).toInt)
        have f24 := q_bV ev23 f1
        have f25 : v21 = 0 → v23 = 0 := q_to2 (fun x0 x1 => x0 = 0 → x1 = 0) ev21 ev23 ((q_smE (h18.2.2)).1)
        have f26 : q_sm _ := g_45_I21 hG mo ro
        have f27 : q_sm _ := g_45_I22 hG mo ro
        obtain ⟨v28, ev28⟩ := q_ev ((q_I (S17) o 21).toInt)
        have f29 := q_bV ev28 f26
        obtain ⟨v30, ev30⟩ := q_ev ((q_I (S17) o 22).toInt)
        have f31 := q_bV ev30 f27
        have f32 : v21 = 0 → v28 + p1.toInt + (2) ≤ v30 := q_to5 (fun x0 x1 x2 x3 x4 => x0 = 0 → x1 + x2 + x3 ≤ x4) ev21 ev28 q_evr (show q_eqv ((2 : Int32)).toInt (2) by unfold q_eqv; decide) ev30 ((q_smE (h18.2.2)).2.1)
        obtain ⟨v33, ev33⟩ := q_ev ((q_fd (S17) o ((1735162214 : Int64))).toInt)
        have f34 := q_rVI (x := q_fd (S17) o ((1735162214 : Int64))) ev33
        have f35 : v21 = 0 → 0 ≤ v33 := q_to2 (fun x0 x1 => x0 = 0 → 0 ≤ x1) ev21 ev33 ((q_smE (h18.2.2)).2.2)
        refine q_ok_b (s_X12_signed hn hG.1 (q_wd f19 (by decide) (by decide))) (fun r36 S37 h38 => ?_)
        obtain ⟨eS37, h38⟩ := h38
        replace eS37 := eS37.symm
        subst eS37
        have f39 := h38
        unfold m_X12_addOne_82
        refine q_ok_atS hG (q_trI mo ro) rfl (fun mo ro => ?_)
        have hG := u_45_I42 (x := p2 + r36) hG mo ro (by decide)
        refine q_ok_ite (fun g40 => ?_) (fun g40 => ?_)
        · have f41 := q_eqV (show q_eqv ((0 : Int32)).toInt (0) by unfold q_eqv; decide) (show q_eqv ((0 : Int32)).toInt (0) by unfold q_eqv; decide) (q_p_eq g40)
          unfold m_X12_addOne_95
          have f42 : q_sm _ := g_45_I8 hG mo ro
          have e43 : q_I (q_sI (S17) o 42 (p2 + r36)) o 8 = q_I (S17) o 8 := (q_ffI (by decide))
          obtain ⟨v44, ev44⟩ := q_ev ((q_I (q_sI (S17) o 42 (p2 + r36)) o 8).toInt)
          have f45 : v44 = v21 := q_eqVI e43 ev44 ev21
          have f46 : q_sm _ := g_45_I21 hG mo ro
          have e47 : q_I (q_sI (S17) o 42 (p2 + r36)) o 21 = q_I (S17) o 21 := (q_ffI (by decide))
          have f48 : q_sm _ := g_45_I22 hG mo ro
          have e49 : q_I (q_sI (S17) o 42 (p2 + r36)) o 22 = q_I (S17) o 22 := (q_ffI (by decide))
          obtain ⟨v50, ev50⟩ := q_ev ((q_I (q_sI (S17) o 42 (p2 + r36)) o 21).toInt)
          have f51 : v50 = v28 := q_eqVI e47 ev50 ev28
          obtain ⟨v52, ev52⟩ := q_ev ((q_I (q_sI (S17) o 42 (p2 + r36)) o 22).toInt)
          have f53 : v52 = v30 := q_eqVI e49 ev52 ev30
          exact q_ok_some ⟨hG, (q_wd (show (2 : Int) ≤ (2 : Int32).toInt ∧ (2 : Int32).toInt ≤ (2 : Int) by decide) (by decide) (by decide)), (q_smI ⟨(q_bw2 (fun x0 x1 => x0 = 0 → x1 = 0) ev44 ev23 (by omega)), (q_bw5 (fun x0 x1 x2 x3 x4 => x0 = 0 → x1 = 0 ∨ x2 + x3 + x1 ≤ x4) ev44 (show q_eqv ((2 : Int32)).toInt (2) by unfold q_eqv; decide) ev50 q_evr ev52 (by omega))⟩)⟩
        · have f54 := q_neV (show q_eqv ((0 : Int32)).toInt (0) by unfold q_eqv; decide) (show q_eqv ((0 : Int32)).toInt (0) by unfold q_eqv; decide) (q_n_eq g40)
          exfalso; omega
      · have f55 := q_neV (show q_eqv ((0 : Int32)).toInt (0) by unfold q_eqv; decide) (show q_eqv ((0 : Int32)).toInt (0) by unfold q_eqv; decide) (q_n_eq g14)
        exfalso; omega
    · have f56 := q_neV ev10 (show q_eqv ((0 : Int32)).toInt (0) by unfold q_eqv; decide) (q_n_eq g12)
      refine q_ok_b (s_X12_data_45_k1 hn hG.1 mo ro (q_wd hp1 (by decide) (by decide)) (q_wd (show (1 : Int) ≤ (1 : Int32).toInt ∧ (1 : Int32).toInt ≤ (1 : Int) by decide) (by decide) (by decide))) (fun r57 S58 h59 => ?_)
      have hG := q_G_call hG h59.1 (by decide)
      have f60 := h59.2.1
      have f61 : q_sm _ := g_45_I8 hG mo ro
      obtain ⟨v62, ev62⟩ := q_ev ((q_I (S58) o 8).toInt)
      have f63 := q_bV ev62 f61
      obtain ⟨v64, ev64⟩ := q_ev ((q_I (S) o 8).toInt)
      have f65 := q_bV ev64 f1
      have f66 : v62 = 0 → v64 = 0 := q_to2 (fun x0 x1 => x0 = 0 → x1 = 0) ev62 ev64 ((q_smE (h59.2.2)).1)
      have f67 : q_sm _ := g_45_I21 hG mo ro
      have f68 : q_sm _ := g_45_I22 hG mo ro
      obtain ⟨v69, ev69⟩ := q_ev ((q_I (S58) o 21).toInt)
      have f70 := q_bV ev69 f67
      obtain ⟨v71, ev71⟩ := q_ev ((q_I (S58) o 22).toInt)
      have f72 := q_bV ev71 f68
      have f73 : v62 = 0 → v69 + p1.toInt + (1) ≤ v71 := q_to5 (fun x0 x1 x2 x3 x4 => x0 = 0 → x1 + x2 + x3 ≤ x4) ev62 ev69 q_evr (show q_eqv ((1 : Int32)).toInt (1) by unfold q_eqv; decide) ev71 ((q_smE (h59.2.2)).2.1)
      obtain ⟨v74, ev74⟩ := q_ev ((q_fd (S58) o ((1735162214 : Int64))).toInt)
      have f75 := q_rVI (x := q_fd (S58) o ((1735162214 : Int64))) ev74
      have f76 : v62 = 0 → 0 ≤ v74 := q_to2 (fun x0 x1 => x0 = 0 → 0 ≤ x1) ev62 ev74 ((q_smE (h59.2.2)).2.2)
      refine q_ok_ite (fun g77 => ?_) (fun g77 => ?_)
      · have f78 := q_eqV (show q_eqv ((0 : Int32)).toInt (0) by unfold q_eqv; decide) (show q_eqv ((0 : Int32)).toInt (0) by unfold q_eqv; decide) (q_p_eq g77)
        unfold m_X12_addOne_56
        refine q_ok_atS hG (q_trI mo ro) rfl (fun mo ro => ?_)
        have hG := u_45_I42 (x := p2 - r57) hG mo ro (by decide)
        have f79 : q_sm _ := g_45_I8 hG mo ro
        have e80 : q_I (q_sI (S58) o 42 (p2 - r57)) o 8 = q_I (S58) o 8 := (q_ffI (by decide))
        obtain ⟨v81, ev81⟩ := q_ev ((q_I (q_sI (S58) o 42 (p2 - r57)) o 8).toInt)
        have f82 : v81 = v62 := q_eqVI e80 ev81 ev62
        have f83 : q_sm _ := g_45_I21 hG mo ro
        have e84 : q_I (q_sI (S58) o 42 (p2 - r57)) o 21 = q_I (S58) o 21 := (q_ffI (by decide))
        have f85 : q_sm _ := g_45_I22 hG mo ro
        have e86 : q_I (q_sI (S58) o 42 (p2 - r57)) o 22 = q_I (S58) o 22 := (q_ffI (by decide))
        obtain ⟨v87, ev87⟩ := q_ev ((q_I (q_sI (S58) o 42 (p2 - r57)) o 21).toInt)
        have f88 : v87 = v69 := q_eqVI e84 ev87 ev69
        obtain ⟨v89, ev89⟩ := q_ev ((q_I (q_sI (S58) o 42 (p2 - r57)) o 22).toInt)
        have f90 : v89 = v71 := q_eqVI e86 ev89 ev71
        exact q_ok_some ⟨hG, (q_wd (show (1 : Int) ≤ (1 : Int32).toInt ∧ (1 : Int32).toInt ≤ (1 : Int) by decide) (by decide) (by decide)), (q_smI ⟨(q_bw2 (fun x0 x1 => x0 = 0 → x1 = 0) ev81 ev64 (by omega)), (q_bw5 (fun x0 x1 x2 x3 x4 => x0 = 0 → x1 = 0 ∨ x2 + x3 + x1 ≤ x4) ev81 (show q_eqv ((1 : Int32)).toInt (1) by unfold q_eqv; decide) ev87 q_evr ev89 (by omega))⟩)⟩
      · have f91 := q_neV (show q_eqv ((0 : Int32)).toInt (0) by unfold q_eqv; decide) (show q_eqv ((0 : Int32)).toInt (0) by unfold q_eqv; decide) (q_n_eq g77)
        exfalso; omega
  · have f92 := q_neV ev5 (show q_eqv ((0 : Int32)).toInt (0) by unfold q_eqv; decide) (q_n_eq g7)
    unfold m_X12_addOne_17
    refine q_ok_atS hG (q_trI mo ro) rfl (fun mo ro => ?_)
    have t93 := g_45_R20 hG mo ro
    refine q_ok_atA hG ea3 ma3 ra3 rfl ?_
    refine q_ok_if (q_inV (g_59_N hG ma3 ra3) q_evr (by omega) (by omega)) ?_
    obtain ⟨v94, ev94⟩ := q_ev (((q_I (S) a3 (p0).toNatClampNeg) &&& p3).toInt)
    have f95 := q_andRVI ev94 q_evr (by omega)
    refine q_ok_ite (fun g96 => ?_) (fun g96 => ?_)
    · have f97 := q_eqV ev94 (show q_eqv ((0 : Int32)).toInt (0) by unfold q_eqv; decide) (q_p_eq g96)
      refine q_ok_ite (fun g98 => ?_) (fun g98 => ?_)
      · have f99 := q_eqV (show q_eqv ((1 : Int32)).toInt (1) by unfold q_eqv; decide) (show q_eqv ((0 : Int32)).toInt (0) by unfold q_eqv; decide) (q_p_eq g98)
        exfalso; omega
      · have f100 := q_neV (show q_eqv ((1 : Int32)).toInt (1) by unfold q_eqv; decide) (show q_eqv ((0 : Int32)).toInt (0) by unfold q_eqv; decide) (q_n_eq g98)
        unfold m_X12_addOne_82
        refine q_ok_atS hG (q_trI mo ro) rfl (fun mo ro => ?_)
        have hG := u_45_I42 (x := p2) hG mo ro (by decide)
        refine q_ok_ite (fun g101 => ?_) (fun g101 => ?_)
        · have f102 := q_eqV (show q_eqv ((1 : Int32)).toInt (1) by unfold q_eqv; decide) (show q_eqv ((0 : Int32)).toInt (0) by unfold q_eqv; decide) (q_p_eq g101)
          exfalso; omega
        · have f103 := q_neV (show q_eqv ((1 : Int32)).toInt (1) by unfold q_eqv; decide) (show q_eqv ((0 : Int32)).toInt (0) by unfold q_eqv; decide) (q_n_eq g101)
          unfold m_X12_addOne_95
          have f104 : q_sm _ := g_45_I8 hG mo ro
          have e105 : q_I (q_sI (S) o 42 (p2)) o 8 = q_I (S) o 8 := (q_ffI (by decide))
          obtain ⟨v106, ev106⟩ := q_ev ((q_I (q_sI (S) o 42 (p2)) o 8).toInt)
          obtain ⟨v107, ev107⟩ := q_ev ((q_I (S) o 8).toInt)
          have f108 := q_bV ev107 f1
          have f109 : v106 = v107 := q_eqVI e105 ev106 ev107
          have f110 : q_sm _ := g_45_I21 hG mo ro
          have f111 : q_sm _ := g_45_I22 hG mo ro
          obtain ⟨v112, ev112⟩ := q_ev ((q_I (q_sI (S) o 42 (p2)) o 21).toInt)
          have f113 := q_bV ev112 f110
          have f114 := q_rVI (x := p1) q_evr
          obtain ⟨v115, ev115⟩ := q_ev ((q_I (q_sI (S) o 42 (p2)) o 22).toInt)
          have f116 := q_bV ev115 f111
          exact q_ok_some ⟨hG, (q_wd (show (0 : Int) ≤ (0 : Int32).toInt ∧ (0 : Int32).toInt ≤ (0 : Int) by decide) (by decide) (by decide)), (q_smI ⟨(q_bw2 (fun x0 x1 => x0 = 0 → x1 = 0) ev106 ev107 (by omega)), (q_bw5 (fun x0 x1 x2 x3 x4 => x0 = 0 → x1 = 0 ∨ x2 + x3 + x1 ≤ x4) ev106 (show q_eqv ((0 : Int32)).toInt (0) by unfold q_eqv; decide) ev112 q_evr ev115 (by omega))⟩)⟩
    · have f117 := q_neV ev94 (show q_eqv ((0 : Int32)).toInt (0) by unfold q_eqv; decide) (q_n_eq g96)
      refine q_ok_b (s_X12_data_45_k1 hn hG.1 mo ro (q_wd hp1 (by decide) (by decide)) (q_wd (show (1 : Int) ≤ (1 : Int32).toInt ∧ (1 : Int32).toInt ≤ (1 : Int) by decide) (by decide) (by decide))) (fun r118 S119 h120 => ?_)
      have hG := q_G_call hG h120.1 (by decide)
      have f121 := h120.2.1
      have f122 : q_sm _ := g_45_I8 hG mo ro
      obtain ⟨v123, ev123⟩ := q_ev ((q_I (S119) o 8).toInt)
      have f124 := q_bV ev123 f122
      obtain ⟨v125, ev125⟩ := q_ev ((q_I (S) o 8).toInt)
      have f126 := q_bV ev125 f1
      have f127 : v123 = 0 → v125 = 0 := q_to2 (fun x0 x1 => x0 = 0 → x1 = 0) ev123 ev125 ((q_smE (h120.2.2)).1)
      have f128 : q_sm _ := g_45_I21 hG mo ro
      have f129 : q_sm _ := g_45_I22 hG mo ro
      obtain ⟨v130, ev130⟩ := q_ev ((q_I (S119) o 21).toInt)
      have f131 := q_bV ev130 f128
      obtain ⟨v132, ev132⟩ := q_ev ((q_I (S119) o 22).toInt)
      have f133 := q_bV ev132 f129
      have f134 : v123 = 0 → v130 + p1.toInt + (1) ≤ v132 := q_to5 (fun x0 x1 x2 x3 x4 => x0 = 0 → x1 + x2 + x3 ≤ x4) ev123 ev130 q_evr (show q_eqv ((1 : Int32)).toInt (1) by unfold q_eqv; decide) ev132 ((q_smE (h120.2.2)).2.1)
      obtain ⟨v135, ev135⟩ := q_ev ((q_fd (S119) o ((1735162214 : Int64))).toInt)
      have f136 := q_rVI (x := q_fd (S119) o ((1735162214 : Int64))) ev135
      have f137 : v123 = 0 → 0 ≤ v135 := q_to2 (fun x0 x1 => x0 = 0 → 0 ≤ x1) ev123 ev135 ((q_smE (h120.2.2)).2.2)
      refine q_ok_ite (fun g138 => ?_) (fun g138 => ?_)
      · have f139 := q_eqV (show q_eqv ((1 : Int32)).toInt (1) by unfold q_eqv; decide) (show q_eqv ((0 : Int32)).toInt (0) by unfold q_eqv; decide) (q_p_eq g138)
        exfalso; omega
      · have f140 := q_neV (show q_eqv ((1 : Int32)).toInt (1) by unfold q_eqv; decide) (show q_eqv ((0 : Int32)).toInt (0) by unfold q_eqv; decide) (q_n_eq g138)
        unfold m_X12_addOne_56
        refine q_ok_atS hG (q_trI mo ro) rfl (fun mo ro => ?_)
        have hG := u_45_I42 (x := p2 + r118) hG mo ro (by decide)
        have f141 : q_sm _ := g_45_I8 hG mo ro
        have e142 : q_I (q_sI (S119) o 42 (p2 + r118)) o 8 = q_I (S119) o 8 := (q_ffI (by decide))
        obtain ⟨v143, ev143⟩ := q_ev ((q_I (q_sI (S119) o 42 (p2 + r118)) o 8).toInt)
        have f144 : v143 = v123 := q_eqVI e142 ev143 ev123
        have f145 : q_sm _ := g_45_I21 hG mo ro
        have e146 : q_I (q_sI (S119) o 42 (p2 + r118)) o 21 = q_I (S119) o 21 := (q_ffI (by decide))
        have f147 : q_sm _ := g_45_I22 hG mo ro
        have e148 : q_I (q_sI (S119) o 42 (p2 + r118)) o 22 = q_I (S119) o 22 := (q_ffI (by decide))
        obtain ⟨v149, ev149⟩ := q_ev ((q_I (q_sI (S119) o 42 (p2 + r118)) o 21).toInt)
        have f150 : v149 = v130 := q_eqVI e146 ev149 ev130
        obtain ⟨v151, ev151⟩ := q_ev ((q_I (q_sI (S119) o 42 (p2 + r118)) o 22).toInt)
        have f152 : v151 = v132 := q_eqVI e148 ev151 ev132
        exact q_ok_some ⟨hG, (q_wd (show (1 : Int) ≤ (1 : Int32).toInt ∧ (1 : Int32).toInt ≤ (1 : Int) by decide) (by decide) (by decide)), (q_smI ⟨(q_bw2 (fun x0 x1 => x0 = 0 → x1 = 0) ev143 ev125 (by omega)), (q_bw5 (fun x0 x1 x2 x3 x4 => x0 = 0 → x1 = 0 ∨ x2 + x3 + x1 ≤ x4) ev143 (show q_eqv ((1 : Int32)).toInt (1) by unfold q_eqv; decide) ev149 q_evr ev151 (by omega))⟩)⟩
