def M_X12_useParts_45 : List Nat := [2888, 2901, 2902, 2903, 3264, 4160, 4288, 4352, 4416, 4480]
set_option maxHeartbeats 4000000 in
set_option maxRecDepth 100000 in
theorem s_X12_useParts_45_39 {ρ : Nat → Nat} {L : List Nat} {n : Nat} (hn : 18446744073709551616 ≤ n) {S0 : q_S} {o : Nat} (mo : o ∈ L) (ro : ρ o = 45) {p0 : Int32}  : ∀ (k : Nat) (S : q_S) (l2 : Int32) (l3 : Int32) (l4 : Int32), q_G ρ L M_X12_useParts_45 S0 S → (0 ≤ l2.toInt ∧ l2.toInt ≤ 1) → (0 ≤ l3.toInt ∧ l3.toInt ≤ 1) → (10 ≤ l4.toInt ∧ l4.toInt ≤ 1640) → ((q_I S o 8).toInt = 0 → (l4).toInt ≤ 1617) → (q_usx S0 S o (l2).toInt) → 2147483648 - l4.toInt ≤ (k : Int) → q_ok (m_X12_useParts_39 n k S (some o) l2 l3 l4) (fun r T => q_G ρ L M_X12_useParts_45 S0 T ∧ (0 ≤ r.toInt ∧ r.toInt ≤ 1) ∧ q_sm ((q_usx S0 T o (r).toInt))) := by
  intro k
  induction k with
  | zero =>
    intro S l2 l3 l4 hG hl2 hl3 hl4 hf0 hf1 hm
    have f0 := q_rngI l4
    exfalso; omega
  | succ k ih =>
    intro S l2 l3 l4 hG hl2 hl3 hl4 hf0 hf1 hm
    rw [m_X12_useParts_39]
    have z0 : (0 : Int32).toInt = 0 := rfl
    have f1 : q_sm _ := g_45_I8 hG mo ro
    obtain ⟨v2, ev2⟩ := q_ev ((q_I (S) o 8).toInt)
    have f3 := q_bV ev2 f1
    have f4 : v2 = 0 → l4.toInt ≤ 1617 := q_to2 (fun x0 x1 => x0 = 0 → x1 ≤ 1617) ev2 q_evr hf0
    have t5 := g_45_R9 hG mo ro
    obtain ⟨a6, ea6, ma6, ra6⟩ := id t5
    have n7 := hf1 _ ea6
    refine q_ok_ite (fun g8 => ?_) (fun g8 => ?_)
    · have f9 := q_eqV q_evr (show q_eqv ((0 : Int32)).toInt (0) by unfold q_eqv; decide) (q_p_eq g8)
      unfold m_X12_useParts_147
      refine q_ok_if (q_b01V q_evr (by omega) (by omega)) ?_
      have t10 := g_45_R9 hG mo ro
      exact q_ok_some ⟨hG, (q_wd hl2 (by decide) (by decide)), (q_smI (q_usxI ea6 (q_usc n7 (q_bw2 (fun x0 x1 => x0 ≤ x1) q_evr q_evr (by omega)))))⟩
    · have f11 := q_neV q_evr (show q_eqv ((0 : Int32)).toInt (0) by unfold q_eqv; decide) (q_n_eq g8)
      refine q_ok_atS hG (q_trI mo ro) rfl (fun mo ro => ?_)
      refine q_ok_ite (fun g12 => ?_) (fun g12 => ?_)
      · have f13 := q_eqV ev2 (show q_eqv ((0 : Int32)).toInt (0) by unfold q_eqv; decide) (q_p_eq g12)
        refine q_ok_b (s_X12_readPart_45 hn hG.1 mo ro (q_wd (show (7 : Int) ≤ (7 : Int32).toInt ∧ (7 : Int32).toInt ≤ (7 : Int) by decide) (by decide) (by decide)) (q_wd hl4 (by decide) (by decide))) (fun r14 S15 h16 => ?_)
        have hG := q_G_call hG h16.1 (by decide)
        have f17 := h16.2.1
        have n18 := q_usU h16.1 ma6 ra6 rfl n7
        have f19 : q_sm _ := g_45_I8 hG mo ro
        obtain ⟨v20, ev20⟩ := q_ev ((q_I (S15) o 8).toInt)
        have f21 := q_bV ev20 f19
        have f22 : v20 = 0 → v2 = 0 := q_to2 (fun x0 x1 => x0 = 0 → x1 = 0) ev20 ev2 ((q_smE (h16.2.2)).1)
        have f23 : v20 = 0 → l4.toInt ≤ 1601 := q_to2 (fun x0 x1 => x0 = 0 → x1 ≤ 1601) ev20 q_evr ((q_smE (h16.2.2)).2.1)
        have t24 := g_45_R32 hG mo ro
        obtain ⟨a25, ea25, ma25, ra25⟩ := id t24
        have f26 : q_sm _ := g_67_E hG ma25 ra25 (k := ((7 : Int32)).toNatClampNeg)
        have e27 : q_fE (S15) o 32 (((7 : Int32) : Int32)).toNatClampNeg = q_I (S15) a25 ((7 : Int32)).toNatClampNeg := q_fEe ea25
        have e28 : (q_fE (S15) o 32 (((7 : Int32) : Int32)).toNatClampNeg) &&& (2 : Int32) = (q_I (S15) a25 ((7 : Int32)).toNatClampNeg) &&& (2 : Int32) := congrArg (fun z : Int32 => z &&& (2 : Int32)) e27
        have t29 := g_45_R33 hG mo ro
        obtain ⟨a30, ea30, ma30, ra30⟩ := id t29
        have f31 : q_sm _ := g_68_E hG ma30 ra30 (k := ((7 : Int32)).toNatClampNeg)
        have e32 : q_fE (S15) o 33 (((7 : Int32) : Int32)).toNatClampNeg = q_I (S15) a30 ((7 : Int32)).toNatClampNeg := q_fEe ea30
        have t33 := g_45_R34 hG mo ro
        obtain ⟨a34, ea34, ma34, ra34⟩ := id t33
        have f35 : q_sm _ := g_69_E hG ma34 ra34 (k := ((7 : Int32)).toNatClampNeg)
        have e36 : q_fE (S15) o 34 (((7 : Int32) : Int32)).toNatClampNeg = q_I (S15) a34 ((7 : Int32)).toNatClampNeg := q_fEe ea34
        obtain ⟨v37, ev37⟩ := q_ev (((q_fE (S15) o 32 (((7 : Int32) : Int32)).toNatClampNeg) &&& (2 : Int32)).toInt)
        obtain ⟨v38, ev38⟩ := q_ev (((q_I (S15) a25 ((7 : Int32)).toNatClampNeg) &&& (2 : Int32)).toInt)
        have f39 := q_andRVI ev38 (show q_eqv ((2 : Int32)).toInt (2) by unfold q_eqv; decide) (by omega)
        have f40 : v37 = v38 := q_eqVI e28 ev37 ev38
        obtain ⟨v41, ev41⟩ := q_ev ((q_fE (S15) o 33 (((7 : Int32) : Int32)).toNatClampNeg).toInt)
        obtain ⟨v42, ev42⟩ := q_ev ((q_I (S15) a30 ((7 : Int32)).toNatClampNeg).toInt)
        have f43 := q_bV ev42 f31
        have f44 : v41 = v42 := q_eqVI e32 ev41 ev42
        obtain ⟨v45, ev45⟩ := q_ev ((q_fE (S15) o 34 (((7 : Int32) : Int32)).toNatClampNeg).toInt)
        obtain ⟨v46, ev46⟩ := q_ev ((q_I (S15) a34 ((7 : Int32)).toNatClampNeg).toInt)
        have f47 := q_bV ev46 f35
        have f48 : v45 = v46 := q_eqVI e36 ev45 ev46
        have f49 : v37 = 0 → 0 ≤ v41 ∧ 0 ≤ v45 := q_to3 (fun x0 x1 x2 => x0 = 0 → 0 ≤ x1 ∧ 0 ≤ x2) ev37 ev41 ev45 ((q_smE (h16.2.2)).2.2.1)
        have t50 := g_45_R26 hG mo ro
        obtain ⟨a51, ea51, ma51, ra51⟩ := id t50
        have t52 := g_45_R29 hG mo ro
        obtain ⟨a53, ea53, ma53, ra53⟩ := id t52
        have t54 := g_45_R32 hG mo ro
        have t55 := g_45_R33 hG mo ro
        have t56 := g_45_R34 hG mo ro
        have n57 := ((q_smE (h16.2.2)).2.2.2) _ _ _ _ _ ea51 ea53 ea25 ea30 ea34
        refine q_ok_atS hG (q_trI mo ro) rfl (fun mo ro => ?_)
        refine q_ok_ite (fun g58 => ?_) (fun g58 => ?_)
        · have f59 := q_eqV ev20 (show q_eqv ((0 : Int32)).toInt (0) by unfold q_eqv; decide) (q_p_eq g58)
          have t60 := g_45_R30 hG mo ro
          refine q_ok_at hG t60 rfl (fun a61 ma61 ra61 ea61 => ?_)
          refine q_ok_if (q_inV (g_65_N hG ma61 ra61) (show q_eqv ((7 : Int32)).toInt (7) by unfold q_eqv; decide) (by omega) (by omega)) ?_
          have f62 : q_sm _ := g_65_E hG ma61 ra61 (k := ((7 : Int32)).toNatClampNeg)
          refine q_ok_b (s_X12_isSign_45 hn hG.1 mo ro) (fun r63 S64 h65 => ?_)
          have hG := q_G_call hG h65.1 (by decide)
          have f66 := h65.2.1
          have n67 := q_usU h65.1 ma6 ra6 rfl n18
          obtain ⟨v68, ev68⟩ := q_ev ((q_I (S15) a61 ((7 : Int32)).toNatClampNeg).toInt)
          have f69 := q_bV ev68 f62
          have f70 : r63.toInt = 1 → 0 ≤ v68 ∧ v68 ≤ 199 := q_to2 (fun x0 x1 => x0 = 1 → 0 ≤ x1 ∧ x1 ≤ 199) q_evr ev68 ((q_smE (h65.2.2)))
          refine q_ok_ite (fun g71 => ?_) (fun g71 => ?_)
          · have f72 := q_eqV q_evr (show q_eqv ((0 : Int32)).toInt (0) by unfold q_eqv; decide) (q_p_eq g71)
            refine q_ok_ite (fun g73 => ?_) (fun g73 => ?_)
            · have f74 := q_eqV q_evr (show q_eqv ((0 : Int32)).toInt (0) by unfold q_eqv; decide) (q_p_eq g73)
              unfold m_X12_useParts_110
              unfold m_X12_useParts_111
              refine q_ok_ite (fun g75 => ?_) (fun g75 => ?_)
              · have f76 := q_eqV q_evr (show q_eqv ((0 : Int32)).toInt (0) by unfold q_eqv; decide) (q_p_eq g75)
                unfold m_X12_useParts_125
                refine q_ok_atS hG (q_trI mo ro) rfl (fun mo ro => ?_)
                have t77 := g_45_R32 hG mo ro
                have e78 : q_R (S64) o 32 = q_R (S15) o 32 := (q_unR h65.1 mo ro (by decide))
                refine q_ok_atA hG (Eq.trans e78 ea25) ma25 ra25 rfl ?_
                refine q_ok_if (q_inV (g_67_N hG ma25 ra25) (show q_eqv ((7 : Int32)).toInt (7) by unfold q_eqv; decide) (by omega) (by omega)) ?_
                have f79 : q_sm _ := g_67_E hG ma25 ra25 (k := ((7 : Int32)).toNatClampNeg)
                have e80 : q_I (S64) a25 ((7 : Int32)).toNatClampNeg = q_I (S15) a25 ((7 : Int32)).toNatClampNeg := (q_unI h65.1 ma25 ra25 (by decide))
                obtain ⟨v81, ev81⟩ := q_ev (((q_I (S64) a25 ((7 : Int32)).toNatClampNeg) &&& (32 : Int32)).toInt)
                have f82 := q_andRVI ev81 (show q_eqv ((32 : Int32)).toInt (32) by unfold q_eqv; decide) (by omega)
                refine q_ok_ite (fun g83 => ?_) (fun g83 => ?_)
                · have f84 := q_eqV ev81 (show q_eqv ((0 : Int32)).toInt (0) by unfold q_eqv; decide) (q_p_eq g83)
                  unfold m_X12_useParts_143
                  obtain ⟨v85, ev85⟩ := q_ev ((l4 + r14).toInt)
                  have f86 : v85 = l4.toInt + r14.toInt := q_addVI ev85 q_evr q_evr (by omega) (by omega)
                  have f87 : q_sm _ := g_45_I8 hG mo ro
                  obtain ⟨v88, ev88⟩ := q_ev ((q_I (S64) o 8).toInt)
                  have f89 := q_bV ev88 f87
                  have t90 := g_45_R9 hG mo ro
                  have e91 : q_R (S64) o 9 = q_R (S) o 9 := (Eq.trans (q_unR h65.1 mo ro (by decide)) (q_unR h16.1 mo ro (by decide)))
                  exact ih _ _ _ _ hG (q_wd (show (0 : Int) ≤ (0 : Int32).toInt ∧ (0 : Int32).toInt ≤ (0 : Int) by decide) (by decide) (by decide)) (q_wd (show (0 : Int) ≤ (0 : Int32).toInt ∧ (0 : Int32).toInt ≤ (0 : Int) by decide) (by decide) (by decide)) (q_oV ev85 (by omega) (by omega)) (q_bw2 (fun x0 x1 => x0 = 0 → x1 ≤ 1617) ev88 ev85 (by omega)) (q_usxI (Eq.trans e91 ea6) (q_usc n67 (q_bw2 (fun x0 x1 => x0 ≤ x1) (show q_eqv ((0 : Int32)).toInt (0) by unfold q_eqv; decide) q_evr (by omega))))  (q_upV ev85 (by omega))
                · have f92 := q_neV ev81 (show q_eqv ((0 : Int32)).toInt (0) by unfold q_eqv; decide) (q_n_eq g83)
                  unfold m_X12_useParts_143
                  obtain ⟨v93, ev93⟩ := q_ev ((l4 + r14).toInt)
                  have f94 : v93 = l4.toInt + r14.toInt := q_addVI ev93 q_evr q_evr (by omega) (by omega)
                  have f95 : q_sm _ := g_45_I8 hG mo ro
                  obtain ⟨v96, ev96⟩ := q_ev ((q_I (S64) o 8).toInt)
                  have f97 := q_bV ev96 f95
                  have t98 := g_45_R9 hG mo ro
                  have e99 : q_R (S64) o 9 = q_R (S) o 9 := (Eq.trans (q_unR h65.1 mo ro (by decide)) (q_unR h16.1 mo ro (by decide)))
                  exact ih _ _ _ _ hG (q_wd (show (0 : Int) ≤ (0 : Int32).toInt ∧ (0 : Int32).toInt ≤ (0 : Int) by decide) (by decide) (by decide)) (q_wd (show (1 : Int) ≤ (1 : Int32).toInt ∧ (1 : Int32).toInt ≤ (1 : Int) by decide) (by decide) (by decide)) (q_oV ev93 (by omega) (by omega)) (q_bw2 (fun x0 x1 => x0 = 0 → x1 ≤ 1617) ev96 ev93 (by omega)) (q_usxI (Eq.trans e99 ea6) (q_usc n67 (q_bw2 (fun x0 x1 => x0 ≤ x1) (show q_eqv ((0 : Int32)).toInt (0) by unfold q_eqv; decide) q_evr (by omega))))  (q_upV ev93 (by omega))
              · have f100 := q_neV q_evr (show q_eqv ((0 : Int32)).toInt (0) by unfold q_eqv; decide) (q_n_eq g75)
                exfalso; omega
            · have f101 := q_neV q_evr (show q_eqv ((0 : Int32)).toInt (0) by unfold q_eqv; decide) (q_n_eq g73)
              refine q_ok_atS hG (q_trI mo ro) rfl (fun mo ro => ?_)
              have t102 := g_45_R9 hG mo ro
              have e103 : q_R (S64) o 9 = q_R (S) o 9 := (Eq.trans (q_unR h65.1 mo ro (by decide)) (q_unR h16.1 mo ro (by decide)))
              refine q_ok_atA hG (Eq.trans e103 ea6) ma6 ra6 rfl ?_
              refine q_ok_if (q_inV (g_51_N hG ma6 ra6) ev68 (by omega) (by omega)) ?_
              have f104 : q_sm _ := g_51_E hG ma6 ra6 (k := (q_I (S15) a61 ((7 : Int32)).toNatClampNeg).toNatClampNeg)
              obtain ⟨v105, ev105⟩ := q_ev ((q_I (S64) a6 (q_I (S15) a61 ((7 : Int32)).toNatClampNeg).toNatClampNeg).toInt)
              have f106 := q_bV ev105 f104
              refine q_ok_ite (fun g107 => ?_) (fun g107 => ?_)
              · have f108 := q_eqV ev105 (show q_eqv ((0 : Int32)).toInt (0) by unfold q_eqv; decide) (q_p_eq g107)
                unfold m_X12_useParts_106
                unfold m_X12_useParts_111
                refine q_ok_ite (fun g109 => ?_) (fun g109 => ?_)
                · have f110 := q_eqV q_evr (show q_eqv ((0 : Int32)).toInt (0) by unfold q_eqv; decide) (q_p_eq g109)
                  exfalso; omega
                · have f111 := q_neV q_evr (show q_eqv ((0 : Int32)).toInt (0) by unfold q_eqv; decide) (q_n_eq g109)
                  refine q_ok_atS hG (q_trI mo ro) rfl (fun mo ro => ?_)
                  have t112 := g_45_R9 hG mo ro
                  refine q_ok_atA hG (Eq.trans e103 ea6) ma6 ra6 rfl ?_
                  refine q_ok_if (q_inV (g_51_N hG ma6 ra6) ev68 (by omega) (by omega)) ?_
                  obtain ⟨v113, ev113⟩ := q_ev ((vp_nar .boolean ((1 : Int32))).toInt)
                  have f114 : v113 = (1) := q_narV ev113 (show q_eqv ((1 : Int32)).toInt (1) by unfold q_eqv; decide) (by omega) (by omega)
                  have hG := u_51_E (k := (q_I (S15) a61 ((7 : Int32)).toNatClampNeg).toNatClampNeg) (x := vp_nar .boolean ((1 : Int32))) hG ma6 ra6 (by decide) (q_oV ev113 (by omega) (by omega))
                  have t115 := g_45_R9 hG mo ro
                  have n116 : q_us (S0) (q_sI (S64) a6 (q_I (S15) a61 ((7 : Int32)).toNatClampNeg).toNatClampNeg (vp_nar .boolean ((1 : Int32)))) a6 ((l2).toInt + 1) := q_usS (q_idxV ev68 (by omega) (by omega)) (q_bw1 (fun x0 => x0 = 0) ev105 (by omega)) (q_bw1 (fun x0 => x0 ≠ 0) ev113 (by omega)) n67
                  unfold m_X12_useParts_125
                  refine q_ok_atS hG (q_trI mo ro) rfl (fun mo ro => ?_)
                  have t117 := g_45_R32 hG mo ro
                  have e118 : q_R (q_sI (S64) a6 (q_I (S15) a61 ((7 : Int32)).toNatClampNeg).toNatClampNeg (vp_nar .boolean ((1 : Int32)))) o 32 = q_R (S15) o 32 := (Eq.trans q_skRI (q_unR h65.1 mo ro (by decide)))
                  refine q_ok_atA hG (Eq.trans e118 ea25) ma25 ra25 rfl ?_
                  refine q_ok_if (q_inV (g_67_N hG ma25 ra25) (show q_eqv ((7 : Int32)).toInt (7) by unfold q_eqv; decide) (by omega) (by omega)) ?_
                  have f119 : q_sm _ := g_67_E hG ma25 ra25 (k := ((7 : Int32)).toNatClampNeg)
                  have e120 : q_I (q_sI (S64) a6 (q_I (S15) a61 ((7 : Int32)).toNatClampNeg).toNatClampNeg (vp_nar .boolean ((1 : Int32)))) a25 ((7 : Int32)).toNatClampNeg = q_I (S15) a25 ((7 : Int32)).toNatClampNeg := (Eq.trans (q_fwI ra25 ra6 (by decide)) (q_unI h65.1 ma25 ra25 (by decide)))
                  obtain ⟨v121, ev121⟩ := q_ev (((q_I (q_sI (S64) a6 (q_I (S15) a61 ((7 : Int32)).toNatClampNeg).toNatClampNeg (vp_nar .boolean ((1 : Int32)))) a25 ((7 : Int32)).toNatClampNeg) &&& (32 : Int32)).toInt)
                  have f122 := q_andRVI ev121 (show q_eqv ((32 : Int32)).toInt (32) by unfold q_eqv; decide) (by omega)
                  refine q_ok_ite (fun g123 => ?_) (fun g123 => ?_)
                  · have f124 := q_eqV ev121 (show q_eqv ((0 : Int32)).toInt (0) by unfold q_eqv; decide) (q_p_eq g123)
                    unfold m_X12_useParts_143
                    obtain ⟨v125, ev125⟩ := q_ev ((l4 + r14).toInt)
                    have f126 : v125 = l4.toInt + r14.toInt := q_addVI ev125 q_evr q_evr (by omega) (by omega)
                    have f127 : q_sm _ := g_45_I8 hG mo ro
                    obtain ⟨v128, ev128⟩ := q_ev ((q_I (q_sI (S64) a6 (q_I (S15) a61 ((7 : Int32)).toNatClampNeg).toNatClampNeg (vp_nar .boolean ((1 : Int32)))) o 8).toInt)
                    have f129 := q_bV ev128 f127
                    have t130 := g_45_R9 hG mo ro
                    have e131 : q_R (q_sI (S64) a6 (q_I (S15) a61 ((7 : Int32)).toNatClampNeg).toNatClampNeg (vp_nar .boolean ((1 : Int32)))) o 9 = q_R (S64) o 9 := q_skRI
                    exact ih _ _ _ _ hG (q_wd (show (1 : Int) ≤ (1 : Int32).toInt ∧ (1 : Int32).toInt ≤ (1 : Int) by decide) (by decide) (by decide)) (q_wd (show (0 : Int) ≤ (0 : Int32).toInt ∧ (0 : Int32).toInt ≤ (0 : Int) by decide) (by decide) (by decide)) (q_oV ev125 (by omega) (by omega)) (q_bw2 (fun x0 x1 => x0 = 0 → x1 ≤ 1617) ev128 ev125 (by omega)) (q_usxI (Eq.trans e131 (Eq.trans e103 ea6)) (q_usc n116 (q_bw2 (fun x0 x1 => x0 ≤ x1 + 1) (show q_eqv ((1 : Int32)).toInt (1) by unfold q_eqv; decide) q_evr (by omega))))  (q_upV ev125 (by omega))
                  · have f132 := q_neV ev121 (show q_eqv ((0 : Int32)).toInt (0) by unfold q_eqv; decide) (q_n_eq g123)
                    unfold m_X12_useParts_143
                    obtain ⟨v133, ev133⟩ := q_ev ((l4 + r14).toInt)
                    have f134 : v133 = l4.toInt + r14.toInt := q_addVI ev133 q_evr q_evr (by omega) (by omega)
                    have f135 : q_sm _ := g_45_I8 hG mo ro
                    obtain ⟨v136, ev136⟩ := q_ev ((q_I (q_sI (S64) a6 (q_I (S15) a61 ((7 : Int32)).toNatClampNeg).toNatClampNeg (vp_nar .boolean ((1 : Int32)))) o 8).toInt)
                    have f137 := q_bV ev136 f135
                    have t138 := g_45_R9 hG mo ro
                    have e139 : q_R (q_sI (S64) a6 (q_I (S15) a61 ((7 : Int32)).toNatClampNeg).toNatClampNeg (vp_nar .boolean ((1 : Int32)))) o 9 = q_R (S64) o 9 := q_skRI
                    exact ih _ _ _ _ hG (q_wd (show (1 : Int) ≤ (1 : Int32).toInt ∧ (1 : Int32).toInt ≤ (1 : Int) by decide) (by decide) (by decide)) (q_wd (show (1 : Int) ≤ (1 : Int32).toInt ∧ (1 : Int32).toInt ≤ (1 : Int) by decide) (by decide) (by decide)) (q_oV ev133 (by omega) (by omega)) (q_bw2 (fun x0 x1 => x0 = 0 → x1 ≤ 1617) ev136 ev133 (by omega)) (q_usxI (Eq.trans e139 (Eq.trans e103 ea6)) (q_usc n116 (q_bw2 (fun x0 x1 => x0 ≤ x1 + 1) (show q_eqv ((1 : Int32)).toInt (1) by unfold q_eqv; decide) q_evr (by omega))))  (q_upV ev133 (by omega))
              · have f140 := q_neV ev105 (show q_eqv ((0 : Int32)).toInt (0) by unfold q_eqv; decide) (q_n_eq g107)
                unfold m_X12_useParts_110
                unfold m_X12_useParts_111
                refine q_ok_ite (fun g141 => ?_) (fun g141 => ?_)
                · have f142 := q_eqV q_evr (show q_eqv ((0 : Int32)).toInt (0) by unfold q_eqv; decide) (q_p_eq g141)
                  exfalso; omega
                · have f143 := q_neV q_evr (show q_eqv ((0 : Int32)).toInt (0) by unfold q_eqv; decide) (q_n_eq g141)
                  refine q_ok_atS hG (q_trI mo ro) rfl (fun mo ro => ?_)
                  have t144 := g_45_R9 hG mo ro
                  refine q_ok_atA hG (Eq.trans e103 ea6) ma6 ra6 rfl ?_
                  refine q_ok_if (q_inV (g_51_N hG ma6 ra6) ev68 (by omega) (by omega)) ?_
                  obtain ⟨v145, ev145⟩ := q_ev ((vp_nar .boolean ((1 : Int32))).toInt)
                  have f146 : v145 = (1) := q_narV ev145 (show q_eqv ((1 : Int32)).toInt (1) by unfold q_eqv; decide) (by omega) (by omega)
                  have hG := u_51_E (k := (q_I (S15) a61 ((7 : Int32)).toNatClampNeg).toNatClampNeg) (x := vp_nar .boolean ((1 : Int32))) hG ma6 ra6 (by decide) (q_oV ev145 (by omega) (by omega))
                  have n147 : q_us (S0) (q_sI (S64) a6 (q_I (S15) a61 ((7 : Int32)).toNatClampNeg).toNatClampNeg (vp_nar .boolean ((1 : Int32)))) a6 (l2).toInt := q_usW (q_idxV ev68 (by omega) (by omega)) (q_bw1 (fun x0 => x0 ≠ 0) ev145 (by omega)) n67
                  unfold m_X12_useParts_125
                  refine q_ok_atS hG (q_trI mo ro) rfl (fun mo ro => ?_)
                  have t148 := g_45_R32 hG mo ro
                  have e149 : q_R (q_sI (S64) a6 (q_I (S15) a61 ((7 : Int32)).toNatClampNeg).toNatClampNeg (vp_nar .boolean ((1 : Int32)))) o 32 = q_R (S15) o 32 := (Eq.trans q_skRI (q_unR h65.1 mo ro (by decide)))
                  refine q_ok_atA hG (Eq.trans e149 ea25) ma25 ra25 rfl ?_
                  refine q_ok_if (q_inV (g_67_N hG ma25 ra25) (show q_eqv ((7 : Int32)).toInt (7) by unfold q_eqv; decide) (by omega) (by omega)) ?_
                  have f150 : q_sm _ := g_67_E hG ma25 ra25 (k := ((7 : Int32)).toNatClampNeg)
                  have e151 : q_I (q_sI (S64) a6 (q_I (S15) a61 ((7 : Int32)).toNatClampNeg).toNatClampNeg (vp_nar .boolean ((1 : Int32)))) a25 ((7 : Int32)).toNatClampNeg = q_I (S15) a25 ((7 : Int32)).toNatClampNeg := (Eq.trans (q_fwI ra25 ra6 (by decide)) (q_unI h65.1 ma25 ra25 (by decide)))
                  obtain ⟨v152, ev152⟩ := q_ev (((q_I (q_sI (S64) a6 (q_I (S15) a61 ((7 : Int32)).toNatClampNeg).toNatClampNeg (vp_nar .boolean ((1 : Int32)))) a25 ((7 : Int32)).toNatClampNeg) &&& (32 : Int32)).toInt)
                  have f153 := q_andRVI ev152 (show q_eqv ((32 : Int32)).toInt (32) by unfold q_eqv; decide) (by omega)
                  refine q_ok_ite (fun g154 => ?_) (fun g154 => ?_)
                  · have f155 := q_eqV ev152 (show q_eqv ((0 : Int32)).toInt (0) by unfold q_eqv; decide) (q_p_eq g154)
                    unfold m_X12_useParts_143
                    obtain ⟨v156, ev156⟩ := q_ev ((l4 + r14).toInt)
                    have f157 : v156 = l4.toInt + r14.toInt := q_addVI ev156 q_evr q_evr (by omega) (by omega)
                    have f158 : q_sm _ := g_45_I8 hG mo ro
                    obtain ⟨v159, ev159⟩ := q_ev ((q_I (q_sI (S64) a6 (q_I (S15) a61 ((7 : Int32)).toNatClampNeg).toNatClampNeg (vp_nar .boolean ((1 : Int32)))) o 8).toInt)
                    have f160 := q_bV ev159 f158
                    have t161 := g_45_R9 hG mo ro
                    have e162 : q_R (q_sI (S64) a6 (q_I (S15) a61 ((7 : Int32)).toNatClampNeg).toNatClampNeg (vp_nar .boolean ((1 : Int32)))) o 9 = q_R (S64) o 9 := q_skRI
                    exact ih _ _ _ _ hG (q_wd (show (0 : Int) ≤ (0 : Int32).toInt ∧ (0 : Int32).toInt ≤ (0 : Int) by decide) (by decide) (by decide)) (q_wd (show (0 : Int) ≤ (0 : Int32).toInt ∧ (0 : Int32).toInt ≤ (0 : Int) by decide) (by decide) (by decide)) (q_oV ev156 (by omega) (by omega)) (q_bw2 (fun x0 x1 => x0 = 0 → x1 ≤ 1617) ev159 ev156 (by omega)) (q_usxI (Eq.trans e162 (Eq.trans e103 ea6)) (q_usc n147 (q_bw2 (fun x0 x1 => x0 ≤ x1) (show q_eqv ((0 : Int32)).toInt (0) by unfold q_eqv; decide) q_evr (by omega))))  (q_upV ev156 (by omega))
                  · have f163 := q_neV ev152 (show q_eqv ((0 : Int32)).toInt (0) by unfold q_eqv; decide) (q_n_eq g154)
                    unfold m_X12_useParts_143
                    obtain ⟨v164, ev164⟩ := q_ev ((l4 + r14).toInt)
                    have f165 : v164 = l4.toInt + r14.toInt := q_addVI ev164 q_evr q_evr (by omega) (by omega)
                    have f166 : q_sm _ := g_45_I8 hG mo ro
                    obtain ⟨v167, ev167⟩ := q_ev ((q_I (q_sI (S64) a6 (q_I (S15) a61 ((7 : Int32)).toNatClampNeg).toNatClampNeg (vp_nar .boolean ((1 : Int32)))) o 8).toInt)
                    have f168 := q_bV ev167 f166
                    have t169 := g_45_R9 hG mo ro
                    have e170 : q_R (q_sI (S64) a6 (q_I (S15) a61 ((7 : Int32)).toNatClampNeg).toNatClampNeg (vp_nar .boolean ((1 : Int32)))) o 9 = q_R (S64) o 9 := q_skRI
                    exact ih _ _ _ _ hG (q_wd (show (0 : Int) ≤ (0 : Int32).toInt ∧ (0 : Int32).toInt ≤ (0 : Int) by decide) (by decide) (by decide)) (q_wd (show (1 : Int) ≤ (1 : Int32).toInt ∧ (1 : Int32).toInt ≤ (1 : Int) by decide) (by decide) (by decide)) (q_oV ev164 (by omega) (by omega)) (q_bw2 (fun x0 x1 => x0 = 0 → x1 ≤ 1617) ev167 ev164 (by omega)) (q_usxI (Eq.trans e170 (Eq.trans e103 ea6)) (q_usc n147 (q_bw2 (fun x0 x1 => x0 ≤ x1) (show q_eqv ((0 : Int32)).toInt (0) by unfold q_eqv; decide) q_evr (by omega))))  (q_upV ev164 (by omega))
          · have f171 := q_neV q_evr (show q_eqv ((0 : Int32)).toInt (0) by unfold q_eqv; decide) (q_n_eq g71)
            unfold m_X12_useParts_106
            unfold m_X12_useParts_111
            refine q_ok_ite (fun g172 => ?_) (fun g172 => ?_)
            · have f173 := q_eqV q_evr (show q_eqv ((0 : Int32)).toInt (0) by unfold q_eqv; decide) (q_p_eq g172)
              unfold m_X12_useParts_125
              refine q_ok_atS hG (q_trI mo ro) rfl (fun mo ro => ?_)
              have t174 := g_45_R32 hG mo ro
              have e175 : q_R (S64) o 32 = q_R (S15) o 32 := (q_unR h65.1 mo ro (by decide))
              refine q_ok_atA hG (Eq.trans e175 ea25) ma25 ra25 rfl ?_
              refine q_ok_if (q_inV (g_67_N hG ma25 ra25) (show q_eqv ((7 : Int32)).toInt (7) by unfold q_eqv; decide) (by omega) (by omega)) ?_
              have f176 : q_sm _ := g_67_E hG ma25 ra25 (k := ((7 : Int32)).toNatClampNeg)
              have e177 : q_I (S64) a25 ((7 : Int32)).toNatClampNeg = q_I (S15) a25 ((7 : Int32)).toNatClampNeg := (q_unI h65.1 ma25 ra25 (by decide))
              obtain ⟨v178, ev178⟩ := q_ev (((q_I (S64) a25 ((7 : Int32)).toNatClampNeg) &&& (32 : Int32)).toInt)
              have f179 := q_andRVI ev178 (show q_eqv ((32 : Int32)).toInt (32) by unfold q_eqv; decide) (by omega)
              refine q_ok_ite (fun g180 => ?_) (fun g180 => ?_)
              · have f181 := q_eqV ev178 (show q_eqv ((0 : Int32)).toInt (0) by unfold q_eqv; decide) (q_p_eq g180)
                unfold m_X12_useParts_143
                obtain ⟨v182, ev182⟩ := q_ev ((l4 + r14).toInt)
                have f183 : v182 = l4.toInt + r14.toInt := q_addVI ev182 q_evr q_evr (by omega) (by omega)
                have f184 : q_sm _ := g_45_I8 hG mo ro
                obtain ⟨v185, ev185⟩ := q_ev ((q_I (S64) o 8).toInt)
                have f186 := q_bV ev185 f184
                have t187 := g_45_R9 hG mo ro
                have e188 : q_R (S64) o 9 = q_R (S) o 9 := (Eq.trans (q_unR h65.1 mo ro (by decide)) (q_unR h16.1 mo ro (by decide)))
                exact ih _ _ _ _ hG (q_wd (show (1 : Int) ≤ (1 : Int32).toInt ∧ (1 : Int32).toInt ≤ (1 : Int) by decide) (by decide) (by decide)) (q_wd (show (0 : Int) ≤ (0 : Int32).toInt ∧ (0 : Int32).toInt ≤ (0 : Int) by decide) (by decide) (by decide)) (q_oV ev182 (by omega) (by omega)) (q_bw2 (fun x0 x1 => x0 = 0 → x1 ≤ 1617) ev185 ev182 (by omega)) (q_usxI (Eq.trans e188 ea6) (q_usc n67 (q_bw2 (fun x0 x1 => x0 ≤ x1) (show q_eqv ((1 : Int32)).toInt (1) by unfold q_eqv; decide) q_evr (by omega))))  (q_upV ev182 (by omega))
              · have f189 := q_neV ev178 (show q_eqv ((0 : Int32)).toInt (0) by unfold q_eqv; decide) (q_n_eq g180)
                unfold m_X12_useParts_143
                obtain ⟨v190, ev190⟩ := q_ev ((l4 + r14).toInt)
                have f191 : v190 = l4.toInt + r14.toInt := q_addVI ev190 q_evr q_evr (by omega) (by omega)
                have f192 : q_sm _ := g_45_I8 hG mo ro
                obtain ⟨v193, ev193⟩ := q_ev ((q_I (S64) o 8).toInt)
                have f194 := q_bV ev193 f192
                have t195 := g_45_R9 hG mo ro
                have e196 : q_R (S64) o 9 = q_R (S) o 9 := (Eq.trans (q_unR h65.1 mo ro (by decide)) (q_unR h16.1 mo ro (by decide)))
                exact ih _ _ _ _ hG (q_wd (show (1 : Int) ≤ (1 : Int32).toInt ∧ (1 : Int32).toInt ≤ (1 : Int) by decide) (by decide) (by decide)) (q_wd (show (1 : Int) ≤ (1 : Int32).toInt ∧ (1 : Int32).toInt ≤ (1 : Int) by decide) (by decide) (by decide)) (q_oV ev190 (by omega) (by omega)) (q_bw2 (fun x0 x1 => x0 = 0 → x1 ≤ 1617) ev193 ev190 (by omega)) (q_usxI (Eq.trans e196 ea6) (q_usc n67 (q_bw2 (fun x0 x1 => x0 ≤ x1) (show q_eqv ((1 : Int32)).toInt (1) by unfold q_eqv; decide) q_evr (by omega))))  (q_upV ev190 (by omega))
            · have f197 := q_neV q_evr (show q_eqv ((0 : Int32)).toInt (0) by unfold q_eqv; decide) (q_n_eq g172)
              refine q_ok_atS hG (q_trI mo ro) rfl (fun mo ro => ?_)
              have t198 := g_45_R9 hG mo ro
              have e199 : q_R (S64) o 9 = q_R (S) o 9 := (Eq.trans (q_unR h65.1 mo ro (by decide)) (q_unR h16.1 mo ro (by decide)))
              refine q_ok_atA hG (Eq.trans e199 ea6) ma6 ra6 rfl ?_
              refine q_ok_if (q_inV (g_51_N hG ma6 ra6) ev68 (by omega) (by omega)) ?_
              obtain ⟨v200, ev200⟩ := q_ev ((vp_nar .boolean ((1 : Int32))).toInt)
              have f201 : v200 = (1) := q_narV ev200 (show q_eqv ((1 : Int32)).toInt (1) by unfold q_eqv; decide) (by omega) (by omega)
              have hG := u_51_E (k := (q_I (S15) a61 ((7 : Int32)).toNatClampNeg).toNatClampNeg) (x := vp_nar .boolean ((1 : Int32))) hG ma6 ra6 (by decide) (q_oV ev200 (by omega) (by omega))
              have n202 : q_us (S0) (q_sI (S64) a6 (q_I (S15) a61 ((7 : Int32)).toNatClampNeg).toNatClampNeg (vp_nar .boolean ((1 : Int32)))) a6 (l2).toInt := q_usW (q_idxV ev68 (by omega) (by omega)) (q_bw1 (fun x0 => x0 ≠ 0) ev200 (by omega)) n67
              unfold m_X12_useParts_125
              refine q_ok_atS hG (q_trI mo ro) rfl (fun mo ro => ?_)
              have t203 := g_45_R32 hG mo ro
              have e204 : q_R (q_sI (S64) a6 (q_I (S15) a61 ((7 : Int32)).toNatClampNeg).toNatClampNeg (vp_nar .boolean ((1 : Int32)))) o 32 = q_R (S15) o 32 := (Eq.trans q_skRI (q_unR h65.1 mo ro (by decide)))
              refine q_ok_atA hG (Eq.trans e204 ea25) ma25 ra25 rfl ?_
              refine q_ok_if (q_inV (g_67_N hG ma25 ra25) (show q_eqv ((7 : Int32)).toInt (7) by unfold q_eqv; decide) (by omega) (by omega)) ?_
              have f205 : q_sm _ := g_67_E hG ma25 ra25 (k := ((7 : Int32)).toNatClampNeg)
              have e206 : q_I (q_sI (S64) a6 (q_I (S15) a61 ((7 : Int32)).toNatClampNeg).toNatClampNeg (vp_nar .boolean ((1 : Int32)))) a25 ((7 : Int32)).toNatClampNeg = q_I (S15) a25 ((7 : Int32)).toNatClampNeg := (Eq.trans (q_fwI ra25 ra6 (by decide)) (q_unI h65.1 ma25 ra25 (by decide)))
              obtain ⟨v207, ev207⟩ := q_ev (((q_I (q_sI (S64) a6 (q_I (S15) a61 ((7 : Int32)).toNatClampNeg).toNatClampNeg (vp_nar .boolean ((1 : Int32)))) a25 ((7 : Int32)).toNatClampNeg) &&& (32 : Int32)).toInt)
              have f208 := q_andRVI ev207 (show q_eqv ((32 : Int32)).toInt (32) by unfold q_eqv; decide) (by omega)
              refine q_ok_ite (fun g209 => ?_) (fun g209 => ?_)
              · have f210 := q_eqV ev207 (show q_eqv ((0 : Int32)).toInt (0) by unfold q_eqv; decide) (q_p_eq g209)
                unfold m_X12_useParts_143
                obtain ⟨v211, ev211⟩ := q_ev ((l4 + r14).toInt)
                have f212 : v211 = l4.toInt + r14.toInt := q_addVI ev211 q_evr q_evr (by omega) (by omega)
                have f213 : q_sm _ := g_45_I8 hG mo ro
                obtain ⟨v214, ev214⟩ := q_ev ((q_I (q_sI (S64) a6 (q_I (S15) a61 ((7 : Int32)).toNatClampNeg).toNatClampNeg (vp_nar .boolean ((1 : Int32)))) o 8).toInt)
                have f215 := q_bV ev214 f213
                have t216 := g_45_R9 hG mo ro
                have e217 : q_R (q_sI (S64) a6 (q_I (S15) a61 ((7 : Int32)).toNatClampNeg).toNatClampNeg (vp_nar .boolean ((1 : Int32)))) o 9 = q_R (S64) o 9 := q_skRI
                exact ih _ _ _ _ hG (q_wd (show (1 : Int) ≤ (1 : Int32).toInt ∧ (1 : Int32).toInt ≤ (1 : Int) by decide) (by decide) (by decide)) (q_wd (show (0 : Int) ≤ (0 : Int32).toInt ∧ (0 : Int32).toInt ≤ (0 : Int) by decide) (by decide) (by decide)) (q_oV ev211 (by omega) (by omega)) (q_bw2 (fun x0 x1 => x0 = 0 → x1 ≤ 1617) ev214 ev211 (by omega)) (q_usxI (Eq.trans e217 (Eq.trans e199 ea6)) (q_usc n202 (q_bw2 (fun x0 x1 => x0 ≤ x1) (show q_eqv ((1 : Int32)).toInt (1) by unfold q_eqv; decide) q_evr (by omega))))  (q_upV ev211 (by omega))
              · have f218 := q_neV ev207 (show q_eqv ((0 : Int32)).toInt (0) by unfold q_eqv; decide) (q_n_eq g209)
                unfold m_X12_useParts_143
                obtain ⟨v219, ev219⟩ := q_ev ((l4 + r14).toInt)
                have f220 : v219 = l4.toInt + r14.toInt := q_addVI ev219 q_evr q_evr (by omega) (by omega)
                have f221 : q_sm _ := g_45_I8 hG mo ro
                obtain ⟨v222, ev222⟩ := q_ev ((q_I (q_sI (S64) a6 (q_I (S15) a61 ((7 : Int32)).toNatClampNeg).toNatClampNeg (vp_nar .boolean ((1 : Int32)))) o 8).toInt)
                have f223 := q_bV ev222 f221
                have t224 := g_45_R9 hG mo ro
                have e225 : q_R (q_sI (S64) a6 (q_I (S15) a61 ((7 : Int32)).toNatClampNeg).toNatClampNeg (vp_nar .boolean ((1 : Int32)))) o 9 = q_R (S64) o 9 := q_skRI
                exact ih _ _ _ _ hG (q_wd (show (1 : Int) ≤ (1 : Int32).toInt ∧ (1 : Int32).toInt ≤ (1 : Int) by decide) (by decide) (by decide)) (q_wd (show (1 : Int) ≤ (1 : Int32).toInt ∧ (1 : Int32).toInt ≤ (1 : Int) by decide) (by decide) (by decide)) (q_oV ev219 (by omega) (by omega)) (q_bw2 (fun x0 x1 => x0 = 0 → x1 ≤ 1617) ev222 ev219 (by omega)) (q_usxI (Eq.trans e225 (Eq.trans e199 ea6)) (q_usc n202 (q_bw2 (fun x0 x1 => x0 ≤ x1) (show q_eqv ((1 : Int32)).toInt (1) by unfold q_eqv; decide) q_evr (by omega))))  (q_upV ev219 (by omega))
        · have f226 := q_neV ev20 (show q_eqv ((0 : Int32)).toInt (0) by unfold q_eqv; decide) (q_n_eq g58)
          obtain ⟨v227, ev227⟩ := q_ev ((l4 + r14).toInt)
          have f228 : v227 = l4.toInt + r14.toInt := q_addVI ev227 q_evr q_evr (by omega) (by omega)
          have t229 := g_45_R9 hG mo ro
          have e230 : q_R (S15) o 9 = q_R (S) o 9 := (q_unR h16.1 mo ro (by decide))
          exact ih _ _ _ _ hG (q_wd hl2 (by decide) (by decide)) (q_wd hl3 (by decide) (by decide)) (q_oV ev227 (by omega) (by omega)) (q_bw2 (fun x0 x1 => x0 = 0 → x1 ≤ 1617) ev20 ev227 (by omega)) (q_usxI (Eq.trans e230 ea6) (q_usc n18 (q_bw2 (fun x0 x1 => x0 ≤ x1) q_evr q_evr (by omega))))  (q_upV ev227 (by omega))
      · have f231 := q_neV ev2 (show q_eqv ((0 : Int32)).toInt (0) by unfold q_eqv; decide) (q_n_eq g12)
        unfold m_X12_useParts_147
        refine q_ok_if (q_b01V q_evr (by omega) (by omega)) ?_
        have t232 := g_45_R9 hG mo ro
        exact q_ok_some ⟨hG, (q_wd hl2 (by decide) (by decide)), (q_smI (q_usxI ea6 (q_usc n7 (q_bw2 (fun x0 x1 => x0 ≤ x1) q_evr q_evr (by omega)))))⟩
set_option maxHeartbeats 4000000 in
set_option maxRecDepth 100000 in
theorem s_X12_useParts_45 {ρ : Nat → Nat} {L : List Nat} {n : Nat} (hn : 18446744073709551616 ≤ n) {S : q_S} (hI : q_Inv ρ L S) {o : Nat} (mo : o ∈ L) (ro : ρ o = 45) {p0 : Int32} (hp0 : (0 ≤ p0.toInt ∧ p0.toInt ≤ 199)) : q_ok (m_X12_useParts n S o p0) (fun r T => q_G ρ L M_X12_useParts_45 S T ∧ (0 ≤ r.toInt ∧ r.toInt ≤ 1) ∧ q_sm ((q_usx S T o (r).toInt))) := by
  have hG : q_G ρ L M_X12_useParts_45 S S := q_G_refl hI
  unfold m_X12_useParts
  have z0 : (0 : Int32).toInt = 0 := rfl
  have t1 := g_45_R9 hG mo ro
  obtain ⟨a2, ea2, ma2, ra2⟩ := id t1
  have n3 : q_us (S) (S) a2 0 := q_us0
  refine q_ok_atS hG (q_trI mo ro) rfl (fun mo ro => ?_)
  refine q_ok_b (s_X12_lookData_45 hn hG.1 mo ro (q_wd hp0 (by decide) (by decide))) (fun r4 S5 h6 => ?_)
  have hG := q_G_call hG h6.1 (by decide)
  have f7 := h6.2
  have n8 := q_usU h6.1 ma2 ra2 rfl n3
  refine q_ok_ite (fun g9 => ?_) (fun g9 => ?_)
  · have f10 := q_eqV q_evr (show q_eqv ((0 : Int32)).toInt (0) by unfold q_eqv; decide) (q_p_eq g9)
    unfold m_X12_useParts_33
    unfold m_X12_useParts_34
    have f11 : q_sm _ := g_45_I8 hG mo ro
    obtain ⟨v12, ev12⟩ := q_ev ((q_I (S5) o 8).toInt)
    have f13 := q_bV ev12 f11
    have t14 := g_45_R9 hG mo ro
    have e15 : q_R (S5) o 9 = q_R (S) o 9 := (q_unR h6.1 mo ro (by decide))
    exact s_X12_useParts_45_39 hn mo ro (p0 := p0) n _ _ _ _ hG (q_wd (show (0 : Int) ≤ (0 : Int32).toInt ∧ (0 : Int32).toInt ≤ (0 : Int) by decide) (by decide) (by decide)) (q_wd (show (0 : Int) ≤ (0 : Int32).toInt ∧ (0 : Int32).toInt ≤ (0 : Int) by decide) (by decide) (by decide)) (q_wd (show (10 : Int) ≤ (10 : Int32).toInt ∧ (10 : Int32).toInt ≤ (10 : Int) by decide) (by decide) (by decide)) (q_bw2 (fun x0 x1 => x0 = 0 → x1 ≤ 1617) ev12 (show q_eqv ((10 : Int32)).toInt (10) by unfold q_eqv; decide) (by omega)) (q_usxI (Eq.trans e15 ea2) (q_usc n8 (q_bw1 (fun x0 => x0 ≤ 0) (show q_eqv ((0 : Int32)).toInt (0) by unfold q_eqv; decide) (by omega))))  (q_upV (show q_eqv ((10 : Int32)).toInt (10) by unfold q_eqv; decide) (by omega))
  · have f16 := q_neV q_evr (show q_eqv ((0 : Int32)).toInt (0) by unfold q_eqv; decide) (q_n_eq g9)
    refine q_ok_atS hG (q_trI mo ro) rfl (fun mo ro => ?_)
    have f17 : q_sm _ := g_45_I23 hG mo ro
    obtain ⟨v18, ev18⟩ := q_ev ((q_I (S5) o 23).toInt)
    have f19 := q_bV ev18 f17
    refine q_ok_ite (fun g20 => ?_) (fun g20 => ?_)
    · have f21 := q_eqV ev18 (show q_eqv ((0 : Int32)).toInt (0) by unfold q_eqv; decide) (q_p_eq g20)
      have f25 : q_sm _ := g_45_I8 hG mo ro
      refine q_ok_b (s_X12_data_45_k2 hn hG.1 mo ro (q_wd (show (0 : Int) ≤ (0 : Int32).toInt ∧ (0 : Int32).toInt ≤ (0 : Int) by decide) (by decide) (by decide)) (q_wd (show (2 : Int) ≤ (2 : Int32).toInt ∧ (2 : Int32).toInt ≤ (2 : Int) by decide) (by decide) (by decide))) (fun r22 S23 h24 => ?_)
      have hG := q_G_call hG h24.1 (by decide)
      have f26 := h24.2.1
      have n27 := q_usU h24.1 ma2 ra2 rfl n8
      have f28 : q_sm _ := g_45_I8 hG mo ro
      obtain ⟨v29, ev29⟩ := q_ev ((q_I (S23) o 8).toInt)
      have f30 := q_bV ev29 f28
      obtain ⟨v31, ev31⟩ := q_ev ((q_I (S5) o 8).toInt)
      have f32 := q_bV ev31 f25
      have f33 : v29 = 0 → v31 = 0 := q_to2 (fun x0 x1 => x0 = 0 → x1 = 0) ev29 ev31 ((q_smE (h24.2.2)).1)
      have f34 : q_sm _ := g_45_I21 hG mo ro
      have f35 : q_sm _ := g_45_I22 hG mo ro
      obtain ⟨v36, ev36⟩ := q_ev ((q_I (S23) o 21).toInt)
      have f37 := q_bV ev36 f34
      obtain ⟨v38, ev38⟩ := q_ev ((q_I (S23) o 22).toInt)
      have f39 := q_bV ev38 f35
      have f40 : v29 = 0 → v36 + (0) + (2) ≤ v38 := q_to5 (fun x0 x1 x2 x3 x4 => x0 = 0 → x1 + x2 + x3 ≤ x4) ev29 ev36 (show q_eqv ((0 : Int32)).toInt (0) by unfold q_eqv; decide) (show q_eqv ((2 : Int32)).toInt (2) by unfold q_eqv; decide) ev38 ((q_smE (h24.2.2)).2.1)
      obtain ⟨v41, ev41⟩ := q_ev ((q_fd (S23) o ((1735162214 : Int64))).toInt)
      have f42 := q_rVI (x := q_fd (S23) o ((1735162214 : Int64))) ev41
      have f43 : v29 = 0 → 0 ≤ v41 := q_to2 (fun x0 x1 => x0 = 0 → 0 ≤ x1) ev29 ev41 ((q_smE (h24.2.2)).2.2)
      refine q_ok_b (s_X12_signed hn hG.1 (q_wd f26 (by decide) (by decide))) (fun r44 S45 h46 => ?_)
      obtain ⟨eS45, h46⟩ := h46
      replace eS45 := eS45.symm
      subst eS45
      have f47 := h46
      refine q_ok_ite (fun g48 => ?_) (fun g48 => ?_)
      · have f49 := q_leV (show q_eqv ((0 : Int32)).toInt (0) by unfold q_eqv; decide) q_evr (q_p_ge g48)
        unfold m_X12_useParts_33
        unfold m_X12_useParts_34
        have t50 := g_45_R9 hG mo ro
        have e51 : q_R (S23) o 9 = q_R (S) o 9 := (Eq.trans (q_unR h24.1 mo ro (by decide)) (q_unR h6.1 mo ro (by decide)))
        exact s_X12_useParts_45_39 hn mo ro (p0 := p0) n _ _ _ _ hG (q_wd (show (0 : Int) ≤ (0 : Int32).toInt ∧ (0 : Int32).toInt ≤ (0 : Int) by decide) (by decide) (by decide)) (q_wd (show (0 : Int) ≤ (0 : Int32).toInt ∧ (0 : Int32).toInt ≤ (0 : Int) by decide) (by decide) (by decide)) (q_wd (show (10 : Int) ≤ (10 : Int32).toInt ∧ (10 : Int32).toInt ≤ (10 : Int) by decide) (by decide) (by decide)) (q_bw2 (fun x0 x1 => x0 = 0 → x1 ≤ 1617) ev29 (show q_eqv ((10 : Int32)).toInt (10) by unfold q_eqv; decide) (by omega)) (q_usxI (Eq.trans e51 ea2) (q_usc n27 (q_bw1 (fun x0 => x0 ≤ 0) (show q_eqv ((0 : Int32)).toInt (0) by unfold q_eqv; decide) (by omega))))  (q_upV (show q_eqv ((10 : Int32)).toInt (10) by unfold q_eqv; decide) (by omega))
      · have f52 := q_ltV q_evr (show q_eqv ((0 : Int32)).toInt (0) by unfold q_eqv; decide) (q_n_ge g48)
        unfold m_X12_useParts_34
        have t53 := g_45_R9 hG mo ro
        have e54 : q_R (S23) o 9 = q_R (S) o 9 := (Eq.trans (q_unR h24.1 mo ro (by decide)) (q_unR h6.1 mo ro (by decide)))
        exact s_X12_useParts_45_39 hn mo ro (p0 := p0) n _ _ _ _ hG (q_wd (show (0 : Int) ≤ (0 : Int32).toInt ∧ (0 : Int32).toInt ≤ (0 : Int) by decide) (by decide) (by decide)) (q_wd (show (1 : Int) ≤ (1 : Int32).toInt ∧ (1 : Int32).toInt ≤ (1 : Int) by decide) (by decide) (by decide)) (q_wd (show (10 : Int) ≤ (10 : Int32).toInt ∧ (10 : Int32).toInt ≤ (10 : Int) by decide) (by decide) (by decide)) (q_bw2 (fun x0 x1 => x0 = 0 → x1 ≤ 1617) ev29 (show q_eqv ((10 : Int32)).toInt (10) by unfold q_eqv; decide) (by omega)) (q_usxI (Eq.trans e54 ea2) (q_usc n27 (q_bw1 (fun x0 => x0 ≤ 0) (show q_eqv ((0 : Int32)).toInt (0) by unfold q_eqv; decide) (by omega))))  (q_upV (show q_eqv ((10 : Int32)).toInt (10) by unfold q_eqv; decide) (by omega))
    · have f55 := q_neV ev18 (show q_eqv ((0 : Int32)).toInt (0) by unfold q_eqv; decide) (q_n_eq g20)
      unfold m_X12_useParts_33
      unfold m_X12_useParts_34
      have f56 : q_sm _ := g_45_I8 hG mo ro
      obtain ⟨v57, ev57⟩ := q_ev ((q_I (S5) o 8).toInt)
      have f58 := q_bV ev57 f56
      have t59 := g_45_R9 hG mo ro
      have e60 : q_R (S5) o 9 = q_R (S) o 9 := (q_unR h6.1 mo ro (by decide))
      exact s_X12_useParts_45_39 hn mo ro (p0 := p0) n _ _ _ _ hG (q_wd (show (0 : Int) ≤ (0 : Int32).toInt ∧ (0 : Int32).toInt ≤ (0 : Int) by decide) (by decide) (by decide)) (q_wd (show (0 : Int) ≤ (0 : Int32).toInt ∧ (0 : Int32).toInt ≤ (0 : Int) by decide) (by decide) (by decide)) (q_wd (show (10 : Int) ≤ (10 : Int32).toInt ∧ (10 : Int32).toInt ≤ (10 : Int) by decide) (by decide) (by decide)) (q_bw2 (fun x0 x1 => x0 = 0 → x1 ≤ 1617) ev57 (show q_eqv ((10 : Int32)).toInt (10) by unfold q_eqv; decide) (by omega)) (q_usxI (Eq.trans e60 ea2) (q_usc n8 (q_bw1 (fun x0 => x0 ≤ 0) (show q_eqv ((0 : Int32)).toInt (0) by unfold q_eqv; decide) (by omega))))  (q_upV (show q_eqv ((10 : Int32)).toInt (10) by unfold q_eqv; decide) (by omega))
