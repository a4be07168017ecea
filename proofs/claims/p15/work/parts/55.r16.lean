def M_X12_map_45 : List Nat := [2880, 2888]
set_option maxHeartbeats 4000000 in
set_option maxRecDepth 100000 in
theorem s_X12_map_45_30 {ρ : Nat → Nat} {L : List Nat} {n : Nat} (hn : 18446744073709551616 ≤ n) {S0 : q_S} {o : Nat} (mo : o ∈ L) (ro : ρ o = 45) {p0 : Int32}  : ∀ (k : Nat) (S : q_S) (l1 : Int32) (l2 : Int32) (l3 : Int32) (l4 : Int32), q_G ρ L M_X12_map_45 S0 S → (-1 ≤ l2.toInt ∧ l2.toInt ≤ 23) → (0 ≤ l3.toInt ∧ l3.toInt ≤ 65535) → (0 ≤ l4.toInt ∧ l4.toInt ≤ 65535) → 2147483648 - l4.toInt ≤ (k : Int) → q_ok (m_X12_map_30 n k S (some o) l1 l2 l3 l4) (fun r T => q_G ρ L M_X12_map_45 S0 T ∧ (-2147483647 ≤ r.toInt ∧ r.toInt ≤ 199)) := by
  intro k
  induction k with
  | zero =>
    intro S l1 l2 l3 l4 hG hl2 hl3 hl4 hm
    have f0 := q_rngI l4
    exfalso; omega
  | succ k ih =>
    intro S l1 l2 l3 l4 hG hl2 hl3 hl4 hm
    rw [m_X12_map_30]
    have z0 : (0 : Int32).toInt = 0 := rfl
    refine q_ok_ite (fun g1 => ?_) (fun g1 => ?_)
    · have f2 := q_leV q_evr q_evr (q_p_ge g1)
      unfold m_X12_map_166
      exact q_ok_some ⟨hG, (q_wd (show (0 : Int) ≤ (0 : Int32).toInt ∧ (0 : Int32).toInt ≤ (0 : Int) by decide) (by decide) (by decide))⟩
    · have f3 := q_ltV q_evr q_evr (q_n_ge g1)
      refine q_ok_atS hG (q_trI mo ro) rfl (fun mo ro => ?_)
      have f4 : q_sm _ := g_45_I8 hG mo ro
      obtain ⟨v5, ev5⟩ := q_ev ((q_I (S) o 8).toInt)
      have f6 := q_bV ev5 f4
      refine q_ok_ite (fun g7 => ?_) (fun g7 => ?_)
      · have f8 := q_eqV ev5 (show q_eqv ((0 : Int32)).toInt (0) by unfold q_eqv; decide) (q_p_eq g7)
        have f9 := q_rVI (x := l1) q_evr
        refine q_ok_ite (fun g10 => ?_) (fun g10 => ?_)
        · have f11 := q_ltV q_evr (show q_eqv ((0 : Int32)).toInt (0) by unfold q_eqv; decide) (q_p_lt g10)
          unfold m_X12_map_166
          exact q_ok_some ⟨hG, (q_wd (show (0 : Int) ≤ (0 : Int32).toInt ∧ (0 : Int32).toInt ≤ (0 : Int) by decide) (by decide) (by decide))⟩
        · have f12 := q_leV (show q_eqv ((0 : Int32)).toInt (0) by unfold q_eqv; decide) q_evr (q_n_lt g10)
          obtain ⟨v16, ev16⟩ := q_ev ((((4 : Int64) + ((8 : Int64) * (l4.toInt64))) + (4 : Int64)).toInt)
          obtain ⟨v17, ev17⟩ := q_ev (((4 : Int64) + ((8 : Int64) * (l4.toInt64))).toInt)
          obtain ⟨v18, ev18⟩ := q_ev (((8 : Int64) * (l4.toInt64)).toInt)
          obtain ⟨v19, ev19⟩ := q_ev ((l4.toInt64).toInt)
          have f20 : v19 = l4.toInt := q_i2lV ev19 q_evr
          have f21 : v18 = (8) * v19 := q_mulVJ ev18 (show q_eqv ((8 : Int64)).toInt (8) by unfold q_eqv; decide) ev19 (by omega) (by omega)
          have f22 : v17 = (4) + v18 := q_addVJ ev17 (show q_eqv ((4 : Int64)).toInt (4) by unfold q_eqv; decide) ev18 (by omega) (by omega)
          have f23 : v16 = v17 + (4) := q_addVJ ev16 ev17 (show q_eqv ((4 : Int64)).toInt (4) by unfold q_eqv; decide) (by omega) (by omega)
          refine q_ok_b (s_X12_number_45_k4 hn hG.1 mo ro (q_wd hl2 (by decide) (by decide)) (q_oV ev16 (by omega) (by omega)) (q_wd (show (4 : Int) ≤ (4 : Int32).toInt ∧ (4 : Int32).toInt ≤ (4 : Int) by decide) (by decide) (by decide))) (fun r13 S14 h15 => ?_)
          have hG := q_G_call hG h15.1 (by decide)
          have f24 := h15.2.1
          have f25 : q_sm _ := g_45_I8 hG mo ro
          obtain ⟨v26, ev26⟩ := q_ev ((q_I (S14) o 8).toInt)
          have f27 := q_bV ev26 f25
          have f28 : v26 = 0 → v5 = 0 := q_to2 (fun x0 x1 => x0 = 0 → x1 = 0) ev26 ev5 ((q_smE (h15.2.2)).1)
          have f29 : v26 = 0 → 0 ≤ l2.toInt := q_to2 (fun x0 x1 => x0 = 0 → 0 ≤ x1) ev26 q_evr ((q_smE (h15.2.2)).2)
          refine q_ok_atS hG (q_trI mo ro) rfl (fun mo ro => ?_)
          refine q_ok_ite (fun g30 => ?_) (fun g30 => ?_)
          · have f31 := q_eqV ev26 (show q_eqv ((0 : Int32)).toInt (0) by unfold q_eqv; decide) (q_p_eq g30)
            refine q_ok_b (s_X12_two_45 hn hG.1 mo ro (q_wd hl2 (by decide) (by decide)) (q_wd f24 (by decide) (by decide))) (fun r32 S33 h34 => ?_)
            have hG := q_G_call hG h34.1 (by decide)
            have f35 := h34.2.1
            have f36 : q_sm _ := g_45_I8 hG mo ro
            obtain ⟨v37, ev37⟩ := q_ev ((q_I (S33) o 8).toInt)
            have f38 := q_bV ev37 f36
            have f39 : v37 = 0 → v26 = 0 := q_to2 (fun x0 x1 => x0 = 0 → x1 = 0) ev37 ev26 ((q_smE (h34.2.2)))
            unfold m_X12_map_88
            refine q_ok_atS hG (q_trI mo ro) rfl (fun mo ro => ?_)
            refine q_ok_ite (fun g40 => ?_) (fun g40 => ?_)
            · have f41 := q_eqV ev37 (show q_eqv ((0 : Int32)).toInt (0) by unfold q_eqv; decide) (q_p_eq g40)
              refine q_ok_ite (fun g42 => ?_) (fun g42 => ?_)
              · have f43 := q_eqV q_evr (show q_eqv ((0 : Int32)).toInt (0) by unfold q_eqv; decide) (q_p_eq g42)
                unfold m_X12_map_122
                refine q_ok_atS hG (q_trI mo ro) rfl (fun mo ro => ?_)
                have f47 := q_rVI (x := l1) q_evr
                refine q_ok_b (s_X12_mapBy_45 hn hG.1 mo ro (q_wd hl2 (by decide) (by decide)) (q_wd f24 (by decide) (by decide)) (q_oV q_evr (by omega) (by omega)) (q_oV q_evr (by omega) (by omega))) (fun r44 S45 h46 => ?_)
                have hG := q_G_call hG h46.1 (by decide)
                have f48 := h46.2
                refine q_ok_atS hG (q_trI mo ro) rfl (fun mo ro => ?_)
                have f49 : q_sm _ := g_45_I8 hG mo ro
                obtain ⟨v50, ev50⟩ := q_ev ((q_I (S45) o 8).toInt)
                have f51 := q_bV ev50 f49
                refine q_ok_ite (fun g52 => ?_) (fun g52 => ?_)
                · have f53 := q_eqV ev50 (show q_eqv ((0 : Int32)).toInt (0) by unfold q_eqv; decide) (q_p_eq g52)
                  refine q_ok_b (s_X12_signs_45 hn hG.1 mo ro) (fun r54 S55 h56 => ?_)
                  have hG := q_G_call hG h56.1 (by decide)
                  have f57 := h56.2
                  obtain ⟨v58, ev58⟩ := q_ev ((r54.toInt64).toInt)
                  have f59 : v58 = r54.toInt := q_i2lV ev58 q_evr
                  refine q_ok_ite (fun g60 => ?_) (fun g60 => ?_)
                  · have f61 := q_leV ev58 q_evr (q_cp_ge g60)
                    unfold m_X12_map_158
                    unfold m_X12_map_159
                    exact q_ok_some ⟨hG, (q_wd (show (0 : Int) ≤ (0 : Int32).toInt ∧ (0 : Int32).toInt ≤ (0 : Int) by decide) (by decide) (by decide))⟩
                  · have f62 := q_ltV q_evr ev58 (q_cn_ge g60)
                    unfold m_X12_map_159
                    obtain ⟨v63, ev63⟩ := q_ev ((r44.toInt32).toInt)
                    have f64 : v63 = r44.toInt := q_l2iV ev63 q_evr (by omega) (by omega)
                    exact q_ok_some ⟨hG, (q_oV ev63 (by omega) (by omega))⟩
                · have f65 := q_neV ev50 (show q_eqv ((0 : Int32)).toInt (0) by unfold q_eqv; decide) (q_n_eq g52)
                  unfold m_X12_map_158
                  unfold m_X12_map_159
                  exact q_ok_some ⟨hG, (q_wd (show (0 : Int) ≤ (0 : Int32).toInt ∧ (0 : Int32).toInt ≤ (0 : Int) by decide) (by decide) (by decide))⟩
              · have f66 := q_neV q_evr (show q_eqv ((0 : Int32)).toInt (0) by unfold q_eqv; decide) (q_n_eq g42)
                refine q_ok_ite (fun g67 => ?_) (fun g67 => ?_)
                · have f68 := q_eqV q_evr (show q_eqv ((4 : Int32)).toInt (4) by unfold q_eqv; decide) (q_p_eq g67)
                  unfold m_X12_map_122
                  refine q_ok_atS hG (q_trI mo ro) rfl (fun mo ro => ?_)
                  have f72 := q_rVI (x := l1) q_evr
                  refine q_ok_b (s_X12_mapBy_45 hn hG.1 mo ro (q_wd hl2 (by decide) (by decide)) (q_wd f24 (by decide) (by decide)) (q_oV q_evr (by omega) (by omega)) (q_oV q_evr (by omega) (by omega))) (fun r69 S70 h71 => ?_)
                  have hG := q_G_call hG h71.1 (by decide)
                  have f73 := h71.2
                  refine q_ok_atS hG (q_trI mo ro) rfl (fun mo ro => ?_)
                  have f74 : q_sm _ := g_45_I8 hG mo ro
                  obtain ⟨v75, ev75⟩ := q_ev ((q_I (S70) o 8).toInt)
                  have f76 := q_bV ev75 f74
                  refine q_ok_ite (fun g77 => ?_) (fun g77 => ?_)
                  · have f78 := q_eqV ev75 (show q_eqv ((0 : Int32)).toInt (0) by unfold q_eqv; decide) (q_p_eq g77)
                    refine q_ok_b (s_X12_signs_45 hn hG.1 mo ro) (fun r79 S80 h81 => ?_)
                    have hG := q_G_call hG h81.1 (by decide)
                    have f82 := h81.2
                    obtain ⟨v83, ev83⟩ := q_ev ((r79.toInt64).toInt)
                    have f84 : v83 = r79.toInt := q_i2lV ev83 q_evr
                    refine q_ok_ite (fun g85 => ?_) (fun g85 => ?_)
                    · have f86 := q_leV ev83 q_evr (q_cp_ge g85)
                      unfold m_X12_map_158
                      unfold m_X12_map_159
                      exact q_ok_some ⟨hG, (q_wd (show (0 : Int) ≤ (0 : Int32).toInt ∧ (0 : Int32).toInt ≤ (0 : Int) by decide) (by decide) (by decide))⟩
                    · have f87 := q_ltV q_evr ev83 (q_cn_ge g85)
                      unfold m_X12_map_159
                      obtain ⟨v88, ev88⟩ := q_ev ((r69.toInt32).toInt)
                      have f89 : v88 = r69.toInt := q_l2iV ev88 q_evr (by omega) (by omega)
                      exact q_ok_some ⟨hG, (q_oV ev88 (by omega) (by omega))⟩
                  · have f90 := q_neV ev75 (show q_eqv ((0 : Int32)).toInt (0) by unfold q_eqv; decide) (q_n_eq g77)
                    unfold m_X12_map_158
                    unfold m_X12_map_159
                    exact q_ok_some ⟨hG, (q_wd (show (0 : Int) ≤ (0 : Int32).toInt ∧ (0 : Int32).toInt ≤ (0 : Int) by decide) (by decide) (by decide))⟩
                · have f91 := q_neV q_evr (show q_eqv ((4 : Int32)).toInt (4) by unfold q_eqv; decide) (q_n_eq g67)
                  refine q_ok_ite (fun g92 => ?_) (fun g92 => ?_)
                  · have f93 := q_eqV q_evr (show q_eqv ((6 : Int32)).toInt (6) by unfold q_eqv; decide) (q_p_eq g92)
                    unfold m_X12_map_122
                    refine q_ok_atS hG (q_trI mo ro) rfl (fun mo ro => ?_)
                    have f97 := q_rVI (x := l1) q_evr
                    refine q_ok_b (s_X12_mapBy_45 hn hG.1 mo ro (q_wd hl2 (by decide) (by decide)) (q_wd f24 (by decide) (by decide)) (q_oV q_evr (by omega) (by omega)) (q_oV q_evr (by omega) (by omega))) (fun r94 S95 h96 => ?_)
                    have hG := q_G_call hG h96.1 (by decide)
                    have f98 := h96.2
                    refine q_ok_atS hG (q_trI mo ro) rfl (fun mo ro => ?_)
                    have f99 : q_sm _ := g_45_I8 hG mo ro
                    obtain ⟨v100, ev100⟩ := q_ev ((q_I (S95) o 8).toInt)
                    have f101 := q_bV ev100 f99
                    refine q_ok_ite (fun g102 => ?_) (fun g102 => ?_)
                    · have f103 := q_eqV ev100 (show q_eqv ((0 : Int32)).toInt (0) by unfold q_eqv; decide) (q_p_eq g102)
                      refine q_ok_b (s_X12_signs_45 hn hG.1 mo ro) (fun r104 S105 h106 => ?_)
                      have hG := q_G_call hG h106.1 (by decide)
                      have f107 := h106.2
                      obtain ⟨v108, ev108⟩ := q_ev ((r104.toInt64).toInt)
                      have f109 : v108 = r104.toInt := q_i2lV ev108 q_evr
                      refine q_ok_ite (fun g110 => ?_) (fun g110 => ?_)
                      · have f111 := q_leV ev108 q_evr (q_cp_ge g110)
                        unfold m_X12_map_158
                        unfold m_X12_map_159
                        exact q_ok_some ⟨hG, (q_wd (show (0 : Int) ≤ (0 : Int32).toInt ∧ (0 : Int32).toInt ≤ (0 : Int) by decide) (by decide) (by decide))⟩
                      · have f112 := q_ltV q_evr ev108 (q_cn_ge g110)
                        unfold m_X12_map_159
                        obtain ⟨v113, ev113⟩ := q_ev ((r94.toInt32).toInt)
                        have f114 : v113 = r94.toInt := q_l2iV ev113 q_evr (by omega) (by omega)
                        exact q_ok_some ⟨hG, (q_oV ev113 (by omega) (by omega))⟩
                    · have f115 := q_neV ev100 (show q_eqv ((0 : Int32)).toInt (0) by unfold q_eqv; decide) (q_n_eq g102)
                      unfold m_X12_map_158
                      unfold m_X12_map_159
                      exact q_ok_some ⟨hG, (q_wd (show (0 : Int) ≤ (0 : Int32).toInt ∧ (0 : Int32).toInt ≤ (0 : Int) by decide) (by decide) (by decide))⟩
                  · have f116 := q_neV q_evr (show q_eqv ((6 : Int32)).toInt (6) by unfold q_eqv; decide) (q_n_eq g92)
                    refine q_ok_ite (fun g117 => ?_) (fun g117 => ?_)
                    · have f118 := q_eqV q_evr (show q_eqv ((12 : Int32)).toInt (12) by unfold q_eqv; decide) (q_p_eq g117)
                      unfold m_X12_map_122
                      refine q_ok_atS hG (q_trI mo ro) rfl (fun mo ro => ?_)
                      have f122 := q_rVI (x := l1) q_evr
                      refine q_ok_b (s_X12_mapBy_45 hn hG.1 mo ro (q_wd hl2 (by decide) (by decide)) (q_wd f24 (by decide) (by decide)) (q_oV q_evr (by omega) (by omega)) (q_oV q_evr (by omega) (by omega))) (fun r119 S120 h121 => ?_)
                      have hG := q_G_call hG h121.1 (by decide)
                      have f123 := h121.2
                      refine q_ok_atS hG (q_trI mo ro) rfl (fun mo ro => ?_)
                      have f124 : q_sm _ := g_45_I8 hG mo ro
                      obtain ⟨v125, ev125⟩ := q_ev ((q_I (S120) o 8).toInt)
                      have f126 := q_bV ev125 f124
                      refine q_ok_ite (fun g127 => ?_) (fun g127 => ?_)
                      · have f128 := q_eqV ev125 (show q_eqv ((0 : Int32)).toInt (0) by unfold q_eqv; decide) (q_p_eq g127)
                        refine q_ok_b (s_X12_signs_45 hn hG.1 mo ro) (fun r129 S130 h131 => ?_)
                        have hG := q_G_call hG h131.1 (by decide)
                        have f132 := h131.2
                        obtain ⟨v133, ev133⟩ := q_ev ((r129.toInt64).toInt)
                        have f134 : v133 = r129.toInt := q_i2lV ev133 q_evr
                        refine q_ok_ite (fun g135 => ?_) (fun g135 => ?_)
                        · have f136 := q_leV ev133 q_evr (q_cp_ge g135)
                          unfold m_X12_map_158
                          unfold m_X12_map_159
                          exact q_ok_some ⟨hG, (q_wd (show (0 : Int) ≤ (0 : Int32).toInt ∧ (0 : Int32).toInt ≤ (0 : Int) by decide) (by decide) (by decide))⟩
                        · have f137 := q_ltV q_evr ev133 (q_cn_ge g135)
                          unfold m_X12_map_159
                          obtain ⟨v138, ev138⟩ := q_ev ((r119.toInt32).toInt)
                          have f139 : v138 = r119.toInt := q_l2iV ev138 q_evr (by omega) (by omega)
                          exact q_ok_some ⟨hG, (q_oV ev138 (by omega) (by omega))⟩
                      · have f140 := q_neV ev125 (show q_eqv ((0 : Int32)).toInt (0) by unfold q_eqv; decide) (q_n_eq g127)
                        unfold m_X12_map_158
                        unfold m_X12_map_159
                        exact q_ok_some ⟨hG, (q_wd (show (0 : Int) ≤ (0 : Int32).toInt ∧ (0 : Int32).toInt ≤ (0 : Int) by decide) (by decide) (by decide))⟩
                    · have f141 := q_neV q_evr (show q_eqv ((12 : Int32)).toInt (12) by unfold q_eqv; decide) (q_n_eq g117)
                      unfold m_X12_map_160
                      obtain ⟨v142, ev142⟩ := q_ev ((l4 + (1)).toInt)
                      have f143 : v142 = l4.toInt + (1) := q_addVI ev142 q_evr (show q_eqv ((1 : Int32)).toInt (1) by unfold q_eqv; decide) (by omega) (by omega)
                      exact ih _ _ _ _ _ hG (q_wd hl2 (by decide) (by decide)) (q_wd hl3 (by decide) (by decide)) (q_oV ev142 (by omega) (by omega))  (q_upV ev142 (by omega))
            · have f144 := q_neV ev37 (show q_eqv ((0 : Int32)).toInt (0) by unfold q_eqv; decide) (q_n_eq g40)
              unfold m_X12_map_160
              obtain ⟨v145, ev145⟩ := q_ev ((l4 + (1)).toInt)
              have f146 : v145 = l4.toInt + (1) := q_addVI ev145 q_evr (show q_eqv ((1 : Int32)).toInt (1) by unfold q_eqv; decide) (by omega) (by omega)
              exact ih _ _ _ _ _ hG (q_wd hl2 (by decide) (by decide)) (q_wd hl3 (by decide) (by decide)) (q_oV ev145 (by omega) (by omega))  (q_upV ev145 (by omega))
          · have f147 := q_neV ev26 (show q_eqv ((0 : Int32)).toInt (0) by unfold q_eqv; decide) (q_n_eq g30)
            unfold m_X12_map_88
            refine q_ok_atS hG (q_trI mo ro) rfl (fun mo ro => ?_)
            refine q_ok_ite (fun g148 => ?_) (fun g148 => ?_)
            · have f149 := q_eqV ev26 (show q_eqv ((0 : Int32)).toInt (0) by unfold q_eqv; decide) (q_p_eq g148)
              exfalso; omega
            · have f150 := q_neV ev26 (show q_eqv ((0 : Int32)).toInt (0) by unfold q_eqv; decide) (q_n_eq g148)
              unfold m_X12_map_160
              obtain ⟨v151, ev151⟩ := q_ev ((l4 + (1)).toInt)
              have f152 : v151 = l4.toInt + (1) := q_addVI ev151 q_evr (show q_eqv ((1 : Int32)).toInt (1) by unfold q_eqv; decide) (by omega) (by omega)
              exact ih _ _ _ _ _ hG (q_wd hl2 (by decide) (by decide)) (q_wd hl3 (by decide) (by decide)) (q_oV ev151 (by omega) (by omega))  (q_upV ev151 (by omega))
      · have f153 := q_neV ev5 (show q_eqv ((0 : Int32)).toInt (0) by unfold q_eqv; decide) (q_n_eq g7)
        unfold m_X12_map_166
        exact q_ok_some ⟨hG, (q_wd (show (0 : Int) ≤ (0 : Int32).toInt ∧ (0 : Int32).toInt ≤ (0 : Int) by decide) (by decide) (by decide))⟩
set_option maxHeartbeats 4000000 in
set_option maxRecDepth 100000 in
theorem s_X12_map_45 {ρ : Nat → Nat} {L : List Nat} {n : Nat} (hn : 18446744073709551616 ≤ n) {S : q_S} (hI : q_Inv ρ L S) {o : Nat} (mo : o ∈ L) (ro : ρ o = 45) {p0 : Int32} : q_ok (m_X12_map n S o p0) (fun r T => q_G ρ L M_X12_map_45 S T ∧ (-2147483647 ≤ r.toInt ∧ r.toInt ≤ 199)) := by
  have hG : q_G ρ L M_X12_map_45 S S := q_G_refl hI
  unfold m_X12_map
  have z0 : (0 : Int32).toInt = 0 := rfl
  refine q_ok_atS hG (q_trI mo ro) rfl (fun mo ro => ?_)
  have hG := u_45_I0 (x := (0 : Int32)) hG mo ro (by decide) (q_wd (show (0 : Int) ≤ (0 : Int32).toInt ∧ (0 : Int32).toInt ≤ (0 : Int) by decide) (by decide) (by decide))
  refine q_ok_if (q_b01V (show q_eqv ((0 : Int32)).toInt (0) by unfold q_eqv; decide) (by omega) (by omega)) ?_
  have hG := u_45_I8 (x := (0 : Int32)) hG mo ro (by decide) (q_wd (show (0 : Int) ≤ (0 : Int32).toInt ∧ (0 : Int32).toInt ≤ (0 : Int) by decide) (by decide) (by decide))
  refine q_ok_let (fun S1 eS1 => ?_)
  rw [← eS1] at hG
  refine q_ok_b (s_X12_find_45 hn hG.1 mo ro (q_wd (show (1668112752 : Int) ≤ (1668112752 : Int64).toInt ∧ (1668112752 : Int64).toInt ≤ (1668112752 : Int) by decide) (by decide) (by decide))) (fun r2 S3 h4 => ?_)
  obtain ⟨eS3, h4⟩ := h4
  replace eS3 := eS3.symm
  subst eS3
  have f5 := h4.1
  have e6 : r2 = q_fd (S1) o ((1668112752 : Int64)) := Int32.toInt_inj.mp (q_smE (h4.2))
  subst e6
  obtain ⟨v7, ev7⟩ := q_ev ((q_fd (S1) o ((1668112752 : Int64))).toInt)
  have f8 := q_rVI (x := q_fd (S1) o ((1668112752 : Int64))) ev7
  have f9 := q_bV ev7 f5
  refine q_ok_atS hG (q_trI mo ro) rfl (fun mo ro => ?_)
  have f13 : q_sm _ := g_45_I8 hG mo ro
  have e14 : q_I (S1) o 8 = (0 : Int32) := (Eq.trans (q_leI eS1) q_hitI)
  refine q_ok_b (s_X12_two_45 hn hG.1 mo ro (q_oV ev7 (by omega) (by omega)) (q_wd (show (2 : Int) ≤ (2 : Int64).toInt ∧ (2 : Int64).toInt ≤ (2 : Int) by decide) (by decide) (by decide))) (fun r10 S11 h12 => ?_)
  have hG := q_G_call hG h12.1 (by decide)
  have f15 := h12.2.1
  have f16 : q_sm _ := g_45_I8 hG mo ro
  obtain ⟨v17, ev17⟩ := q_ev ((q_I (S11) o 8).toInt)
  have f18 := q_bV ev17 f16
  obtain ⟨v19, ev19⟩ := q_ev ((q_I (S1) o 8).toInt)
  have f20 : v19 = (0) := q_eqVI e14 ev19 (show q_eqv ((0 : Int32)).toInt (0) by unfold q_eqv; decide)
  have f21 : v17 = 0 → v19 = 0 := q_to2 (fun x0 x1 => x0 = 0 → x1 = 0) ev17 ev19 ((q_smE (h12.2.2)))
  exact s_X12_map_45_30 hn mo ro (p0 := p0) n _ _ _ _ _ hG (q_oV ev7 (by omega) (by omega)) (q_wd f15 (by decide) (by decide)) (q_wd (show (0 : Int) ≤ (0 : Int32).toInt ∧ (0 : Int32).toInt ≤ (0 : Int) by decide) (by decide) (by decide))  (q_upV (show q_eqv ((0 : Int32)).toInt (0) by unfold q_eqv; decide) (by omega))
def M_X12_octet_45 : List Nat := [2880]
set_option maxHeartbeats 4000000 in
set_option maxRecDepth 100000 in
theorem s_X12_octet_45 {ρ : Nat → Nat} {L : List Nat} {n : Nat} (hn : 18446744073709551616 ≤ n) {S : q_S} (hI : q_Inv ρ L S) {o : Nat} (mo : o ∈ L) (ro : ρ o = 45) {p0 : Int32} {p1 : Int32} : q_ok (m_X12_octet n S o p0 p1) (fun r T => q_G ρ L M_X12_octet_45 S T ∧ (0 ≤ r.toInt ∧ r.toInt ≤ 255)) := by
  have hG : q_G ρ L M_X12_octet_45 S S := q_G_refl hI
  unfold m_X12_octet
  have z0 : (0 : Int32).toInt = 0 := rfl
  refine q_ok_atS hG (q_trI mo ro) rfl (fun mo ro => ?_)
  have f1 : q_sm _ := g_45_I3 hG mo ro
  obtain ⟨v5, ev5⟩ := q_ev ((p0.toInt64).toInt)
  have f6 := q_rVI (x := p0) q_evr
  have f7 : v5 = p0.toInt := q_i2lV ev5 q_evr
  refine q_ok_b (s_X12_in hn hG.1 (q_oV ev5 (by omega) (by omega)) (q_wd (show (0 : Int) ≤ (0 : Int64).toInt ∧ (0 : Int64).toInt ≤ (0 : Int) by decide) (by decide) (by decide)) (q_wd (q_i2lB (q_subBI (-1) (23) f1 (show (1 : Int) ≤ (1 : Int32).toInt ∧ (1 : Int32).toInt ≤ (1 : Int) by decide) (by decide) (by decide) (by decide) (by decide))) (by decide) (by decide))) (fun r2 S3 h4 => ?_)
  obtain ⟨eS3, h4⟩ := h4
  replace eS3 := eS3.symm
  subst eS3
  have f8 := And.intro h4.1 h4.2.1
  obtain ⟨v9, ev9⟩ := q_ev ((((q_I (S) o 3) - (1 : Int32)).toInt64).toInt)
  obtain ⟨v10, ev10⟩ := q_ev (((q_I (S) o 3) - (1 : Int32)).toInt)
  obtain ⟨v11, ev11⟩ := q_ev ((q_I (S) o 3).toInt)
  have f12 := q_bV ev11 f1
  have f13 : v10 = v11 - (1) := q_subVI ev10 ev11 (show q_eqv ((1 : Int32)).toInt (1) by unfold q_eqv; decide) (by omega) (by omega)
  have f14 : v9 = v10 := q_i2lV ev9 ev10
  have f15 : r2.toInt = 1 → (0) ≤ v5 := fun h9 => q_leV (show q_eqv ((0 : Int64)).toInt (0) by unfold q_eqv; decide) ev5 (f8.2 h9).1
  have f16 : r2.toInt = 1 → v5 ≤ v9 := fun h9 => q_leV ev5 ev9 (f8.2 h9).2
  have f17 : r2.toInt = 1 → (0) ≤ v5 ∧ v5 ≤ v9 := q_to4 (fun x0 x1 x2 x3 => x0 = 1 → x1 ≤ x2 ∧ x2 ≤ x3) q_evr (show q_eqv ((0 : Int64)).toInt (0) by unfold q_eqv; decide) ev5 ev9 ((q_smE (h4.2.2)).1)
  have f18 : r2.toInt = 0 → v5 < (0) ∨ v9 < v5 := q_to4 (fun x0 x1 x2 x3 => x0 = 0 → x1 < x2 ∨ x3 < x1) q_evr ev5 (show q_eqv ((0 : Int64)).toInt (0) by unfold q_eqv; decide) ev9 ((q_smE (h4.2.2)).2)
  refine q_ok_ite (fun g19 => ?_) (fun g19 => ?_)
  · have f20 := q_eqV q_evr (show q_eqv ((0 : Int32)).toInt (0) by unfold q_eqv; decide) (q_p_eq g19)
    unfold m_X12_octet_39
    unfold m_X12_octet_40
    refine q_ok_atS hG (q_trI mo ro) rfl (fun mo ro => ?_)
    have hG := u_45_I0 (x := (1 : Int32)) hG mo ro (by decide) (q_wd (show (1 : Int) ≤ (1 : Int32).toInt ∧ (1 : Int32).toInt ≤ (1 : Int) by decide) (by decide) (by decide))
    refine q_ok_atS hG (q_trI mo ro) rfl (fun mo ro => ?_)
    have f21 : q_sm _ := g_45_I0 hG mo ro
    have e22 : q_I (q_sI (S) o 0 ((1 : Int32))) o 0 = (1 : Int32) := q_hitI
    obtain ⟨v23, ev23⟩ := q_ev ((q_I (q_sI (S) o 0 ((1 : Int32))) o 0).toInt)
    have f24 : v23 = (1) := q_eqVI e22 ev23 (show q_eqv ((1 : Int32)).toInt (1) by unfold q_eqv; decide)
    refine q_ok_ite (fun g25 => ?_) (fun g25 => ?_)
    · have f26 := q_leV ev23 (show q_eqv ((0 : Int32)).toInt (0) by unfold q_eqv; decide) (q_p_le g25)
      exfalso; omega
    · have f27 := q_ltV (show q_eqv ((0 : Int32)).toInt (0) by unfold q_eqv; decide) ev23 (q_n_le g25)
      unfold m_X12_octet_67
      exact q_ok_some ⟨hG, (q_wd (show (0 : Int) ≤ (0 : Int32).toInt ∧ (0 : Int32).toInt ≤ (0 : Int) by decide) (by decide) (by decide))⟩
  · have f28 := q_neV q_evr (show q_eqv ((0 : Int32)).toInt (0) by unfold q_eqv; decide) (q_n_eq g19)
    refine q_ok_atS hG (q_trI mo ro) rfl (fun mo ro => ?_)
    have t29 := g_45_R7 hG mo ro
    refine q_ok_at hG t29 rfl (fun a30 ma30 ra30 ea30 => ?_)
    refine q_ok_if (q_inV (g_50_N hG ma30 ra30) q_evr (by omega) (by omega)) ?_
    have f31 : q_sm _ := g_50_E hG ma30 ra30 (k := (p0).toNatClampNeg)
    have t32 := g_45_R6 hG mo ro
    obtain ⟨a33, ea33, ma33, ra33⟩ := id t32
    have f34 : q_sm _ := g_49_E hG ma33 ra33 (k := (p0).toNatClampNeg)
    have t35 := g_45_R7 hG mo ro
    obtain ⟨v36, ev36⟩ := q_ev ((q_I (S) a33 (p0).toNatClampNeg).toInt)
    have f37 := q_bV ev36 f34
    obtain ⟨v38, ev38⟩ := q_ev ((q_I (S) a30 (p0).toNatClampNeg).toInt)
    have f39 := q_bV ev38 f31
    have f40 : v36 + v38 ≤ 1600 := q_to2 (fun x0 x1 => x0 + x1 ≤ 1600) ev36 ev38 (hG.1.2.2.2 a33 a30 ma33 ma30 ra33 ra30 _)
    obtain ⟨v44, ev44⟩ := q_ev ((p1.toInt64).toInt)
    have f45 := q_rVI (x := p1) q_evr
    have f46 : v44 = p1.toInt := q_i2lV ev44 q_evr
    refine q_ok_b (s_X12_in hn hG.1 (q_oV ev44 (by omega) (by omega)) (q_wd (show (0 : Int) ≤ (0 : Int64).toInt ∧ (0 : Int64).toInt ≤ (0 : Int) by decide) (by decide) (by decide)) (q_wd (q_i2lB (q_subBI (-1) (1599) f31 (show (1 : Int) ≤ (1 : Int32).toInt ∧ (1 : Int32).toInt ≤ (1 : Int) by decide) (by decide) (by decide) (by decide) (by decide))) (by decide) (by decide))) (fun r41 S42 h43 => ?_)
    obtain ⟨eS42, h43⟩ := h43
    replace eS42 := eS42.symm
    subst eS42
    have f47 := And.intro h43.1 h43.2.1
    obtain ⟨v48, ev48⟩ := q_ev ((((q_I (S) a30 (p0).toNatClampNeg) - (1 : Int32)).toInt64).toInt)
    obtain ⟨v49, ev49⟩ := q_ev (((q_I (S) a30 (p0).toNatClampNeg) - (1 : Int32)).toInt)
    have f50 : v49 = v38 - (1) := q_subVI ev49 ev38 (show q_eqv ((1 : Int32)).toInt (1) by unfold q_eqv; decide) (by omega) (by omega)
    have f51 : v48 = v49 := q_i2lV ev48 ev49
    have f52 : r41.toInt = 1 → (0) ≤ v44 := fun h9 => q_leV (show q_eqv ((0 : Int64)).toInt (0) by unfold q_eqv; decide) ev44 (f47.2 h9).1
    have f53 : r41.toInt = 1 → v44 ≤ v48 := fun h9 => q_leV ev44 ev48 (f47.2 h9).2
    have f54 : r41.toInt = 1 → (0) ≤ v44 ∧ v44 ≤ v48 := q_to4 (fun x0 x1 x2 x3 => x0 = 1 → x1 ≤ x2 ∧ x2 ≤ x3) q_evr (show q_eqv ((0 : Int64)).toInt (0) by unfold q_eqv; decide) ev44 ev48 ((q_smE (h43.2.2)).1)
    have f55 : r41.toInt = 0 → v44 < (0) ∨ v48 < v44 := q_to4 (fun x0 x1 x2 x3 => x0 = 0 → x1 < x2 ∨ x3 < x1) q_evr ev44 (show q_eqv ((0 : Int64)).toInt (0) by unfold q_eqv; decide) ev48 ((q_smE (h43.2.2)).2)
    refine q_ok_ite (fun g56 => ?_) (fun g56 => ?_)
    · have f57 := q_eqV q_evr (show q_eqv ((0 : Int32)).toInt (0) by unfold q_eqv; decide) (q_p_eq g56)
      unfold m_X12_octet_39
      unfold m_X12_octet_40
      refine q_ok_atS hG (q_trI mo ro) rfl (fun mo ro => ?_)
      have hG := u_45_I0 (x := (1 : Int32)) hG mo ro (by decide) (q_wd (show (1 : Int) ≤ (1 : Int32).toInt ∧ (1 : Int32).toInt ≤ (1 : Int) by decide) (by decide) (by decide))
      refine q_ok_atS hG (q_trI mo ro) rfl (fun mo ro => ?_)
      have f58 : q_sm _ := g_45_I0 hG mo ro
      have e59 : q_I (q_sI (S) o 0 ((1 : Int32))) o 0 = (1 : Int32) := q_hitI
      obtain ⟨v60, ev60⟩ := q_ev ((q_I (q_sI (S) o 0 ((1 : Int32))) o 0).toInt)
      have f61 : v60 = (1) := q_eqVI e59 ev60 (show q_eqv ((1 : Int32)).toInt (1) by unfold q_eqv; decide)
      refine q_ok_ite (fun g62 => ?_) (fun g62 => ?_)
      · have f63 := q_leV ev60 (show q_eqv ((0 : Int32)).toInt (0) by unfold q_eqv; decide) (q_p_le g62)
        exfalso; omega
      · have f64 := q_ltV (show q_eqv ((0 : Int32)).toInt (0) by unfold q_eqv; decide) ev60 (q_n_le g62)
        unfold m_X12_octet_67
        exact q_ok_some ⟨hG, (q_wd (show (0 : Int) ≤ (0 : Int32).toInt ∧ (0 : Int32).toInt ≤ (0 : Int) by decide) (by decide) (by decide))⟩
    · have f65 := q_neV q_evr (show q_eqv ((0 : Int32)).toInt (0) by unfold q_eqv; decide) (q_n_eq g56)
      unfold m_X12_octet_40
      refine q_ok_atS hG (q_trI mo ro) rfl (fun mo ro => ?_)
      have hG := u_45_I0 (x := (0 : Int32)) hG mo ro (by decide) (q_wd (show (0 : Int) ≤ (0 : Int32).toInt ∧ (0 : Int32).toInt ≤ (0 : Int) by decide) (by decide) (by decide))
      refine q_ok_atS hG (q_trI mo ro) rfl (fun mo ro => ?_)
      have f66 : q_sm _ := g_45_I0 hG mo ro
      have e67 : q_I (q_sI (S) o 0 ((0 : Int32))) o 0 = (0 : Int32) := q_hitI
      obtain ⟨v68, ev68⟩ := q_ev ((q_I (q_sI (S) o 0 ((0 : Int32))) o 0).toInt)
      have f69 : v68 = (0) := q_eqVI e67 ev68 (show q_eqv ((0 : Int32)).toInt (0) by unfold q_eqv; decide)
      refine q_ok_ite (fun g70 => ?_) (fun g70 => ?_)
      · have f71 := q_leV ev68 (show q_eqv ((0 : Int32)).toInt (0) by unfold q_eqv; decide) (q_p_le g70)
        have t72 := g_45_R1 hG mo ro
        have t73 := g_45_R6 hG mo ro
        have e74 : q_R (q_sI (S) o 0 ((0 : Int32))) o 6 = q_R (S) o 6 := q_skRI
        refine q_ok_atA hG (Eq.trans e74 ea33) ma33 ra33 rfl ?_
        refine q_ok_if (q_inV (g_49_N hG ma33 ra33) q_evr (by omega) (by omega)) ?_
        have f75 : q_sm _ := g_49_E hG ma33 ra33 (k := (p0).toNatClampNeg)
        have e76 : q_I (q_sI (S) o 0 ((0 : Int32))) a33 (p0).toNatClampNeg = q_I (S) a33 (p0).toNatClampNeg := (q_fwI ra33 ro (by decide))
        have t77 := g_45_R6 hG mo ro
        have t78 := g_45_R7 hG mo ro
        have e79 : q_R (q_sI (S) o 0 ((0 : Int32))) o 7 = q_R (S) o 7 := q_skRI
        have f80 : q_sm _ := g_50_E hG ma30 ra30 (k := (p0).toNatClampNeg)
        have e81 : q_I (q_sI (S) o 0 ((0 : Int32))) a30 (p0).toNatClampNeg = q_I (S) a30 (p0).toNatClampNeg := (q_fwI ra30 ro (by decide))
        obtain ⟨v82, ev82⟩ := q_ev ((q_I (q_sI (S) o 0 ((0 : Int32))) a33 (p0).toNatClampNeg).toInt)
        have f83 : v82 = v36 := q_eqVI e76 ev82 ev36
        obtain ⟨v84, ev84⟩ := q_ev ((q_I (q_sI (S) o 0 ((0 : Int32))) a30 (p0).toNatClampNeg).toInt)
        have f85 : v84 = v38 := q_eqVI e81 ev84 ev38
        have f86 : v82 + v84 ≤ 1600 := q_to2 (fun x0 x1 => x0 + x1 ≤ 1600) ev82 ev84 (hG.1.2.2.2 a33 a30 ma33 ma30 ra33 ra30 _)
        refine q_ok_at hG t72 rfl (fun a87 ma87 ra87 ea87 => ?_)
        obtain ⟨v88, ev88⟩ := q_ev (((q_I (q_sI (S) o 0 ((0 : Int32))) a33 (p0).toNatClampNeg) + p1).toInt)
        have f89 : v88 = v82 + p1.toInt := q_addVI ev88 ev82 q_evr (by omega) (by omega)
        refine q_ok_if (q_inV (g_46_N hG ma87 ra87) ev88 (by omega) (by omega)) ?_
        have f90 : q_sm _ := g_46_E hG ma87 ra87 (k := ((q_I (q_sI (S) o 0 ((0 : Int32))) a33 (p0).toNatClampNeg) + p1).toNatClampNeg)
        unfold m_X12_octet_67
        exact q_ok_some ⟨hG, (q_wd f90 (by decide) (by decide))⟩
      · have f91 := q_ltV (show q_eqv ((0 : Int32)).toInt (0) by unfold q_eqv; decide) ev68 (q_n_le g70)
        exfalso; omega
def M_X12_piece__45 : List Nat := [2880]
set_option maxHeartbeats 4000000 in
set_option maxRecDepth 100000 in
theorem s_X12_piece__45 {ρ : Nat → Nat} {L : List Nat} {n : Nat} (hn : 18446744073709551616 ≤ n) {S : q_S} (hI : q_Inv ρ L S) {o : Nat} (mo : o ∈ L) (ro : ρ o = 45) {p0 : Int32} {p1 : Int32} : q_ok (m_X12_piece_ n S o p0 p1) (fun r T => q_G ρ L M_X12_piece__45 S T) := by
  have hG : q_G ρ L M_X12_piece__45 S S := q_G_refl hI
  unfold m_X12_piece_
  have z0 : (0 : Int32).toInt = 0 := rfl
  refine q_ok_atS hG (q_trI mo ro) rfl (fun mo ro => ?_)
  have f1 : q_sm _ := g_45_I36 hG mo ro
  obtain ⟨v5, ev5⟩ := q_ev ((p0.toInt64).toInt)
  have f6 := q_rVI (x := p0) q_evr
  have f7 : v5 = p0.toInt := q_i2lV ev5 q_evr
  refine q_ok_b (s_X12_in hn hG.1 (q_oV ev5 (by omega) (by omega)) (q_wd (show (0 : Int) ≤ (0 : Int64).toInt ∧ (0 : Int64).toInt ≤ (0 : Int) by decide) (by decide) (by decide)) (q_wd (q_i2lB (q_subBI (-1) (119) f1 (show (1 : Int) ≤ (1 : Int32).toInt ∧ (1 : Int32).toInt ≤ (1 : Int) by decide) (by decide) (by decide) (by decide) (by decide))) (by decide) (by decide))) (fun r2 S3 h4 => ?_)
  obtain ⟨eS3, h4⟩ := h4
  replace eS3 := eS3.symm
  subst eS3
  have f8 := And.intro h4.1 h4.2.1
  obtain ⟨v9, ev9⟩ := q_ev ((((q_I (S) o 36) - (1 : Int32)).toInt64).toInt)
  obtain ⟨v10, ev10⟩ := q_ev (((q_I (S) o 36) - (1 : Int32)).toInt)
  obtain ⟨v11, ev11⟩ := q_ev ((q_I (S) o 36).toInt)
  have f12 := q_bV ev11 f1
  have f13 : v10 = v11 - (1) := q_subVI ev10 ev11 (show q_eqv ((1 : Int32)).toInt (1) by unfold q_eqv; decide) (by omega) (by omega)
  have f14 : v9 = v10 := q_i2lV ev9 ev10
  have f15 : r2.toInt = 1 → (0) ≤ v5 := fun h9 => q_leV (show q_eqv ((0 : Int64)).toInt (0) by unfold q_eqv; decide) ev5 (f8.2 h9).1
  have f16 : r2.toInt = 1 → v5 ≤ v9 := fun h9 => q_leV ev5 ev9 (f8.2 h9).2
  have f17 : r2.toInt = 1 → (0) ≤ v5 ∧ v5 ≤ v9 := q_to4 (fun x0 x1 x2 x3 => x0 = 1 → x1 ≤ x2 ∧ x2 ≤ x3) q_evr (show q_eqv ((0 : Int64)).toInt (0) by unfold q_eqv; decide) ev5 ev9 ((q_smE (h4.2.2)).1)
  have f18 : r2.toInt = 0 → v5 < (0) ∨ v9 < v5 := q_to4 (fun x0 x1 x2 x3 => x0 = 0 → x1 < x2 ∨ x3 < x1) q_evr ev5 (show q_eqv ((0 : Int64)).toInt (0) by unfold q_eqv; decide) ev9 ((q_smE (h4.2.2)).2)
  refine q_ok_ite (fun g19 => ?_) (fun g19 => ?_)
  · have f20 := q_eqV q_evr (show q_eqv ((0 : Int32)).toInt (0) by unfold q_eqv; decide) (q_p_eq g19)
    unfold m_X12_piece__33
    unfold m_X12_piece__34
    refine q_ok_atS hG (q_trI mo ro) rfl (fun mo ro => ?_)
    have hG := u_45_I0 (x := (1 : Int32)) hG mo ro (by decide) (q_wd (show (1 : Int) ≤ (1 : Int32).toInt ∧ (1 : Int32).toInt ≤ (1 : Int) by decide) (by decide) (by decide))
    refine q_ok_atS hG (q_trI mo ro) rfl (fun mo ro => ?_)
    have f21 : q_sm _ := g_45_I0 hG mo ro
    have e22 : q_I (q_sI (S) o 0 ((1 : Int32))) o 0 = (1 : Int32) := q_hitI
    obtain ⟨v23, ev23⟩ := q_ev ((q_I (q_sI (S) o 0 ((1 : Int32))) o 0).toInt)
    have f24 : v23 = (1) := q_eqVI e22 ev23 (show q_eqv ((1 : Int32)).toInt (1) by unfold q_eqv; decide)
    refine q_ok_ite (fun g25 => ?_) (fun g25 => ?_)
    · have f26 := q_leV ev23 (show q_eqv ((0 : Int32)).toInt (0) by unfold q_eqv; decide) (q_p_le g25)
      exfalso; omega
    · have f27 := q_ltV (show q_eqv ((0 : Int32)).toInt (0) by unfold q_eqv; decide) ev23 (q_n_le g25)
      unfold m_X12_piece__59
      exact q_ok_some hG
  · have f28 := q_neV q_evr (show q_eqv ((0 : Int32)).toInt (0) by unfold q_eqv; decide) (q_n_eq g19)
    obtain ⟨v32, ev32⟩ := q_ev ((p1.toInt64).toInt)
    have f33 := q_rVI (x := p1) q_evr
    have f34 : v32 = p1.toInt := q_i2lV ev32 q_evr
    refine q_ok_b (s_X12_in hn hG.1 (q_oV ev32 (by omega) (by omega)) (q_wd (show (0 : Int) ≤ (0 : Int64).toInt ∧ (0 : Int64).toInt ≤ (0 : Int) by decide) (by decide) (by decide)) (q_wd (show (7 : Int) ≤ (7 : Int64).toInt ∧ (7 : Int64).toInt ≤ (7 : Int) by decide) (by decide) (by decide))) (fun r29 S30 h31 => ?_)
    obtain ⟨eS30, h31⟩ := h31
    replace eS30 := eS30.symm
    subst eS30
    have f35 := And.intro h31.1 h31.2.1
    have f36 : r29.toInt = 1 → (0) ≤ v32 := fun h9 => q_leV (show q_eqv ((0 : Int64)).toInt (0) by unfold q_eqv; decide) ev32 (f35.2 h9).1
    have f37 : r29.toInt = 1 → v32 ≤ (7) := fun h9 => q_leV ev32 (show q_eqv ((7 : Int64)).toInt (7) by unfold q_eqv; decide) (f35.2 h9).2
    have f38 : r29.toInt = 1 → (0) ≤ v32 ∧ v32 ≤ (7) := q_to4 (fun x0 x1 x2 x3 => x0 = 1 → x1 ≤ x2 ∧ x2 ≤ x3) q_evr (show q_eqv ((0 : Int64)).toInt (0) by unfold q_eqv; decide) ev32 (show q_eqv ((7 : Int64)).toInt (7) by unfold q_eqv; decide) ((q_smE (h31.2.2)).1)
    have f39 : r29.toInt = 0 → v32 < (0) ∨ (7) < v32 := q_to4 (fun x0 x1 x2 x3 => x0 = 0 → x1 < x2 ∨ x3 < x1) q_evr ev32 (show q_eqv ((0 : Int64)).toInt (0) by unfold q_eqv; decide) (show q_eqv ((7 : Int64)).toInt (7) by unfold q_eqv; decide) ((q_smE (h31.2.2)).2)
    refine q_ok_ite (fun g40 => ?_) (fun g40 => ?_)
    · have f41 := q_eqV q_evr (show q_eqv ((0 : Int32)).toInt (0) by unfold q_eqv; decide) (q_p_eq g40)
      unfold m_X12_piece__33
      unfold m_X12_piece__34
      refine q_ok_atS hG (q_trI mo ro) rfl (fun mo ro => ?_)
      have hG := u_45_I0 (x := (1 : Int32)) hG mo ro (by decide) (q_wd (show (1 : Int) ≤ (1 : Int32).toInt ∧ (1 : Int32).toInt ≤ (1 : Int) by decide) (by decide) (by decide))
      refine q_ok_atS hG (q_trI mo ro) rfl (fun mo ro => ?_)
      have f42 : q_sm _ := g_45_I0 hG mo ro
      have e43 : q_I (q_sI (S) o 0 ((1 : Int32))) o 0 = (1 : Int32) := q_hitI
      obtain ⟨v44, ev44⟩ := q_ev ((q_I (q_sI (S) o 0 ((1 : Int32))) o 0).toInt)
      have f45 : v44 = (1) := q_eqVI e43 ev44 (show q_eqv ((1 : Int32)).toInt (1) by unfold q_eqv; decide)
      refine q_ok_ite (fun g46 => ?_) (fun g46 => ?_)
      · have f47 := q_leV ev44 (show q_eqv ((0 : Int32)).toInt (0) by unfold q_eqv; decide) (q_p_le g46)
        exfalso; omega
      · have f48 := q_ltV (show q_eqv ((0 : Int32)).toInt (0) by unfold q_eqv; decide) ev44 (q_n_le g46)
        unfold m_X12_piece__59
        exact q_ok_some hG
    · have f49 := q_neV q_evr (show q_eqv ((0 : Int32)).toInt (0) by unfold q_eqv; decide) (q_n_eq g40)
      unfold m_X12_piece__34
      refine q_ok_atS hG (q_trI mo ro) rfl (fun mo ro => ?_)
      have hG := u_45_I0 (x := (0 : Int32)) hG mo ro (by decide) (q_wd (show (0 : Int) ≤ (0 : Int32).toInt ∧ (0 : Int32).toInt ≤ (0 : Int) by decide) (by decide) (by decide))
      refine q_ok_atS hG (q_trI mo ro) rfl (fun mo ro => ?_)
      have f50 : q_sm _ := g_45_I0 hG mo ro
      have e51 : q_I (q_sI (S) o 0 ((0 : Int32))) o 0 = (0 : Int32) := q_hitI
      obtain ⟨v52, ev52⟩ := q_ev ((q_I (q_sI (S) o 0 ((0 : Int32))) o 0).toInt)
      have f53 : v52 = (0) := q_eqVI e51 ev52 (show q_eqv ((0 : Int32)).toInt (0) by unfold q_eqv; decide)
      refine q_ok_ite (fun g54 => ?_) (fun g54 => ?_)
      · have f55 := q_leV ev52 (show q_eqv ((0 : Int32)).toInt (0) by unfold q_eqv; decide) (q_p_le g54)
        have t56 := g_45_R37 hG mo ro
        refine q_ok_at hG t56 rfl (fun a57 ma57 ra57 ea57 => ?_)
        obtain ⟨v58, ev58⟩ := q_ev ((((8 : Int32) * p0) + p1).toInt)
        obtain ⟨v59, ev59⟩ := q_ev (((8 : Int32) * p0).toInt)
        have f60 : v59 = (8) * p0.toInt := q_mulVI ev59 (show q_eqv ((8 : Int32)).toInt (8) by unfold q_eqv; decide) q_evr (by omega) (by omega)
        have f61 : v58 = v59 + p1.toInt := q_addVI ev58 ev59 q_evr (by omega) (by omega)
        refine q_ok_if (q_inV (g_71_N hG ma57 ra57) ev58 (by omega) (by omega)) ?_
        unfold m_X12_piece__59
        exact q_ok_some hG
      · have f62 := q_ltV (show q_eqv ((0 : Int32)).toInt (0) by unfold q_eqv; decide) ev52 (q_n_le g54)
        exfalso; omega
