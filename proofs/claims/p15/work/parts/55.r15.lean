def M_X12_mapBy_45 : List Nat := [2888]
set_option maxHeartbeats 4000000 in
set_option maxRecDepth 100000 in
theorem s_X12_mapBy_45_267 {ρ : Nat → Nat} {L : List Nat} {n : Nat} (hn : 18446744073709551616 ≤ n) {S0 : q_S} {o : Nat} (mo : o ∈ L) (ro : ρ o = 45) {p0 : Int32} {p1 : Int64} {p2 : Int32} {p3 : Int32}  : ∀ (k : Nat) (S : q_S) (l1 : Int32) (l2 : Int64) (l5 : Int32) (l6 : Int32) (l7 : Int32), q_G ρ L M_X12_mapBy_45 S0 S → (-1 ≤ l1.toInt ∧ l1.toInt ≤ 23) → (0 ≤ l2.toInt ∧ l2.toInt ≤ 4294967295) → (0 ≤ l5.toInt ∧ l5.toInt ≤ 2147483647) → (0 ≤ l6.toInt ∧ l6.toInt ≤ 65535) → (0 ≤ l7.toInt ∧ l7.toInt ≤ 65535) → 2147483648 - l7.toInt ≤ (k : Int) → q_ok (m_X12_mapBy_267 n k S (some o) l1 l2 l5 l6 l7) (fun r T => q_G ρ L M_X12_mapBy_45 S0 T ∧ (-2147483647 ≤ r.toInt ∧ r.toInt ≤ 6442450942)) := by
  intro k
  induction k with
  | zero =>
    intro S l1 l2 l5 l6 l7 hG hl1 hl2 hl5 hl6 hl7 hm
    have f0 := q_rngI l7
    exfalso; omega
  | succ k ih =>
    intro S l1 l2 l5 l6 l7 hG hl1 hl2 hl5 hl6 hl7 hm
    rw [m_X12_mapBy_267]
    have z0 : (0 : Int32).toInt = 0 := rfl
    refine q_ok_if (q_ne0VI (show q_eqv ((2 : Int32)).toInt (2) by unfold q_eqv; decide) (by omega)) ?_
    obtain ⟨v1, ev1⟩ := q_ev ((l6 / (2 : Int32)).toInt)
    have f2 : v1 = l6.toInt / 2 := q_divVI 2 (by decide) (by decide) ev1 q_evr (by omega)
    refine q_ok_ite (fun g3 => ?_) (fun g3 => ?_)
    · have f4 := q_leV ev1 q_evr (q_p_ge g3)
      unfold m_X12_mapBy_312
      refine q_ok_atS hG (q_trI mo ro) rfl (fun mo ro => ?_)
      have f5 : q_sm _ := g_45_I8 hG mo ro
      obtain ⟨v6, ev6⟩ := q_ev ((q_I (S) o 8).toInt)
      have f7 := q_bV ev6 f5
      refine q_ok_ite (fun g8 => ?_) (fun g8 => ?_)
      · have f9 := q_eqV ev6 (show q_eqv ((0 : Int32)).toInt (0) by unfold q_eqv; decide) (q_p_eq g8)
        refine q_ok_if (q_ne0VI (show q_eqv ((2 : Int32)).toInt (2) by unfold q_eqv; decide) (by omega)) ?_
        refine q_ok_ite (fun g10 => ?_) (fun g10 => ?_)
        · have f11 := q_ltV q_evr ev1 (q_p_lt g10)
          obtain ⟨v15, ev15⟩ := q_ev ((((l2 + (16 : Int64)) + (l6.toInt64)) + ((2 : Int64) * (l7.toInt64))).toInt)
          obtain ⟨v16, ev16⟩ := q_ev (((l2 + (16 : Int64)) + (l6.toInt64)).toInt)
          obtain ⟨v17, ev17⟩ := q_ev ((l2 + (16 : Int64)).toInt)
          have f18 : v17 = l2.toInt + (16) := q_addVJ ev17 q_evr (show q_eqv ((16 : Int64)).toInt (16) by unfold q_eqv; decide) (by omega) (by omega)
          obtain ⟨v19, ev19⟩ := q_ev ((l6.toInt64).toInt)
          have f20 : v19 = l6.toInt := q_i2lV ev19 q_evr
          have f21 : v16 = v17 + v19 := q_addVJ ev16 ev17 ev19 (by omega) (by omega)
          obtain ⟨v22, ev22⟩ := q_ev (((2 : Int64) * (l7.toInt64)).toInt)
          obtain ⟨v23, ev23⟩ := q_ev ((l7.toInt64).toInt)
          have f24 : v23 = l7.toInt := q_i2lV ev23 q_evr
          have f25 : v22 = (2) * v23 := q_mulVJ ev22 (show q_eqv ((2 : Int64)).toInt (2) by unfold q_eqv; decide) ev23 (by omega) (by omega)
          have f26 : v15 = v16 + v22 := q_addVJ ev15 ev16 ev22 (by omega) (by omega)
          refine q_ok_b (s_X12_two_45 hn hG.1 mo ro (q_wd hl1 (by decide) (by decide)) (q_oV ev15 (by omega) (by omega))) (fun r12 S13 h14 => ?_)
          have hG := q_G_call hG h14.1 (by decide)
          have f27 := h14.2.1
          have f28 : q_sm _ := g_45_I8 hG mo ro
          obtain ⟨v29, ev29⟩ := q_ev ((q_I (S13) o 8).toInt)
          have f30 := q_bV ev29 f28
          have f31 : v29 = 0 → v6 = 0 := q_to2 (fun x0 x1 => x0 = 0 → x1 = 0) ev29 ev6 ((q_smE (h14.2.2)))
          refine q_ok_atS hG (q_trI mo ro) rfl (fun mo ro => ?_)
          obtain ⟨v35, ev35⟩ := q_ev ((((l2 + (16 : Int64)) + ((2 : Int64) * (l6.toInt64))) + ((2 : Int64) * (l7.toInt64))).toInt)
          obtain ⟨v36, ev36⟩ := q_ev (((l2 + (16 : Int64)) + ((2 : Int64) * (l6.toInt64))).toInt)
          obtain ⟨v37, ev37⟩ := q_ev (((2 : Int64) * (l6.toInt64)).toInt)
          have f38 : v37 = (2) * v19 := q_mulVJ ev37 (show q_eqv ((2 : Int64)).toInt (2) by unfold q_eqv; decide) ev19 (by omega) (by omega)
          have f39 : v36 = v17 + v37 := q_addVJ ev36 ev17 ev37 (by omega) (by omega)
          have f40 : v35 = v36 + v22 := q_addVJ ev35 ev36 ev22 (by omega) (by omega)
          refine q_ok_b (s_X12_two_45 hn hG.1 mo ro (q_wd hl1 (by decide) (by decide)) (q_oV ev35 (by omega) (by omega))) (fun r32 S33 h34 => ?_)
          have hG := q_G_call hG h34.1 (by decide)
          have f41 := h34.2.1
          have f42 : q_sm _ := g_45_I8 hG mo ro
          obtain ⟨v43, ev43⟩ := q_ev ((q_I (S33) o 8).toInt)
          have f44 := q_bV ev43 f42
          have f45 : v43 = 0 → v29 = 0 := q_to2 (fun x0 x1 => x0 = 0 → x1 = 0) ev43 ev29 ((q_smE (h34.2.2)))
          refine q_ok_atS hG (q_trI mo ro) rfl (fun mo ro => ?_)
          refine q_ok_ite (fun g46 => ?_) (fun g46 => ?_)
          · have f47 := q_eqV ev43 (show q_eqv ((0 : Int32)).toInt (0) by unfold q_eqv; decide) (q_p_eq g46)
            have f48 := q_rVI (x := l5) q_evr
            refine q_ok_ite (fun g49 => ?_) (fun g49 => ?_)
            · have f50 := q_leV q_evr q_evr (q_p_le g49)
              obtain ⟨v54, ev54⟩ := q_ev ((((l2 + (16 : Int64)) + ((3 : Int64) * (l6.toInt64))) + ((2 : Int64) * (l7.toInt64))).toInt)
              obtain ⟨v55, ev55⟩ := q_ev (((l2 + (16 : Int64)) + ((3 : Int64) * (l6.toInt64))).toInt)
              obtain ⟨v56, ev56⟩ := q_ev (((3 : Int64) * (l6.toInt64)).toInt)
              have f57 : v56 = (3) * v19 := q_mulVJ ev56 (show q_eqv ((3 : Int64)).toInt (3) by unfold q_eqv; decide) ev19 (by omega) (by omega)
              have f58 : v55 = v17 + v56 := q_addVJ ev55 ev17 ev56 (by omega) (by omega)
              have f59 : v54 = v55 + v22 := q_addVJ ev54 ev55 ev22 (by omega) (by omega)
              refine q_ok_b (s_X12_two_45 hn hG.1 mo ro (q_wd hl1 (by decide) (by decide)) (q_oV ev54 (by omega) (by omega))) (fun r51 S52 h53 => ?_)
              have hG := q_G_call hG h53.1 (by decide)
              have f60 := h53.2.1
              have f61 : q_sm _ := g_45_I8 hG mo ro
              obtain ⟨v62, ev62⟩ := q_ev ((q_I (S52) o 8).toInt)
              have f63 := q_bV ev62 f61
              have f64 : v62 = 0 → v43 = 0 := q_to2 (fun x0 x1 => x0 = 0 → x1 = 0) ev62 ev43 ((q_smE (h53.2.2)))
              refine q_ok_ite (fun g65 => ?_) (fun g65 => ?_)
              · have f66 := q_eqV q_evr (show q_eqv ((0 : Int32)).toInt (0) by unfold q_eqv; decide) (q_p_eq g65)
                obtain ⟨v67, ev67⟩ := q_ev ((((l5 + r32) &&& (65535 : Int32)).toInt64).toInt)
                obtain ⟨v68, ev68⟩ := q_ev (((l5 + r32) &&& (65535 : Int32)).toInt)
                have f69 := q_andRVI ev68 (show q_eqv ((65535 : Int32)).toInt (65535) by unfold q_eqv; decide) (by omega)
                have f70 : v67 = v68 := q_i2lV ev67 ev68
                exact q_ok_some ⟨hG, (q_oV ev67 (by omega) (by omega))⟩
              · have f71 := q_neV q_evr (show q_eqv ((0 : Int32)).toInt (0) by unfold q_eqv; decide) (q_n_eq g65)
                refine q_ok_atS hG (q_trI mo ro) rfl (fun mo ro => ?_)
                obtain ⟨v75, ev75⟩ := q_ev ((((((l2 + (16 : Int64)) + ((3 : Int64) * (l6.toInt64))) + ((2 : Int64) * (l7.toInt64))) + (r51.toInt64)) + ((2 : Int64) * ((l5 - r12).toInt64))).toInt)
                obtain ⟨v76, ev76⟩ := q_ev (((((l2 + (16 : Int64)) + ((3 : Int64) * (l6.toInt64))) + ((2 : Int64) * (l7.toInt64))) + (r51.toInt64)).toInt)
                obtain ⟨v77, ev77⟩ := q_ev ((r51.toInt64).toInt)
                have f78 : v77 = r51.toInt := q_i2lV ev77 q_evr
                have f79 : v76 = v54 + v77 := q_addVJ ev76 ev54 ev77 (by omega) (by omega)
                obtain ⟨v80, ev80⟩ := q_ev (((2 : Int64) * ((l5 - r12).toInt64)).toInt)
                obtain ⟨v81, ev81⟩ := q_ev (((l5 - r12).toInt64).toInt)
                obtain ⟨v82, ev82⟩ := q_ev ((l5 - r12).toInt)
                have f83 : v82 = l5.toInt - r12.toInt := q_subVI ev82 q_evr q_evr (by omega) (by omega)
                have f84 : v81 = v82 := q_i2lV ev81 ev82
                have f85 : v80 = (2) * v81 := q_mulVJ ev80 (show q_eqv ((2 : Int64)).toInt (2) by unfold q_eqv; decide) ev81 (by omega) (by omega)
                have f86 : v75 = v76 + v80 := q_addVJ ev75 ev76 ev80 (by omega) (by omega)
                refine q_ok_b (s_X12_two_45 hn hG.1 mo ro (q_wd hl1 (by decide) (by decide)) (q_oV ev75 (by omega) (by omega))) (fun r72 S73 h74 => ?_)
                have hG := q_G_call hG h74.1 (by decide)
                have f87 := h74.2.1
                have f88 : q_sm _ := g_45_I8 hG mo ro
                obtain ⟨v89, ev89⟩ := q_ev ((q_I (S73) o 8).toInt)
                have f90 := q_bV ev89 f88
                have f91 : v89 = 0 → v62 = 0 := q_to2 (fun x0 x1 => x0 = 0 → x1 = 0) ev89 ev62 ((q_smE (h74.2.2)))
                refine q_ok_ite (fun g92 => ?_) (fun g92 => ?_)
                · have f93 := q_eqV q_evr (show q_eqv ((0 : Int32)).toInt (0) by unfold q_eqv; decide) (q_p_eq g92)
                  unfold m_X12_mapBy_489
                  exact q_ok_some ⟨hG, (q_wd (show (0 : Int) ≤ (0 : Int64).toInt ∧ (0 : Int64).toInt ≤ (0 : Int) by decide) (by decide) (by decide))⟩
                · have f94 := q_neV q_evr (show q_eqv ((0 : Int32)).toInt (0) by unfold q_eqv; decide) (q_n_eq g92)
                  unfold m_X12_mapBy_489
                  obtain ⟨v95, ev95⟩ := q_ev ((((r72 + r32) &&& (65535 : Int32)).toInt64).toInt)
                  obtain ⟨v96, ev96⟩ := q_ev (((r72 + r32) &&& (65535 : Int32)).toInt)
                  have f97 := q_andRVI ev96 (show q_eqv ((65535 : Int32)).toInt (65535) by unfold q_eqv; decide) (by omega)
                  have f98 : v95 = v96 := q_i2lV ev95 ev96
                  exact q_ok_some ⟨hG, (q_oV ev95 (by omega) (by omega))⟩
            · have f99 := q_ltV q_evr q_evr (q_n_le g49)
              unfold m_X12_mapBy_419
              exact q_ok_some ⟨hG, (q_wd (show (0 : Int) ≤ (0 : Int64).toInt ∧ (0 : Int64).toInt ≤ (0 : Int) by decide) (by decide) (by decide))⟩
          · have f100 := q_neV ev43 (show q_eqv ((0 : Int32)).toInt (0) by unfold q_eqv; decide) (q_n_eq g46)
            unfold m_X12_mapBy_419
            exact q_ok_some ⟨hG, (q_wd (show (0 : Int) ≤ (0 : Int64).toInt ∧ (0 : Int64).toInt ≤ (0 : Int) by decide) (by decide) (by decide))⟩
        · have f101 := q_leV ev1 q_evr (q_n_lt g10)
          unfold m_X12_mapBy_328
          exact q_ok_some ⟨hG, (q_wd (show (0 : Int) ≤ (0 : Int64).toInt ∧ (0 : Int64).toInt ≤ (0 : Int) by decide) (by decide) (by decide))⟩
      · have f102 := q_neV ev6 (show q_eqv ((0 : Int32)).toInt (0) by unfold q_eqv; decide) (q_n_eq g8)
        unfold m_X12_mapBy_328
        exact q_ok_some ⟨hG, (q_wd (show (0 : Int) ≤ (0 : Int64).toInt ∧ (0 : Int64).toInt ≤ (0 : Int) by decide) (by decide) (by decide))⟩
    · have f103 := q_ltV q_evr ev1 (q_n_ge g3)
      refine q_ok_atS hG (q_trI mo ro) rfl (fun mo ro => ?_)
      have f104 : q_sm _ := g_45_I8 hG mo ro
      obtain ⟨v105, ev105⟩ := q_ev ((q_I (S) o 8).toInt)
      have f106 := q_bV ev105 f104
      refine q_ok_ite (fun g107 => ?_) (fun g107 => ?_)
      · have f108 := q_eqV ev105 (show q_eqv ((0 : Int32)).toInt (0) by unfold q_eqv; decide) (q_p_eq g107)
        obtain ⟨v112, ev112⟩ := q_ev (((l2 + (14 : Int64)) + ((2 : Int64) * (l7.toInt64))).toInt)
        obtain ⟨v113, ev113⟩ := q_ev ((l2 + (14 : Int64)).toInt)
        have f114 : v113 = l2.toInt + (14) := q_addVJ ev113 q_evr (show q_eqv ((14 : Int64)).toInt (14) by unfold q_eqv; decide) (by omega) (by omega)
        obtain ⟨v115, ev115⟩ := q_ev (((2 : Int64) * (l7.toInt64)).toInt)
        obtain ⟨v116, ev116⟩ := q_ev ((l7.toInt64).toInt)
        have f117 : v116 = l7.toInt := q_i2lV ev116 q_evr
        have f118 : v115 = (2) * v116 := q_mulVJ ev115 (show q_eqv ((2 : Int64)).toInt (2) by unfold q_eqv; decide) ev116 (by omega) (by omega)
        have f119 : v112 = v113 + v115 := q_addVJ ev112 ev113 ev115 (by omega) (by omega)
        refine q_ok_b (s_X12_two_45 hn hG.1 mo ro (q_wd hl1 (by decide) (by decide)) (q_oV ev112 (by omega) (by omega))) (fun r109 S110 h111 => ?_)
        have hG := q_G_call hG h111.1 (by decide)
        have f120 := h111.2.1
        have f121 : q_sm _ := g_45_I8 hG mo ro
        obtain ⟨v122, ev122⟩ := q_ev ((q_I (S110) o 8).toInt)
        have f123 := q_bV ev122 f121
        have f124 : v122 = 0 → v105 = 0 := q_to2 (fun x0 x1 => x0 = 0 → x1 = 0) ev122 ev105 ((q_smE (h111.2.2)))
        have f125 := q_rVI (x := l5) q_evr
        refine q_ok_ite (fun g126 => ?_) (fun g126 => ?_)
        · have f127 := q_leV q_evr q_evr (q_p_ge g126)
          unfold m_X12_mapBy_312
          refine q_ok_atS hG (q_trI mo ro) rfl (fun mo ro => ?_)
          refine q_ok_ite (fun g128 => ?_) (fun g128 => ?_)
          · have f129 := q_eqV ev122 (show q_eqv ((0 : Int32)).toInt (0) by unfold q_eqv; decide) (q_p_eq g128)
            refine q_ok_if (q_ne0VI (show q_eqv ((2 : Int32)).toInt (2) by unfold q_eqv; decide) (by omega)) ?_
            refine q_ok_ite (fun g130 => ?_) (fun g130 => ?_)
            · have f131 := q_ltV q_evr ev1 (q_p_lt g130)
              obtain ⟨v135, ev135⟩ := q_ev ((((l2 + (16 : Int64)) + (l6.toInt64)) + ((2 : Int64) * (l7.toInt64))).toInt)
              obtain ⟨v136, ev136⟩ := q_ev (((l2 + (16 : Int64)) + (l6.toInt64)).toInt)
              obtain ⟨v137, ev137⟩ := q_ev ((l2 + (16 : Int64)).toInt)
              have f138 : v137 = l2.toInt + (16) := q_addVJ ev137 q_evr (show q_eqv ((16 : Int64)).toInt (16) by unfold q_eqv; decide) (by omega) (by omega)
              obtain ⟨v139, ev139⟩ := q_ev ((l6.toInt64).toInt)
              have f140 : v139 = l6.toInt := q_i2lV ev139 q_evr
              have f141 : v136 = v137 + v139 := q_addVJ ev136 ev137 ev139 (by omega) (by omega)
              have f142 : v135 = v136 + v115 := q_addVJ ev135 ev136 ev115 (by omega) (by omega)
              refine q_ok_b (s_X12_two_45 hn hG.1 mo ro (q_wd hl1 (by decide) (by decide)) (q_oV ev135 (by omega) (by omega))) (fun r132 S133 h134 => ?_)
              have hG := q_G_call hG h134.1 (by decide)
              have f143 := h134.2.1
              have f144 : q_sm _ := g_45_I8 hG mo ro
              obtain ⟨v145, ev145⟩ := q_ev ((q_I (S133) o 8).toInt)
              have f146 := q_bV ev145 f144
              have f147 : v145 = 0 → v122 = 0 := q_to2 (fun x0 x1 => x0 = 0 → x1 = 0) ev145 ev122 ((q_smE (h134.2.2)))
              refine q_ok_atS hG (q_trI mo ro) rfl (fun mo ro => ?_)
              obtain ⟨v151, ev151⟩ := q_ev ((((l2 + (16 : Int64)) + ((2 : Int64) * (l6.toInt64))) + ((2 : Int64) * (l7.toInt64))).toInt)
              obtain ⟨v152, ev152⟩ := q_ev (((l2 + (16 : Int64)) + ((2 : Int64) * (l6.toInt64))).toInt)
              obtain ⟨v153, ev153⟩ := q_ev (((2 : Int64) * (l6.toInt64)).toInt)
              have f154 : v153 = (2) * v139 := q_mulVJ ev153 (show q_eqv ((2 : Int64)).toInt (2) by unfold q_eqv; decide) ev139 (by omega) (by omega)
              have f155 : v152 = v137 + v153 := q_addVJ ev152 ev137 ev153 (by omega) (by omega)
              have f156 : v151 = v152 + v115 := q_addVJ ev151 ev152 ev115 (by omega) (by omega)
              refine q_ok_b (s_X12_two_45 hn hG.1 mo ro (q_wd hl1 (by decide) (by decide)) (q_oV ev151 (by omega) (by omega))) (fun r148 S149 h150 => ?_)
              have hG := q_G_call hG h150.1 (by decide)
              have f157 := h150.2.1
              have f158 : q_sm _ := g_45_I8 hG mo ro
              obtain ⟨v159, ev159⟩ := q_ev ((q_I (S149) o 8).toInt)
              have f160 := q_bV ev159 f158
              have f161 : v159 = 0 → v145 = 0 := q_to2 (fun x0 x1 => x0 = 0 → x1 = 0) ev159 ev145 ((q_smE (h150.2.2)))
              refine q_ok_atS hG (q_trI mo ro) rfl (fun mo ro => ?_)
              refine q_ok_ite (fun g162 => ?_) (fun g162 => ?_)
              · have f163 := q_eqV ev159 (show q_eqv ((0 : Int32)).toInt (0) by unfold q_eqv; decide) (q_p_eq g162)
                refine q_ok_ite (fun g164 => ?_) (fun g164 => ?_)
                · have f165 := q_leV q_evr q_evr (q_p_le g164)
                  obtain ⟨v169, ev169⟩ := q_ev ((((l2 + (16 : Int64)) + ((3 : Int64) * (l6.toInt64))) + ((2 : Int64) * (l7.toInt64))).toInt)
                  obtain ⟨v170, ev170⟩ := q_ev (((l2 + (16 : Int64)) + ((3 : Int64) * (l6.toInt64))).toInt)
                  obtain ⟨v171, ev171⟩ := q_ev (((3 : Int64) * (l6.toInt64)).toInt)
                  have f172 : v171 = (3) * v139 := q_mulVJ ev171 (show q_eqv ((3 : Int64)).toInt (3) by unfold q_eqv; decide) ev139 (by omega) (by omega)
                  have f173 : v170 = v137 + v171 := q_addVJ ev170 ev137 ev171 (by omega) (by omega)
                  have f174 : v169 = v170 + v115 := q_addVJ ev169 ev170 ev115 (by omega) (by omega)
                  refine q_ok_b (s_X12_two_45 hn hG.1 mo ro (q_wd hl1 (by decide) (by decide)) (q_oV ev169 (by omega) (by omega))) (fun r166 S167 h168 => ?_)
                  have hG := q_G_call hG h168.1 (by decide)
                  have f175 := h168.2.1
                  have f176 : q_sm _ := g_45_I8 hG mo ro
                  obtain ⟨v177, ev177⟩ := q_ev ((q_I (S167) o 8).toInt)
                  have f178 := q_bV ev177 f176
                  have f179 : v177 = 0 → v159 = 0 := q_to2 (fun x0 x1 => x0 = 0 → x1 = 0) ev177 ev159 ((q_smE (h168.2.2)))
                  refine q_ok_ite (fun g180 => ?_) (fun g180 => ?_)
                  · have f181 := q_eqV q_evr (show q_eqv ((0 : Int32)).toInt (0) by unfold q_eqv; decide) (q_p_eq g180)
                    obtain ⟨v182, ev182⟩ := q_ev ((((l5 + r148) &&& (65535 : Int32)).toInt64).toInt)
                    obtain ⟨v183, ev183⟩ := q_ev (((l5 + r148) &&& (65535 : Int32)).toInt)
                    have f184 := q_andRVI ev183 (show q_eqv ((65535 : Int32)).toInt (65535) by unfold q_eqv; decide) (by omega)
                    have f185 : v182 = v183 := q_i2lV ev182 ev183
                    exact q_ok_some ⟨hG, (q_oV ev182 (by omega) (by omega))⟩
                  · have f186 := q_neV q_evr (show q_eqv ((0 : Int32)).toInt (0) by unfold q_eqv; decide) (q_n_eq g180)
                    refine q_ok_atS hG (q_trI mo ro) rfl (fun mo ro => ?_)
                    obtain ⟨v190, ev190⟩ := q_ev ((((((l2 + (16 : Int64)) + ((3 : Int64) * (l6.toInt64))) + ((2 : Int64) * (l7.toInt64))) + (r166.toInt64)) + ((2 : Int64) * ((l5 - r132).toInt64))).toInt)
                    obtain ⟨v191, ev191⟩ := q_ev (((((l2 + (16 : Int64)) + ((3 : Int64) * (l6.toInt64))) + ((2 : Int64) * (l7.toInt64))) + (r166.toInt64)).toInt)
                    obtain ⟨v192, ev192⟩ := q_ev ((r166.toInt64).toInt)
                    have f193 : v192 = r166.toInt := q_i2lV ev192 q_evr
                    have f194 : v191 = v169 + v192 := q_addVJ ev191 ev169 ev192 (by omega) (by omega)
                    obtain ⟨v195, ev195⟩ := q_ev (((2 : Int64) * ((l5 - r132).toInt64)).toInt)
                    obtain ⟨v196, ev196⟩ := q_ev (((l5 - r132).toInt64).toInt)
                    obtain ⟨v197, ev197⟩ := q_ev ((l5 - r132).toInt)
                    have f198 : v197 = l5.toInt - r132.toInt := q_subVI ev197 q_evr q_evr (by omega) (by omega)
                    have f199 : v196 = v197 := q_i2lV ev196 ev197
                    have f200 : v195 = (2) * v196 := q_mulVJ ev195 (show q_eqv ((2 : Int64)).toInt (2) by unfold q_eqv; decide) ev196 (by omega) (by omega)
                    have f201 : v190 = v191 + v195 := q_addVJ ev190 ev191 ev195 (by omega) (by omega)
                    refine q_ok_b (s_X12_two_45 hn hG.1 mo ro (q_wd hl1 (by decide) (by decide)) (q_oV ev190 (by omega) (by omega))) (fun r187 S188 h189 => ?_)
                    have hG := q_G_call hG h189.1 (by decide)
                    have f202 := h189.2.1
                    have f203 : q_sm _ := g_45_I8 hG mo ro
                    obtain ⟨v204, ev204⟩ := q_ev ((q_I (S188) o 8).toInt)
                    have f205 := q_bV ev204 f203
                    have f206 : v204 = 0 → v177 = 0 := q_to2 (fun x0 x1 => x0 = 0 → x1 = 0) ev204 ev177 ((q_smE (h189.2.2)))
                    refine q_ok_ite (fun g207 => ?_) (fun g207 => ?_)
                    · have f208 := q_eqV q_evr (show q_eqv ((0 : Int32)).toInt (0) by unfold q_eqv; decide) (q_p_eq g207)
                      unfold m_X12_mapBy_489
                      exact q_ok_some ⟨hG, (q_wd (show (0 : Int) ≤ (0 : Int64).toInt ∧ (0 : Int64).toInt ≤ (0 : Int) by decide) (by decide) (by decide))⟩
                    · have f209 := q_neV q_evr (show q_eqv ((0 : Int32)).toInt (0) by unfold q_eqv; decide) (q_n_eq g207)
                      unfold m_X12_mapBy_489
                      obtain ⟨v210, ev210⟩ := q_ev ((((r187 + r148) &&& (65535 : Int32)).toInt64).toInt)
                      obtain ⟨v211, ev211⟩ := q_ev (((r187 + r148) &&& (65535 : Int32)).toInt)
                      have f212 := q_andRVI ev211 (show q_eqv ((65535 : Int32)).toInt (65535) by unfold q_eqv; decide) (by omega)
                      have f213 : v210 = v211 := q_i2lV ev210 ev211
                      exact q_ok_some ⟨hG, (q_oV ev210 (by omega) (by omega))⟩
                · have f214 := q_ltV q_evr q_evr (q_n_le g164)
                  unfold m_X12_mapBy_419
                  exact q_ok_some ⟨hG, (q_wd (show (0 : Int) ≤ (0 : Int64).toInt ∧ (0 : Int64).toInt ≤ (0 : Int) by decide) (by decide) (by decide))⟩
              · have f215 := q_neV ev159 (show q_eqv ((0 : Int32)).toInt (0) by unfold q_eqv; decide) (q_n_eq g162)
                unfold m_X12_mapBy_419
                exact q_ok_some ⟨hG, (q_wd (show (0 : Int) ≤ (0 : Int64).toInt ∧ (0 : Int64).toInt ≤ (0 : Int) by decide) (by decide) (by decide))⟩
            · have f216 := q_leV ev1 q_evr (q_n_lt g130)
              unfold m_X12_mapBy_328
              exact q_ok_some ⟨hG, (q_wd (show (0 : Int) ≤ (0 : Int64).toInt ∧ (0 : Int64).toInt ≤ (0 : Int) by decide) (by decide) (by decide))⟩
          · have f217 := q_neV ev122 (show q_eqv ((0 : Int32)).toInt (0) by unfold q_eqv; decide) (q_n_eq g128)
            unfold m_X12_mapBy_328
            exact q_ok_some ⟨hG, (q_wd (show (0 : Int) ≤ (0 : Int64).toInt ∧ (0 : Int64).toInt ≤ (0 : Int) by decide) (by decide) (by decide))⟩
        · have f218 := q_ltV q_evr q_evr (q_n_ge g126)
          obtain ⟨v219, ev219⟩ := q_ev ((l7 + (1)).toInt)
          have f220 : v219 = l7.toInt + (1) := q_addVI ev219 q_evr (show q_eqv ((1 : Int32)).toInt (1) by unfold q_eqv; decide) (by omega) (by omega)
          exact ih _ _ _ _ _ _ hG (q_wd hl1 (by decide) (by decide)) (q_wd hl2 (by decide) (by decide)) (q_wd hl5 (by decide) (by decide)) (q_wd hl6 (by decide) (by decide)) (q_oV ev219 (by omega) (by omega))  (q_upV ev219 (by omega))
      · have f221 := q_neV ev105 (show q_eqv ((0 : Int32)).toInt (0) by unfold q_eqv; decide) (q_n_eq g107)
        unfold m_X12_mapBy_312
        refine q_ok_atS hG (q_trI mo ro) rfl (fun mo ro => ?_)
        refine q_ok_ite (fun g222 => ?_) (fun g222 => ?_)
        · have f223 := q_eqV ev105 (show q_eqv ((0 : Int32)).toInt (0) by unfold q_eqv; decide) (q_p_eq g222)
          exfalso; omega
        · have f224 := q_neV ev105 (show q_eqv ((0 : Int32)).toInt (0) by unfold q_eqv; decide) (q_n_eq g222)
          unfold m_X12_mapBy_328
          exact q_ok_some ⟨hG, (q_wd (show (0 : Int) ≤ (0 : Int64).toInt ∧ (0 : Int64).toInt ≤ (0 : Int) by decide) (by decide) (by decide))⟩
set_option maxHeartbeats 4000000 in
set_option maxRecDepth 100000 in
theorem s_X12_mapBy_45_131 {ρ : Nat → Nat} {L : List Nat} {n : Nat} (hn : 18446744073709551616 ≤ n) {S0 : q_S} {o : Nat} (mo : o ∈ L) (ro : ρ o = 45) {p0 : Int32} {p1 : Int64} {p2 : Int32} {p3 : Int32}  : ∀ (k : Nat) (S : q_S) (l1 : Int32) (l2 : Int64) (l5 : Int32) (l6 : Int64) (l8 : Int64), q_G ρ L M_X12_mapBy_45 S0 S → (-1 ≤ l1.toInt ∧ l1.toInt ≤ 23) → (0 ≤ l2.toInt ∧ l2.toInt ≤ 4294967295) → (0 ≤ l5.toInt ∧ l5.toInt ≤ 2147483647) → (0 ≤ l6.toInt ∧ l6.toInt ≤ 4294967295) → (0 ≤ l8.toInt ∧ l8.toInt ≤ 4294967295) → 9223372036854775808 - l8.toInt ≤ (k : Int) → q_ok (m_X12_mapBy_131 n k S (some o) l1 l2 l5 l6 l8) (fun r T => q_G ρ L M_X12_mapBy_45 S0 T ∧ (-2147483647 ≤ r.toInt ∧ r.toInt ≤ 6442450942)) := by
  intro k
  induction k with
  | zero =>
    intro S l1 l2 l5 l6 l8 hG hl1 hl2 hl5 hl6 hl8 hm
    have f0 := q_rngJ l8
    exfalso; omega
  | succ k ih =>
    intro S l1 l2 l5 l6 l8 hG hl1 hl2 hl5 hl6 hl8 hm
    rw [m_X12_mapBy_131]
    have z0 : (0 : Int32).toInt = 0 := rfl
    refine q_ok_ite (fun g1 => ?_) (fun g1 => ?_)
    · have f2 := q_leV q_evr q_evr (q_cp_ge g1)
      unfold m_X12_mapBy_250
      exact q_ok_some ⟨hG, (q_wd (show (0 : Int) ≤ (0 : Int64).toInt ∧ (0 : Int64).toInt ≤ (0 : Int) by decide) (by decide) (by decide))⟩
    · have f3 := q_ltV q_evr q_evr (q_cn_ge g1)
      refine q_ok_atS hG (q_trI mo ro) rfl (fun mo ro => ?_)
      have f4 : q_sm _ := g_45_I8 hG mo ro
      obtain ⟨v5, ev5⟩ := q_ev ((q_I (S) o 8).toInt)
      have f6 := q_bV ev5 f4
      refine q_ok_ite (fun g7 => ?_) (fun g7 => ?_)
      · have f8 := q_eqV ev5 (show q_eqv ((0 : Int32)).toInt (0) by unfold q_eqv; decide) (q_p_eq g7)
        obtain ⟨v12, ev12⟩ := q_ev (((l2 + (16 : Int64)) + ((12 : Int64) * l8)).toInt)
        obtain ⟨v13, ev13⟩ := q_ev ((l2 + (16 : Int64)).toInt)
        have f14 : v13 = l2.toInt + (16) := q_addVJ ev13 q_evr (show q_eqv ((16 : Int64)).toInt (16) by unfold q_eqv; decide) (by omega) (by omega)
        obtain ⟨v15, ev15⟩ := q_ev (((12 : Int64) * l8).toInt)
        have f16 : v15 = (12) * l8.toInt := q_mulVJ ev15 (show q_eqv ((12 : Int64)).toInt (12) by unfold q_eqv; decide) q_evr (by omega) (by omega)
        have f17 : v12 = v13 + v15 := q_addVJ ev12 ev13 ev15 (by omega) (by omega)
        refine q_ok_b (s_X12_number_45_k4 hn hG.1 mo ro (q_wd hl1 (by decide) (by decide)) (q_oV ev12 (by omega) (by omega)) (q_wd (show (4 : Int) ≤ (4 : Int32).toInt ∧ (4 : Int32).toInt ≤ (4 : Int) by decide) (by decide) (by decide))) (fun r9 S10 h11 => ?_)
        have hG := q_G_call hG h11.1 (by decide)
        have f18 := h11.2.1
        have f19 : q_sm _ := g_45_I8 hG mo ro
        obtain ⟨v20, ev20⟩ := q_ev ((q_I (S10) o 8).toInt)
        have f21 := q_bV ev20 f19
        have f22 : v20 = 0 → v5 = 0 := q_to2 (fun x0 x1 => x0 = 0 → x1 = 0) ev20 ev5 ((q_smE (h11.2.2)).1)
        have f23 : v20 = 0 → 0 ≤ l1.toInt := q_to2 (fun x0 x1 => x0 = 0 → 0 ≤ x1) ev20 q_evr ((q_smE (h11.2.2)).2)
        refine q_ok_atS hG (q_trI mo ro) rfl (fun mo ro => ?_)
        obtain ⟨v27, ev27⟩ := q_ev (((l2 + (20 : Int64)) + ((12 : Int64) * l8)).toInt)
        obtain ⟨v28, ev28⟩ := q_ev ((l2 + (20 : Int64)).toInt)
        have f29 : v28 = l2.toInt + (20) := q_addVJ ev28 q_evr (show q_eqv ((20 : Int64)).toInt (20) by unfold q_eqv; decide) (by omega) (by omega)
        have f30 : v27 = v28 + v15 := q_addVJ ev27 ev28 ev15 (by omega) (by omega)
        refine q_ok_b (s_X12_number_45_k4 hn hG.1 mo ro (q_wd hl1 (by decide) (by decide)) (q_oV ev27 (by omega) (by omega)) (q_wd (show (4 : Int) ≤ (4 : Int32).toInt ∧ (4 : Int32).toInt ≤ (4 : Int) by decide) (by decide) (by decide))) (fun r24 S25 h26 => ?_)
        have hG := q_G_call hG h26.1 (by decide)
        have f31 := h26.2.1
        have f32 : q_sm _ := g_45_I8 hG mo ro
        obtain ⟨v33, ev33⟩ := q_ev ((q_I (S25) o 8).toInt)
        have f34 := q_bV ev33 f32
        have f35 : v33 = 0 → v20 = 0 := q_to2 (fun x0 x1 => x0 = 0 → x1 = 0) ev33 ev20 ((q_smE (h26.2.2)).1)
        have f36 : v33 = 0 → 0 ≤ l1.toInt := q_to2 (fun x0 x1 => x0 = 0 → 0 ≤ x1) ev33 q_evr ((q_smE (h26.2.2)).2)
        refine q_ok_atS hG (q_trI mo ro) rfl (fun mo ro => ?_)
        obtain ⟨v40, ev40⟩ := q_ev (((l2 + (24 : Int64)) + ((12 : Int64) * l8)).toInt)
        obtain ⟨v41, ev41⟩ := q_ev ((l2 + (24 : Int64)).toInt)
        have f42 : v41 = l2.toInt + (24) := q_addVJ ev41 q_evr (show q_eqv ((24 : Int64)).toInt (24) by unfold q_eqv; decide) (by omega) (by omega)
        have f43 : v40 = v41 + v15 := q_addVJ ev40 ev41 ev15 (by omega) (by omega)
        refine q_ok_b (s_X12_number_45_k4 hn hG.1 mo ro (q_wd hl1 (by decide) (by decide)) (q_oV ev40 (by omega) (by omega)) (q_wd (show (4 : Int) ≤ (4 : Int32).toInt ∧ (4 : Int32).toInt ≤ (4 : Int) by decide) (by decide) (by decide))) (fun r37 S38 h39 => ?_)
        have hG := q_G_call hG h39.1 (by decide)
        have f44 := h39.2.1
        have f45 : q_sm _ := g_45_I8 hG mo ro
        obtain ⟨v46, ev46⟩ := q_ev ((q_I (S38) o 8).toInt)
        have f47 := q_bV ev46 f45
        have f48 : v46 = 0 → v33 = 0 := q_to2 (fun x0 x1 => x0 = 0 → x1 = 0) ev46 ev33 ((q_smE (h39.2.2)).1)
        have f49 : v46 = 0 → 0 ≤ l1.toInt := q_to2 (fun x0 x1 => x0 = 0 → 0 ≤ x1) ev46 q_evr ((q_smE (h39.2.2)).2)
        refine q_ok_atS hG (q_trI mo ro) rfl (fun mo ro => ?_)
        refine q_ok_ite (fun g50 => ?_) (fun g50 => ?_)
        · have f51 := q_eqV ev46 (show q_eqv ((0 : Int32)).toInt (0) by unfold q_eqv; decide) (q_p_eq g50)
          obtain ⟨v52, ev52⟩ := q_ev ((l5.toInt64).toInt)
          have f53 := q_rVI (x := l5) q_evr
          have f54 : v52 = l5.toInt := q_i2lV ev52 q_evr
          refine q_ok_ite (fun g55 => ?_) (fun g55 => ?_)
          · have f56 := q_ltV ev52 q_evr (q_cp_lt g55)
            unfold m_X12_mapBy_241
            obtain ⟨v57, ev57⟩ := q_ev ((l8 + (1 : Int64)).toInt)
            have f58 : v57 = l8.toInt + (1) := q_addVJ ev57 q_evr (show q_eqv ((1 : Int64)).toInt (1) by unfold q_eqv; decide) (by omega) (by omega)
            exact ih _ _ _ _ _ _ hG (q_wd hl1 (by decide) (by decide)) (q_wd hl2 (by decide) (by decide)) (q_wd hl5 (by decide) (by decide)) (q_wd hl6 (by decide) (by decide)) (q_oV ev57 (by omega) (by omega))  (q_upV ev57 (by omega))
          · have f59 := q_leV q_evr ev52 (q_cn_lt g55)
            refine q_ok_ite (fun g60 => ?_) (fun g60 => ?_)
            · have f61 := q_ltV q_evr ev52 (q_cp_gt g60)
              unfold m_X12_mapBy_241
              obtain ⟨v62, ev62⟩ := q_ev ((l8 + (1 : Int64)).toInt)
              have f63 : v62 = l8.toInt + (1) := q_addVJ ev62 q_evr (show q_eqv ((1 : Int64)).toInt (1) by unfold q_eqv; decide) (by omega) (by omega)
              exact ih _ _ _ _ _ _ hG (q_wd hl1 (by decide) (by decide)) (q_wd hl2 (by decide) (by decide)) (q_wd hl5 (by decide) (by decide)) (q_wd hl6 (by decide) (by decide)) (q_oV ev62 (by omega) (by omega))  (q_upV ev62 (by omega))
            · have f64 := q_leV ev52 q_evr (q_cn_gt g60)
              obtain ⟨v65, ev65⟩ := q_ev (((r37 + (l5.toInt64)) - r9).toInt)
              obtain ⟨v66, ev66⟩ := q_ev ((r37 + (l5.toInt64)).toInt)
              have f67 : v66 = r37.toInt + v52 := q_addVJ ev66 q_evr ev52 (by omega) (by omega)
              have f68 : v65 = v66 - r9.toInt := q_subVJ ev65 ev66 q_evr (by omega) (by omega)
              exact q_ok_some ⟨hG, (q_oV ev65 (by omega) (by omega))⟩
        · have f69 := q_neV ev46 (show q_eqv ((0 : Int32)).toInt (0) by unfold q_eqv; decide) (q_n_eq g50)
          unfold m_X12_mapBy_241
          obtain ⟨v70, ev70⟩ := q_ev ((l8 + (1 : Int64)).toInt)
          have f71 : v70 = l8.toInt + (1) := q_addVJ ev70 q_evr (show q_eqv ((1 : Int64)).toInt (1) by unfold q_eqv; decide) (by omega) (by omega)
          exact ih _ _ _ _ _ _ hG (q_wd hl1 (by decide) (by decide)) (q_wd hl2 (by decide) (by decide)) (q_wd hl5 (by decide) (by decide)) (q_wd hl6 (by decide) (by decide)) (q_oV ev70 (by omega) (by omega))  (q_upV ev70 (by omega))
      · have f72 := q_neV ev5 (show q_eqv ((0 : Int32)).toInt (0) by unfold q_eqv; decide) (q_n_eq g7)
        unfold m_X12_mapBy_250
        exact q_ok_some ⟨hG, (q_wd (show (0 : Int) ≤ (0 : Int64).toInt ∧ (0 : Int64).toInt ≤ (0 : Int) by decide) (by decide) (by decide))⟩
set_option maxHeartbeats 4000000 in
set_option maxRecDepth 100000 in
theorem s_X12_mapBy_45 {ρ : Nat → Nat} {L : List Nat} {n : Nat} (hn : 18446744073709551616 ≤ n) {S : q_S} (hI : q_Inv ρ L S) {o : Nat} (mo : o ∈ L) (ro : ρ o = 45) {p0 : Int32} (hp0 : (-1 ≤ p0.toInt ∧ p0.toInt ≤ 23)) {p1 : Int64} (hp1 : (0 ≤ p1.toInt ∧ p1.toInt ≤ 4294967295)) {p2 : Int32} (hp2 : (0 ≤ p2.toInt ∧ p2.toInt ≤ 23)) {p3 : Int32} (hp3 : (0 ≤ p3.toInt ∧ p3.toInt ≤ 2147483647)) : q_ok (m_X12_mapBy n S o p0 p1 p2 p3) (fun r T => q_G ρ L M_X12_mapBy_45 S T ∧ (-2147483647 ≤ r.toInt ∧ r.toInt ≤ 6442450942)) := by
  have hG : q_G ρ L M_X12_mapBy_45 S S := q_G_refl hI
  unfold m_X12_mapBy
  have z0 : (0 : Int32).toInt = 0 := rfl
  refine q_ok_ite (fun g1 => ?_) (fun g1 => ?_)
  · have f2 := q_eqV q_evr (show q_eqv ((0 : Int32)).toInt (0) by unfold q_eqv; decide) (q_p_eq g1)
    have f3 := q_rVI (x := p3) q_evr
    refine q_ok_ite (fun g4 => ?_) (fun g4 => ?_)
    · have f5 := q_leV (show q_eqv ((256 : Int32)).toInt (256) by unfold q_eqv; decide) q_evr (q_p_ge g4)
      unfold m_X12_mapBy_32
      exact q_ok_some ⟨hG, (q_wd (show (0 : Int) ≤ (0 : Int64).toInt ∧ (0 : Int64).toInt ≤ (0 : Int) by decide) (by decide) (by decide))⟩
    · have f6 := q_ltV q_evr (show q_eqv ((256 : Int32)).toInt (256) by unfold q_eqv; decide) (q_n_ge g4)
      refine q_ok_atS hG (q_trI mo ro) rfl (fun mo ro => ?_)
      have f10 : q_sm _ := g_45_I8 hG mo ro
      refine q_ok_b (s_X12_number_45_k1 hn hG.1 mo ro (q_wd hp0 (by decide) (by decide)) (q_wd (q_addBJ (6) (6442450948) (q_addBJ (6) (4294967301) hp1 (show (6 : Int) ≤ (6 : Int64).toInt ∧ (6 : Int64).toInt ≤ (6 : Int) by decide) (by decide) (by decide) (by decide) (by decide)) (q_i2lB hp3) (by decide) (by decide) (by decide) (by decide)) (by decide) (by decide)) (q_wd (show (1 : Int) ≤ (1 : Int32).toInt ∧ (1 : Int32).toInt ≤ (1 : Int) by decide) (by decide) (by decide))) (fun r7 S8 h9 => ?_)
      have hG := q_G_call hG h9.1 (by decide)
      have f11 := h9.2.1
      have f12 : q_sm _ := g_45_I8 hG mo ro
      obtain ⟨v13, ev13⟩ := q_ev ((q_I (S8) o 8).toInt)
      have f14 := q_bV ev13 f12
      obtain ⟨v15, ev15⟩ := q_ev ((q_I (S) o 8).toInt)
      have f16 := q_bV ev15 f10
      have f17 : v13 = 0 → v15 = 0 := q_to2 (fun x0 x1 => x0 = 0 → x1 = 0) ev13 ev15 ((q_smE (h9.2.2)).1)
      have f18 : v13 = 0 → 0 ≤ p0.toInt := q_to2 (fun x0 x1 => x0 = 0 → 0 ≤ x1) ev13 q_evr ((q_smE (h9.2.2)).2)
      unfold m_X12_mapBy_32
      exact q_ok_some ⟨hG, (q_wd f11 (by decide) (by decide))⟩
  · have f19 := q_neV q_evr (show q_eqv ((0 : Int32)).toInt (0) by unfold q_eqv; decide) (q_n_eq g1)
    refine q_ok_ite (fun g20 => ?_) (fun g20 => ?_)
    · have f21 := q_eqV q_evr (show q_eqv ((6 : Int32)).toInt (6) by unfold q_eqv; decide) (q_p_eq g20)
      refine q_ok_atS hG (q_trI mo ro) rfl (fun mo ro => ?_)
      have f25 : q_sm _ := g_45_I8 hG mo ro
      refine q_ok_b (s_X12_two_45 hn hG.1 mo ro (q_wd hp0 (by decide) (by decide)) (q_wd (q_addBJ (6) (4294967301) hp1 (show (6 : Int) ≤ (6 : Int64).toInt ∧ (6 : Int64).toInt ≤ (6 : Int) by decide) (by decide) (by decide) (by decide) (by decide)) (by decide) (by decide))) (fun r22 S23 h24 => ?_)
      have hG := q_G_call hG h24.1 (by decide)
      have f26 := h24.2.1
      have f27 : q_sm _ := g_45_I8 hG mo ro
      obtain ⟨v28, ev28⟩ := q_ev ((q_I (S23) o 8).toInt)
      have f29 := q_bV ev28 f27
      obtain ⟨v30, ev30⟩ := q_ev ((q_I (S) o 8).toInt)
      have f31 := q_bV ev30 f25
      have f32 : v28 = 0 → v30 = 0 := q_to2 (fun x0 x1 => x0 = 0 → x1 = 0) ev28 ev30 ((q_smE (h24.2.2)))
      refine q_ok_atS hG (q_trI mo ro) rfl (fun mo ro => ?_)
      refine q_ok_b (s_X12_two_45 hn hG.1 mo ro (q_wd hp0 (by decide) (by decide)) (q_wd (q_addBJ (8) (4294967303) hp1 (show (8 : Int) ≤ (8 : Int64).toInt ∧ (8 : Int64).toInt ≤ (8 : Int) by decide) (by decide) (by decide) (by decide) (by decide)) (by decide) (by decide))) (fun r33 S34 h35 => ?_)
      have hG := q_G_call hG h35.1 (by decide)
      have f36 := h35.2.1
      have f37 : q_sm _ := g_45_I8 hG mo ro
      obtain ⟨v38, ev38⟩ := q_ev ((q_I (S34) o 8).toInt)
      have f39 := q_bV ev38 f37
      have f40 : v38 = 0 → v28 = 0 := q_to2 (fun x0 x1 => x0 = 0 → x1 = 0) ev38 ev28 ((q_smE (h35.2.2)))
      have f41 := q_rVI (x := p3) q_evr
      refine q_ok_ite (fun g42 => ?_) (fun g42 => ?_)
      · have f43 := q_ltV q_evr q_evr (q_p_lt g42)
        unfold m_X12_mapBy_106
        unfold m_X12_mapBy_107
        exact q_ok_some ⟨hG, (q_wd (show (0 : Int) ≤ (0 : Int64).toInt ∧ (0 : Int64).toInt ≤ (0 : Int) by decide) (by decide) (by decide))⟩
      · have f44 := q_leV q_evr q_evr (q_n_lt g42)
        obtain ⟨v45, ev45⟩ := q_ev ((r22 + r33).toInt)
        have f46 : v45 = r22.toInt + r33.toInt := q_addVI ev45 q_evr q_evr (by omega) (by omega)
        refine q_ok_ite (fun g47 => ?_) (fun g47 => ?_)
        · have f48 := q_leV ev45 q_evr (q_p_ge g47)
          unfold m_X12_mapBy_106
          unfold m_X12_mapBy_107
          exact q_ok_some ⟨hG, (q_wd (show (0 : Int) ≤ (0 : Int64).toInt ∧ (0 : Int64).toInt ≤ (0 : Int) by decide) (by decide) (by decide))⟩
        · have f49 := q_ltV q_evr ev45 (q_n_ge g47)
          refine q_ok_atS hG (q_trI mo ro) rfl (fun mo ro => ?_)
          obtain ⟨v53, ev53⟩ := q_ev (((p1 + (10 : Int64)) + ((2 : Int64) * ((p3 - r22).toInt64))).toInt)
          obtain ⟨v54, ev54⟩ := q_ev ((p1 + (10 : Int64)).toInt)
          have f55 : v54 = p1.toInt + (10) := q_addVJ ev54 q_evr (show q_eqv ((10 : Int64)).toInt (10) by unfold q_eqv; decide) (by omega) (by omega)
          obtain ⟨v56, ev56⟩ := q_ev (((2 : Int64) * ((p3 - r22).toInt64)).toInt)
          obtain ⟨v57, ev57⟩ := q_ev (((p3 - r22).toInt64).toInt)
          obtain ⟨v58, ev58⟩ := q_ev ((p3 - r22).toInt)
          have f59 : v58 = p3.toInt - r22.toInt := q_subVI ev58 q_evr q_evr (by omega) (by omega)
          have f60 : v57 = v58 := q_i2lV ev57 ev58
          have f61 : v56 = (2) * v57 := q_mulVJ ev56 (show q_eqv ((2 : Int64)).toInt (2) by unfold q_eqv; decide) ev57 (by omega) (by omega)
          have f62 : v53 = v54 + v56 := q_addVJ ev53 ev54 ev56 (by omega) (by omega)
          refine q_ok_b (s_X12_two_45 hn hG.1 mo ro (q_wd hp0 (by decide) (by decide)) (q_oV ev53 (by omega) (by omega))) (fun r50 S51 h52 => ?_)
          have hG := q_G_call hG h52.1 (by decide)
          have f63 := h52.2.1
          have f64 : q_sm _ := g_45_I8 hG mo ro
          obtain ⟨v65, ev65⟩ := q_ev ((q_I (S51) o 8).toInt)
          have f66 := q_bV ev65 f64
          have f67 : v65 = 0 → v38 = 0 := q_to2 (fun x0 x1 => x0 = 0 → x1 = 0) ev65 ev38 ((q_smE (h52.2.2)))
          unfold m_X12_mapBy_107
          exact q_ok_some ⟨hG, (q_wd (q_i2lB f63) (by decide) (by decide))⟩
    · have f68 := q_neV q_evr (show q_eqv ((6 : Int32)).toInt (6) by unfold q_eqv; decide) (q_n_eq g20)
      refine q_ok_ite (fun g69 => ?_) (fun g69 => ?_)
      · have f70 := q_eqV q_evr (show q_eqv ((12 : Int32)).toInt (12) by unfold q_eqv; decide) (q_p_eq g69)
        refine q_ok_atS hG (q_trI mo ro) rfl (fun mo ro => ?_)
        have f74 : q_sm _ := g_45_I8 hG mo ro
        refine q_ok_b (s_X12_number_45_k4 hn hG.1 mo ro (q_wd hp0 (by decide) (by decide)) (q_wd (q_addBJ (12) (4294967307) hp1 (show (12 : Int) ≤ (12 : Int64).toInt ∧ (12 : Int64).toInt ≤ (12 : Int) by decide) (by decide) (by decide) (by decide) (by decide)) (by decide) (by decide)) (q_wd (show (4 : Int) ≤ (4 : Int32).toInt ∧ (4 : Int32).toInt ≤ (4 : Int) by decide) (by decide) (by decide))) (fun r71 S72 h73 => ?_)
        have hG := q_G_call hG h73.1 (by decide)
        have f75 := h73.2.1
        have f76 : q_sm _ := g_45_I8 hG mo ro
        obtain ⟨v77, ev77⟩ := q_ev ((q_I (S72) o 8).toInt)
        have f78 := q_bV ev77 f76
        obtain ⟨v79, ev79⟩ := q_ev ((q_I (S) o 8).toInt)
        have f80 := q_bV ev79 f74
        have f81 : v77 = 0 → v79 = 0 := q_to2 (fun x0 x1 => x0 = 0 → x1 = 0) ev77 ev79 ((q_smE (h73.2.2)).1)
        have f82 : v77 = 0 → 0 ≤ p0.toInt := q_to2 (fun x0 x1 => x0 = 0 → 0 ≤ x1) ev77 q_evr ((q_smE (h73.2.2)).2)
        exact s_X12_mapBy_45_131 hn mo ro (p0 := p0) (p1 := p1) (p2 := p2) (p3 := p3) n _ _ _ _ _ _ hG (q_wd hp0 (by decide) (by decide)) (q_wd hp1 (by decide) (by decide)) (q_wd hp3 (by decide) (by decide)) (q_wd f75 (by decide) (by decide)) (q_wd (show (0 : Int) ≤ (0 : Int64).toInt ∧ (0 : Int64).toInt ≤ (0 : Int) by decide) (by decide) (by decide))  (q_upV (show q_eqv ((0 : Int64)).toInt (0) by unfold q_eqv; decide) (by omega))
      · have f83 := q_neV q_evr (show q_eqv ((12 : Int32)).toInt (12) by unfold q_eqv; decide) (q_n_eq g69)
        refine q_ok_atS hG (q_trI mo ro) rfl (fun mo ro => ?_)
        have f87 : q_sm _ := g_45_I8 hG mo ro
        refine q_ok_b (s_X12_two_45 hn hG.1 mo ro (q_wd hp0 (by decide) (by decide)) (q_wd (q_addBJ (6) (4294967301) hp1 (show (6 : Int) ≤ (6 : Int64).toInt ∧ (6 : Int64).toInt ≤ (6 : Int) by decide) (by decide) (by decide) (by decide) (by decide)) (by decide) (by decide))) (fun r84 S85 h86 => ?_)
        have hG := q_G_call hG h86.1 (by decide)
        have f88 := h86.2.1
        have f89 : q_sm _ := g_45_I8 hG mo ro
        obtain ⟨v90, ev90⟩ := q_ev ((q_I (S85) o 8).toInt)
        have f91 := q_bV ev90 f89
        obtain ⟨v92, ev92⟩ := q_ev ((q_I (S) o 8).toInt)
        have f93 := q_bV ev92 f87
        have f94 : v90 = 0 → v92 = 0 := q_to2 (fun x0 x1 => x0 = 0 → x1 = 0) ev90 ev92 ((q_smE (h86.2.2)))
        exact s_X12_mapBy_45_267 hn mo ro (p0 := p0) (p1 := p1) (p2 := p2) (p3 := p3) n _ _ _ _ _ _ hG (q_wd hp0 (by decide) (by decide)) (q_wd hp1 (by decide) (by decide)) (q_wd hp3 (by decide) (by decide)) (q_wd f88 (by decide) (by decide)) (q_wd (show (0 : Int) ≤ (0 : Int32).toInt ∧ (0 : Int32).toInt ≤ (0 : Int) by decide) (by decide) (by decide))  (q_upV (show q_eqv ((0 : Int32)).toInt (0) by unfold q_eqv; decide) (by omega))
