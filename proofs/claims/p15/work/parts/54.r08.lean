def M_X12_enter_45 : List Nat := [2888, 2891, 2894, 2898, 2901, 2902, 2903, 2904, 2922, 3392, 3456, 3520, 3584, 3648, 3712, 3776, 3840, 3904, 3968, 4032, 4096]
set_option maxHeartbeats 4000000 in
set_option maxRecDepth 100000 in
theorem s_X12_enter_45 {ρ : Nat → Nat} {L : List Nat} {n : Nat} (hn : 18446744073709551616 ≤ n) {S : q_S} (hI : q_Inv ρ L S) {o : Nat} (mo : o ∈ L) (ro : ρ o = 45) {p0 : Int32} (hp0 : (0 ≤ p0.toInt ∧ p0.toInt ≤ 199)) (hq0 : q_N3x S o (q_I S o 18).toInt 0) (hq1 : (q_I S o 24).toInt ≤ 5) : q_ok (m_X12_enter n S o p0) (fun r T => q_G ρ L M_X12_enter_45 S T ∧ (0 ≤ r.toInt ∧ r.toInt ≤ 1) ∧ q_sm ((q_N3x T o (q_I T o 18).toInt 0) ∧ ((r).toInt = 0 → (q_I T o 24).toInt = (q_I S o 24).toInt) ∧ ((r).toInt = 1 → (q_I T o 24).toInt = (q_I S o 24).toInt + 1) ∧ (q_efx S T o (q_I S o 24).toInt))) := by
  have hG : q_G ρ L M_X12_enter_45 S S := q_G_refl hI
  unfold m_X12_enter
  have z0 : (0 : Int32).toInt = 0 := rfl
  have f1 : q_sm _ := g_45_I24 hG mo ro
  have t2 := g_45_R26 hG mo ro
  obtain ⟨a3, ea3, ma3, ra3⟩ := id t2
  have t4 := g_45_R29 hG mo ro
  obtain ⟨a5, ea5, ma5, ra5⟩ := id t4
  have t6 := g_45_R32 hG mo ro
  obtain ⟨a7, ea7, ma7, ra7⟩ := id t6
  have t8 := g_45_R33 hG mo ro
  obtain ⟨a9, ea9, ma9, ra9⟩ := id t8
  have t10 := g_45_R34 hG mo ro
  obtain ⟨a11, ea11, ma11, ra11⟩ := id t10
  obtain ⟨v13, ev13⟩ := q_ev ((q_I (S) o 24).toInt)
  have f14 := q_bV ev13 f1
  have n12 : q_ef (S) (S) a3 a5 a7 a9 a11 (q_I (S) o 24).toInt := q_ef0
  have t15 := g_45_R19 hG mo ro
  obtain ⟨a16, ea16, ma16, ra16⟩ := id t15
  have t17 := g_45_R28 hG mo ro
  obtain ⟨a18, ea18, ma18, ra18⟩ := id t17
  have t19 := g_45_R27 hG mo ro
  obtain ⟨a20, ea20, ma20, ra20⟩ := id t19
  have n21 := hq0 _ _ _ ea16 ea18 ea20
  have f22 : q_sm _ := g_45_I18 hG mo ro
  have f23 : q_sm _ := g_45_I14 hG mo ro
  obtain ⟨v24, ev24⟩ := q_ev ((q_I (S) o 18).toInt)
  have f25 := q_bV ev24 f22
  obtain ⟨v26, ev26⟩ := q_ev ((q_I (S) o 14).toInt)
  have f27 := q_bV ev26 f23
  have f28 : 0 ≤ v24 ∧ v24 ≤ v24 ∧ v24 ≤ v24 + 0 ∧ v24 ≤ v26 := q_to3 (fun x0 x1 x2 => 0 ≤ x0 ∧ x0 ≤ x1 ∧ x1 ≤ x0 + 0 ∧ x0 ≤ x2) ev24 ev24 ev26 (q_N3lin n21)
  have f29 : v13 ≤ 5 := q_to1 (fun x0 => x0 ≤ 5) ev13 hq1
  refine q_ok_atS hG (q_trI mo ro) rfl (fun mo ro => ?_)
  refine q_ok_b (s_X12_lookData_45 hn hG.1 mo ro (q_wd hp0 (by decide) (by decide))) (fun r30 S31 h32 => ?_)
  have hG := q_G_call hG h32.1 (by decide)
  have f33 := h32.2
  have n34 := q_N3U h32.1 mo ro ma16 ra16 ma18 ra18 ma20 ra20 rfl rfl rfl rfl rfl rfl n21
  have n35 := q_efU h32.1 ma3 ra3 ma5 ra5 ma7 ra7 ma9 ra9 ma11 ra11 rfl rfl rfl rfl rfl n12
  refine q_ok_ite (fun g36 => ?_) (fun g36 => ?_)
  · have f37 := q_eqV q_evr (show q_eqv ((0 : Int32)).toInt (0) by unfold q_eqv; decide) (q_p_eq g36)
    unfold m_X12_enter_19
    refine q_ok_ite (fun g38 => ?_) (fun g38 => ?_)
    · have f39 := q_eqV q_evr (show q_eqv ((0 : Int32)).toInt (0) by unfold q_eqv; decide) (q_p_eq g38)
      unfold m_X12_enter_36
      refine q_ok_ite (fun g40 => ?_) (fun g40 => ?_)
      · have f41 := q_eqV q_evr (show q_eqv ((0 : Int32)).toInt (0) by unfold q_eqv; decide) (q_p_eq g40)
        unfold m_X12_enter_52
        unfold m_X12_enter_53
        refine q_ok_ite (fun g42 => ?_) (fun g42 => ?_)
        · have f43 := q_eqV (show q_eqv ((0 : Int32)).toInt (0) by unfold q_eqv; decide) (show q_eqv ((0 : Int32)).toInt (0) by unfold q_eqv; decide) (q_p_eq g42)
          unfold m_X12_enter_131
          refine q_ok_ite (fun g44 => ?_) (fun g44 => ?_)
          · have f45 := q_eqV (show q_eqv ((0 : Int32)).toInt (0) by unfold q_eqv; decide) (show q_eqv ((0 : Int32)).toInt (0) by unfold q_eqv; decide) (q_p_eq g44)
            unfold m_X12_enter_143
            refine q_ok_atS hG (q_trI mo ro) rfl (fun mo ro => ?_)
            refine q_ok_b (s_X12_tell_45 hn hG.1 mo ro (q_wd (show (1 : Int) ≤ (1 : Int32).toInt ∧ (1 : Int32).toInt ≤ (1 : Int) by decide) (by decide) (by decide)) (q_wd hp0 (by decide) (by decide))) (fun r46 S47 h48 => ?_)
            have hG := q_G_call hG h48 (by decide)
            have n49 := q_N3U h48 mo ro ma16 ra16 ma18 ra18 ma20 ra20 rfl rfl rfl rfl rfl rfl n34
            have n50 := q_efU h48 ma3 ra3 ma5 ra5 ma7 ra7 ma9 ra9 ma11 ra11 rfl rfl rfl rfl rfl n35
            unfold m_X12_enter_149
            refine q_ok_if (q_b01V (show q_eqv ((0 : Int32)).toInt (0) by unfold q_eqv; decide) (by omega) (by omega)) ?_
            have t51 := g_45_R19 hG mo ro
            have e52 : q_R (S47) o 19 = q_R (S) o 19 := (Eq.trans (q_unR h48 mo ro (by decide)) (q_unR h32.1 mo ro (by decide)))
            have t53 := g_45_R28 hG mo ro
            have e54 : q_R (S47) o 28 = q_R (S) o 28 := (Eq.trans (q_unR h48 mo ro (by decide)) (q_unR h32.1 mo ro (by decide)))
            have t55 := g_45_R27 hG mo ro
            have e56 : q_R (S47) o 27 = q_R (S) o 27 := (Eq.trans (q_unR h48 mo ro (by decide)) (q_unR h32.1 mo ro (by decide)))
            have f57 : q_sm _ := g_45_I18 hG mo ro
            have e58 : q_I (S47) o 18 = q_I (S) o 18 := (Eq.trans (q_unI h48 mo ro (by decide)) (q_unI h32.1 mo ro (by decide)))
            obtain ⟨v59, ev59⟩ := q_ev ((q_I (S47) o 18).toInt)
            have f60 : v59 = v24 := q_eqVI e58 ev59 ev24
            have f61 : q_sm _ := g_45_I24 hG mo ro
            have e62 : q_I (S47) o 24 = q_I (S) o 24 := (Eq.trans (q_unI h48 mo ro (by decide)) (q_unI h32.1 mo ro (by decide)))
            obtain ⟨v63, ev63⟩ := q_ev ((q_I (S47) o 24).toInt)
            have f64 : v63 = v13 := q_eqVI e62 ev63 ev13
            have t65 := g_45_R26 hG mo ro
            have e66 : q_R (S47) o 26 = q_R (S) o 26 := (Eq.trans (q_unR h48 mo ro (by decide)) (q_unR h32.1 mo ro (by decide)))
            have t67 := g_45_R29 hG mo ro
            have e68 : q_R (S47) o 29 = q_R (S) o 29 := (Eq.trans (q_unR h48 mo ro (by decide)) (q_unR h32.1 mo ro (by decide)))
            have t69 := g_45_R32 hG mo ro
            have e70 : q_R (S47) o 32 = q_R (S) o 32 := (Eq.trans (q_unR h48 mo ro (by decide)) (q_unR h32.1 mo ro (by decide)))
            have t71 := g_45_R33 hG mo ro
            have e72 : q_R (S47) o 33 = q_R (S) o 33 := (Eq.trans (q_unR h48 mo ro (by decide)) (q_unR h32.1 mo ro (by decide)))
            have t73 := g_45_R34 hG mo ro
            have e74 : q_R (S47) o 34 = q_R (S) o 34 := (Eq.trans (q_unR h48 mo ro (by decide)) (q_unR h32.1 mo ro (by decide)))
            exact q_ok_some ⟨hG, (q_wd (show (0 : Int) ≤ (0 : Int32).toInt ∧ (0 : Int32).toInt ≤ (0 : Int) by decide) (by decide) (by decide)), (q_smI ⟨(q_N3xI (Eq.trans e52 ea16) (Eq.trans e54 ea18) (Eq.trans e56 ea20) (q_N3c n49 (q_bw2 (fun x0 x1 => x0 = x1) ev59 ev24 (by omega)) rfl)), (q_bw3 (fun x0 x1 x2 => x0 = 0 → x1 = x2) (show q_eqv ((0 : Int32)).toInt (0) by unfold q_eqv; decide) ev63 ev13 (by omega)), (q_bw3 (fun x0 x1 x2 => x0 = 1 → x1 = x2 + 1) (show q_eqv ((0 : Int32)).toInt (0) by unfold q_eqv; decide) ev63 ev13 (by omega)), (q_efxI (Eq.trans e66 ea3) (Eq.trans e68 ea5) (Eq.trans e70 ea7) (Eq.trans e72 ea9) (Eq.trans e74 ea11) n50)⟩)⟩
          · have f75 := q_neV (show q_eqv ((0 : Int32)).toInt (0) by unfold q_eqv; decide) (show q_eqv ((0 : Int32)).toInt (0) by unfold q_eqv; decide) (q_n_eq g44)
            exfalso; omega
        · have f76 := q_neV (show q_eqv ((0 : Int32)).toInt (0) by unfold q_eqv; decide) (show q_eqv ((0 : Int32)).toInt (0) by unfold q_eqv; decide) (q_n_eq g42)
          exfalso; omega
      · have f77 := q_neV q_evr (show q_eqv ((0 : Int32)).toInt (0) by unfold q_eqv; decide) (q_n_eq g40)
        exfalso; omega
    · have f78 := q_neV q_evr (show q_eqv ((0 : Int32)).toInt (0) by unfold q_eqv; decide) (q_n_eq g38)
      exfalso; omega
  · have f79 := q_neV q_evr (show q_eqv ((0 : Int32)).toInt (0) by unfold q_eqv; decide) (q_n_eq g36)
    refine q_ok_atS hG (q_trI mo ro) rfl (fun mo ro => ?_)
    have f80 : q_sm _ := g_45_I23 hG mo ro
    obtain ⟨v81, ev81⟩ := q_ev ((q_I (S31) o 23).toInt)
    have f82 := q_bV ev81 f80
    refine q_ok_ite (fun g83 => ?_) (fun g83 => ?_)
    · have f84 := q_eqV ev81 (show q_eqv ((0 : Int32)).toInt (0) by unfold q_eqv; decide) (q_p_eq g83)
      unfold m_X12_enter_19
      refine q_ok_ite (fun g85 => ?_) (fun g85 => ?_)
      · have f86 := q_eqV q_evr (show q_eqv ((0 : Int32)).toInt (0) by unfold q_eqv; decide) (q_p_eq g85)
        exfalso; omega
      · have f87 := q_neV q_evr (show q_eqv ((0 : Int32)).toInt (0) by unfold q_eqv; decide) (q_n_eq g85)
        refine q_ok_atS hG (q_trI mo ro) rfl (fun mo ro => ?_)
        have f91 : q_sm _ := g_45_I8 hG mo ro
        refine q_ok_b (s_X12_data_45_k2 hn hG.1 mo ro (q_wd (show (0 : Int) ≤ (0 : Int32).toInt ∧ (0 : Int32).toInt ≤ (0 : Int) by decide) (by decide) (by decide)) (q_wd (show (2 : Int) ≤ (2 : Int32).toInt ∧ (2 : Int32).toInt ≤ (2 : Int) by decide) (by decide) (by decide))) (fun r88 S89 h90 => ?_)
        have hG := q_G_call hG h90.1 (by decide)
        have f92 := h90.2.1
        have n93 := q_N3U h90.1 mo ro ma16 ra16 ma18 ra18 ma20 ra20 rfl rfl rfl rfl rfl rfl n34
        have n94 := q_efU h90.1 ma3 ra3 ma5 ra5 ma7 ra7 ma9 ra9 ma11 ra11 rfl rfl rfl rfl rfl n35
        have f95 : q_sm _ := g_45_I8 hG mo ro
        obtain ⟨v96, ev96⟩ := q_ev ((q_I (S89) o 8).toInt)
        have f97 := q_bV ev96 f95
        obtain ⟨v98, ev98⟩ := q_ev ((q_I (S31) o 8).toInt)
        have f99 := q_bV ev98 f91
        have f100 : v96 = 0 → v98 = 0 := q_to2 (fun x0 x1 => x0 = 0 → x1 = 0) ev96 ev98 ((q_smE (h90.2.2)).1)
        have f101 : q_sm _ := g_45_I21 hG mo ro
        have f102 : q_sm _ := g_45_I22 hG mo ro
        obtain ⟨v103, ev103⟩ := q_ev ((q_I (S89) o 21).toInt)
        have f104 := q_bV ev103 f101
        obtain ⟨v105, ev105⟩ := q_ev ((q_I (S89) o 22).toInt)
        have f106 := q_bV ev105 f102
        have f107 : v96 = 0 → v103 + (0) + (2) ≤ v105 := q_to5 (fun x0 x1 x2 x3 x4 => x0 = 0 → x1 + x2 + x3 ≤ x4) ev96 ev103 (show q_eqv ((0 : Int32)).toInt (0) by unfold q_eqv; decide) (show q_eqv ((2 : Int32)).toInt (2) by unfold q_eqv; decide) ev105 ((q_smE (h90.2.2)).2.1)
        obtain ⟨v108, ev108⟩ := q_ev ((q_fd (S89) o ((1735162214 : Int64))).toInt)
        have f109 := q_rVI (x := q_fd (S89) o ((1735162214 : Int64))) ev108
        have f110 : v96 = 0 → 0 ≤ v108 := q_to2 (fun x0 x1 => x0 = 0 → 0 ≤ x1) ev96 ev108 ((q_smE (h90.2.2)).2.2)
        refine q_ok_b (s_X12_signed hn hG.1 (q_wd f92 (by decide) (by decide))) (fun r111 S112 h113 => ?_)
        obtain ⟨eS112, h113⟩ := h113
        replace eS112 := eS112.symm
        subst eS112
        have f114 := h113
        unfold m_X12_enter_36
        refine q_ok_ite (fun g115 => ?_) (fun g115 => ?_)
        · have f116 := q_eqV q_evr (show q_eqv ((0 : Int32)).toInt (0) by unfold q_eqv; decide) (q_p_eq g115)
          exfalso; omega
        · have f117 := q_neV q_evr (show q_eqv ((0 : Int32)).toInt (0) by unfold q_eqv; decide) (q_n_eq g115)
          refine q_ok_atS hG (q_trI mo ro) rfl (fun mo ro => ?_)
          refine q_ok_ite (fun g118 => ?_) (fun g118 => ?_)
          · have f119 := q_eqV ev96 (show q_eqv ((0 : Int32)).toInt (0) by unfold q_eqv; decide) (q_p_eq g118)
            unfold m_X12_enter_53
            refine q_ok_ite (fun g120 => ?_) (fun g120 => ?_)
            · have f121 := q_eqV (show q_eqv ((1 : Int32)).toInt (1) by unfold q_eqv; decide) (show q_eqv ((0 : Int32)).toInt (0) by unfold q_eqv; decide) (q_p_eq g120)
              exfalso; omega
            · have f122 := q_neV (show q_eqv ((1 : Int32)).toInt (1) by unfold q_eqv; decide) (show q_eqv ((0 : Int32)).toInt (0) by unfold q_eqv; decide) (q_n_eq g120)
              refine q_ok_ite (fun g123 => ?_) (fun g123 => ?_)
              · have f124 := q_leV (show q_eqv ((0 : Int32)).toInt (0) by unfold q_eqv; decide) q_evr (q_p_ge g123)
                unfold m_X12_enter_131
                refine q_ok_ite (fun g125 => ?_) (fun g125 => ?_)
                · have f126 := q_eqV (show q_eqv ((1 : Int32)).toInt (1) by unfold q_eqv; decide) (show q_eqv ((0 : Int32)).toInt (0) by unfold q_eqv; decide) (q_p_eq g125)
                  exfalso; omega
                · have f127 := q_neV (show q_eqv ((1 : Int32)).toInt (1) by unfold q_eqv; decide) (show q_eqv ((0 : Int32)).toInt (0) by unfold q_eqv; decide) (q_n_eq g125)
                  refine q_ok_atS hG (q_trI mo ro) rfl (fun mo ro => ?_)
                  have t131 := g_45_R19 hG mo ro
                  have e132 : q_R (S89) o 19 = q_R (S) o 19 := (Eq.trans (q_unR h90.1 mo ro (by decide)) (q_unR h32.1 mo ro (by decide)))
                  have t133 := g_45_R28 hG mo ro
                  have e134 : q_R (S89) o 28 = q_R (S) o 28 := (Eq.trans (q_unR h90.1 mo ro (by decide)) (q_unR h32.1 mo ro (by decide)))
                  have t135 := g_45_R27 hG mo ro
                  have e136 : q_R (S89) o 27 = q_R (S) o 27 := (Eq.trans (q_unR h90.1 mo ro (by decide)) (q_unR h32.1 mo ro (by decide)))
                  have f137 : q_sm _ := g_45_I18 hG mo ro
                  have e138 : q_I (S89) o 18 = q_I (S) o 18 := (Eq.trans (q_unI h90.1 mo ro (by decide)) (q_unI h32.1 mo ro (by decide)))
                  obtain ⟨v139, ev139⟩ := q_ev ((q_I (S89) o 18).toInt)
                  have f140 : v139 = v24 := q_eqVI e138 ev139 ev24
                  refine q_ok_b (s_X12_addSimple_45 hn hG.1 mo ro (q_oV q_evr (by omega) (by omega)) (q_N3xI (Eq.trans e132 ea16) (Eq.trans e134 ea18) (Eq.trans e136 ea20) (q_N3c n93 (q_bw2 (fun x0 x1 => x0 = x1) ev139 ev24 (by omega)) rfl))) (fun r128 S129 h130 => ?_)
                  have hG := q_G_call hG h130.1 (by decide)
                  have f141 := h130.2.1
                  have n142 := q_efU h130.1 ma3 ra3 ma5 ra5 ma7 ra7 ma9 ra9 ma11 ra11 rfl rfl rfl rfl rfl n94
                  have t143 := g_45_R19 hG mo ro
                  have e144 : q_R (S129) o 19 = q_R (S89) o 19 := (q_unR h130.1 mo ro (by decide))
                  have t145 := g_45_R28 hG mo ro
                  have e146 : q_R (S129) o 28 = q_R (S89) o 28 := (q_unR h130.1 mo ro (by decide))
                  have t147 := g_45_R27 hG mo ro
                  have e148 : q_R (S129) o 27 = q_R (S89) o 27 := (q_unR h130.1 mo ro (by decide))
                  have n149 := ((q_smE (h130.2.2))) _ _ _ (Eq.trans e144 (Eq.trans e132 ea16)) (Eq.trans e146 (Eq.trans e134 ea18)) (Eq.trans e148 (Eq.trans e136 ea20))
                  have f150 : q_sm _ := g_45_I18 hG mo ro
                  have f151 : q_sm _ := g_45_I14 hG mo ro
                  obtain ⟨v152, ev152⟩ := q_ev ((q_I (S129) o 18).toInt)
                  have f153 := q_bV ev152 f150
                  obtain ⟨v154, ev154⟩ := q_ev ((q_I (S129) o 14).toInt)
                  have f155 := q_bV ev154 f151
                  have f156 : 0 ≤ v152 ∧ v152 ≤ v152 ∧ v152 ≤ v152 + 0 ∧ v152 ≤ v154 := q_to3 (fun x0 x1 x2 => 0 ≤ x0 ∧ x0 ≤ x1 ∧ x1 ≤ x0 + 0 ∧ x0 ≤ x2) ev152 ev152 ev154 (q_N3lin n149)
                  refine q_ok_ite (fun g157 => ?_) (fun g157 => ?_)
                  · have f158 := q_eqV q_evr (show q_eqv ((0 : Int32)).toInt (0) by unfold q_eqv; decide) (q_p_eq g157)
                    unfold m_X12_enter_143
                    refine q_ok_atS hG (q_trI mo ro) rfl (fun mo ro => ?_)
                    refine q_ok_b (s_X12_tell_45 hn hG.1 mo ro (q_wd (show (1 : Int) ≤ (1 : Int32).toInt ∧ (1 : Int32).toInt ≤ (1 : Int) by decide) (by decide) (by decide)) (q_wd hp0 (by decide) (by decide))) (fun r159 S160 h161 => ?_)
                    have hG := q_G_call hG h161 (by decide)
                    have n162 := q_N3U h161 mo ro ma16 ra16 ma18 ra18 ma20 ra20 rfl rfl rfl rfl rfl rfl n149
                    have n163 := q_efU h161 ma3 ra3 ma5 ra5 ma7 ra7 ma9 ra9 ma11 ra11 rfl rfl rfl rfl rfl n142
                    unfold m_X12_enter_149
                    refine q_ok_if (q_b01V (show q_eqv ((0 : Int32)).toInt (0) by unfold q_eqv; decide) (by omega) (by omega)) ?_
                    have t164 := g_45_R19 hG mo ro
                    have e165 : q_R (S160) o 19 = q_R (S129) o 19 := (q_unR h161 mo ro (by decide))
                    have t166 := g_45_R28 hG mo ro
                    have e167 : q_R (S160) o 28 = q_R (S129) o 28 := (q_unR h161 mo ro (by decide))
                    have t168 := g_45_R27 hG mo ro
                    have e169 : q_R (S160) o 27 = q_R (S129) o 27 := (q_unR h161 mo ro (by decide))
                    have f170 : q_sm _ := g_45_I18 hG mo ro
                    have e171 : q_I (S160) o 18 = q_I (S129) o 18 := (q_unI h161 mo ro (by decide))
                    obtain ⟨v172, ev172⟩ := q_ev ((q_I (S160) o 18).toInt)
                    have f173 : v172 = v152 := q_eqVI e171 ev172 ev152
                    have f174 : q_sm _ := g_45_I24 hG mo ro
                    have e175 : q_I (S160) o 24 = q_I (S) o 24 := (Eq.trans (q_unI h161 mo ro (by decide)) (Eq.trans (q_unI h130.1 mo ro (by decide)) (Eq.trans (q_unI h90.1 mo ro (by decide)) (q_unI h32.1 mo ro (by decide)))))
                    obtain ⟨v176, ev176⟩ := q_ev ((q_I (S160) o 24).toInt)
                    have f177 : v176 = v13 := q_eqVI e175 ev176 ev13
                    have t178 := g_45_R26 hG mo ro
                    have e179 : q_R (S160) o 26 = q_R (S) o 26 := (Eq.trans (q_unR h161 mo ro (by decide)) (Eq.trans (q_unR h130.1 mo ro (by decide)) (Eq.trans (q_unR h90.1 mo ro (by decide)) (q_unR h32.1 mo ro (by decide)))))
                    have t180 := g_45_R29 hG mo ro
                    have e181 : q_R (S160) o 29 = q_R (S) o 29 := (Eq.trans (q_unR h161 mo ro (by decide)) (Eq.trans (q_unR h130.1 mo ro (by decide)) (Eq.trans (q_unR h90.1 mo ro (by decide)) (q_unR h32.1 mo ro (by decide)))))
                    have t182 := g_45_R32 hG mo ro
                    have e183 : q_R (S160) o 32 = q_R (S) o 32 := (Eq.trans (q_unR h161 mo ro (by decide)) (Eq.trans (q_unR h130.1 mo ro (by decide)) (Eq.trans (q_unR h90.1 mo ro (by decide)) (q_unR h32.1 mo ro (by decide)))))
                    have t184 := g_45_R33 hG mo ro
                    have e185 : q_R (S160) o 33 = q_R (S) o 33 := (Eq.trans (q_unR h161 mo ro (by decide)) (Eq.trans (q_unR h130.1 mo ro (by decide)) (Eq.trans (q_unR h90.1 mo ro (by decide)) (q_unR h32.1 mo ro (by decide)))))
                    have t186 := g_45_R34 hG mo ro
                    have e187 : q_R (S160) o 34 = q_R (S) o 34 := (Eq.trans (q_unR h161 mo ro (by decide)) (Eq.trans (q_unR h130.1 mo ro (by decide)) (Eq.trans (q_unR h90.1 mo ro (by decide)) (q_unR h32.1 mo ro (by decide)))))
                    exact q_ok_some ⟨hG, (q_wd (show (0 : Int) ≤ (0 : Int32).toInt ∧ (0 : Int32).toInt ≤ (0 : Int) by decide) (by decide) (by decide)), (q_smI ⟨(q_N3xI (Eq.trans e165 (Eq.trans e144 (Eq.trans e132 ea16))) (Eq.trans e167 (Eq.trans e146 (Eq.trans e134 ea18))) (Eq.trans e169 (Eq.trans e148 (Eq.trans e136 ea20))) (q_N3c n162 (q_bw2 (fun x0 x1 => x0 = x1) ev172 ev152 (by omega)) rfl)), (q_bw3 (fun x0 x1 x2 => x0 = 0 → x1 = x2) (show q_eqv ((0 : Int32)).toInt (0) by unfold q_eqv; decide) ev176 ev13 (by omega)), (q_bw3 (fun x0 x1 x2 => x0 = 1 → x1 = x2 + 1) (show q_eqv ((0 : Int32)).toInt (0) by unfold q_eqv; decide) ev176 ev13 (by omega)), (q_efxI (Eq.trans e179 ea3) (Eq.trans e181 ea5) (Eq.trans e183 ea7) (Eq.trans e185 ea9) (Eq.trans e187 ea11) n163)⟩)⟩
                  · have f188 := q_neV q_evr (show q_eqv ((0 : Int32)).toInt (0) by unfold q_eqv; decide) (q_n_eq g157)
                    unfold m_X12_enter_149
                    refine q_ok_if (q_b01V (show q_eqv ((0 : Int32)).toInt (0) by unfold q_eqv; decide) (by omega) (by omega)) ?_
                    have t189 := g_45_R19 hG mo ro
                    have t190 := g_45_R28 hG mo ro
                    have t191 := g_45_R27 hG mo ro
                    have f192 : q_sm _ := g_45_I24 hG mo ro
                    have e193 : q_I (S129) o 24 = q_I (S) o 24 := (Eq.trans (q_unI h130.1 mo ro (by decide)) (Eq.trans (q_unI h90.1 mo ro (by decide)) (q_unI h32.1 mo ro (by decide))))
                    obtain ⟨v194, ev194⟩ := q_ev ((q_I (S129) o 24).toInt)
                    have f195 : v194 = v13 := q_eqVI e193 ev194 ev13
                    have t196 := g_45_R26 hG mo ro
                    have e197 : q_R (S129) o 26 = q_R (S) o 26 := (Eq.trans (q_unR h130.1 mo ro (by decide)) (Eq.trans (q_unR h90.1 mo ro (by decide)) (q_unR h32.1 mo ro (by decide))))
                    have t198 := g_45_R29 hG mo ro
                    have e199 : q_R (S129) o 29 = q_R (S) o 29 := (Eq.trans (q_unR h130.1 mo ro (by decide)) (Eq.trans (q_unR h90.1 mo ro (by decide)) (q_unR h32.1 mo ro (by decide))))
                    have t200 := g_45_R32 hG mo ro
                    have e201 : q_R (S129) o 32 = q_R (S) o 32 := (Eq.trans (q_unR h130.1 mo ro (by decide)) (Eq.trans (q_unR h90.1 mo ro (by decide)) (q_unR h32.1 mo ro (by decide))))
                    have t202 := g_45_R33 hG mo ro
                    have e203 : q_R (S129) o 33 = q_R (S) o 33 := (Eq.trans (q_unR h130.1 mo ro (by decide)) (Eq.trans (q_unR h90.1 mo ro (by decide)) (q_unR h32.1 mo ro (by decide))))
                    have t204 := g_45_R34 hG mo ro
                    have e205 : q_R (S129) o 34 = q_R (S) o 34 := (Eq.trans (q_unR h130.1 mo ro (by decide)) (Eq.trans (q_unR h90.1 mo ro (by decide)) (q_unR h32.1 mo ro (by decide))))
                    exact q_ok_some ⟨hG, (q_wd (show (0 : Int) ≤ (0 : Int32).toInt ∧ (0 : Int32).toInt ≤ (0 : Int) by decide) (by decide) (by decide)), (q_smI ⟨(q_N3xI (Eq.trans e144 (Eq.trans e132 ea16)) (Eq.trans e146 (Eq.trans e134 ea18)) (Eq.trans e148 (Eq.trans e136 ea20)) (q_N3c n149 (q_bw2 (fun x0 x1 => x0 = x1) ev152 ev152 (by omega)) rfl)), (q_bw3 (fun x0 x1 x2 => x0 = 0 → x1 = x2) (show q_eqv ((0 : Int32)).toInt (0) by unfold q_eqv; decide) ev194 ev13 (by omega)), (q_bw3 (fun x0 x1 x2 => x0 = 1 → x1 = x2 + 1) (show q_eqv ((0 : Int32)).toInt (0) by unfold q_eqv; decide) ev194 ev13 (by omega)), (q_efxI (Eq.trans e197 ea3) (Eq.trans e199 ea5) (Eq.trans e201 ea7) (Eq.trans e203 ea9) (Eq.trans e205 ea11) n142)⟩)⟩
              · have f206 := q_ltV q_evr (show q_eqv ((0 : Int32)).toInt (0) by unfold q_eqv; decide) (q_n_ge g123)
                refine q_ok_atS hG (q_trI mo ro) rfl (fun mo ro => ?_)
                have t207 := g_45_R25 hG mo ro
                have f208 : q_sm _ := g_45_I24 hG mo ro
                have e209 : q_I (S89) o 24 = q_I (S) o 24 := (Eq.trans (q_unI h90.1 mo ro (by decide)) (q_unI h32.1 mo ro (by decide)))
                refine q_ok_at hG t207 rfl (fun a210 ma210 ra210 ea210 => ?_)
                obtain ⟨v211, ev211⟩ := q_ev ((q_I (S89) o 24).toInt)
                have f212 : v211 = v13 := q_eqVI e209 ev211 ev13
                refine q_ok_if (q_inV (g_60_N hG ma210 ra210) ev211 (by omega) (by omega)) ?_
                have hG := u_60_E (k := (q_I (S89) o 24).toNatClampNeg) (x := p0) hG ma210 ra210 (by decide) (q_wd hp0 (by decide) (by decide))
                have n213 : q_N3 (q_sI (S89) a210 (q_I (S89) o 24).toNatClampNeg (p0)) o a16 a18 a20 _ _ := q_N3I ro ra210 ra16 ra18 ra20 (by decide) (by decide) (by decide) (by decide) n93
                have n214 : q_ef (S) (q_sI (S89) a210 (q_I (S89) o 24).toNatClampNeg (p0)) a3 a5 a7 a9 a11 _ := q_efI ra210 ra3 ra5 ra7 ra9 ra11 (by decide) (by decide) (by decide) (by decide) (by decide) n94
                have t215 := g_45_R26 hG mo ro
                have e216 : q_R (q_sI (S89) a210 (q_I (S89) o 24).toNatClampNeg (p0)) o 26 = q_R (S) o 26 := (Eq.trans q_skRI (Eq.trans (q_unR h90.1 mo ro (by decide)) (q_unR h32.1 mo ro (by decide))))
                have f217 : q_sm _ := g_45_I24 hG mo ro
                have e218 : q_I (q_sI (S89) a210 (q_I (S89) o 24).toNatClampNeg (p0)) o 24 = q_I (S89) o 24 := (q_fwI ro ra210 (by decide))
                refine q_ok_atA hG (Eq.trans e216 ea3) ma3 ra3 rfl ?_
                obtain ⟨v219, ev219⟩ := q_ev ((q_I (q_sI (S89) a210 (q_I (S89) o 24).toNatClampNeg (p0)) o 24).toInt)
                have f220 : v219 = v211 := q_eqVI e218 ev219 ev211
                refine q_ok_if (q_inV (g_61_N hG ma3 ra3) ev219 (by omega) (by omega)) ?_
                have hG := u_61_E (k := (q_I (q_sI (S89) a210 (q_I (S89) o 24).toNatClampNeg (p0)) o 24).toNatClampNeg) (x := (10 : Int32)) hG ma3 ra3 (by decide) (q_wd (show (10 : Int) ≤ (10 : Int32).toInt ∧ (10 : Int32).toInt ≤ (10 : Int) by decide) (by decide) (by decide))
                have n221 : q_N3 (q_sI (q_sI (S89) a210 (q_I (S89) o 24).toNatClampNeg (p0)) a3 (q_I (q_sI (S89) a210 (q_I (S89) o 24).toNatClampNeg (p0)) o 24).toNatClampNeg ((10 : Int32))) o a16 a18 a20 _ _ := q_N3I ro ra3 ra16 ra18 ra20 (by decide) (by decide) (by decide) (by decide) n213
                have n222 : q_ef (S) (q_sI (q_sI (S89) a210 (q_I (S89) o 24).toNatClampNeg (p0)) a3 (q_I (q_sI (S89) a210 (q_I (S89) o 24).toNatClampNeg (p0)) o 24).toNatClampNeg ((10 : Int32))) a3 a5 a7 a9 a11 _ := q_efA (q_clampL (q_bw1 (fun x0 => 0 ≤ x0) ev219 (by omega)) (q_bw2 (fun x0 x1 => x0 ≤ x1) ev13 ev219 (by omega))) n214
                refine q_ok_let (fun S223 eS223 => ?_)
                rw [← eS223] at hG
                have n224 := q_N3L eS223 n221
                have n225 := q_efL eS223 n222
                have t226 := g_45_R27 hG mo ro
                have e227 : q_R (S223) o 27 = q_R (S) o 27 := (Eq.trans (q_leR eS223) (Eq.trans q_skRI (Eq.trans q_skRI (Eq.trans (q_unR h90.1 mo ro (by decide)) (q_unR h32.1 mo ro (by decide))))))
                have f228 : q_sm _ := g_45_I24 hG mo ro
                have e229 : q_I (S223) o 24 = q_I (q_sI (S89) a210 (q_I (S89) o 24).toNatClampNeg (p0)) o 24 := (Eq.trans (q_leI eS223) (q_fwI ro ra3 (by decide)))
                have f230 : q_sm _ := g_45_I14 hG mo ro
                have e231 : q_I (S223) o 14 = q_I (S) o 14 := (Eq.trans (q_leI eS223) (Eq.trans (q_fwI ro ra3 (by decide)) (Eq.trans (q_fwI ro ra210 (by decide)) (Eq.trans (q_unI h90.1 mo ro (by decide)) (q_unI h32.1 mo ro (by decide))))))
                refine q_ok_atA hG (Eq.trans e227 ea20) ma20 ra20 rfl ?_
                obtain ⟨v232, ev232⟩ := q_ev ((q_I (S223) o 24).toInt)
                have f233 : v232 = v219 := q_eqVI e229 ev232 ev219
                refine q_ok_if (q_inV (g_62_N hG ma20 ra20) ev232 (by omega) (by omega)) ?_
                have hG := u_62_E (k := (q_I (S223) o 24).toNatClampNeg) (x := q_I (S223) o 14) hG ma20 ra20 (by decide) (q_wd f230 (by decide) (by decide))
                have n234 : q_N3 (q_sI (S223) a20 (q_I (S223) o 24).toNatClampNeg (q_I (S223) o 14)) o a16 a18 a20 _ _ := q_N3fp ro ra16 ra18 ra20 n224 (q_clampL (q_bw1 (fun x0 => 0 ≤ x0) ev232 (by omega)) (q_bw2 (fun x0 x1 => x0 ≤ x1) ev232 ev232 (by omega)))
                have n235 : q_ef (S) (q_sI (S223) a20 (q_I (S223) o 24).toNatClampNeg (q_I (S223) o 14)) a3 a5 a7 a9 a11 _ := q_efI ra20 ra3 ra5 ra7 ra9 ra11 (by decide) (by decide) (by decide) (by decide) (by decide) n225
                have t236 := g_45_R28 hG mo ro
                have e237 : q_R (q_sI (S223) a20 (q_I (S223) o 24).toNatClampNeg (q_I (S223) o 14)) o 28 = q_R (S) o 28 := (Eq.trans q_skRI (Eq.trans (q_leR eS223) (Eq.trans q_skRI (Eq.trans q_skRI (Eq.trans (q_unR h90.1 mo ro (by decide)) (q_unR h32.1 mo ro (by decide)))))))
                have f238 : q_sm _ := g_45_I24 hG mo ro
                have e239 : q_I (q_sI (S223) a20 (q_I (S223) o 24).toNatClampNeg (q_I (S223) o 14)) o 24 = q_I (S223) o 24 := (q_fwI ro ra20 (by decide))
                have f240 : q_sm _ := g_45_I18 hG mo ro
                have e241 : q_I (q_sI (S223) a20 (q_I (S223) o 24).toNatClampNeg (q_I (S223) o 14)) o 18 = q_I (S) o 18 := (Eq.trans (q_fwI ro ra20 (by decide)) (Eq.trans (q_leI eS223) (Eq.trans (q_fwI ro ra3 (by decide)) (Eq.trans (q_fwI ro ra210 (by decide)) (Eq.trans (q_unI h90.1 mo ro (by decide)) (q_unI h32.1 mo ro (by decide)))))))
                refine q_ok_atA hG (Eq.trans e237 ea18) ma18 ra18 rfl ?_
                obtain ⟨v242, ev242⟩ := q_ev ((q_I (q_sI (S223) a20 (q_I (S223) o 24).toNatClampNeg (q_I (S223) o 14)) o 24).toInt)
                have f243 : v242 = v232 := q_eqVI e239 ev242 ev232
                refine q_ok_if (q_inV (g_63_N hG ma18 ra18) ev242 (by omega) (by omega)) ?_
                have hG := u_63_E (k := (q_I (q_sI (S223) a20 (q_I (S223) o 24).toNatClampNeg (q_I (S223) o 14)) o 24).toNatClampNeg) (x := q_I (q_sI (S223) a20 (q_I (S223) o 24).toNatClampNeg (q_I (S223) o 14)) o 18) hG ma18 ra18 (by decide) (q_wd f240 (by decide) (by decide))
                have n244 : q_N3 (q_sI (q_sI (S223) a20 (q_I (S223) o 24).toNatClampNeg (q_I (S223) o 14)) a18 (q_I (q_sI (S223) a20 (q_I (S223) o 24).toNatClampNeg (q_I (S223) o 14)) o 24).toNatClampNeg (q_I (q_sI (S223) a20 (q_I (S223) o 24).toNatClampNeg (q_I (S223) o 14)) o 18)) o a16 a18 a20 _ _ := q_N3fc ro ra16 ra18 ra20 n234 (q_clampL (q_bw1 (fun x0 => 0 ≤ x0) ev242 (by omega)) (q_bw2 (fun x0 x1 => x0 ≤ x1) ev242 ev242 (by omega)))
                have n245 : q_ef (S) (q_sI (q_sI (S223) a20 (q_I (S223) o 24).toNatClampNeg (q_I (S223) o 14)) a18 (q_I (q_sI (S223) a20 (q_I (S223) o 24).toNatClampNeg (q_I (S223) o 14)) o 24).toNatClampNeg (q_I (q_sI (S223) a20 (q_I (S223) o 24).toNatClampNeg (q_I (S223) o 14)) o 18)) a3 a5 a7 a9 a11 _ := q_efI ra18 ra3 ra5 ra7 ra9 ra11 (by decide) (by decide) (by decide) (by decide) (by decide) n235
                refine q_ok_let (fun S246 eS246 => ?_)
                rw [← eS246] at hG
                have n247 := q_N3L eS246 n244
                have n248 := q_efL eS246 n245
                have t249 := g_45_R29 hG mo ro
                have e250 : q_R (S246) o 29 = q_R (S) o 29 := (Eq.trans (q_leR eS246) (Eq.trans q_skRI (Eq.trans q_skRI (Eq.trans (q_leR eS223) (Eq.trans q_skRI (Eq.trans q_skRI (Eq.trans (q_unR h90.1 mo ro (by decide)) (q_unR h32.1 mo ro (by decide)))))))))
                have f251 : q_sm _ := g_45_I24 hG mo ro
                have e252 : q_I (S246) o 24 = q_I (q_sI (S223) a20 (q_I (S223) o 24).toNatClampNeg (q_I (S223) o 14)) o 24 := (Eq.trans (q_leI eS246) (q_fwI ro ra18 (by decide)))
                refine q_ok_atA hG (Eq.trans e250 ea5) ma5 ra5 rfl ?_
                obtain ⟨v253, ev253⟩ := q_ev ((q_I (S246) o 24).toInt)
                have f254 : v253 = v242 := q_eqVI e252 ev253 ev242
                refine q_ok_if (q_inV (g_64_N hG ma5 ra5) ev253 (by omega) (by omega)) ?_
                obtain ⟨v255, ev255⟩ := q_ev ((vp_nar .boolean ((1 : Int32))).toInt)
                have f256 : v255 = (1) := q_narV ev255 (show q_eqv ((1 : Int32)).toInt (1) by unfold q_eqv; decide) (by omega) (by omega)
                have hG := u_64_E (k := (q_I (S246) o 24).toNatClampNeg) (x := vp_nar .boolean ((1 : Int32))) hG ma5 ra5 (by decide) (q_oV ev255 (by omega) (by omega))
                have n257 : q_N3 (q_sI (S246) a5 (q_I (S246) o 24).toNatClampNeg (vp_nar .boolean ((1 : Int32)))) o a16 a18 a20 _ _ := q_N3I ro ra5 ra16 ra18 ra20 (by decide) (by decide) (by decide) (by decide) n247
                have n258 : q_ef (S) (q_sI (S246) a5 (q_I (S246) o 24).toNatClampNeg (vp_nar .boolean ((1 : Int32)))) a3 a5 a7 a9 a11 _ := q_efA (q_clampL (q_bw1 (fun x0 => 0 ≤ x0) ev253 (by omega)) (q_bw2 (fun x0 x1 => x0 ≤ x1) ev13 ev253 (by omega))) n248
                have f259 : q_sm _ := g_45_I24 hG mo ro
                have e260 : q_I (q_sI (S246) a5 (q_I (S246) o 24).toNatClampNeg (vp_nar .boolean ((1 : Int32)))) o 24 = q_I (S246) o 24 := (q_fwI ro ra5 (by decide))
                obtain ⟨v261, ev261⟩ := q_ev (((q_I (q_sI (S246) a5 (q_I (S246) o 24).toNatClampNeg (vp_nar .boolean ((1 : Int32)))) o 24) + (1 : Int32)).toInt)
                obtain ⟨v262, ev262⟩ := q_ev ((q_I (q_sI (S246) a5 (q_I (S246) o 24).toNatClampNeg (vp_nar .boolean ((1 : Int32)))) o 24).toInt)
                have f263 : v262 = v253 := q_eqVI e260 ev262 ev253
                have f264 : v261 = v262 + (1) := q_addVI ev261 ev262 (show q_eqv ((1 : Int32)).toInt (1) by unfold q_eqv; decide) (by omega) (by omega)
                have hG := u_45_I24 (x := (q_I (q_sI (S246) a5 (q_I (S246) o 24).toNatClampNeg (vp_nar .boolean ((1 : Int32)))) o 24) + (1 : Int32)) hG mo ro (by decide) (q_oV ev261 (by omega) (by omega))
                have f265 : q_sm _ := g_45_I18 hG mo ro
                have e266 : q_I (q_sI (S246) a5 (q_I (S246) o 24).toNatClampNeg (vp_nar .boolean ((1 : Int32)))) o 18 = q_I (q_sI (S223) a20 (q_I (S223) o 24).toNatClampNeg (q_I (S223) o 14)) o 18 := (Eq.trans (q_fwI ro ra5 (by decide)) (Eq.trans (q_leI eS246) (q_fwI ro ra18 (by decide))))
                have f267 : q_sm _ := g_45_I14 hG mo ro
                have e268 : q_I (q_sI (S246) a5 (q_I (S246) o 24).toNatClampNeg (vp_nar .boolean ((1 : Int32)))) o 14 = q_I (S223) o 14 := (Eq.trans (q_fwI ro ra5 (by decide)) (Eq.trans (q_leI eS246) (Eq.trans (q_fwI ro ra18 (by decide)) (q_fwI ro ra20 (by decide)))))
                have t269 := g_45_R28 hG mo ro
                have e270 : q_R (q_sI (S246) a5 (q_I (S246) o 24).toNatClampNeg (vp_nar .boolean ((1 : Int32)))) o 28 = q_R (q_sI (S223) a20 (q_I (S223) o 24).toNatClampNeg (q_I (S223) o 14)) o 28 := (Eq.trans q_skRI (Eq.trans (q_leR eS246) q_skRI))
                have f271 : q_sm _ := g_63_E hG ma18 ra18 (k := (q_I (q_sI (S223) a20 (q_I (S223) o 24).toNatClampNeg (q_I (S223) o 14)) o 24).toNatClampNeg)
                have e272 : q_I (q_sI (S246) a5 (q_I (S246) o 24).toNatClampNeg (vp_nar .boolean ((1 : Int32)))) a18 (q_I (q_sI (S223) a20 (q_I (S223) o 24).toNatClampNeg (q_I (S223) o 14)) o 24).toNatClampNeg = q_I (q_sI (S223) a20 (q_I (S223) o 24).toNatClampNeg (q_I (S223) o 14)) o 18 := (Eq.trans (q_fwI ra18 ra5 (by decide)) (Eq.trans (q_leI eS246) q_hitI))
                have t273 := g_45_R27 hG mo ro
                have e274 : q_R (q_sI (S246) a5 (q_I (S246) o 24).toNatClampNeg (vp_nar .boolean ((1 : Int32)))) o 27 = q_R (S223) o 27 := (Eq.trans q_skRI (Eq.trans (q_leR eS246) (Eq.trans q_skRI q_skRI)))
                have f275 : q_sm _ := g_62_E hG ma20 ra20 (k := (q_I (S223) o 24).toNatClampNeg)
                have e276 : q_I (q_sI (S246) a5 (q_I (S246) o 24).toNatClampNeg (vp_nar .boolean ((1 : Int32)))) a20 (q_I (S223) o 24).toNatClampNeg = q_I (S223) o 14 := (Eq.trans (q_fwI ra20 ra5 (by decide)) (Eq.trans (q_leI eS246) (Eq.trans (q_fwI ra20 ra18 (by decide)) q_hitI)))
                obtain ⟨v277, ev277⟩ := q_ev ((q_I (q_sI (S246) a5 (q_I (S246) o 24).toNatClampNeg (vp_nar .boolean ((1 : Int32)))) o 18).toInt)
                obtain ⟨v278, ev278⟩ := q_ev ((q_I (q_sI (S223) a20 (q_I (S223) o 24).toNatClampNeg (q_I (S223) o 14)) o 18).toInt)
                have f279 : v278 = v24 := q_eqVI e241 ev278 ev24
                have f280 : v277 = v278 := q_eqVI e266 ev277 ev278
                obtain ⟨v281, ev281⟩ := q_ev ((q_I (q_sI (S246) a5 (q_I (S246) o 24).toNatClampNeg (vp_nar .boolean ((1 : Int32)))) a18 (q_I (q_sI (S223) a20 (q_I (S223) o 24).toNatClampNeg (q_I (S223) o 14)) o 24).toNatClampNeg).toInt)
                have f282 : v281 = v278 := q_eqVI e272 ev281 ev278
                obtain ⟨v283, ev283⟩ := q_ev ((q_I (q_sI (S246) a5 (q_I (S246) o 24).toNatClampNeg (vp_nar .boolean ((1 : Int32)))) a20 (q_I (S223) o 24).toNatClampNeg).toInt)
                obtain ⟨v284, ev284⟩ := q_ev ((q_I (S223) o 14).toInt)
                have f285 : v284 = v26 := q_eqVI e231 ev284 ev26
                have f286 : v283 = v284 := q_eqVI e276 ev283 ev284
                obtain ⟨v287, ev287⟩ := q_ev ((q_I (q_sI (S246) a5 (q_I (S246) o 24).toNatClampNeg (vp_nar .boolean ((1 : Int32)))) o 14).toInt)
                have f288 : v287 = v284 := q_eqVI e268 ev287 ev284
                have n289 : q_N3 (q_sI (q_sI (S246) a5 (q_I (S246) o 24).toNatClampNeg (vp_nar .boolean ((1 : Int32)))) o 24 ((q_I (q_sI (S246) a5 (q_I (S246) o 24).toNatClampNeg (vp_nar .boolean ((1 : Int32)))) o 24) + (1 : Int32))) o a16 a18 a20 _ _ := q_N3push ro ra16 ra18 ra20 n257 (q_bw2 (fun x0 x1 => x0 = x1) ev24 ev277 (by omega)) (q_clamp (q_bw1 (fun x0 => 0 ≤ x0) ev242 (by omega)) (q_bw2 (fun x0 x1 => x0 = x1) ev242 ev262 (by omega))) (q_clamp (q_bw1 (fun x0 => 0 ≤ x0) ev232 (by omega)) (q_bw2 (fun x0 x1 => x0 = x1) ev232 ev262 (by omega))) (q_bw2 (fun x0 x1 => x0 = x1) ev281 ev277 (by omega)) (q_bw2 (fun x0 x1 => x0 = x1) ev283 ev287 (by omega)) (q_bw2 (fun x0 x1 => x0 = x1 + 1) ev261 ev262 (by omega))
                have n290 : q_ef (S) (q_sI (q_sI (S246) a5 (q_I (S246) o 24).toNatClampNeg (vp_nar .boolean ((1 : Int32)))) o 24 ((q_I (q_sI (S246) a5 (q_I (S246) o 24).toNatClampNeg (vp_nar .boolean ((1 : Int32)))) o 24) + (1 : Int32))) a3 a5 a7 a9 a11 _ := q_efI ro ra3 ra5 ra7 ra9 ra11 (by decide) (by decide) (by decide) (by decide) (by decide) n258
                refine q_ok_if (q_b01V (show q_eqv ((1 : Int32)).toInt (1) by unfold q_eqv; decide) (by omega) (by omega)) ?_
                have t291 := g_45_R19 hG mo ro
                have e292 : q_R (q_sI (q_sI (S246) a5 (q_I (S246) o 24).toNatClampNeg (vp_nar .boolean ((1 : Int32)))) o 24 ((q_I (q_sI (S246) a5 (q_I (S246) o 24).toNatClampNeg (vp_nar .boolean ((1 : Int32)))) o 24) + (1 : Int32))) o 19 = q_R (S) o 19 := (Eq.trans q_skRI (Eq.trans q_skRI (Eq.trans (q_leR eS246) (Eq.trans q_skRI (Eq.trans q_skRI (Eq.trans (q_leR eS223) (Eq.trans q_skRI (Eq.trans q_skRI (Eq.trans (q_unR h90.1 mo ro (by decide)) (q_unR h32.1 mo ro (by decide)))))))))))
                have t293 := g_45_R28 hG mo ro
                have e294 : q_R (q_sI (q_sI (S246) a5 (q_I (S246) o 24).toNatClampNeg (vp_nar .boolean ((1 : Int32)))) o 24 ((q_I (q_sI (S246) a5 (q_I (S246) o 24).toNatClampNeg (vp_nar .boolean ((1 : Int32)))) o 24) + (1 : Int32))) o 28 = q_R (q_sI (S246) a5 (q_I (S246) o 24).toNatClampNeg (vp_nar .boolean ((1 : Int32)))) o 28 := q_skRI
                have t295 := g_45_R27 hG mo ro
                have e296 : q_R (q_sI (q_sI (S246) a5 (q_I (S246) o 24).toNatClampNeg (vp_nar .boolean ((1 : Int32)))) o 24 ((q_I (q_sI (S246) a5 (q_I (S246) o 24).toNatClampNeg (vp_nar .boolean ((1 : Int32)))) o 24) + (1 : Int32))) o 27 = q_R (q_sI (S246) a5 (q_I (S246) o 24).toNatClampNeg (vp_nar .boolean ((1 : Int32)))) o 27 := q_skRI
                have f297 : q_sm _ := g_45_I18 hG mo ro
                have e298 : q_I (q_sI (q_sI (S246) a5 (q_I (S246) o 24).toNatClampNeg (vp_nar .boolean ((1 : Int32)))) o 24 ((q_I (q_sI (S246) a5 (q_I (S246) o 24).toNatClampNeg (vp_nar .boolean ((1 : Int32)))) o 24) + (1 : Int32))) o 18 = q_I (q_sI (S246) a5 (q_I (S246) o 24).toNatClampNeg (vp_nar .boolean ((1 : Int32)))) o 18 := (q_ffI (by decide))
                obtain ⟨v299, ev299⟩ := q_ev ((q_I (q_sI (q_sI (S246) a5 (q_I (S246) o 24).toNatClampNeg (vp_nar .boolean ((1 : Int32)))) o 24 ((q_I (q_sI (S246) a5 (q_I (S246) o 24).toNatClampNeg (vp_nar .boolean ((1 : Int32)))) o 24) + (1 : Int32))) o 18).toInt)
                have f300 : v299 = v277 := q_eqVI e298 ev299 ev277
                have f301 : q_sm _ := g_45_I24 hG mo ro
                have e302 : q_I (q_sI (q_sI (S246) a5 (q_I (S246) o 24).toNatClampNeg (vp_nar .boolean ((1 : Int32)))) o 24 ((q_I (q_sI (S246) a5 (q_I (S246) o 24).toNatClampNeg (vp_nar .boolean ((1 : Int32)))) o 24) + (1 : Int32))) o 24 = (q_I (q_sI (S246) a5 (q_I (S246) o 24).toNatClampNeg (vp_nar .boolean ((1 : Int32)))) o 24) + (1 : Int32) := q_hitI
                obtain ⟨v303, ev303⟩ := q_ev ((q_I (q_sI (q_sI (S246) a5 (q_I (S246) o 24).toNatClampNeg (vp_nar .boolean ((1 : Int32)))) o 24 ((q_I (q_sI (S246) a5 (q_I (S246) o 24).toNatClampNeg (vp_nar .boolean ((1 : Int32)))) o 24) + (1 : Int32))) o 24).toInt)
                have f304 : v303 = v261 := q_eqVI e302 ev303 ev261
                have t305 := g_45_R26 hG mo ro
                have e306 : q_R (q_sI (q_sI (S246) a5 (q_I (S246) o 24).toNatClampNeg (vp_nar .boolean ((1 : Int32)))) o 24 ((q_I (q_sI (S246) a5 (q_I (S246) o 24).toNatClampNeg (vp_nar .boolean ((1 : Int32)))) o 24) + (1 : Int32))) o 26 = q_R (q_sI (S89) a210 (q_I (S89) o 24).toNatClampNeg (p0)) o 26 := (Eq.trans q_skRI (Eq.trans q_skRI (Eq.trans (q_leR eS246) (Eq.trans q_skRI (Eq.trans q_skRI (Eq.trans (q_leR eS223) q_skRI))))))
                have t307 := g_45_R29 hG mo ro
                have e308 : q_R (q_sI (q_sI (S246) a5 (q_I (S246) o 24).toNatClampNeg (vp_nar .boolean ((1 : Int32)))) o 24 ((q_I (q_sI (S246) a5 (q_I (S246) o 24).toNatClampNeg (vp_nar .boolean ((1 : Int32)))) o 24) + (1 : Int32))) o 29 = q_R (S246) o 29 := (Eq.trans q_skRI q_skRI)
                have t309 := g_45_R32 hG mo ro
                have e310 : q_R (q_sI (q_sI (S246) a5 (q_I (S246) o 24).toNatClampNeg (vp_nar .boolean ((1 : Int32)))) o 24 ((q_I (q_sI (S246) a5 (q_I (S246) o 24).toNatClampNeg (vp_nar .boolean ((1 : Int32)))) o 24) + (1 : Int32))) o 32 = q_R (S) o 32 := (Eq.trans q_skRI (Eq.trans q_skRI (Eq.trans (q_leR eS246) (Eq.trans q_skRI (Eq.trans q_skRI (Eq.trans (q_leR eS223) (Eq.trans q_skRI (Eq.trans q_skRI (Eq.trans (q_unR h90.1 mo ro (by decide)) (q_unR h32.1 mo ro (by decide)))))))))))
                have t311 := g_45_R33 hG mo ro
                have e312 : q_R (q_sI (q_sI (S246) a5 (q_I (S246) o 24).toNatClampNeg (vp_nar .boolean ((1 : Int32)))) o 24 ((q_I (q_sI (S246) a5 (q_I (S246) o 24).toNatClampNeg (vp_nar .boolean ((1 : Int32)))) o 24) + (1 : Int32))) o 33 = q_R (S) o 33 := (Eq.trans q_skRI (Eq.trans q_skRI (Eq.trans (q_leR eS246) (Eq.trans q_skRI (Eq.trans q_skRI (Eq.trans (q_leR eS223) (Eq.trans q_skRI (Eq.trans q_skRI (Eq.trans (q_unR h90.1 mo ro (by decide)) (q_unR h32.1 mo ro (by decide)))))))))))
                have t313 := g_45_R34 hG mo ro
                have e314 : q_R (q_sI (q_sI (S246) a5 (q_I (S246) o 24).toNatClampNeg (vp_nar .boolean ((1 : Int32)))) o 24 ((q_I (q_sI (S246) a5 (q_I (S246) o 24).toNatClampNeg (vp_nar .boolean ((1 : Int32)))) o 24) + (1 : Int32))) o 34 = q_R (S) o 34 := (Eq.trans q_skRI (Eq.trans q_skRI (Eq.trans (q_leR eS246) (Eq.trans q_skRI (Eq.trans q_skRI (Eq.trans (q_leR eS223) (Eq.trans q_skRI (Eq.trans q_skRI (Eq.trans (q_unR h90.1 mo ro (by decide)) (q_unR h32.1 mo ro (by decide)))))))))))
                exact q_ok_some ⟨hG, (q_wd (show (1 : Int) ≤ (1 : Int32).toInt ∧ (1 : Int32).toInt ≤ (1 : Int) by decide) (by decide) (by decide)), (q_smI ⟨(q_N3xI (Eq.trans e292 ea16) (Eq.trans e294 (Eq.trans e270 (Eq.trans e237 ea18))) (Eq.trans e296 (Eq.trans e274 (Eq.trans e227 ea20))) (q_N3c n289 (q_bw2 (fun x0 x1 => x0 = x1) ev299 ev24 (by omega)) rfl)), (q_bw3 (fun x0 x1 x2 => x0 = 0 → x1 = x2) (show q_eqv ((1 : Int32)).toInt (1) by unfold q_eqv; decide) ev303 ev13 (by omega)), (q_bw3 (fun x0 x1 x2 => x0 = 1 → x1 = x2 + 1) (show q_eqv ((1 : Int32)).toInt (1) by unfold q_eqv; decide) ev303 ev13 (by omega)), (q_efxI (Eq.trans e306 (Eq.trans e216 ea3)) (Eq.trans e308 (Eq.trans e250 ea5)) (Eq.trans e310 ea7) (Eq.trans e312 ea9) (Eq.trans e314 ea11) n290)⟩)⟩
          · have f315 := q_neV ev96 (show q_eqv ((0 : Int32)).toInt (0) by unfold q_eqv; decide) (q_n_eq g118)
            unfold m_X12_enter_52
            unfold m_X12_enter_53
            refine q_ok_ite (fun g316 => ?_) (fun g316 => ?_)
            · have f317 := q_eqV (show q_eqv ((0 : Int32)).toInt (0) by unfold q_eqv; decide) (show q_eqv ((0 : Int32)).toInt (0) by unfold q_eqv; decide) (q_p_eq g316)
              unfold m_X12_enter_131
              refine q_ok_ite (fun g318 => ?_) (fun g318 => ?_)
              · have f319 := q_eqV (show q_eqv ((0 : Int32)).toInt (0) by unfold q_eqv; decide) (show q_eqv ((0 : Int32)).toInt (0) by unfold q_eqv; decide) (q_p_eq g318)
                unfold m_X12_enter_143
                refine q_ok_atS hG (q_trI mo ro) rfl (fun mo ro => ?_)
                refine q_ok_b (s_X12_tell_45 hn hG.1 mo ro (q_wd (show (1 : Int) ≤ (1 : Int32).toInt ∧ (1 : Int32).toInt ≤ (1 : Int) by decide) (by decide) (by decide)) (q_wd hp0 (by decide) (by decide))) (fun r320 S321 h322 => ?_)
                have hG := q_G_call hG h322 (by decide)
                have n323 := q_N3U h322 mo ro ma16 ra16 ma18 ra18 ma20 ra20 rfl rfl rfl rfl rfl rfl n93
                have n324 := q_efU h322 ma3 ra3 ma5 ra5 ma7 ra7 ma9 ra9 ma11 ra11 rfl rfl rfl rfl rfl n94
                unfold m_X12_enter_149
                refine q_ok_if (q_b01V (show q_eqv ((0 : Int32)).toInt (0) by unfold q_eqv; decide) (by omega) (by omega)) ?_
                have t325 := g_45_R19 hG mo ro
                have e326 : q_R (S321) o 19 = q_R (S) o 19 := (Eq.trans (q_unR h322 mo ro (by decide)) (Eq.trans (q_unR h90.1 mo ro (by decide)) (q_unR h32.1 mo ro (by decide))))
                have t327 := g_45_R28 hG mo ro
                have e328 : q_R (S321) o 28 = q_R (S) o 28 := (Eq.trans (q_unR h322 mo ro (by decide)) (Eq.trans (q_unR h90.1 mo ro (by decide)) (q_unR h32.1 mo ro (by decide))))
                have t329 := g_45_R27 hG mo ro
                have e330 : q_R (S321) o 27 = q_R (S) o 27 := (Eq.trans (q_unR h322 mo ro (by decide)) (Eq.trans (q_unR h90.1 mo ro (by decide)) (q_unR h32.1 mo ro (by decide))))
                have f331 : q_sm _ := g_45_I18 hG mo ro
                have e332 : q_I (S321) o 18 = q_I (S) o 18 := (Eq.trans (q_unI h322 mo ro (by decide)) (Eq.trans (q_unI h90.1 mo ro (by decide)) (q_unI h32.1 mo ro (by decide))))
                obtain ⟨v333, ev333⟩ := q_ev ((q_I (S321) o 18).toInt)
                have f334 : v333 = v24 := q_eqVI e332 ev333 ev24
                have f335 : q_sm _ := g_45_I24 hG mo ro
                have e336 : q_I (S321) o 24 = q_I (S) o 24 := (Eq.trans (q_unI h322 mo ro (by decide)) (Eq.trans (q_unI h90.1 mo ro (by decide)) (q_unI h32.1 mo ro (by decide))))
                obtain ⟨v337, ev337⟩ := q_ev ((q_I (S321) o 24).toInt)
                have f338 : v337 = v13 := q_eqVI e336 ev337 ev13
                have t339 := g_45_R26 hG mo ro
                have e340 : q_R (S321) o 26 = q_R (S) o 26 := (Eq.trans (q_unR h322 mo ro (by decide)) (Eq.trans (q_unR h90.1 mo ro (by decide)) (q_unR h32.1 mo ro (by decide))))
                have t341 := g_45_R29 hG mo ro
                have e342 : q_R (S321) o 29 = q_R (S) o 29 := (Eq.trans (q_unR h322 mo ro (by decide)) (Eq.trans (q_unR h90.1 mo ro (by decide)) (q_unR h32.1 mo ro (by decide))))
                have t343 := g_45_R32 hG mo ro
                have e344 : q_R (S321) o 32 = q_R (S) o 32 := (Eq.trans (q_unR h322 mo ro (by decide)) (Eq.trans (q_unR h90.1 mo ro (by decide)) (q_unR h32.1 mo ro (by decide))))
                have t345 := g_45_R33 hG mo ro
                have e346 : q_R (S321) o 33 = q_R (S) o 33 := (Eq.trans (q_unR h322 mo ro (by decide)) (Eq.trans (q_unR h90.1 mo ro (by decide)) (q_unR h32.1 mo ro (by decide))))
                have t347 := g_45_R34 hG mo ro
                have e348 : q_R (S321) o 34 = q_R (S) o 34 := (Eq.trans (q_unR h322 mo ro (by decide)) (Eq.trans (q_unR h90.1 mo ro (by decide)) (q_unR h32.1 mo ro (by decide))))
                exact q_ok_some ⟨hG, (q_wd (show (0 : Int) ≤ (0 : Int32).toInt ∧ (0 : Int32).toInt ≤ (0 : Int) by decide) (by decide) (by decide)), (q_smI ⟨(q_N3xI (Eq.trans e326 ea16) (Eq.trans e328 ea18) (Eq.trans e330 ea20) (q_N3c n323 (q_bw2 (fun x0 x1 => x0 = x1) ev333 ev24 (by omega)) rfl)), (q_bw3 (fun x0 x1 x2 => x0 = 0 → x1 = x2) (show q_eqv ((0 : Int32)).toInt (0) by unfold q_eqv; decide) ev337 ev13 (by omega)), (q_bw3 (fun x0 x1 x2 => x0 = 1 → x1 = x2 + 1) (show q_eqv ((0 : Int32)).toInt (0) by unfold q_eqv; decide) ev337 ev13 (by omega)), (q_efxI (Eq.trans e340 ea3) (Eq.trans e342 ea5) (Eq.trans e344 ea7) (Eq.trans e346 ea9) (Eq.trans e348 ea11) n324)⟩)⟩
              · have f349 := q_neV (show q_eqv ((0 : Int32)).toInt (0) by unfold q_eqv; decide) (show q_eqv ((0 : Int32)).toInt (0) by unfold q_eqv; decide) (q_n_eq g318)
                exfalso; omega
            · have f350 := q_neV (show q_eqv ((0 : Int32)).toInt (0) by unfold q_eqv; decide) (show q_eqv ((0 : Int32)).toInt (0) by unfold q_eqv; decide) (q_n_eq g316)
              exfalso; omega
    · have f351 := q_neV ev81 (show q_eqv ((0 : Int32)).toInt (0) by unfold q_eqv; decide) (q_n_eq g83)
      refine q_ok_if (q_b01V (show q_eqv ((0 : Int32)).toInt (0) by unfold q_eqv; decide) (by omega) (by omega)) ?_
      have t352 := g_45_R19 hG mo ro
      have e353 : q_R (S31) o 19 = q_R (S) o 19 := (q_unR h32.1 mo ro (by decide))
      have t354 := g_45_R28 hG mo ro
      have e355 : q_R (S31) o 28 = q_R (S) o 28 := (q_unR h32.1 mo ro (by decide))
      have t356 := g_45_R27 hG mo ro
      have e357 : q_R (S31) o 27 = q_R (S) o 27 := (q_unR h32.1 mo ro (by decide))
      have f358 : q_sm _ := g_45_I18 hG mo ro
      have e359 : q_I (S31) o 18 = q_I (S) o 18 := (q_unI h32.1 mo ro (by decide))
      obtain ⟨v360, ev360⟩ := q_ev ((q_I (S31) o 18).toInt)
      have f361 : v360 = v24 := q_eqVI e359 ev360 ev24
      have f362 : q_sm _ := g_45_I24 hG mo ro
      have e363 : q_I (S31) o 24 = q_I (S) o 24 := (q_unI h32.1 mo ro (by decide))
      obtain ⟨v364, ev364⟩ := q_ev ((q_I (S31) o 24).toInt)
      have f365 : v364 = v13 := q_eqVI e363 ev364 ev13
      have t366 := g_45_R26 hG mo ro
      have e367 : q_R (S31) o 26 = q_R (S) o 26 := (q_unR h32.1 mo ro (by decide))
      have t368 := g_45_R29 hG mo ro
      have e369 : q_R (S31) o 29 = q_R (S) o 29 := (q_unR h32.1 mo ro (by decide))
      have t370 := g_45_R32 hG mo ro
      have e371 : q_R (S31) o 32 = q_R (S) o 32 := (q_unR h32.1 mo ro (by decide))
      have t372 := g_45_R33 hG mo ro
      have e373 : q_R (S31) o 33 = q_R (S) o 33 := (q_unR h32.1 mo ro (by decide))
      have t374 := g_45_R34 hG mo ro
      have e375 : q_R (S31) o 34 = q_R (S) o 34 := (q_unR h32.1 mo ro (by decide))
      exact q_ok_some ⟨hG, (q_wd (show (0 : Int) ≤ (0 : Int32).toInt ∧ (0 : Int32).toInt ≤ (0 : Int) by decide) (by decide) (by decide)), (q_smI ⟨(q_N3xI (Eq.trans e353 ea16) (Eq.trans e355 ea18) (Eq.trans e357 ea20) (q_N3c n34 (q_bw2 (fun x0 x1 => x0 = x1) ev360 ev24 (by omega)) rfl)), (q_bw3 (fun x0 x1 x2 => x0 = 0 → x1 = x2) (show q_eqv ((0 : Int32)).toInt (0) by unfold q_eqv; decide) ev364 ev13 (by omega)), (q_bw3 (fun x0 x1 x2 => x0 = 1 → x1 = x2 + 1) (show q_eqv ((0 : Int32)).toInt (0) by unfold q_eqv; decide) ev364 ev13 (by omega)), (q_efxI (Eq.trans e367 ea3) (Eq.trans e369 ea5) (Eq.trans e371 ea7) (Eq.trans e373 ea9) (Eq.trans e375 ea11) n35)⟩)⟩
