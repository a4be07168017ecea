def M_X12_addSimple_45 : List Nat := [2888, 2894, 2898, 2922, 3520, 3584, 3648, 3712, 3776]
set_option maxHeartbeats 4000000 in
set_option maxRecDepth 100000 in
theorem s_X12_addSimple_45_412 {ρ : Nat → Nat} {L : List Nat} {n : Nat} (hn : 18446744073709551616 ≤ n) {S0 : q_S} {o : Nat} (mo : o ∈ L) (ro : ρ o = 45) {p0 : Int32}  : ∀ (k : Nat) (S : q_S) (l2 : Int32) (l4 : Int32) (l5 : Int32) (l6 : Int32) (l8 : Int32) (l9 : Int32), q_G ρ L M_X12_addSimple_45 S0 S → (0 ≤ l2.toInt ∧ l2.toInt ≤ 70000) → (0 ≤ l4.toInt ∧ l4.toInt ≤ 120) → (0 ≤ l5.toInt ∧ l5.toInt ≤ 120) → (0 ≤ l6.toInt ∧ l6.toInt ≤ 1) → (0 ≤ l9.toInt ∧ l9.toInt ≤ 120) → (q_N3x S o (l4).toInt (l5).toInt) → ((l6).toInt = 1 → (q_I S o 8).toInt = 0) → ((l6).toInt = 1 → (l2).toInt ≤ 1601) → ((q_I S o 14).toInt + (l5).toInt ≤ 120) → 2147483648 - l9.toInt ≤ (k : Int) → q_ok (m_X12_addSimple_412 n k S (some o) l2 l4 l5 l6 l8 l9) (fun r T => q_G ρ L M_X12_addSimple_45 S0 T ∧ (0 ≤ r.toInt ∧ r.toInt ≤ 1) ∧ q_sm ((q_N3x T o (q_I T o 18).toInt 0))) := by
  intro k
  induction k with
  | zero =>
    intro S l2 l4 l5 l6 l8 l9 hG hl2 hl4 hl5 hl6 hl9 hf0 hf1 hf2 hf3 hm
    have f0 := q_rngI l9
    exfalso; omega
  | succ k ih =>
    intro S l2 l4 l5 l6 l8 l9 hG hl2 hl4 hl5 hl6 hl9 hf0 hf1 hf2 hf3 hm
    rw [m_X12_addSimple_412]
    have z0 : (0 : Int32).toInt = 0 := rfl
    have t1 := g_45_R19 hG mo ro
    obtain ⟨a2, ea2, ma2, ra2⟩ := id t1
    have t3 := g_45_R28 hG mo ro
    obtain ⟨a4, ea4, ma4, ra4⟩ := id t3
    have t5 := g_45_R27 hG mo ro
    obtain ⟨a6, ea6, ma6, ra6⟩ := id t5
    have n7 := hf0 _ _ _ ea2 ea4 ea6
    have f8 : q_sm _ := g_45_I18 hG mo ro
    have f9 : q_sm _ := g_45_I14 hG mo ro
    obtain ⟨v10, ev10⟩ := q_ev ((q_I (S) o 18).toInt)
    have f11 := q_bV ev10 f8
    obtain ⟨v12, ev12⟩ := q_ev ((q_I (S) o 14).toInt)
    have f13 := q_bV ev12 f9
    have f14 : 0 ≤ l4.toInt ∧ l4.toInt ≤ v10 ∧ v10 ≤ l4.toInt + (l5.toInt) ∧ l4.toInt ≤ v12 := q_to4 (fun x0 x1 x2 x3 => 0 ≤ x0 ∧ x0 ≤ x1 ∧ x1 ≤ x0 + (x2) ∧ x0 ≤ x3) q_evr ev10 q_evr ev12 (q_N3lin n7)
    have f15 : q_sm _ := g_45_I8 hG mo ro
    obtain ⟨v16, ev16⟩ := q_ev ((q_I (S) o 8).toInt)
    have f17 := q_bV ev16 f15
    have f18 : l6.toInt = 1 → v16 = 0 := q_to2 (fun x0 x1 => x0 = 1 → x1 = 0) q_evr ev16 hf1
    have f19 : l6.toInt = 1 → l2.toInt ≤ 1601 := q_to2 (fun x0 x1 => x0 = 1 → x1 ≤ 1601) q_evr q_evr hf2
    have f20 : v12 + l5.toInt ≤ 120 := q_to2 (fun x0 x1 => x0 + x1 ≤ 120) ev12 q_evr hf3
    refine q_ok_ite (fun g21 => ?_) (fun g21 => ?_)
    · have f22 := q_leV q_evr q_evr (q_p_ge g21)
      unfold m_X12_addSimple_493
      refine q_ok_ite (fun g23 => ?_) (fun g23 => ?_)
      · have f24 := q_eqV q_evr (show q_eqv ((0 : Int32)).toInt (0) by unfold q_eqv; decide) (q_p_eq g23)
        refine q_ok_atS hG (q_trI mo ro) rfl (fun mo ro => ?_)
        have hG := u_45_I18 (x := l4) hG mo ro (by decide) (q_wd hl4 (by decide) (by decide))
        have f25 : q_sm _ := g_45_I24 hG mo ro
        have n26 : q_N3 (q_sI (S) o 18 (l4)) o a2 a4 a6 _ _ := q_N3no ro ra2 ra4 ra6 n7 (q_bw2 (fun x0 x1 => x0 = x1) q_evr q_evr (by omega))
        refine q_ok_if (q_b01V (show q_eqv ((0 : Int32)).toInt (0) by unfold q_eqv; decide) (by omega) (by omega)) ?_
        have t27 := g_45_R19 hG mo ro
        have e28 : q_R (q_sI (S) o 18 (l4)) o 19 = q_R (S) o 19 := q_skRI
        have t29 := g_45_R28 hG mo ro
        have e30 : q_R (q_sI (S) o 18 (l4)) o 28 = q_R (S) o 28 := q_skRI
        have t31 := g_45_R27 hG mo ro
        have e32 : q_R (q_sI (S) o 18 (l4)) o 27 = q_R (S) o 27 := q_skRI
        have f33 : q_sm _ := g_45_I18 hG mo ro
        have e34 : q_I (q_sI (S) o 18 (l4)) o 18 = l4 := q_hitI
        obtain ⟨v35, ev35⟩ := q_ev ((q_I (q_sI (S) o 18 (l4)) o 18).toInt)
        have f36 : v35 = l4.toInt := q_eqVI e34 ev35 q_evr
        exact q_ok_some ⟨hG, (q_wd (show (0 : Int) ≤ (0 : Int32).toInt ∧ (0 : Int32).toInt ≤ (0 : Int) by decide) (by decide) (by decide)), (q_smI (q_N3xI (Eq.trans e28 ea2) (Eq.trans e30 ea4) (Eq.trans e32 ea6) (q_N3c n26 (q_bw2 (fun x0 x1 => x0 = x1) ev35 q_evr (by omega)) rfl)))⟩
      · have f37 := q_neV q_evr (show q_eqv ((0 : Int32)).toInt (0) by unfold q_eqv; decide) (q_n_eq g23)
        refine q_ok_atS hG (q_trI mo ro) rfl (fun mo ro => ?_)
        obtain ⟨v38, ev38⟩ := q_ev (((q_I (S) o 14) + l5).toInt)
        have f39 : v38 = v12 + l5.toInt := q_addVI ev38 ev12 q_evr (by omega) (by omega)
        have hG := u_45_I14 (x := (q_I (S) o 14) + l5) hG mo ro (by decide) (q_oV ev38 (by omega) (by omega))
        have f40 : q_sm _ := g_45_I24 hG mo ro
        have n41 : q_N3 (q_sI (S) o 14 ((q_I (S) o 14) + l5)) o a2 a4 a6 _ _ := q_N3ok ro ra2 ra4 ra6 n7 (q_bw3 (fun x0 x1 x2 => x0 = x1 + (x2)) ev38 ev12 q_evr (by omega))
        refine q_ok_if (q_b01V (show q_eqv ((1 : Int32)).toInt (1) by unfold q_eqv; decide) (by omega) (by omega)) ?_
        have t42 := g_45_R19 hG mo ro
        have e43 : q_R (q_sI (S) o 14 ((q_I (S) o 14) + l5)) o 19 = q_R (S) o 19 := q_skRI
        have t44 := g_45_R28 hG mo ro
        have e45 : q_R (q_sI (S) o 14 ((q_I (S) o 14) + l5)) o 28 = q_R (S) o 28 := q_skRI
        have t46 := g_45_R27 hG mo ro
        have e47 : q_R (q_sI (S) o 14 ((q_I (S) o 14) + l5)) o 27 = q_R (S) o 27 := q_skRI
        have f48 : q_sm _ := g_45_I18 hG mo ro
        have e49 : q_I (q_sI (S) o 14 ((q_I (S) o 14) + l5)) o 18 = q_I (S) o 18 := (q_ffI (by decide))
        obtain ⟨v50, ev50⟩ := q_ev ((q_I (q_sI (S) o 14 ((q_I (S) o 14) + l5)) o 18).toInt)
        have f51 : v50 = v10 := q_eqVI e49 ev50 ev10
        exact q_ok_some ⟨hG, (q_wd (show (1 : Int) ≤ (1 : Int32).toInt ∧ (1 : Int32).toInt ≤ (1 : Int) by decide) (by decide) (by decide)), (q_smI (q_N3xI (Eq.trans e43 ea2) (Eq.trans e45 ea4) (Eq.trans e47 ea6) (q_N3c n41 (q_bw2 (fun x0 x1 => x0 = x1) ev50 ev10 (by omega)) rfl)))⟩
    · have f52 := q_ltV q_evr q_evr (q_n_ge g21)
      refine q_ok_ite (fun g53 => ?_) (fun g53 => ?_)
      · have f54 := q_eqV q_evr (show q_eqv ((0 : Int32)).toInt (0) by unfold q_eqv; decide) (q_p_eq g53)
        unfold m_X12_addSimple_493
        refine q_ok_ite (fun g55 => ?_) (fun g55 => ?_)
        · have f56 := q_eqV q_evr (show q_eqv ((0 : Int32)).toInt (0) by unfold q_eqv; decide) (q_p_eq g55)
          refine q_ok_atS hG (q_trI mo ro) rfl (fun mo ro => ?_)
          have hG := u_45_I18 (x := l4) hG mo ro (by decide) (q_wd hl4 (by decide) (by decide))
          have f57 : q_sm _ := g_45_I24 hG mo ro
          have n58 : q_N3 (q_sI (S) o 18 (l4)) o a2 a4 a6 _ _ := q_N3no ro ra2 ra4 ra6 n7 (q_bw2 (fun x0 x1 => x0 = x1) q_evr q_evr (by omega))
          refine q_ok_if (q_b01V (show q_eqv ((0 : Int32)).toInt (0) by unfold q_eqv; decide) (by omega) (by omega)) ?_
          have t59 := g_45_R19 hG mo ro
          have e60 : q_R (q_sI (S) o 18 (l4)) o 19 = q_R (S) o 19 := q_skRI
          have t61 := g_45_R28 hG mo ro
          have e62 : q_R (q_sI (S) o 18 (l4)) o 28 = q_R (S) o 28 := q_skRI
          have t63 := g_45_R27 hG mo ro
          have e64 : q_R (q_sI (S) o 18 (l4)) o 27 = q_R (S) o 27 := q_skRI
          have f65 : q_sm _ := g_45_I18 hG mo ro
          have e66 : q_I (q_sI (S) o 18 (l4)) o 18 = l4 := q_hitI
          obtain ⟨v67, ev67⟩ := q_ev ((q_I (q_sI (S) o 18 (l4)) o 18).toInt)
          have f68 : v67 = l4.toInt := q_eqVI e66 ev67 q_evr
          exact q_ok_some ⟨hG, (q_wd (show (0 : Int) ≤ (0 : Int32).toInt ∧ (0 : Int32).toInt ≤ (0 : Int) by decide) (by decide) (by decide)), (q_smI (q_N3xI (Eq.trans e60 ea2) (Eq.trans e62 ea4) (Eq.trans e64 ea6) (q_N3c n58 (q_bw2 (fun x0 x1 => x0 = x1) ev67 q_evr (by omega)) rfl)))⟩
        · have f69 := q_neV q_evr (show q_eqv ((0 : Int32)).toInt (0) by unfold q_eqv; decide) (q_n_eq g55)
          exfalso; omega
      · have f70 := q_neV q_evr (show q_eqv ((0 : Int32)).toInt (0) by unfold q_eqv; decide) (q_n_eq g53)
        refine q_ok_atS hG (q_trI mo ro) rfl (fun mo ro => ?_)
        refine q_ok_b (s_X12_addOne_45 hn hG.1 mo ro (q_oV q_evr (by omega) (by omega)) (q_wd hl2 (by decide) (by decide)) (q_wd (show (4 : Int) ≤ (4 : Int32).toInt ∧ (4 : Int32).toInt ≤ (4 : Int) by decide) (by decide) (by decide)) (q_wd (show (32 : Int) ≤ (32 : Int32).toInt ∧ (32 : Int32).toInt ≤ (32 : Int) by decide) (by decide) (by decide))) (fun r71 S72 h73 => ?_)
        have hG := q_G_call hG h73.1 (by decide)
        have f74 := h73.2.1
        have n75 := q_N3U h73.1 mo ro ma2 ra2 ma4 ra4 ma6 ra6 rfl rfl rfl rfl rfl rfl n7
        have f76 : q_sm _ := g_45_I8 hG mo ro
        obtain ⟨v77, ev77⟩ := q_ev ((q_I (S72) o 8).toInt)
        have f78 := q_bV ev77 f76
        have f79 : v77 = 0 → v16 = 0 := q_to2 (fun x0 x1 => x0 = 0 → x1 = 0) ev77 ev16 ((q_smE (h73.2.2)).1)
        have f80 : q_sm _ := g_45_I21 hG mo ro
        have f81 : q_sm _ := g_45_I22 hG mo ro
        obtain ⟨v82, ev82⟩ := q_ev ((q_I (S72) o 21).toInt)
        have f83 := q_bV ev82 f80
        obtain ⟨v84, ev84⟩ := q_ev ((q_I (S72) o 22).toInt)
        have f85 := q_bV ev84 f81
        have f86 : v77 = 0 → r71.toInt = 0 ∨ v82 + l2.toInt + r71.toInt ≤ v84 := q_to5 (fun x0 x1 x2 x3 x4 => x0 = 0 → x1 = 0 ∨ x2 + x3 + x1 ≤ x4) ev77 q_evr ev82 q_evr ev84 ((q_smE (h73.2.2)).2)
        refine q_ok_atS hG (q_trI mo ro) rfl (fun mo ro => ?_)
        refine q_ok_ite (fun g87 => ?_) (fun g87 => ?_)
        · have f88 := q_eqV ev77 (show q_eqv ((0 : Int32)).toInt (0) by unfold q_eqv; decide) (q_p_eq g87)
          unfold m_X12_addSimple_451
          refine q_ok_ite (fun g89 => ?_) (fun g89 => ?_)
          · have f90 := q_eqV (show q_eqv ((1 : Int32)).toInt (1) by unfold q_eqv; decide) (show q_eqv ((0 : Int32)).toInt (0) by unfold q_eqv; decide) (q_p_eq g89)
            exfalso; omega
          · have f91 := q_neV (show q_eqv ((1 : Int32)).toInt (1) by unfold q_eqv; decide) (show q_eqv ((0 : Int32)).toInt (0) by unfold q_eqv; decide) (q_n_eq g89)
            refine q_ok_atS hG (q_trI mo ro) rfl (fun mo ro => ?_)
            unfold m_X12_addSimple_466
            refine q_ok_ite (fun g92 => ?_) (fun g92 => ?_)
            · have f93 := q_eqV (show q_eqv ((1 : Int32)).toInt (1) by unfold q_eqv; decide) (show q_eqv ((0 : Int32)).toInt (0) by unfold q_eqv; decide) (q_p_eq g92)
              exfalso; omega
            · have f94 := q_neV (show q_eqv ((1 : Int32)).toInt (1) by unfold q_eqv; decide) (show q_eqv ((0 : Int32)).toInt (0) by unfold q_eqv; decide) (q_n_eq g92)
              refine q_ok_atS hG (q_trI mo ro) rfl (fun mo ro => ?_)
              have t95 := g_45_R16 hG mo ro
              have f96 : q_sm _ := g_45_I14 hG mo ro
              have e97 : q_I (S72) o 14 = q_I (S) o 14 := (q_unI h73.1 mo ro (by decide))
              refine q_ok_at hG t95 rfl (fun a98 ma98 ra98 ea98 => ?_)
              obtain ⟨v99, ev99⟩ := q_ev (((q_I (S72) o 14) + l9).toInt)
              obtain ⟨v100, ev100⟩ := q_ev ((q_I (S72) o 14).toInt)
              have f101 : v100 = v12 := q_eqVI e97 ev100 ev12
              have f102 : v99 = v100 + l9.toInt := q_addVI ev99 ev100 q_evr (by omega) (by omega)
              refine q_ok_if (q_inV (g_56_N hG ma98 ra98) ev99 (by omega) (by omega)) ?_
              have hG := u_56_E (k := ((q_I (S72) o 14) + l9).toNatClampNeg) (x := q_I (S72) o 42) hG ma98 ra98 (by decide)
              have n103 : q_N3 (q_sI (S72) a98 ((q_I (S72) o 14) + l9).toNatClampNeg (q_I (S72) o 42)) o a2 a4 a6 _ _ := q_N3I ro ra98 ra2 ra4 ra6 (by decide) (by decide) (by decide) (by decide) n75
              unfold m_X12_addSimple_487
              obtain ⟨v104, ev104⟩ := q_ev ((l2 + r71).toInt)
              have f105 : v104 = l2.toInt + r71.toInt := q_addVI ev104 q_evr q_evr (by omega) (by omega)
              obtain ⟨v106, ev106⟩ := q_ev ((l9 + (1)).toInt)
              have f107 : v106 = l9.toInt + (1) := q_addVI ev106 q_evr (show q_eqv ((1 : Int32)).toInt (1) by unfold q_eqv; decide) (by omega) (by omega)
              have t108 := g_45_R19 hG mo ro
              have e109 : q_R (q_sI (S72) a98 ((q_I (S72) o 14) + l9).toNatClampNeg (q_I (S72) o 42)) o 19 = q_R (S) o 19 := (Eq.trans q_skRI (q_unR h73.1 mo ro (by decide)))
              have t110 := g_45_R28 hG mo ro
              have e111 : q_R (q_sI (S72) a98 ((q_I (S72) o 14) + l9).toNatClampNeg (q_I (S72) o 42)) o 28 = q_R (S) o 28 := (Eq.trans q_skRI (q_unR h73.1 mo ro (by decide)))
              have t112 := g_45_R27 hG mo ro
              have e113 : q_R (q_sI (S72) a98 ((q_I (S72) o 14) + l9).toNatClampNeg (q_I (S72) o 42)) o 27 = q_R (S) o 27 := (Eq.trans q_skRI (q_unR h73.1 mo ro (by decide)))
              have f114 : q_sm _ := g_45_I8 hG mo ro
              have e115 : q_I (q_sI (S72) a98 ((q_I (S72) o 14) + l9).toNatClampNeg (q_I (S72) o 42)) o 8 = q_I (S72) o 8 := (q_fwI ro ra98 (by decide))
              obtain ⟨v116, ev116⟩ := q_ev ((q_I (q_sI (S72) a98 ((q_I (S72) o 14) + l9).toNatClampNeg (q_I (S72) o 42)) o 8).toInt)
              have f117 : v116 = v77 := q_eqVI e115 ev116 ev77
              have f118 : q_sm _ := g_45_I14 hG mo ro
              have e119 : q_I (q_sI (S72) a98 ((q_I (S72) o 14) + l9).toNatClampNeg (q_I (S72) o 42)) o 14 = q_I (S72) o 14 := (q_fwI ro ra98 (by decide))
              obtain ⟨v120, ev120⟩ := q_ev ((q_I (q_sI (S72) a98 ((q_I (S72) o 14) + l9).toNatClampNeg (q_I (S72) o 42)) o 14).toInt)
              have f121 : v120 = v100 := q_eqVI e119 ev120 ev100
              exact ih _ _ _ _ _ _ _ hG (q_oV ev104 (by omega) (by omega)) (q_wd hl4 (by decide) (by decide)) (q_wd hl5 (by decide) (by decide)) (q_wd (show (1 : Int) ≤ (1 : Int32).toInt ∧ (1 : Int32).toInt ≤ (1 : Int) by decide) (by decide) (by decide)) (q_oV ev106 (by omega) (by omega)) (q_N3xI (Eq.trans e109 ea2) (Eq.trans e111 ea4) (Eq.trans e113 ea6) (q_N3c n103 (q_bw2 (fun x0 x1 => x0 = x1) q_evr q_evr (by omega)) (q_bw2 (fun x0 x1 => x0 = x1) q_evr q_evr (by omega)))) (q_bw2 (fun x0 x1 => x0 = 1 → x1 = 0) (show q_eqv ((1 : Int32)).toInt (1) by unfold q_eqv; decide) ev116 (by omega)) (q_bw2 (fun x0 x1 => x0 = 1 → x1 ≤ 1601) (show q_eqv ((1 : Int32)).toInt (1) by unfold q_eqv; decide) ev104 (by omega)) (q_bw2 (fun x0 x1 => x0 + x1 ≤ 120) ev120 q_evr (by omega))  (q_upV ev106 (by omega))
        · have f122 := q_neV ev77 (show q_eqv ((0 : Int32)).toInt (0) by unfold q_eqv; decide) (q_n_eq g87)
          unfold m_X12_addSimple_451
          refine q_ok_ite (fun g123 => ?_) (fun g123 => ?_)
          · have f124 := q_eqV (show q_eqv ((0 : Int32)).toInt (0) by unfold q_eqv; decide) (show q_eqv ((0 : Int32)).toInt (0) by unfold q_eqv; decide) (q_p_eq g123)
            unfold m_X12_addSimple_466
            refine q_ok_ite (fun g125 => ?_) (fun g125 => ?_)
            · have f126 := q_eqV (show q_eqv ((0 : Int32)).toInt (0) by unfold q_eqv; decide) (show q_eqv ((0 : Int32)).toInt (0) by unfold q_eqv; decide) (q_p_eq g125)
              unfold m_X12_addSimple_487
              obtain ⟨v127, ev127⟩ := q_ev ((l2 + r71).toInt)
              have f128 : v127 = l2.toInt + r71.toInt := q_addVI ev127 q_evr q_evr (by omega) (by omega)
              obtain ⟨v129, ev129⟩ := q_ev ((l9 + (1)).toInt)
              have f130 : v129 = l9.toInt + (1) := q_addVI ev129 q_evr (show q_eqv ((1 : Int32)).toInt (1) by unfold q_eqv; decide) (by omega) (by omega)
              have t131 := g_45_R19 hG mo ro
              have e132 : q_R (S72) o 19 = q_R (S) o 19 := (q_unR h73.1 mo ro (by decide))
              have t133 := g_45_R28 hG mo ro
              have e134 : q_R (S72) o 28 = q_R (S) o 28 := (q_unR h73.1 mo ro (by decide))
              have t135 := g_45_R27 hG mo ro
              have e136 : q_R (S72) o 27 = q_R (S) o 27 := (q_unR h73.1 mo ro (by decide))
              have f137 : q_sm _ := g_45_I14 hG mo ro
              have e138 : q_I (S72) o 14 = q_I (S) o 14 := (q_unI h73.1 mo ro (by decide))
              obtain ⟨v139, ev139⟩ := q_ev ((q_I (S72) o 14).toInt)
              have f140 : v139 = v12 := q_eqVI e138 ev139 ev12
              exact ih _ _ _ _ _ _ _ hG (q_oV ev127 (by omega) (by omega)) (q_wd hl4 (by decide) (by decide)) (q_wd hl5 (by decide) (by decide)) (q_wd (show (0 : Int) ≤ (0 : Int32).toInt ∧ (0 : Int32).toInt ≤ (0 : Int) by decide) (by decide) (by decide)) (q_oV ev129 (by omega) (by omega)) (q_N3xI (Eq.trans e132 ea2) (Eq.trans e134 ea4) (Eq.trans e136 ea6) (q_N3c n75 (q_bw2 (fun x0 x1 => x0 = x1) q_evr q_evr (by omega)) (q_bw2 (fun x0 x1 => x0 = x1) q_evr q_evr (by omega)))) (q_bw2 (fun x0 x1 => x0 = 1 → x1 = 0) (show q_eqv ((0 : Int32)).toInt (0) by unfold q_eqv; decide) ev77 (by omega)) (q_bw2 (fun x0 x1 => x0 = 1 → x1 ≤ 1601) (show q_eqv ((0 : Int32)).toInt (0) by unfold q_eqv; decide) ev127 (by omega)) (q_bw2 (fun x0 x1 => x0 + x1 ≤ 120) ev139 q_evr (by omega))  (q_upV ev129 (by omega))
            · have f141 := q_neV (show q_eqv ((0 : Int32)).toInt (0) by unfold q_eqv; decide) (show q_eqv ((0 : Int32)).toInt (0) by unfold q_eqv; decide) (q_n_eq g125)
              exfalso; omega
          · have f142 := q_neV (show q_eqv ((0 : Int32)).toInt (0) by unfold q_eqv; decide) (show q_eqv ((0 : Int32)).toInt (0) by unfold q_eqv; decide) (q_n_eq g123)
            exfalso; omega
set_option maxHeartbeats 4000000 in
set_option maxRecDepth 100000 in
theorem s_X12_addSimple_45_296 {ρ : Nat → Nat} {L : List Nat} {n : Nat} (hn : 18446744073709551616 ≤ n) {S0 : q_S} {o : Nat} (mo : o ∈ L) (ro : ρ o = 45) {p0 : Int32}  : ∀ (k : Nat) (S : q_S) (l2 : Int32) (l4 : Int32) (l5 : Int32) (l6 : Int32) (l8 : Int32) (l9 : Int32), q_G ρ L M_X12_addSimple_45 S0 S → (0 ≤ l2.toInt ∧ l2.toInt ≤ 70000) → (0 ≤ l4.toInt ∧ l4.toInt ≤ 120) → (0 ≤ l5.toInt ∧ l5.toInt ≤ 120) → (0 ≤ l6.toInt ∧ l6.toInt ≤ 1) → (0 ≤ l9.toInt ∧ l9.toInt ≤ 120) → (q_N3x S o (l4).toInt (l5).toInt) → ((l6).toInt = 1 → (q_I S o 8).toInt = 0) → ((l6).toInt = 1 → (l2).toInt ≤ 1601) → ((q_I S o 14).toInt + (l5).toInt ≤ 120) → 2147483648 - l9.toInt ≤ (k : Int) → q_ok (m_X12_addSimple_296 n k S (some o) l2 l4 l5 l6 l8 l9) (fun r T => q_G ρ L M_X12_addSimple_45 S0 T ∧ (0 ≤ r.toInt ∧ r.toInt ≤ 1) ∧ q_sm ((q_N3x T o (q_I T o 18).toInt 0))) := by
  intro k
  induction k with
  | zero =>
    intro S l2 l4 l5 l6 l8 l9 hG hl2 hl4 hl5 hl6 hl9 hf0 hf1 hf2 hf3 hm
    have f0 := q_rngI l9
    exfalso; omega
  | succ k ih =>
    intro S l2 l4 l5 l6 l8 l9 hG hl2 hl4 hl5 hl6 hl9 hf0 hf1 hf2 hf3 hm
    rw [m_X12_addSimple_296]
    have z0 : (0 : Int32).toInt = 0 := rfl
    have t1 := g_45_R19 hG mo ro
    obtain ⟨a2, ea2, ma2, ra2⟩ := id t1
    have t3 := g_45_R28 hG mo ro
    obtain ⟨a4, ea4, ma4, ra4⟩ := id t3
    have t5 := g_45_R27 hG mo ro
    obtain ⟨a6, ea6, ma6, ra6⟩ := id t5
    have n7 := hf0 _ _ _ ea2 ea4 ea6
    have f8 : q_sm _ := g_45_I18 hG mo ro
    have f9 : q_sm _ := g_45_I14 hG mo ro
    obtain ⟨v10, ev10⟩ := q_ev ((q_I (S) o 18).toInt)
    have f11 := q_bV ev10 f8
    obtain ⟨v12, ev12⟩ := q_ev ((q_I (S) o 14).toInt)
    have f13 := q_bV ev12 f9
    have f14 : 0 ≤ l4.toInt ∧ l4.toInt ≤ v10 ∧ v10 ≤ l4.toInt + (l5.toInt) ∧ l4.toInt ≤ v12 := q_to4 (fun x0 x1 x2 x3 => 0 ≤ x0 ∧ x0 ≤ x1 ∧ x1 ≤ x0 + (x2) ∧ x0 ≤ x3) q_evr ev10 q_evr ev12 (q_N3lin n7)
    have f15 : q_sm _ := g_45_I8 hG mo ro
    obtain ⟨v16, ev16⟩ := q_ev ((q_I (S) o 8).toInt)
    have f17 := q_bV ev16 f15
    have f18 : l6.toInt = 1 → v16 = 0 := q_to2 (fun x0 x1 => x0 = 1 → x1 = 0) q_evr ev16 hf1
    have f19 : l6.toInt = 1 → l2.toInt ≤ 1601 := q_to2 (fun x0 x1 => x0 = 1 → x1 ≤ 1601) q_evr q_evr hf2
    have f20 : v12 + l5.toInt ≤ 120 := q_to2 (fun x0 x1 => x0 + x1 ≤ 120) ev12 q_evr hf3
    refine q_ok_ite (fun g21 => ?_) (fun g21 => ?_)
    · have f22 := q_leV q_evr q_evr (q_p_ge g21)
      unfold m_X12_addSimple_406
      have t23 := g_45_R19 hG mo ro
      have t24 := g_45_R28 hG mo ro
      have t25 := g_45_R27 hG mo ro
      exact s_X12_addSimple_45_412 hn mo ro (p0 := p0) n _ _ _ _ _ _ _ hG (q_wd hl2 (by decide) (by decide)) (q_wd hl4 (by decide) (by decide)) (q_wd hl5 (by decide) (by decide)) (q_wd hl6 (by decide) (by decide)) (q_wd (show (0 : Int) ≤ (0 : Int32).toInt ∧ (0 : Int32).toInt ≤ (0 : Int) by decide) (by decide) (by decide)) (q_N3xI ea2 ea4 ea6 (q_N3c n7 (q_bw2 (fun x0 x1 => x0 = x1) q_evr q_evr (by omega)) (q_bw2 (fun x0 x1 => x0 = x1) q_evr q_evr (by omega)))) (q_bw2 (fun x0 x1 => x0 = 1 → x1 = 0) q_evr ev16 (by omega)) (q_bw2 (fun x0 x1 => x0 = 1 → x1 ≤ 1601) q_evr q_evr (by omega)) (q_bw2 (fun x0 x1 => x0 + x1 ≤ 120) ev12 q_evr (by omega))  (q_upV (show q_eqv ((0 : Int32)).toInt (0) by unfold q_eqv; decide) (by omega))
    · have f26 := q_ltV q_evr q_evr (q_n_ge g21)
      refine q_ok_ite (fun g27 => ?_) (fun g27 => ?_)
      · have f28 := q_eqV q_evr (show q_eqv ((0 : Int32)).toInt (0) by unfold q_eqv; decide) (q_p_eq g27)
        unfold m_X12_addSimple_406
        have t29 := g_45_R19 hG mo ro
        have t30 := g_45_R28 hG mo ro
        have t31 := g_45_R27 hG mo ro
        exact s_X12_addSimple_45_412 hn mo ro (p0 := p0) n _ _ _ _ _ _ _ hG (q_wd hl2 (by decide) (by decide)) (q_wd hl4 (by decide) (by decide)) (q_wd hl5 (by decide) (by decide)) (q_wd hl6 (by decide) (by decide)) (q_wd (show (0 : Int) ≤ (0 : Int32).toInt ∧ (0 : Int32).toInt ≤ (0 : Int) by decide) (by decide) (by decide)) (q_N3xI ea2 ea4 ea6 (q_N3c n7 (q_bw2 (fun x0 x1 => x0 = x1) q_evr q_evr (by omega)) (q_bw2 (fun x0 x1 => x0 = x1) q_evr q_evr (by omega)))) (q_bw2 (fun x0 x1 => x0 = 1 → x1 = 0) q_evr ev16 (by omega)) (q_bw2 (fun x0 x1 => x0 = 1 → x1 ≤ 1601) q_evr q_evr (by omega)) (q_bw2 (fun x0 x1 => x0 + x1 ≤ 120) ev12 q_evr (by omega))  (q_upV (show q_eqv ((0 : Int32)).toInt (0) by unfold q_eqv; decide) (by omega))
      · have f32 := q_neV q_evr (show q_eqv ((0 : Int32)).toInt (0) by unfold q_eqv; decide) (q_n_eq g27)
        refine q_ok_atS hG (q_trI mo ro) rfl (fun mo ro => ?_)
        refine q_ok_b (s_X12_addOne_45 hn hG.1 mo ro (q_oV q_evr (by omega) (by omega)) (q_wd hl2 (by decide) (by decide)) (q_wd (show (2 : Int) ≤ (2 : Int32).toInt ∧ (2 : Int32).toInt ≤ (2 : Int) by decide) (by decide) (by decide)) (q_wd (show (16 : Int) ≤ (16 : Int32).toInt ∧ (16 : Int32).toInt ≤ (16 : Int) by decide) (by decide) (by decide))) (fun r33 S34 h35 => ?_)
        have hG := q_G_call hG h35.1 (by decide)
        have f36 := h35.2.1
        have n37 := q_N3U h35.1 mo ro ma2 ra2 ma4 ra4 ma6 ra6 rfl rfl rfl rfl rfl rfl n7
        have f38 : q_sm _ := g_45_I8 hG mo ro
        obtain ⟨v39, ev39⟩ := q_ev ((q_I (S34) o 8).toInt)
        have f40 := q_bV ev39 f38
        have f41 : v39 = 0 → v16 = 0 := q_to2 (fun x0 x1 => x0 = 0 → x1 = 0) ev39 ev16 ((q_smE (h35.2.2)).1)
        have f42 : q_sm _ := g_45_I21 hG mo ro
        have f43 : q_sm _ := g_45_I22 hG mo ro
        obtain ⟨v44, ev44⟩ := q_ev ((q_I (S34) o 21).toInt)
        have f45 := q_bV ev44 f42
        obtain ⟨v46, ev46⟩ := q_ev ((q_I (S34) o 22).toInt)
        have f47 := q_bV ev46 f43
        have f48 : v39 = 0 → r33.toInt = 0 ∨ v44 + l2.toInt + r33.toInt ≤ v46 := q_to5 (fun x0 x1 x2 x3 x4 => x0 = 0 → x1 = 0 ∨ x2 + x3 + x1 ≤ x4) ev39 q_evr ev44 q_evr ev46 ((q_smE (h35.2.2)).2)
        refine q_ok_atS hG (q_trI mo ro) rfl (fun mo ro => ?_)
        refine q_ok_ite (fun g49 => ?_) (fun g49 => ?_)
        · have f50 := q_eqV ev39 (show q_eqv ((0 : Int32)).toInt (0) by unfold q_eqv; decide) (q_p_eq g49)
          unfold m_X12_addSimple_335
          refine q_ok_ite (fun g51 => ?_) (fun g51 => ?_)
          · have f52 := q_eqV (show q_eqv ((1 : Int32)).toInt (1) by unfold q_eqv; decide) (show q_eqv ((0 : Int32)).toInt (0) by unfold q_eqv; decide) (q_p_eq g51)
            exfalso; omega
          · have f53 := q_neV (show q_eqv ((1 : Int32)).toInt (1) by unfold q_eqv; decide) (show q_eqv ((0 : Int32)).toInt (0) by unfold q_eqv; decide) (q_n_eq g51)
            refine q_ok_atS hG (q_trI mo ro) rfl (fun mo ro => ?_)
            unfold m_X12_addSimple_350
            refine q_ok_ite (fun g54 => ?_) (fun g54 => ?_)
            · have f55 := q_eqV (show q_eqv ((1 : Int32)).toInt (1) by unfold q_eqv; decide) (show q_eqv ((0 : Int32)).toInt (0) by unfold q_eqv; decide) (q_p_eq g54)
              exfalso; omega
            · have f56 := q_neV (show q_eqv ((1 : Int32)).toInt (1) by unfold q_eqv; decide) (show q_eqv ((0 : Int32)).toInt (0) by unfold q_eqv; decide) (q_n_eq g54)
              refine q_ok_atS hG (q_trI mo ro) rfl (fun mo ro => ?_)
              have t57 := g_45_R15 hG mo ro
              have f58 : q_sm _ := g_45_I14 hG mo ro
              have e59 : q_I (S34) o 14 = q_I (S) o 14 := (q_unI h35.1 mo ro (by decide))
              refine q_ok_at hG t57 rfl (fun a60 ma60 ra60 ea60 => ?_)
              obtain ⟨v61, ev61⟩ := q_ev (((q_I (S34) o 14) + l9).toInt)
              obtain ⟨v62, ev62⟩ := q_ev ((q_I (S34) o 14).toInt)
              have f63 : v62 = v12 := q_eqVI e59 ev62 ev12
              have f64 : v61 = v62 + l9.toInt := q_addVI ev61 ev62 q_evr (by omega) (by omega)
              refine q_ok_if (q_inV (g_55_N hG ma60 ra60) ev61 (by omega) (by omega)) ?_
              have hG := u_55_E (k := ((q_I (S34) o 14) + l9).toNatClampNeg) (x := q_I (S34) o 42) hG ma60 ra60 (by decide)
              have n65 : q_N3 (q_sI (S34) a60 ((q_I (S34) o 14) + l9).toNatClampNeg (q_I (S34) o 42)) o a2 a4 a6 _ _ := q_N3I ro ra60 ra2 ra4 ra6 (by decide) (by decide) (by decide) (by decide) n37
              have t66 := g_45_R17 hG mo ro
              have f67 : q_sm _ := g_45_I14 hG mo ro
              have e68 : q_I (q_sI (S34) a60 ((q_I (S34) o 14) + l9).toNatClampNeg (q_I (S34) o 42)) o 14 = q_I (S34) o 14 := (q_fwI ro ra60 (by decide))
              have t69 := g_45_R20 hG mo ro
              refine q_ok_at hG t69 rfl (fun a70 ma70 ra70 ea70 => ?_)
              refine q_ok_if (q_inV (g_59_N hG ma70 ra70) q_evr (by omega) (by omega)) ?_
              have f71 : q_sm _ := g_59_E hG ma70 ra70 (k := (l9).toNatClampNeg)
              obtain ⟨v72, ev72⟩ := q_ev (((q_I (q_sI (S34) a60 ((q_I (S34) o 14) + l9).toNatClampNeg (q_I (S34) o 42)) a70 (l9).toNatClampNeg) &&& (1 : Int32)).toInt)
              have f73 := q_andRVI ev72 (show q_eqv ((1 : Int32)).toInt (1) by unfold q_eqv; decide) (by omega)
              refine q_ok_ite (fun g74 => ?_) (fun g74 => ?_)
              · have f75 := q_eqV ev72 (show q_eqv ((0 : Int32)).toInt (0) by unfold q_eqv; decide) (q_p_eq g74)
                unfold m_X12_addSimple_399
                refine q_ok_at hG t66 rfl (fun a76 ma76 ra76 ea76 => ?_)
                obtain ⟨v77, ev77⟩ := q_ev (((q_I (q_sI (S34) a60 ((q_I (S34) o 14) + l9).toNatClampNeg (q_I (S34) o 42)) o 14) + l9).toInt)
                obtain ⟨v78, ev78⟩ := q_ev ((q_I (q_sI (S34) a60 ((q_I (S34) o 14) + l9).toNatClampNeg (q_I (S34) o 42)) o 14).toInt)
                have f79 : v78 = v62 := q_eqVI e68 ev78 ev62
                have f80 : v77 = v78 + l9.toInt := q_addVI ev77 ev78 q_evr (by omega) (by omega)
                refine q_ok_if (q_inV (g_57_N hG ma76 ra76) ev77 (by omega) (by omega)) ?_
                obtain ⟨v81, ev81⟩ := q_ev ((vp_nar .boolean ((0 : Int32))).toInt)
                have f82 : v81 = (0) := q_narV ev81 (show q_eqv ((0 : Int32)).toInt (0) by unfold q_eqv; decide) (by omega) (by omega)
                have hG := u_57_E (k := ((q_I (q_sI (S34) a60 ((q_I (S34) o 14) + l9).toNatClampNeg (q_I (S34) o 42)) o 14) + l9).toNatClampNeg) (x := vp_nar .boolean ((0 : Int32))) hG ma76 ra76 (by decide) (q_oV ev81 (by omega) (by omega))
                have n83 : q_N3 (q_sI (q_sI (S34) a60 ((q_I (S34) o 14) + l9).toNatClampNeg (q_I (S34) o 42)) a76 ((q_I (q_sI (S34) a60 ((q_I (S34) o 14) + l9).toNatClampNeg (q_I (S34) o 42)) o 14) + l9).toNatClampNeg (vp_nar .boolean ((0 : Int32)))) o a2 a4 a6 _ _ := q_N3I ro ra76 ra2 ra4 ra6 (by decide) (by decide) (by decide) (by decide) n65
                unfold m_X12_addSimple_400
                obtain ⟨v84, ev84⟩ := q_ev ((l2 + r33).toInt)
                have f85 : v84 = l2.toInt + r33.toInt := q_addVI ev84 q_evr q_evr (by omega) (by omega)
                obtain ⟨v86, ev86⟩ := q_ev ((l9 + (1)).toInt)
                have f87 : v86 = l9.toInt + (1) := q_addVI ev86 q_evr (show q_eqv ((1 : Int32)).toInt (1) by unfold q_eqv; decide) (by omega) (by omega)
                have t88 := g_45_R19 hG mo ro
                have e89 : q_R (q_sI (q_sI (S34) a60 ((q_I (S34) o 14) + l9).toNatClampNeg (q_I (S34) o 42)) a76 ((q_I (q_sI (S34) a60 ((q_I (S34) o 14) + l9).toNatClampNeg (q_I (S34) o 42)) o 14) + l9).toNatClampNeg (vp_nar .boolean ((0 : Int32)))) o 19 = q_R (S) o 19 := (Eq.trans q_skRI (Eq.trans q_skRI (q_unR h35.1 mo ro (by decide))))
                have t90 := g_45_R28 hG mo ro
                have e91 : q_R (q_sI (q_sI (S34) a60 ((q_I (S34) o 14) + l9).toNatClampNeg (q_I (S34) o 42)) a76 ((q_I (q_sI (S34) a60 ((q_I (S34) o 14) + l9).toNatClampNeg (q_I (S34) o 42)) o 14) + l9).toNatClampNeg (vp_nar .boolean ((0 : Int32)))) o 28 = q_R (S) o 28 := (Eq.trans q_skRI (Eq.trans q_skRI (q_unR h35.1 mo ro (by decide))))
                have t92 := g_45_R27 hG mo ro
                have e93 : q_R (q_sI (q_sI (S34) a60 ((q_I (S34) o 14) + l9).toNatClampNeg (q_I (S34) o 42)) a76 ((q_I (q_sI (S34) a60 ((q_I (S34) o 14) + l9).toNatClampNeg (q_I (S34) o 42)) o 14) + l9).toNatClampNeg (vp_nar .boolean ((0 : Int32)))) o 27 = q_R (S) o 27 := (Eq.trans q_skRI (Eq.trans q_skRI (q_unR h35.1 mo ro (by decide))))
                have f94 : q_sm _ := g_45_I8 hG mo ro
                have e95 : q_I (q_sI (q_sI (S34) a60 ((q_I (S34) o 14) + l9).toNatClampNeg (q_I (S34) o 42)) a76 ((q_I (q_sI (S34) a60 ((q_I (S34) o 14) + l9).toNatClampNeg (q_I (S34) o 42)) o 14) + l9).toNatClampNeg (vp_nar .boolean ((0 : Int32)))) o 8 = q_I (S34) o 8 := (Eq.trans (q_fwI ro ra76 (by decide)) (q_fwI ro ra60 (by decide)))
                obtain ⟨v96, ev96⟩ := q_ev ((q_I (q_sI (q_sI (S34) a60 ((q_I (S34) o 14) + l9).toNatClampNeg (q_I (S34) o 42)) a76 ((q_I (q_sI (S34) a60 ((q_I (S34) o 14) + l9).toNatClampNeg (q_I (S34) o 42)) o 14) + l9).toNatClampNeg (vp_nar .boolean ((0 : Int32)))) o 8).toInt)
                have f97 : v96 = v39 := q_eqVI e95 ev96 ev39
                have f98 : q_sm _ := g_45_I14 hG mo ro
                have e99 : q_I (q_sI (q_sI (S34) a60 ((q_I (S34) o 14) + l9).toNatClampNeg (q_I (S34) o 42)) a76 ((q_I (q_sI (S34) a60 ((q_I (S34) o 14) + l9).toNatClampNeg (q_I (S34) o 42)) o 14) + l9).toNatClampNeg (vp_nar .boolean ((0 : Int32)))) o 14 = q_I (q_sI (S34) a60 ((q_I (S34) o 14) + l9).toNatClampNeg (q_I (S34) o 42)) o 14 := (q_fwI ro ra76 (by decide))
                obtain ⟨v100, ev100⟩ := q_ev ((q_I (q_sI (q_sI (S34) a60 ((q_I (S34) o 14) + l9).toNatClampNeg (q_I (S34) o 42)) a76 ((q_I (q_sI (S34) a60 ((q_I (S34) o 14) + l9).toNatClampNeg (q_I (S34) o 42)) o 14) + l9).toNatClampNeg (vp_nar .boolean ((0 : Int32)))) o 14).toInt)
                have f101 : v100 = v78 := q_eqVI e99 ev100 ev78
                exact ih _ _ _ _ _ _ _ hG (q_oV ev84 (by omega) (by omega)) (q_wd hl4 (by decide) (by decide)) (q_wd hl5 (by decide) (by decide)) (q_wd (show (1 : Int) ≤ (1 : Int32).toInt ∧ (1 : Int32).toInt ≤ (1 : Int) by decide) (by decide) (by decide)) (q_oV ev86 (by omega) (by omega)) (q_N3xI (Eq.trans e89 ea2) (Eq.trans e91 ea4) (Eq.trans e93 ea6) (q_N3c n83 (q_bw2 (fun x0 x1 => x0 = x1) q_evr q_evr (by omega)) (q_bw2 (fun x0 x1 => x0 = x1) q_evr q_evr (by omega)))) (q_bw2 (fun x0 x1 => x0 = 1 → x1 = 0) (show q_eqv ((1 : Int32)).toInt (1) by unfold q_eqv; decide) ev96 (by omega)) (q_bw2 (fun x0 x1 => x0 = 1 → x1 ≤ 1601) (show q_eqv ((1 : Int32)).toInt (1) by unfold q_eqv; decide) ev84 (by omega)) (q_bw2 (fun x0 x1 => x0 + x1 ≤ 120) ev100 q_evr (by omega))  (q_upV ev86 (by omega))
              · have f102 := q_neV ev72 (show q_eqv ((0 : Int32)).toInt (0) by unfold q_eqv; decide) (q_n_eq g74)
                unfold m_X12_addSimple_399
                refine q_ok_at hG t66 rfl (fun a103 ma103 ra103 ea103 => ?_)
                obtain ⟨v104, ev104⟩ := q_ev (((q_I (q_sI (S34) a60 ((q_I (S34) o 14) + l9).toNatClampNeg (q_I (S34) o 42)) o 14) + l9).toInt)
                obtain ⟨v105, ev105⟩ := q_ev ((q_I (q_sI (S34) a60 ((q_I (S34) o 14) + l9).toNatClampNeg (q_I (S34) o 42)) o 14).toInt)
                have f106 : v105 = v62 := q_eqVI e68 ev105 ev62
                have f107 : v104 = v105 + l9.toInt := q_addVI ev104 ev105 q_evr (by omega) (by omega)
                refine q_ok_if (q_inV (g_57_N hG ma103 ra103) ev104 (by omega) (by omega)) ?_
                obtain ⟨v108, ev108⟩ := q_ev ((vp_nar .boolean ((1 : Int32))).toInt)
                have f109 : v108 = (1) := q_narV ev108 (show q_eqv ((1 : Int32)).toInt (1) by unfold q_eqv; decide) (by omega) (by omega)
                have hG := u_57_E (k := ((q_I (q_sI (S34) a60 ((q_I (S34) o 14) + l9).toNatClampNeg (q_I (S34) o 42)) o 14) + l9).toNatClampNeg) (x := vp_nar .boolean ((1 : Int32))) hG ma103 ra103 (by decide) (q_oV ev108 (by omega) (by omega))
                have n110 : q_N3 (q_sI (q_sI (S34) a60 ((q_I (S34) o 14) + l9).toNatClampNeg (q_I (S34) o 42)) a103 ((q_I (q_sI (S34) a60 ((q_I (S34) o 14) + l9).toNatClampNeg (q_I (S34) o 42)) o 14) + l9).toNatClampNeg (vp_nar .boolean ((1 : Int32)))) o a2 a4 a6 _ _ := q_N3I ro ra103 ra2 ra4 ra6 (by decide) (by decide) (by decide) (by decide) n65
                unfold m_X12_addSimple_400
                obtain ⟨v111, ev111⟩ := q_ev ((l2 + r33).toInt)
                have f112 : v111 = l2.toInt + r33.toInt := q_addVI ev111 q_evr q_evr (by omega) (by omega)
                obtain ⟨v113, ev113⟩ := q_ev ((l9 + (1)).toInt)
                have f114 : v113 = l9.toInt + (1) := q_addVI ev113 q_evr (show q_eqv ((1 : Int32)).toInt (1) by unfold q_eqv; decide) (by omega) (by omega)
                have t115 := g_45_R19 hG mo ro
                have e116 : q_R (q_sI (q_sI (S34) a60 ((q_I (S34) o 14) + l9).toNatClampNeg (q_I (S34) o 42)) a103 ((q_I (q_sI (S34) a60 ((q_I (S34) o 14) + l9).toNatClampNeg (q_I (S34) o 42)) o 14) + l9).toNatClampNeg (vp_nar .boolean ((1 : Int32)))) o 19 = q_R (S) o 19 := (Eq.trans q_skRI (Eq.trans q_skRI (q_unR h35.1 mo ro (by decide))))
                have t117 := g_45_R28 hG mo ro
                have e118 : q_R (q_sI (q_sI (S34) a60 ((q_I (S34) o 14) + l9).toNatClampNeg (q_I (S34) o 42)) a103 ((q_I (q_sI (S34) a60 ((q_I (S34) o 14) + l9).toNatClampNeg (q_I (S34) o 42)) o 14) + l9).toNatClampNeg (vp_nar .boolean ((1 : Int32)))) o 28 = q_R (S) o 28 := (Eq.trans q_skRI (Eq.trans q_skRI (q_unR h35.1 mo ro (by decide))))
                have t119 := g_45_R27 hG mo ro
                have e120 : q_R (q_sI (q_sI (S34) a60 ((q_I (S34) o 14) + l9).toNatClampNeg (q_I (S34) o 42)) a103 ((q_I (q_sI (S34) a60 ((q_I (S34) o 14) + l9).toNatClampNeg (q_I (S34) o 42)) o 14) + l9).toNatClampNeg (vp_nar .boolean ((1 : Int32)))) o 27 = q_R (S) o 27 := (Eq.trans q_skRI (Eq.trans q_skRI (q_unR h35.1 mo ro (by decide))))
                have f121 : q_sm _ := g_45_I8 hG mo ro
                have e122 : q_I (q_sI (q_sI (S34) a60 ((q_I (S34) o 14) + l9).toNatClampNeg (q_I (S34) o 42)) a103 ((q_I (q_sI (S34) a60 ((q_I (S34) o 14) + l9).toNatClampNeg (q_I (S34) o 42)) o 14) + l9).toNatClampNeg (vp_nar .boolean ((1 : Int32)))) o 8 = q_I (S34) o 8 := (Eq.trans (q_fwI ro ra103 (by decide)) (q_fwI ro ra60 (by decide)))
                obtain ⟨v123, ev123⟩ := q_ev ((q_I (q_sI (q_sI (S34) a60 ((q_I (S34) o 14) + l9).toNatClampNeg (q_I (S34) o 42)) a103 ((q_I (q_sI (S34) a60 ((q_I (S34) o 14) + l9).toNatClampNeg (q_I (S34) o 42)) o 14) + l9).toNatClampNeg (vp_nar .boolean ((1 : Int32)))) o 8).toInt)
                have f124 : v123 = v39 := q_eqVI e122 ev123 ev39
                have f125 : q_sm _ := g_45_I14 hG mo ro
                have e126 : q_I (q_sI (q_sI (S34) a60 ((q_I (S34) o 14) + l9).toNatClampNeg (q_I (S34) o 42)) a103 ((q_I (q_sI (S34) a60 ((q_I (S34) o 14) + l9).toNatClampNeg (q_I (S34) o 42)) o 14) + l9).toNatClampNeg (vp_nar .boolean ((1 : Int32)))) o 14 = q_I (q_sI (S34) a60 ((q_I (S34) o 14) + l9).toNatClampNeg (q_I (S34) o 42)) o 14 := (q_fwI ro ra103 (by decide))
                obtain ⟨v127, ev127⟩ := q_ev ((q_I (q_sI (q_sI (S34) a60 ((q_I (S34) o 14) + l9).toNatClampNeg (q_I (S34) o 42)) a103 ((q_I (q_sI (S34) a60 ((q_I (S34) o 14) + l9).toNatClampNeg (q_I (S34) o 42)) o 14) + l9).toNatClampNeg (vp_nar .boolean ((1 : Int32)))) o 14).toInt)
                have f128 : v127 = v105 := q_eqVI e126 ev127 ev105
                exact ih _ _ _ _ _ _ _ hG (q_oV ev111 (by omega) (by omega)) (q_wd hl4 (by decide) (by decide)) (q_wd hl5 (by decide) (by decide)) (q_wd (show (1 : Int) ≤ (1 : Int32).toInt ∧ (1 : Int32).toInt ≤ (1 : Int) by decide) (by decide) (by decide)) (q_oV ev113 (by omega) (by omega)) (q_N3xI (Eq.trans e116 ea2) (Eq.trans e118 ea4) (Eq.trans e120 ea6) (q_N3c n110 (q_bw2 (fun x0 x1 => x0 = x1) q_evr q_evr (by omega)) (q_bw2 (fun x0 x1 => x0 = x1) q_evr q_evr (by omega)))) (q_bw2 (fun x0 x1 => x0 = 1 → x1 = 0) (show q_eqv ((1 : Int32)).toInt (1) by unfold q_eqv; decide) ev123 (by omega)) (q_bw2 (fun x0 x1 => x0 = 1 → x1 ≤ 1601) (show q_eqv ((1 : Int32)).toInt (1) by unfold q_eqv; decide) ev111 (by omega)) (q_bw2 (fun x0 x1 => x0 + x1 ≤ 120) ev127 q_evr (by omega))  (q_upV ev113 (by omega))
        · have f129 := q_neV ev39 (show q_eqv ((0 : Int32)).toInt (0) by unfold q_eqv; decide) (q_n_eq g49)
          unfold m_X12_addSimple_335
          refine q_ok_ite (fun g130 => ?_) (fun g130 => ?_)
          · have f131 := q_eqV (show q_eqv ((0 : Int32)).toInt (0) by unfold q_eqv; decide) (show q_eqv ((0 : Int32)).toInt (0) by unfold q_eqv; decide) (q_p_eq g130)
            unfold m_X12_addSimple_350
            refine q_ok_ite (fun g132 => ?_) (fun g132 => ?_)
            · have f133 := q_eqV (show q_eqv ((0 : Int32)).toInt (0) by unfold q_eqv; decide) (show q_eqv ((0 : Int32)).toInt (0) by unfold q_eqv; decide) (q_p_eq g132)
              unfold m_X12_addSimple_400
              obtain ⟨v134, ev134⟩ := q_ev ((l2 + r33).toInt)
              have f135 : v134 = l2.toInt + r33.toInt := q_addVI ev134 q_evr q_evr (by omega) (by omega)
              obtain ⟨v136, ev136⟩ := q_ev ((l9 + (1)).toInt)
              have f137 : v136 = l9.toInt + (1) := q_addVI ev136 q_evr (show q_eqv ((1 : Int32)).toInt (1) by unfold q_eqv; decide) (by omega) (by omega)
              have t138 := g_45_R19 hG mo ro
              have e139 : q_R (S34) o 19 = q_R (S) o 19 := (q_unR h35.1 mo ro (by decide))
              have t140 := g_45_R28 hG mo ro
              have e141 : q_R (S34) o 28 = q_R (S) o 28 := (q_unR h35.1 mo ro (by decide))
              have t142 := g_45_R27 hG mo ro
              have e143 : q_R (S34) o 27 = q_R (S) o 27 := (q_unR h35.1 mo ro (by decide))
              have f144 : q_sm _ := g_45_I14 hG mo ro
              have e145 : q_I (S34) o 14 = q_I (S) o 14 := (q_unI h35.1 mo ro (by decide))
              obtain ⟨v146, ev146⟩ := q_ev ((q_I (S34) o 14).toInt)
              have f147 : v146 = v12 := q_eqVI e145 ev146 ev12
              exact ih _ _ _ _ _ _ _ hG (q_oV ev134 (by omega) (by omega)) (q_wd hl4 (by decide) (by decide)) (q_wd hl5 (by decide) (by decide)) (q_wd (show (0 : Int) ≤ (0 : Int32).toInt ∧ (0 : Int32).toInt ≤ (0 : Int) by decide) (by decide) (by decide)) (q_oV ev136 (by omega) (by omega)) (q_N3xI (Eq.trans e139 ea2) (Eq.trans e141 ea4) (Eq.trans e143 ea6) (q_N3c n37 (q_bw2 (fun x0 x1 => x0 = x1) q_evr q_evr (by omega)) (q_bw2 (fun x0 x1 => x0 = x1) q_evr q_evr (by omega)))) (q_bw2 (fun x0 x1 => x0 = 1 → x1 = 0) (show q_eqv ((0 : Int32)).toInt (0) by unfold q_eqv; decide) ev39 (by omega)) (q_bw2 (fun x0 x1 => x0 = 1 → x1 ≤ 1601) (show q_eqv ((0 : Int32)).toInt (0) by unfold q_eqv; decide) ev134 (by omega)) (q_bw2 (fun x0 x1 => x0 + x1 ≤ 120) ev146 q_evr (by omega))  (q_upV ev136 (by omega))
            · have f148 := q_neV (show q_eqv ((0 : Int32)).toInt (0) by unfold q_eqv; decide) (show q_eqv ((0 : Int32)).toInt (0) by unfold q_eqv; decide) (q_n_eq g132)
              exfalso; omega
          · have f149 := q_neV (show q_eqv ((0 : Int32)).toInt (0) by unfold q_eqv; decide) (show q_eqv ((0 : Int32)).toInt (0) by unfold q_eqv; decide) (q_n_eq g130)
            exfalso; omega
set_option maxHeartbeats 4000000 in
set_option maxRecDepth 100000 in
theorem s_X12_addSimple_45_248 {ρ : Nat → Nat} {L : List Nat} {n : Nat} (hn : 18446744073709551616 ≤ n) {S0 : q_S} {o : Nat} (mo : o ∈ L) (ro : ρ o = 45) {p0 : Int32}  {k175 : q_S → Option Nat → Int32 → Int32 → Int32 → Int32 → Int32 → Option (Int32 × q_S)} {B175 : Int} (hk175 : ∀ (S : q_S) (z1 : Int32) (z2 : Int32) (z3 : Int32) (z4 : Int32) (z5 : Int32), q_G ρ L M_X12_addSimple_45 S0 S → (0 ≤ z1.toInt ∧ z1.toInt ≤ 70000) → (0 ≤ z2.toInt ∧ z2.toInt ≤ 120) → (0 ≤ z3.toInt ∧ z3.toInt ≤ 120) → (0 ≤ z4.toInt ∧ z4.toInt ≤ 1) → (0 ≤ z5.toInt ∧ z5.toInt ≤ 400) → (q_N3x S o (z2).toInt (z3).toInt) → ((z4).toInt = 1 → (q_I S o 8).toInt = 0) → ((z4).toInt = 1 → (z1).toInt ≤ 1601) → ((q_I S o 14).toInt + (z3).toInt ≤ 120) → 2147483648 - z5.toInt < B175 → q_ok (k175 S (some o) z1 z2 z3 z4 z5) (fun r T => q_G ρ L M_X12_addSimple_45 S0 T ∧ (0 ≤ r.toInt ∧ r.toInt ≤ 1) ∧ q_sm ((q_N3x T o (q_I T o 18).toInt 0)))) : ∀ (k : Nat) (S : q_S) (l2 : Int32) (l4 : Int32) (l5 : Int32) (l6 : Int32) (l7 : Int32) (l8 : Int32) (l9 : Int32) (l10 : Int32), q_G ρ L M_X12_addSimple_45 S0 S → (0 ≤ l2.toInt ∧ l2.toInt ≤ 70000) → (0 ≤ l4.toInt ∧ l4.toInt ≤ 120) → (0 ≤ l5.toInt ∧ l5.toInt ≤ 120) → (0 ≤ l6.toInt ∧ l6.toInt ≤ 1) → (0 ≤ l7.toInt ∧ l7.toInt ≤ 119) → (0 ≤ l8.toInt ∧ l8.toInt ≤ 255) → (0 ≤ l9.toInt ∧ l9.toInt ≤ 255) → (0 ≤ l10.toInt ∧ l10.toInt ≤ 400) → (q_N3x S o (l4).toInt (l5).toInt) → ((l6).toInt = 1 → (q_I S o 8).toInt = 0) → ((l6).toInt = 1 → (l2).toInt ≤ 1601) → ((q_I S o 14).toInt + (l5).toInt ≤ 120) → ((l6).toInt = 1 → (l7).toInt + (l9).toInt < (l5).toInt) → ((l7).toInt ≤ (l10).toInt) → 2147483648 - l7.toInt ≤ B175 → 2147483648 - l10.toInt ≤ (k : Int) → q_ok (m_X12_addSimple_248 n k175 k S (some o) l2 l4 l5 l6 l7 l8 l9 l10) (fun r T => q_G ρ L M_X12_addSimple_45 S0 T ∧ (0 ≤ r.toInt ∧ r.toInt ≤ 1) ∧ q_sm ((q_N3x T o (q_I T o 18).toInt 0))) := by
  intro k
  induction k with
  | zero =>
    intro S l2 l4 l5 l6 l7 l8 l9 l10 hG hl2 hl4 hl5 hl6 hl7 hl8 hl9 hl10 hf0 hf1 hf2 hf3 hf4 hf5 hm175 hm
    have f0 := q_rngI l10
    exfalso; omega
  | succ k ih =>
    intro S l2 l4 l5 l6 l7 l8 l9 l10 hG hl2 hl4 hl5 hl6 hl7 hl8 hl9 hl10 hf0 hf1 hf2 hf3 hf4 hf5 hm175 hm
    rw [m_X12_addSimple_248]
    have z0 : (0 : Int32).toInt = 0 := rfl
    have t1 := g_45_R19 hG mo ro
    obtain ⟨a2, ea2, ma2, ra2⟩ := id t1
    have t3 := g_45_R28 hG mo ro
    obtain ⟨a4, ea4, ma4, ra4⟩ := id t3
    have t5 := g_45_R27 hG mo ro
    obtain ⟨a6, ea6, ma6, ra6⟩ := id t5
    have n7 := hf0 _ _ _ ea2 ea4 ea6
    have f8 : q_sm _ := g_45_I18 hG mo ro
    have f9 : q_sm _ := g_45_I14 hG mo ro
    obtain ⟨v10, ev10⟩ := q_ev ((q_I (S) o 18).toInt)
    have f11 := q_bV ev10 f8
    obtain ⟨v12, ev12⟩ := q_ev ((q_I (S) o 14).toInt)
    have f13 := q_bV ev12 f9
    have f14 : 0 ≤ l4.toInt ∧ l4.toInt ≤ v10 ∧ v10 ≤ l4.toInt + (l5.toInt) ∧ l4.toInt ≤ v12 := q_to4 (fun x0 x1 x2 x3 => 0 ≤ x0 ∧ x0 ≤ x1 ∧ x1 ≤ x0 + (x2) ∧ x0 ≤ x3) q_evr ev10 q_evr ev12 (q_N3lin n7)
    have f15 : q_sm _ := g_45_I8 hG mo ro
    obtain ⟨v16, ev16⟩ := q_ev ((q_I (S) o 8).toInt)
    have f17 := q_bV ev16 f15
    have f18 : l6.toInt = 1 → v16 = 0 := q_to2 (fun x0 x1 => x0 = 1 → x1 = 0) q_evr ev16 hf1
    have f19 : l6.toInt = 1 → l2.toInt ≤ 1601 := q_to2 (fun x0 x1 => x0 = 1 → x1 ≤ 1601) q_evr q_evr hf2
    have f20 : v12 + l5.toInt ≤ 120 := q_to2 (fun x0 x1 => x0 + x1 ≤ 120) ev12 q_evr hf3
    have f21 : l6.toInt = 1 → l7.toInt + l9.toInt < l5.toInt := q_to4 (fun x0 x1 x2 x3 => x0 = 1 → x1 + x2 < x3) q_evr q_evr q_evr q_evr hf4
    have f22 : l7.toInt ≤ l10.toInt := q_to2 (fun x0 x1 => x0 ≤ x1) q_evr q_evr hf5
    obtain ⟨v23, ev23⟩ := q_ev ((l7 + l9).toInt)
    have f24 : v23 = l7.toInt + l9.toInt := q_addVI ev23 q_evr q_evr (by omega) (by omega)
    refine q_ok_ite (fun g25 => ?_) (fun g25 => ?_)
    · have f26 := q_ltV ev23 q_evr (q_p_gt g25)
      unfold m_X12_addSimple_278
      have t27 := g_45_R19 hG mo ro
      have t28 := g_45_R28 hG mo ro
      have t29 := g_45_R27 hG mo ro
      obtain ⟨v30, ev30⟩ := q_ev ((l7 + (l9 + (1 : Int32))).toInt)
      obtain ⟨v31, ev31⟩ := q_ev ((l9 + (1 : Int32)).toInt)
      have f32 : v31 = l9.toInt + (1) := q_addVI ev31 q_evr (show q_eqv ((1 : Int32)).toInt (1) by unfold q_eqv; decide) (by omega) (by omega)
      have f33 : v30 = l7.toInt + v31 := q_addVI ev30 q_evr ev31 (by omega) (by omega)
      exact hk175 _ _ _ _ _ _ hG (q_wd hl2 (by decide) (by decide)) (q_wd hl4 (by decide) (by decide)) (q_wd hl5 (by decide) (by decide)) (q_wd hl6 (by decide) (by decide)) (q_wd (q_addBI (1) (375) hl7 (q_addBI (1) (256) hl9 (show (1 : Int) ≤ (1 : Int32).toInt ∧ (1 : Int32).toInt ≤ (1 : Int) by decide) (by decide) (by decide) (by decide) (by decide)) (by decide) (by decide) (by decide) (by decide)) (by decide) (by decide)) (q_N3xI ea2 ea4 ea6 (q_N3c n7 (q_bw2 (fun x0 x1 => x0 = x1) q_evr q_evr (by omega)) (q_bw2 (fun x0 x1 => x0 = x1) q_evr q_evr (by omega)))) (q_bw2 (fun x0 x1 => x0 = 1 → x1 = 0) q_evr ev16 (by omega)) (q_bw2 (fun x0 x1 => x0 = 1 → x1 ≤ 1601) q_evr q_evr (by omega)) (q_bw2 (fun x0 x1 => x0 + x1 ≤ 120) ev12 q_evr (by omega))  (q_upVl ev30 (by omega))
    · have f34 := q_leV q_evr ev23 (q_n_gt g25)
      refine q_ok_ite (fun g35 => ?_) (fun g35 => ?_)
      · have f36 := q_eqV q_evr (show q_eqv ((0 : Int32)).toInt (0) by unfold q_eqv; decide) (q_p_eq g35)
        unfold m_X12_addSimple_278
        have t37 := g_45_R19 hG mo ro
        have t38 := g_45_R28 hG mo ro
        have t39 := g_45_R27 hG mo ro
        obtain ⟨v40, ev40⟩ := q_ev ((l7 + (l9 + (1 : Int32))).toInt)
        obtain ⟨v41, ev41⟩ := q_ev ((l9 + (1 : Int32)).toInt)
        have f42 : v41 = l9.toInt + (1) := q_addVI ev41 q_evr (show q_eqv ((1 : Int32)).toInt (1) by unfold q_eqv; decide) (by omega) (by omega)
        have f43 : v40 = l7.toInt + v41 := q_addVI ev40 q_evr ev41 (by omega) (by omega)
        exact hk175 _ _ _ _ _ _ hG (q_wd hl2 (by decide) (by decide)) (q_wd hl4 (by decide) (by decide)) (q_wd hl5 (by decide) (by decide)) (q_wd hl6 (by decide) (by decide)) (q_wd (q_addBI (1) (375) hl7 (q_addBI (1) (256) hl9 (show (1 : Int) ≤ (1 : Int32).toInt ∧ (1 : Int32).toInt ≤ (1 : Int) by decide) (by decide) (by decide) (by decide) (by decide)) (by decide) (by decide) (by decide) (by decide)) (by decide) (by decide)) (q_N3xI ea2 ea4 ea6 (q_N3c n7 (q_bw2 (fun x0 x1 => x0 = x1) q_evr q_evr (by omega)) (q_bw2 (fun x0 x1 => x0 = x1) q_evr q_evr (by omega)))) (q_bw2 (fun x0 x1 => x0 = 1 → x1 = 0) q_evr ev16 (by omega)) (q_bw2 (fun x0 x1 => x0 = 1 → x1 ≤ 1601) q_evr q_evr (by omega)) (q_bw2 (fun x0 x1 => x0 + x1 ≤ 120) ev12 q_evr (by omega))  (q_upVl ev40 (by omega))
      · have f44 := q_neV q_evr (show q_eqv ((0 : Int32)).toInt (0) by unfold q_eqv; decide) (q_n_eq g35)
        refine q_ok_atS hG (q_trI mo ro) rfl (fun mo ro => ?_)
        have t45 := g_45_R20 hG mo ro
        refine q_ok_at hG t45 rfl (fun a46 ma46 ra46 ea46 => ?_)
        refine q_ok_if (q_inV (g_59_N hG ma46 ra46) q_evr (by omega) (by omega)) ?_
        have hG := u_59_E (k := (l10).toNatClampNeg) (x := l8) hG ma46 ra46 (by decide) (q_wd hl8 (by decide) (by decide))
        have n47 : q_N3 (q_sI (S) a46 (l10).toNatClampNeg (l8)) o a2 a4 a6 _ _ := q_N3I ro ra46 ra2 ra4 ra6 (by decide) (by decide) (by decide) (by decide) n7
        obtain ⟨v48, ev48⟩ := q_ev ((l10 + (1)).toInt)
        have f49 : v48 = l10.toInt + (1) := q_addVI ev48 q_evr (show q_eqv ((1 : Int32)).toInt (1) by unfold q_eqv; decide) (by omega) (by omega)
        have t50 := g_45_R19 hG mo ro
        have e51 : q_R (q_sI (S) a46 (l10).toNatClampNeg (l8)) o 19 = q_R (S) o 19 := q_skRI
        have t52 := g_45_R28 hG mo ro
        have e53 : q_R (q_sI (S) a46 (l10).toNatClampNeg (l8)) o 28 = q_R (S) o 28 := q_skRI
        have t54 := g_45_R27 hG mo ro
        have e55 : q_R (q_sI (S) a46 (l10).toNatClampNeg (l8)) o 27 = q_R (S) o 27 := q_skRI
        have f56 : q_sm _ := g_45_I8 hG mo ro
        have e57 : q_I (q_sI (S) a46 (l10).toNatClampNeg (l8)) o 8 = q_I (S) o 8 := (q_fwI ro ra46 (by decide))
        obtain ⟨v58, ev58⟩ := q_ev ((q_I (q_sI (S) a46 (l10).toNatClampNeg (l8)) o 8).toInt)
        have f59 : v58 = v16 := q_eqVI e57 ev58 ev16
        have f60 : q_sm _ := g_45_I14 hG mo ro
        have e61 : q_I (q_sI (S) a46 (l10).toNatClampNeg (l8)) o 14 = q_I (S) o 14 := (q_fwI ro ra46 (by decide))
        obtain ⟨v62, ev62⟩ := q_ev ((q_I (q_sI (S) a46 (l10).toNatClampNeg (l8)) o 14).toInt)
        have f63 : v62 = v12 := q_eqVI e61 ev62 ev12
        exact ih _ _ _ _ _ _ _ _ _ hG (q_wd hl2 (by decide) (by decide)) (q_wd hl4 (by decide) (by decide)) (q_wd hl5 (by decide) (by decide)) (q_wd hl6 (by decide) (by decide)) (q_wd hl7 (by decide) (by decide)) (q_wd hl8 (by decide) (by decide)) (q_wd hl9 (by decide) (by decide)) (q_oV ev48 (by omega) (by omega)) (q_N3xI (Eq.trans e51 ea2) (Eq.trans e53 ea4) (Eq.trans e55 ea6) (q_N3c n47 (q_bw2 (fun x0 x1 => x0 = x1) q_evr q_evr (by omega)) (q_bw2 (fun x0 x1 => x0 = x1) q_evr q_evr (by omega)))) (q_bw2 (fun x0 x1 => x0 = 1 → x1 = 0) q_evr ev58 (by omega)) (q_bw2 (fun x0 x1 => x0 = 1 → x1 ≤ 1601) q_evr q_evr (by omega)) (q_bw2 (fun x0 x1 => x0 + x1 ≤ 120) ev62 q_evr (by omega)) (q_bw4 (fun x0 x1 x2 x3 => x0 = 1 → x1 + x2 < x3) q_evr q_evr q_evr q_evr (by omega)) (q_bw2 (fun x0 x1 => x0 ≤ x1) q_evr ev48 (by omega)) (q_upV q_evr (by omega)) (q_upV ev48 (by omega))
set_option maxHeartbeats 4000000 in
set_option maxRecDepth 100000 in
theorem s_X12_addSimple_45_175 {ρ : Nat → Nat} {L : List Nat} {n : Nat} (hn : 18446744073709551616 ≤ n) {S0 : q_S} {o : Nat} (mo : o ∈ L) (ro : ρ o = 45) {p0 : Int32}  : ∀ (k : Nat) (S : q_S) (l2 : Int32) (l4 : Int32) (l5 : Int32) (l6 : Int32) (l7 : Int32), q_G ρ L M_X12_addSimple_45 S0 S → (0 ≤ l2.toInt ∧ l2.toInt ≤ 70000) → (0 ≤ l4.toInt ∧ l4.toInt ≤ 120) → (0 ≤ l5.toInt ∧ l5.toInt ≤ 120) → (0 ≤ l6.toInt ∧ l6.toInt ≤ 1) → (0 ≤ l7.toInt ∧ l7.toInt ≤ 400) → (q_N3x S o (l4).toInt (l5).toInt) → ((l6).toInt = 1 → (q_I S o 8).toInt = 0) → ((l6).toInt = 1 → (l2).toInt ≤ 1601) → ((q_I S o 14).toInt + (l5).toInt ≤ 120) → 2147483648 - l7.toInt ≤ (k : Int) → q_ok (m_X12_addSimple_175 n k S (some o) l2 l4 l5 l6 l7) (fun r T => q_G ρ L M_X12_addSimple_45 S0 T ∧ (0 ≤ r.toInt ∧ r.toInt ≤ 1) ∧ q_sm ((q_N3x T o (q_I T o 18).toInt 0))) := by
  intro k
  induction k with
  | zero =>
    intro S l2 l4 l5 l6 l7 hG hl2 hl4 hl5 hl6 hl7 hf0 hf1 hf2 hf3 hm
    have f0 := q_rngI l7
    exfalso; omega
  | succ k ih =>
    intro S l2 l4 l5 l6 l7 hG hl2 hl4 hl5 hl6 hl7 hf0 hf1 hf2 hf3 hm
    rw [m_X12_addSimple_175]
    have z0 : (0 : Int32).toInt = 0 := rfl
    have t1 := g_45_R19 hG mo ro
    obtain ⟨a2, ea2, ma2, ra2⟩ := id t1
    have t3 := g_45_R28 hG mo ro
    obtain ⟨a4, ea4, ma4, ra4⟩ := id t3
    have t5 := g_45_R27 hG mo ro
    obtain ⟨a6, ea6, ma6, ra6⟩ := id t5
    have n7 := hf0 _ _ _ ea2 ea4 ea6
    have f8 : q_sm _ := g_45_I18 hG mo ro
    have f9 : q_sm _ := g_45_I14 hG mo ro
    obtain ⟨v10, ev10⟩ := q_ev ((q_I (S) o 18).toInt)
    have f11 := q_bV ev10 f8
    obtain ⟨v12, ev12⟩ := q_ev ((q_I (S) o 14).toInt)
    have f13 := q_bV ev12 f9
    have f14 : 0 ≤ l4.toInt ∧ l4.toInt ≤ v10 ∧ v10 ≤ l4.toInt + (l5.toInt) ∧ l4.toInt ≤ v12 := q_to4 (fun x0 x1 x2 x3 => 0 ≤ x0 ∧ x0 ≤ x1 ∧ x1 ≤ x0 + (x2) ∧ x0 ≤ x3) q_evr ev10 q_evr ev12 (q_N3lin n7)
    have f15 : q_sm _ := g_45_I8 hG mo ro
    obtain ⟨v16, ev16⟩ := q_ev ((q_I (S) o 8).toInt)
    have f17 := q_bV ev16 f15
    have f18 : l6.toInt = 1 → v16 = 0 := q_to2 (fun x0 x1 => x0 = 1 → x1 = 0) q_evr ev16 hf1
    have f19 : l6.toInt = 1 → l2.toInt ≤ 1601 := q_to2 (fun x0 x1 => x0 = 1 → x1 ≤ 1601) q_evr q_evr hf2
    have f20 : v12 + l5.toInt ≤ 120 := q_to2 (fun x0 x1 => x0 + x1 ≤ 120) ev12 q_evr hf3
    refine q_ok_ite (fun g21 => ?_) (fun g21 => ?_)
    · have f22 := q_leV q_evr q_evr (q_p_ge g21)
      unfold m_X12_addSimple_290
      have t23 := g_45_R19 hG mo ro
      have t24 := g_45_R28 hG mo ro
      have t25 := g_45_R27 hG mo ro
      exact s_X12_addSimple_45_296 hn mo ro (p0 := p0) n _ _ _ _ _ _ _ hG (q_wd hl2 (by decide) (by decide)) (q_wd hl4 (by decide) (by decide)) (q_wd hl5 (by decide) (by decide)) (q_wd hl6 (by decide) (by decide)) (q_wd (show (0 : Int) ≤ (0 : Int32).toInt ∧ (0 : Int32).toInt ≤ (0 : Int) by decide) (by decide) (by decide)) (q_N3xI ea2 ea4 ea6 (q_N3c n7 (q_bw2 (fun x0 x1 => x0 = x1) q_evr q_evr (by omega)) (q_bw2 (fun x0 x1 => x0 = x1) q_evr q_evr (by omega)))) (q_bw2 (fun x0 x1 => x0 = 1 → x1 = 0) q_evr ev16 (by omega)) (q_bw2 (fun x0 x1 => x0 = 1 → x1 ≤ 1601) q_evr q_evr (by omega)) (q_bw2 (fun x0 x1 => x0 + x1 ≤ 120) ev12 q_evr (by omega))  (q_upV (show q_eqv ((0 : Int32)).toInt (0) by unfold q_eqv; decide) (by omega))
    · have f26 := q_ltV q_evr q_evr (q_n_ge g21)
      refine q_ok_ite (fun g27 => ?_) (fun g27 => ?_)
      · have f28 := q_eqV q_evr (show q_eqv ((0 : Int32)).toInt (0) by unfold q_eqv; decide) (q_p_eq g27)
        unfold m_X12_addSimple_290
        have t29 := g_45_R19 hG mo ro
        have t30 := g_45_R28 hG mo ro
        have t31 := g_45_R27 hG mo ro
        exact s_X12_addSimple_45_296 hn mo ro (p0 := p0) n _ _ _ _ _ _ _ hG (q_wd hl2 (by decide) (by decide)) (q_wd hl4 (by decide) (by decide)) (q_wd hl5 (by decide) (by decide)) (q_wd hl6 (by decide) (by decide)) (q_wd (show (0 : Int) ≤ (0 : Int32).toInt ∧ (0 : Int32).toInt ≤ (0 : Int) by decide) (by decide) (by decide)) (q_N3xI ea2 ea4 ea6 (q_N3c n7 (q_bw2 (fun x0 x1 => x0 = x1) q_evr q_evr (by omega)) (q_bw2 (fun x0 x1 => x0 = x1) q_evr q_evr (by omega)))) (q_bw2 (fun x0 x1 => x0 = 1 → x1 = 0) q_evr ev16 (by omega)) (q_bw2 (fun x0 x1 => x0 = 1 → x1 ≤ 1601) q_evr q_evr (by omega)) (q_bw2 (fun x0 x1 => x0 + x1 ≤ 120) ev12 q_evr (by omega))  (q_upV (show q_eqv ((0 : Int32)).toInt (0) by unfold q_eqv; decide) (by omega))
      · have f32 := q_neV q_evr (show q_eqv ((0 : Int32)).toInt (0) by unfold q_eqv; decide) (q_n_eq g27)
        refine q_ok_atS hG (q_trI mo ro) rfl (fun mo ro => ?_)
        refine q_ok_b (s_X12_data_45_k1 hn hG.1 mo ro (q_wd hl2 (by decide) (by decide)) (q_wd (show (1 : Int) ≤ (1 : Int32).toInt ∧ (1 : Int32).toInt ≤ (1 : Int) by decide) (by decide) (by decide))) (fun r33 S34 h35 => ?_)
        have hG := q_G_call hG h35.1 (by decide)
        have f36 := h35.2.1
        have n37 := q_N3U h35.1 mo ro ma2 ra2 ma4 ra4 ma6 ra6 rfl rfl rfl rfl rfl rfl n7
        have f38 : q_sm _ := g_45_I8 hG mo ro
        obtain ⟨v39, ev39⟩ := q_ev ((q_I (S34) o 8).toInt)
        have f40 := q_bV ev39 f38
        have f41 : v39 = 0 → v16 = 0 := q_to2 (fun x0 x1 => x0 = 0 → x1 = 0) ev39 ev16 ((q_smE (h35.2.2)).1)
        have f42 : q_sm _ := g_45_I21 hG mo ro
        have f43 : q_sm _ := g_45_I22 hG mo ro
        obtain ⟨v44, ev44⟩ := q_ev ((q_I (S34) o 21).toInt)
        have f45 := q_bV ev44 f42
        obtain ⟨v46, ev46⟩ := q_ev ((q_I (S34) o 22).toInt)
        have f47 := q_bV ev46 f43
        have f48 : v39 = 0 → v44 + l2.toInt + (1) ≤ v46 := q_to5 (fun x0 x1 x2 x3 x4 => x0 = 0 → x1 + x2 + x3 ≤ x4) ev39 ev44 q_evr (show q_eqv ((1 : Int32)).toInt (1) by unfold q_eqv; decide) ev46 ((q_smE (h35.2.2)).2.1)
        obtain ⟨v49, ev49⟩ := q_ev ((q_fd (S34) o ((1735162214 : Int64))).toInt)
        have f50 := q_rVI (x := q_fd (S34) o ((1735162214 : Int64))) ev49
        have f51 : v39 = 0 → 0 ≤ v49 := q_to2 (fun x0 x1 => x0 = 0 → 0 ≤ x1) ev39 ev49 ((q_smE (h35.2.2)).2.2)
        obtain ⟨v52, ev52⟩ := q_ev ((r33 &&& (8 : Int32)).toInt)
        have f53 := q_andRVI ev52 (show q_eqv ((8 : Int32)).toInt (8) by unfold q_eqv; decide) (by omega)
        refine q_ok_ite (fun g54 => ?_) (fun g54 => ?_)
        · have f55 := q_eqV ev52 (show q_eqv ((0 : Int32)).toInt (0) by unfold q_eqv; decide) (q_p_eq g54)
          unfold m_X12_addSimple_220
          refine q_ok_atS hG (q_trI mo ro) rfl (fun mo ro => ?_)
          refine q_ok_ite (fun g56 => ?_) (fun g56 => ?_)
          · have f57 := q_eqV ev39 (show q_eqv ((0 : Int32)).toInt (0) by unfold q_eqv; decide) (q_p_eq g56)
            obtain ⟨v58, ev58⟩ := q_ev ((l7 + (0 : Int32)).toInt)
            have f59 : v58 = l7.toInt + (0) := q_addVI ev58 q_evr (show q_eqv ((0 : Int32)).toInt (0) by unfold q_eqv; decide) (by omega) (by omega)
            refine q_ok_ite (fun g60 => ?_) (fun g60 => ?_)
            · have f61 := q_leV q_evr ev58 (q_p_ge g60)
              unfold m_X12_addSimple_241
              unfold m_X12_addSimple_242
              obtain ⟨v62, ev62⟩ := q_ev ((l2 + (1)).toInt)
              have f63 : v62 = l2.toInt + (1) := q_addVI ev62 q_evr (show q_eqv ((1 : Int32)).toInt (1) by unfold q_eqv; decide) (by omega) (by omega)
              have t64 := g_45_R19 hG mo ro
              have e65 : q_R (S34) o 19 = q_R (S) o 19 := (q_unR h35.1 mo ro (by decide))
              have t66 := g_45_R28 hG mo ro
              have e67 : q_R (S34) o 28 = q_R (S) o 28 := (q_unR h35.1 mo ro (by decide))
              have t68 := g_45_R27 hG mo ro
              have e69 : q_R (S34) o 27 = q_R (S) o 27 := (q_unR h35.1 mo ro (by decide))
              have f70 : q_sm _ := g_45_I14 hG mo ro
              have e71 : q_I (S34) o 14 = q_I (S) o 14 := (q_unI h35.1 mo ro (by decide))
              obtain ⟨v72, ev72⟩ := q_ev ((q_I (S34) o 14).toInt)
              have f73 : v72 = v12 := q_eqVI e71 ev72 ev12
              exact s_X12_addSimple_45_248 hn mo ro (p0 := p0) (B175 := (k : Int) + 1) (fun S9 z1 z2 z3 z4 z5 hG9 hz1 hz2 hz3 hz4 hz5 hzf0 hzf1 hzf2 hzf3  hm9 => ih S9 z1 z2 z3 z4 z5 hG9 hz1 hz2 hz3 hz4 hz5 hzf0 hzf1 hzf2 hzf3  (by omega)) n _ _ _ _ _ _ _ _ _ hG (q_oV ev62 (by omega) (by omega)) (q_wd hl4 (by decide) (by decide)) (q_wd hl5 (by decide) (by decide)) (q_wd (show (0 : Int) ≤ (0 : Int32).toInt ∧ (0 : Int32).toInt ≤ (0 : Int) by decide) (by decide) (by decide)) (q_oV q_evr (by omega) (by omega)) (q_wd f36 (by decide) (by decide)) (q_wd (show (0 : Int) ≤ (0 : Int32).toInt ∧ (0 : Int32).toInt ≤ (0 : Int) by decide) (by decide) (by decide)) (q_wd hl7 (by decide) (by decide)) (q_N3xI (Eq.trans e65 ea2) (Eq.trans e67 ea4) (Eq.trans e69 ea6) (q_N3c n37 (q_bw2 (fun x0 x1 => x0 = x1) q_evr q_evr (by omega)) (q_bw2 (fun x0 x1 => x0 = x1) q_evr q_evr (by omega)))) (q_bw2 (fun x0 x1 => x0 = 1 → x1 = 0) (show q_eqv ((0 : Int32)).toInt (0) by unfold q_eqv; decide) ev39 (by omega)) (q_bw2 (fun x0 x1 => x0 = 1 → x1 ≤ 1601) (show q_eqv ((0 : Int32)).toInt (0) by unfold q_eqv; decide) ev62 (by omega)) (q_bw2 (fun x0 x1 => x0 + x1 ≤ 120) ev72 q_evr (by omega)) (q_bw4 (fun x0 x1 x2 x3 => x0 = 1 → x1 + x2 < x3) (show q_eqv ((0 : Int32)).toInt (0) by unfold q_eqv; decide) q_evr (show q_eqv ((0 : Int32)).toInt (0) by unfold q_eqv; decide) q_evr (by omega)) (q_bw2 (fun x0 x1 => x0 ≤ x1) q_evr q_evr (by omega)) (q_upV q_evr (by omega)) (q_upV q_evr (by omega))
            · have f74 := q_ltV ev58 q_evr (q_n_ge g60)
              unfold m_X12_addSimple_242
              obtain ⟨v75, ev75⟩ := q_ev ((l2 + (1)).toInt)
              have f76 : v75 = l2.toInt + (1) := q_addVI ev75 q_evr (show q_eqv ((1 : Int32)).toInt (1) by unfold q_eqv; decide) (by omega) (by omega)
              have t77 := g_45_R19 hG mo ro
              have e78 : q_R (S34) o 19 = q_R (S) o 19 := (q_unR h35.1 mo ro (by decide))
              have t79 := g_45_R28 hG mo ro
              have e80 : q_R (S34) o 28 = q_R (S) o 28 := (q_unR h35.1 mo ro (by decide))
              have t81 := g_45_R27 hG mo ro
              have e82 : q_R (S34) o 27 = q_R (S) o 27 := (q_unR h35.1 mo ro (by decide))
              have f83 : q_sm _ := g_45_I14 hG mo ro
              have e84 : q_I (S34) o 14 = q_I (S) o 14 := (q_unI h35.1 mo ro (by decide))
              obtain ⟨v85, ev85⟩ := q_ev ((q_I (S34) o 14).toInt)
              have f86 : v85 = v12 := q_eqVI e84 ev85 ev12
              exact s_X12_addSimple_45_248 hn mo ro (p0 := p0) (B175 := (k : Int) + 1) (fun S9 z1 z2 z3 z4 z5 hG9 hz1 hz2 hz3 hz4 hz5 hzf0 hzf1 hzf2 hzf3  hm9 => ih S9 z1 z2 z3 z4 z5 hG9 hz1 hz2 hz3 hz4 hz5 hzf0 hzf1 hzf2 hzf3  (by omega)) n _ _ _ _ _ _ _ _ _ hG (q_oV ev75 (by omega) (by omega)) (q_wd hl4 (by decide) (by decide)) (q_wd hl5 (by decide) (by decide)) (q_wd (show (1 : Int) ≤ (1 : Int32).toInt ∧ (1 : Int32).toInt ≤ (1 : Int) by decide) (by decide) (by decide)) (q_oV q_evr (by omega) (by omega)) (q_wd f36 (by decide) (by decide)) (q_wd (show (0 : Int) ≤ (0 : Int32).toInt ∧ (0 : Int32).toInt ≤ (0 : Int) by decide) (by decide) (by decide)) (q_wd hl7 (by decide) (by decide)) (q_N3xI (Eq.trans e78 ea2) (Eq.trans e80 ea4) (Eq.trans e82 ea6) (q_N3c n37 (q_bw2 (fun x0 x1 => x0 = x1) q_evr q_evr (by omega)) (q_bw2 (fun x0 x1 => x0 = x1) q_evr q_evr (by omega)))) (q_bw2 (fun x0 x1 => x0 = 1 → x1 = 0) (show q_eqv ((1 : Int32)).toInt (1) by unfold q_eqv; decide) ev39 (by omega)) (q_bw2 (fun x0 x1 => x0 = 1 → x1 ≤ 1601) (show q_eqv ((1 : Int32)).toInt (1) by unfold q_eqv; decide) ev75 (by omega)) (q_bw2 (fun x0 x1 => x0 + x1 ≤ 120) ev85 q_evr (by omega)) (q_bw4 (fun x0 x1 x2 x3 => x0 = 1 → x1 + x2 < x3) (show q_eqv ((1 : Int32)).toInt (1) by unfold q_eqv; decide) q_evr (show q_eqv ((0 : Int32)).toInt (0) by unfold q_eqv; decide) q_evr (by omega)) (q_bw2 (fun x0 x1 => x0 ≤ x1) q_evr q_evr (by omega)) (q_upV q_evr (by omega)) (q_upV q_evr (by omega))
          · have f87 := q_neV ev39 (show q_eqv ((0 : Int32)).toInt (0) by unfold q_eqv; decide) (q_n_eq g56)
            unfold m_X12_addSimple_241
            unfold m_X12_addSimple_242
            obtain ⟨v88, ev88⟩ := q_ev ((l2 + (1)).toInt)
            have f89 : v88 = l2.toInt + (1) := q_addVI ev88 q_evr (show q_eqv ((1 : Int32)).toInt (1) by unfold q_eqv; decide) (by omega) (by omega)
            have t90 := g_45_R19 hG mo ro
            have e91 : q_R (S34) o 19 = q_R (S) o 19 := (q_unR h35.1 mo ro (by decide))
            have t92 := g_45_R28 hG mo ro
            have e93 : q_R (S34) o 28 = q_R (S) o 28 := (q_unR h35.1 mo ro (by decide))
            have t94 := g_45_R27 hG mo ro
            have e95 : q_R (S34) o 27 = q_R (S) o 27 := (q_unR h35.1 mo ro (by decide))
            have f96 : q_sm _ := g_45_I14 hG mo ro
            have e97 : q_I (S34) o 14 = q_I (S) o 14 := (q_unI h35.1 mo ro (by decide))
            obtain ⟨v98, ev98⟩ := q_ev ((q_I (S34) o 14).toInt)
            have f99 : v98 = v12 := q_eqVI e97 ev98 ev12
            exact s_X12_addSimple_45_248 hn mo ro (p0 := p0) (B175 := (k : Int) + 1) (fun S9 z1 z2 z3 z4 z5 hG9 hz1 hz2 hz3 hz4 hz5 hzf0 hzf1 hzf2 hzf3  hm9 => ih S9 z1 z2 z3 z4 z5 hG9 hz1 hz2 hz3 hz4 hz5 hzf0 hzf1 hzf2 hzf3  (by omega)) n _ _ _ _ _ _ _ _ _ hG (q_oV ev88 (by omega) (by omega)) (q_wd hl4 (by decide) (by decide)) (q_wd hl5 (by decide) (by decide)) (q_wd (show (0 : Int) ≤ (0 : Int32).toInt ∧ (0 : Int32).toInt ≤ (0 : Int) by decide) (by decide) (by decide)) (q_oV q_evr (by omega) (by omega)) (q_wd f36 (by decide) (by decide)) (q_wd (show (0 : Int) ≤ (0 : Int32).toInt ∧ (0 : Int32).toInt ≤ (0 : Int) by decide) (by decide) (by decide)) (q_wd hl7 (by decide) (by decide)) (q_N3xI (Eq.trans e91 ea2) (Eq.trans e93 ea4) (Eq.trans e95 ea6) (q_N3c n37 (q_bw2 (fun x0 x1 => x0 = x1) q_evr q_evr (by omega)) (q_bw2 (fun x0 x1 => x0 = x1) q_evr q_evr (by omega)))) (q_bw2 (fun x0 x1 => x0 = 1 → x1 = 0) (show q_eqv ((0 : Int32)).toInt (0) by unfold q_eqv; decide) ev39 (by omega)) (q_bw2 (fun x0 x1 => x0 = 1 → x1 ≤ 1601) (show q_eqv ((0 : Int32)).toInt (0) by unfold q_eqv; decide) ev88 (by omega)) (q_bw2 (fun x0 x1 => x0 + x1 ≤ 120) ev98 q_evr (by omega)) (q_bw4 (fun x0 x1 x2 x3 => x0 = 1 → x1 + x2 < x3) (show q_eqv ((0 : Int32)).toInt (0) by unfold q_eqv; decide) q_evr (show q_eqv ((0 : Int32)).toInt (0) by unfold q_eqv; decide) q_evr (by omega)) (q_bw2 (fun x0 x1 => x0 ≤ x1) q_evr q_evr (by omega)) (q_upV q_evr (by omega)) (q_upV q_evr (by omega))
        · have f100 := q_neV ev52 (show q_eqv ((0 : Int32)).toInt (0) by unfold q_eqv; decide) (q_n_eq g54)
          refine q_ok_atS hG (q_trI mo ro) rfl (fun mo ro => ?_)
          obtain ⟨v104, ev104⟩ := q_ev ((l2 + (1)).toInt)
          have f105 : v104 = l2.toInt + (1) := q_addVI ev104 q_evr (show q_eqv ((1 : Int32)).toInt (1) by unfold q_eqv; decide) (by omega) (by omega)
          refine q_ok_b (s_X12_data_45_k1 hn hG.1 mo ro (q_oV ev104 (by omega) (by omega)) (q_wd (show (1 : Int) ≤ (1 : Int32).toInt ∧ (1 : Int32).toInt ≤ (1 : Int) by decide) (by decide) (by decide))) (fun r101 S102 h103 => ?_)
          have hG := q_G_call hG h103.1 (by decide)
          have f106 := h103.2.1
          have n107 := q_N3U h103.1 mo ro ma2 ra2 ma4 ra4 ma6 ra6 rfl rfl rfl rfl rfl rfl n37
          have f108 : q_sm _ := g_45_I8 hG mo ro
          obtain ⟨v109, ev109⟩ := q_ev ((q_I (S102) o 8).toInt)
          have f110 := q_bV ev109 f108
          have f111 : v109 = 0 → v39 = 0 := q_to2 (fun x0 x1 => x0 = 0 → x1 = 0) ev109 ev39 ((q_smE (h103.2.2)).1)
          have f112 : q_sm _ := g_45_I21 hG mo ro
          have e113 : q_I (S102) o 21 = q_I (S34) o 21 := (q_unI h103.1 mo ro (by decide))
          have f114 : q_sm _ := g_45_I22 hG mo ro
          have e115 : q_I (S102) o 22 = q_I (S34) o 22 := (q_unI h103.1 mo ro (by decide))
          obtain ⟨v116, ev116⟩ := q_ev ((q_I (S102) o 21).toInt)
          have f117 : v116 = v44 := q_eqVI e113 ev116 ev44
          obtain ⟨v118, ev118⟩ := q_ev ((q_I (S102) o 22).toInt)
          have f119 : v118 = v46 := q_eqVI e115 ev118 ev46
          have f120 : v109 = 0 → v116 + v104 + (1) ≤ v118 := q_to5 (fun x0 x1 x2 x3 x4 => x0 = 0 → x1 + x2 + x3 ≤ x4) ev109 ev116 ev104 (show q_eqv ((1 : Int32)).toInt (1) by unfold q_eqv; decide) ev118 ((q_smE (h103.2.2)).2.1)
          have e121 : q_fd (S102) o ((1735162214 : Int64)) = q_fd (S34) o ((1735162214 : Int64)) := (q_fdU h103.1 mo ro (by decide) (by decide) (by decide))
          obtain ⟨v122, ev122⟩ := q_ev ((q_fd (S102) o ((1735162214 : Int64))).toInt)
          have f123 : v122 = v49 := q_eqVI e121 ev122 ev49
          have f124 : v109 = 0 → 0 ≤ v122 := q_to2 (fun x0 x1 => x0 = 0 → 0 ≤ x1) ev109 ev122 ((q_smE (h103.2.2)).2.2)
          unfold m_X12_addSimple_220
          refine q_ok_atS hG (q_trI mo ro) rfl (fun mo ro => ?_)
          refine q_ok_ite (fun g125 => ?_) (fun g125 => ?_)
          · have f126 := q_eqV ev109 (show q_eqv ((0 : Int32)).toInt (0) by unfold q_eqv; decide) (q_p_eq g125)
            obtain ⟨v127, ev127⟩ := q_ev ((l7 + r101).toInt)
            have f128 : v127 = l7.toInt + r101.toInt := q_addVI ev127 q_evr q_evr (by omega) (by omega)
            refine q_ok_ite (fun g129 => ?_) (fun g129 => ?_)
            · have f130 := q_leV q_evr ev127 (q_p_ge g129)
              unfold m_X12_addSimple_241
              unfold m_X12_addSimple_242
              obtain ⟨v131, ev131⟩ := q_ev (((l2 + (1)) + (1)).toInt)
              have f132 : v131 = v104 + (1) := q_addVI ev131 ev104 (show q_eqv ((1 : Int32)).toInt (1) by unfold q_eqv; decide) (by omega) (by omega)
              have t133 := g_45_R19 hG mo ro
              have e134 : q_R (S102) o 19 = q_R (S) o 19 := (Eq.trans (q_unR h103.1 mo ro (by decide)) (q_unR h35.1 mo ro (by decide)))
              have t135 := g_45_R28 hG mo ro
              have e136 : q_R (S102) o 28 = q_R (S) o 28 := (Eq.trans (q_unR h103.1 mo ro (by decide)) (q_unR h35.1 mo ro (by decide)))
              have t137 := g_45_R27 hG mo ro
              have e138 : q_R (S102) o 27 = q_R (S) o 27 := (Eq.trans (q_unR h103.1 mo ro (by decide)) (q_unR h35.1 mo ro (by decide)))
              have f139 : q_sm _ := g_45_I14 hG mo ro
              have e140 : q_I (S102) o 14 = q_I (S) o 14 := (Eq.trans (q_unI h103.1 mo ro (by decide)) (q_unI h35.1 mo ro (by decide)))
              obtain ⟨v141, ev141⟩ := q_ev ((q_I (S102) o 14).toInt)
              have f142 : v141 = v12 := q_eqVI e140 ev141 ev12
              exact s_X12_addSimple_45_248 hn mo ro (p0 := p0) (B175 := (k : Int) + 1) (fun S9 z1 z2 z3 z4 z5 hG9 hz1 hz2 hz3 hz4 hz5 hzf0 hzf1 hzf2 hzf3  hm9 => ih S9 z1 z2 z3 z4 z5 hG9 hz1 hz2 hz3 hz4 hz5 hzf0 hzf1 hzf2 hzf3  (by omega)) n _ _ _ _ _ _ _ _ _ hG (q_oV ev131 (by omega) (by omega)) (q_wd hl4 (by decide) (by decide)) (q_wd hl5 (by decide) (by decide)) (q_wd (show (0 : Int) ≤ (0 : Int32).toInt ∧ (0 : Int32).toInt ≤ (0 : Int) by decide) (by decide) (by decide)) (q_oV q_evr (by omega) (by omega)) (q_wd f36 (by decide) (by decide)) (q_wd f106 (by decide) (by decide)) (q_wd hl7 (by decide) (by decide)) (q_N3xI (Eq.trans e134 ea2) (Eq.trans e136 ea4) (Eq.trans e138 ea6) (q_N3c n107 (q_bw2 (fun x0 x1 => x0 = x1) q_evr q_evr (by omega)) (q_bw2 (fun x0 x1 => x0 = x1) q_evr q_evr (by omega)))) (q_bw2 (fun x0 x1 => x0 = 1 → x1 = 0) (show q_eqv ((0 : Int32)).toInt (0) by unfold q_eqv; decide) ev109 (by omega)) (q_bw2 (fun x0 x1 => x0 = 1 → x1 ≤ 1601) (show q_eqv ((0 : Int32)).toInt (0) by unfold q_eqv; decide) ev131 (by omega)) (q_bw2 (fun x0 x1 => x0 + x1 ≤ 120) ev141 q_evr (by omega)) (q_bw4 (fun x0 x1 x2 x3 => x0 = 1 → x1 + x2 < x3) (show q_eqv ((0 : Int32)).toInt (0) by unfold q_eqv; decide) q_evr q_evr q_evr (by omega)) (q_bw2 (fun x0 x1 => x0 ≤ x1) q_evr q_evr (by omega)) (q_upV q_evr (by omega)) (q_upV q_evr (by omega))
            · have f143 := q_ltV ev127 q_evr (q_n_ge g129)
              unfold m_X12_addSimple_242
              obtain ⟨v144, ev144⟩ := q_ev (((l2 + (1)) + (1)).toInt)
              have f145 : v144 = v104 + (1) := q_addVI ev144 ev104 (show q_eqv ((1 : Int32)).toInt (1) by unfold q_eqv; decide) (by omega) (by omega)
              have t146 := g_45_R19 hG mo ro
              have e147 : q_R (S102) o 19 = q_R (S) o 19 := (Eq.trans (q_unR h103.1 mo ro (by decide)) (q_unR h35.1 mo ro (by decide)))
              have t148 := g_45_R28 hG mo ro
              have e149 : q_R (S102) o 28 = q_R (S) o 28 := (Eq.trans (q_unR h103.1 mo ro (by decide)) (q_unR h35.1 mo ro (by decide)))
              have t150 := g_45_R27 hG mo ro
              have e151 : q_R (S102) o 27 = q_R (S) o 27 := (Eq.trans (q_unR h103.1 mo ro (by decide)) (q_unR h35.1 mo ro (by decide)))
              have f152 : q_sm _ := g_45_I14 hG mo ro
              have e153 : q_I (S102) o 14 = q_I (S) o 14 := (Eq.trans (q_unI h103.1 mo ro (by decide)) (q_unI h35.1 mo ro (by decide)))
              obtain ⟨v154, ev154⟩ := q_ev ((q_I (S102) o 14).toInt)
              have f155 : v154 = v12 := q_eqVI e153 ev154 ev12
              exact s_X12_addSimple_45_248 hn mo ro (p0 := p0) (B175 := (k : Int) + 1) (fun S9 z1 z2 z3 z4 z5 hG9 hz1 hz2 hz3 hz4 hz5 hzf0 hzf1 hzf2 hzf3  hm9 => ih S9 z1 z2 z3 z4 z5 hG9 hz1 hz2 hz3 hz4 hz5 hzf0 hzf1 hzf2 hzf3  (by omega)) n _ _ _ _ _ _ _ _ _ hG (q_oV ev144 (by omega) (by omega)) (q_wd hl4 (by decide) (by decide)) (q_wd hl5 (by decide) (by decide)) (q_wd (show (1 : Int) ≤ (1 : Int32).toInt ∧ (1 : Int32).toInt ≤ (1 : Int) by decide) (by decide) (by decide)) (q_oV q_evr (by omega) (by omega)) (q_wd f36 (by decide) (by decide)) (q_wd f106 (by decide) (by decide)) (q_wd hl7 (by decide) (by decide)) (q_N3xI (Eq.trans e147 ea2) (Eq.trans e149 ea4) (Eq.trans e151 ea6) (q_N3c n107 (q_bw2 (fun x0 x1 => x0 = x1) q_evr q_evr (by omega)) (q_bw2 (fun x0 x1 => x0 = x1) q_evr q_evr (by omega)))) (q_bw2 (fun x0 x1 => x0 = 1 → x1 = 0) (show q_eqv ((1 : Int32)).toInt (1) by unfold q_eqv; decide) ev109 (by omega)) (q_bw2 (fun x0 x1 => x0 = 1 → x1 ≤ 1601) (show q_eqv ((1 : Int32)).toInt (1) by unfold q_eqv; decide) ev144 (by omega)) (q_bw2 (fun x0 x1 => x0 + x1 ≤ 120) ev154 q_evr (by omega)) (q_bw4 (fun x0 x1 x2 x3 => x0 = 1 → x1 + x2 < x3) (show q_eqv ((1 : Int32)).toInt (1) by unfold q_eqv; decide) q_evr q_evr q_evr (by omega)) (q_bw2 (fun x0 x1 => x0 ≤ x1) q_evr q_evr (by omega)) (q_upV q_evr (by omega)) (q_upV q_evr (by omega))
          · have f156 := q_neV ev109 (show q_eqv ((0 : Int32)).toInt (0) by unfold q_eqv; decide) (q_n_eq g125)
            unfold m_X12_addSimple_241
            unfold m_X12_addSimple_242
            obtain ⟨v157, ev157⟩ := q_ev (((l2 + (1)) + (1)).toInt)
            have f158 : v157 = v104 + (1) := q_addVI ev157 ev104 (show q_eqv ((1 : Int32)).toInt (1) by unfold q_eqv; decide) (by omega) (by omega)
            have t159 := g_45_R19 hG mo ro
            have e160 : q_R (S102) o 19 = q_R (S) o 19 := (Eq.trans (q_unR h103.1 mo ro (by decide)) (q_unR h35.1 mo ro (by decide)))
            have t161 := g_45_R28 hG mo ro
            have e162 : q_R (S102) o 28 = q_R (S) o 28 := (Eq.trans (q_unR h103.1 mo ro (by decide)) (q_unR h35.1 mo ro (by decide)))
            have t163 := g_45_R27 hG mo ro
            have e164 : q_R (S102) o 27 = q_R (S) o 27 := (Eq.trans (q_unR h103.1 mo ro (by decide)) (q_unR h35.1 mo ro (by decide)))
            have f165 : q_sm _ := g_45_I14 hG mo ro
            have e166 : q_I (S102) o 14 = q_I (S) o 14 := (Eq.trans (q_unI h103.1 mo ro (by decide)) (q_unI h35.1 mo ro (by decide)))
            obtain ⟨v167, ev167⟩ := q_ev ((q_I (S102) o 14).toInt)
            have f168 : v167 = v12 := q_eqVI e166 ev167 ev12
            exact s_X12_addSimple_45_248 hn mo ro (p0 := p0) (B175 := (k : Int) + 1) (fun S9 z1 z2 z3 z4 z5 hG9 hz1 hz2 hz3 hz4 hz5 hzf0 hzf1 hzf2 hzf3  hm9 => ih S9 z1 z2 z3 z4 z5 hG9 hz1 hz2 hz3 hz4 hz5 hzf0 hzf1 hzf2 hzf3  (by omega)) n _ _ _ _ _ _ _ _ _ hG (q_oV ev157 (by omega) (by omega)) (q_wd hl4 (by decide) (by decide)) (q_wd hl5 (by decide) (by decide)) (q_wd (show (0 : Int) ≤ (0 : Int32).toInt ∧ (0 : Int32).toInt ≤ (0 : Int) by decide) (by decide) (by decide)) (q_oV q_evr (by omega) (by omega)) (q_wd f36 (by decide) (by decide)) (q_wd f106 (by decide) (by decide)) (q_wd hl7 (by decide) (by decide)) (q_N3xI (Eq.trans e160 ea2) (Eq.trans e162 ea4) (Eq.trans e164 ea6) (q_N3c n107 (q_bw2 (fun x0 x1 => x0 = x1) q_evr q_evr (by omega)) (q_bw2 (fun x0 x1 => x0 = x1) q_evr q_evr (by omega)))) (q_bw2 (fun x0 x1 => x0 = 1 → x1 = 0) (show q_eqv ((0 : Int32)).toInt (0) by unfold q_eqv; decide) ev109 (by omega)) (q_bw2 (fun x0 x1 => x0 = 1 → x1 ≤ 1601) (show q_eqv ((0 : Int32)).toInt (0) by unfold q_eqv; decide) ev157 (by omega)) (q_bw2 (fun x0 x1 => x0 + x1 ≤ 120) ev167 q_evr (by omega)) (q_bw4 (fun x0 x1 x2 x3 => x0 = 1 → x1 + x2 < x3) (show q_eqv ((0 : Int32)).toInt (0) by unfold q_eqv; decide) q_evr q_evr q_evr (by omega)) (q_bw2 (fun x0 x1 => x0 ≤ x1) q_evr q_evr (by omega)) (q_upV q_evr (by omega)) (q_upV q_evr (by omega))
set_option maxHeartbeats 4000000 in
set_option maxRecDepth 100000 in
theorem s_X12_addSimple_45_14 {ρ : Nat → Nat} {L : List Nat} {n : Nat} (hn : 18446744073709551616 ≤ n) {S0 : q_S} {o : Nat} (mo : o ∈ L) (ro : ρ o = 45) {p0 : Int32}  : ∀ (k : Nat) (S : q_S) (l1 : Int32) (l2 : Int32) (l3 : Int32) (l4 : Int32) (l5 : Int32), q_G ρ L M_X12_addSimple_45 S0 S → (0 ≤ l1.toInt ∧ l1.toInt ≤ 32767) → (10 ≤ l2.toInt ∧ l2.toInt ≤ 1603) → (-1 ≤ l3.toInt ∧ l3.toInt ≤ 119) → (0 ≤ l4.toInt ∧ l4.toInt ≤ 120) → (0 ≤ l5.toInt ∧ l5.toInt ≤ 32767) → (q_N3x S o (l4).toInt ((l3).toInt + 1)) → ((q_I S o 14).toInt + (l3).toInt + 1 ≤ 120) → 2147483648 - l2.toInt ≤ (k : Int) → q_ok (m_X12_addSimple_14 n k S (some o) l1 l2 l3 l4 l5) (fun r T => q_G ρ L M_X12_addSimple_45 S0 T ∧ (0 ≤ r.toInt ∧ r.toInt ≤ 1) ∧ q_sm ((q_N3x T o (q_I T o 18).toInt 0))) := by
  intro k
  induction k with
  | zero =>
    intro S l1 l2 l3 l4 l5 hG hl1 hl2 hl3 hl4 hl5 hf0 hf1 hm
    have f0 := q_rngI l2
    exfalso; omega
  | succ k ih =>
    intro S l1 l2 l3 l4 l5 hG hl1 hl2 hl3 hl4 hl5 hf0 hf1 hm
    rw [m_X12_addSimple_14]
    have z0 : (0 : Int32).toInt = 0 := rfl
    have t1 := g_45_R19 hG mo ro
    obtain ⟨a2, ea2, ma2, ra2⟩ := id t1
    have t3 := g_45_R28 hG mo ro
    obtain ⟨a4, ea4, ma4, ra4⟩ := id t3
    have t5 := g_45_R27 hG mo ro
    obtain ⟨a6, ea6, ma6, ra6⟩ := id t5
    have n7 := hf0 _ _ _ ea2 ea4 ea6
    have f8 : q_sm _ := g_45_I18 hG mo ro
    have f9 : q_sm _ := g_45_I14 hG mo ro
    obtain ⟨v10, ev10⟩ := q_ev ((q_I (S) o 18).toInt)
    have f11 := q_bV ev10 f8
    obtain ⟨v12, ev12⟩ := q_ev ((q_I (S) o 14).toInt)
    have f13 := q_bV ev12 f9
    have f14 : 0 ≤ l4.toInt ∧ l4.toInt ≤ v10 ∧ v10 ≤ l4.toInt + (l3.toInt + 1) ∧ l4.toInt ≤ v12 := q_to4 (fun x0 x1 x2 x3 => 0 ≤ x0 ∧ x0 ≤ x1 ∧ x1 ≤ x0 + (x2 + 1) ∧ x0 ≤ x3) q_evr ev10 q_evr ev12 (q_N3lin n7)
    have f15 : v12 + l3.toInt + 1 ≤ 120 := q_to2 (fun x0 x1 => x0 + x1 + 1 ≤ 120) ev12 q_evr hf1
    refine q_ok_ite (fun g16 => ?_) (fun g16 => ?_)
    · have f17 := q_leV q_evr q_evr (q_p_ge g16)
      unfold m_X12_addSimple_108
      refine q_ok_atS hG (q_trI mo ro) rfl (fun mo ro => ?_)
      have f21 : q_sm _ := g_45_I8 hG mo ro
      refine q_ok_b (s_X12_data_45_k2 hn hG.1 mo ro (q_wd hl2 (by decide) (by decide)) (q_wd (show (2 : Int) ≤ (2 : Int32).toInt ∧ (2 : Int32).toInt ≤ (2 : Int) by decide) (by decide) (by decide))) (fun r18 S19 h20 => ?_)
      have hG := q_G_call hG h20.1 (by decide)
      have f22 := h20.2.1
      have n23 := q_N3U h20.1 mo ro ma2 ra2 ma4 ra4 ma6 ra6 rfl rfl rfl rfl rfl rfl n7
      have f24 : q_sm _ := g_45_I8 hG mo ro
      obtain ⟨v25, ev25⟩ := q_ev ((q_I (S19) o 8).toInt)
      have f26 := q_bV ev25 f24
      obtain ⟨v27, ev27⟩ := q_ev ((q_I (S) o 8).toInt)
      have f28 := q_bV ev27 f21
      have f29 : v25 = 0 → v27 = 0 := q_to2 (fun x0 x1 => x0 = 0 → x1 = 0) ev25 ev27 ((q_smE (h20.2.2)).1)
      have f30 : q_sm _ := g_45_I21 hG mo ro
      have f31 : q_sm _ := g_45_I22 hG mo ro
      obtain ⟨v32, ev32⟩ := q_ev ((q_I (S19) o 21).toInt)
      have f33 := q_bV ev32 f30
      obtain ⟨v34, ev34⟩ := q_ev ((q_I (S19) o 22).toInt)
      have f35 := q_bV ev34 f31
      have f36 : v25 = 0 → v32 + l2.toInt + (2) ≤ v34 := q_to5 (fun x0 x1 x2 x3 x4 => x0 = 0 → x1 + x2 + x3 ≤ x4) ev25 ev32 q_evr (show q_eqv ((2 : Int32)).toInt (2) by unfold q_eqv; decide) ev34 ((q_smE (h20.2.2)).2.1)
      obtain ⟨v37, ev37⟩ := q_ev ((q_fd (S19) o ((1735162214 : Int64))).toInt)
      have f38 := q_rVI (x := q_fd (S19) o ((1735162214 : Int64))) ev37
      have f39 : v25 = 0 → 0 ≤ v37 := q_to2 (fun x0 x1 => x0 = 0 → 0 ≤ x1) ev25 ev37 ((q_smE (h20.2.2)).2.2)
      refine q_ok_atS hG (q_trI mo ro) rfl (fun mo ro => ?_)
      refine q_ok_ite (fun g40 => ?_) (fun g40 => ?_)
      · have f41 := q_eqV ev25 (show q_eqv ((0 : Int32)).toInt (0) by unfold q_eqv; decide) (q_p_eq g40)
        obtain ⟨v42, ev42⟩ := q_ev (((q_I (S19) o 21) + (l2 + ((2 : Int32) + r18))).toInt)
        obtain ⟨v43, ev43⟩ := q_ev ((l2 + ((2 : Int32) + r18)).toInt)
        obtain ⟨v44, ev44⟩ := q_ev (((2 : Int32) + r18).toInt)
        have f45 : v44 = (2) + r18.toInt := q_addVI ev44 (show q_eqv ((2 : Int32)).toInt (2) by unfold q_eqv; decide) q_evr (by omega) (by omega)
        have f46 : v43 = l2.toInt + v44 := q_addVI ev43 q_evr ev44 (by omega) (by omega)
        have f47 : v42 = v32 + v43 := q_addVI ev42 ev32 ev43 (by omega) (by omega)
        refine q_ok_ite (fun g48 => ?_) (fun g48 => ?_)
        · have f49 := q_ltV ev34 ev42 (q_p_gt g48)
          unfold m_X12_addSimple_169
          unfold m_X12_addSimple_170
          have t50 := g_45_R19 hG mo ro
          have e51 : q_R (S19) o 19 = q_R (S) o 19 := (q_unR h20.1 mo ro (by decide))
          have t52 := g_45_R28 hG mo ro
          have e53 : q_R (S19) o 28 = q_R (S) o 28 := (q_unR h20.1 mo ro (by decide))
          have t54 := g_45_R27 hG mo ro
          have e55 : q_R (S19) o 27 = q_R (S) o 27 := (q_unR h20.1 mo ro (by decide))
          obtain ⟨v56, ev56⟩ := q_ev ((l3 + (1 : Int32)).toInt)
          have f57 : v56 = l3.toInt + (1) := q_addVI ev56 q_evr (show q_eqv ((1 : Int32)).toInt (1) by unfold q_eqv; decide) (by omega) (by omega)
          have f58 : q_sm _ := g_45_I14 hG mo ro
          have e59 : q_I (S19) o 14 = q_I (S) o 14 := (q_unI h20.1 mo ro (by decide))
          obtain ⟨v60, ev60⟩ := q_ev ((q_I (S19) o 14).toInt)
          have f61 : v60 = v12 := q_eqVI e59 ev60 ev12
          exact s_X12_addSimple_45_175 hn mo ro (p0 := p0) n _ _ _ _ _ _ hG (q_wd (q_addBI (12) (67140) hl2 (q_addBI (2) (65537) (show (2 : Int) ≤ (2 : Int32).toInt ∧ (2 : Int32).toInt ≤ (2 : Int) by decide) f22 (by decide) (by decide) (by decide) (by decide)) (by decide) (by decide) (by decide) (by decide)) (by decide) (by decide)) (q_wd hl4 (by decide) (by decide)) (q_wd (q_addBI (0) (120) hl3 (show (1 : Int) ≤ (1 : Int32).toInt ∧ (1 : Int32).toInt ≤ (1 : Int) by decide) (by decide) (by decide) (by decide) (by decide)) (by decide) (by decide)) (q_wd (show (0 : Int) ≤ (0 : Int32).toInt ∧ (0 : Int32).toInt ≤ (0 : Int) by decide) (by decide) (by decide)) (q_wd (show (0 : Int) ≤ (0 : Int32).toInt ∧ (0 : Int32).toInt ≤ (0 : Int) by decide) (by decide) (by decide)) (q_N3xI (Eq.trans e51 ea2) (Eq.trans e53 ea4) (Eq.trans e55 ea6) (q_N3c n23 (q_bw2 (fun x0 x1 => x0 = x1) q_evr q_evr (by omega)) (q_bw2 (fun x0 x1 => x0 = x1 + 1) ev56 q_evr (by omega)))) (q_bw2 (fun x0 x1 => x0 = 1 → x1 = 0) (show q_eqv ((0 : Int32)).toInt (0) by unfold q_eqv; decide) ev25 (by omega)) (q_bw2 (fun x0 x1 => x0 = 1 → x1 ≤ 1601) (show q_eqv ((0 : Int32)).toInt (0) by unfold q_eqv; decide) ev43 (by omega)) (q_bw2 (fun x0 x1 => x0 + x1 ≤ 120) ev60 ev56 (by omega))  (q_upV (show q_eqv ((0 : Int32)).toInt (0) by unfold q_eqv; decide) (by omega))
        · have f62 := q_leV ev42 ev34 (q_n_gt g48)
          have t63 := g_45_R7 hG mo ro
          refine q_ok_b (s_X12_find_45 hn hG.1 mo ro (q_wd (show (1735162214 : Int) ≤ (1735162214 : Int64).toInt ∧ (1735162214 : Int64).toInt ≤ (1735162214 : Int) by decide) (by decide) (by decide))) (fun r64 S65 h66 => ?_)
          obtain ⟨eS65, h66⟩ := h66
          replace eS65 := eS65.symm
          subst eS65
          have f67 := h66.1
          have e68 : r64 = q_fd (S19) o ((1735162214 : Int64)) := Int32.toInt_inj.mp (q_smE (h66.2))
          subst e68
          have f69 := q_bV ev37 f67
          refine q_ok_at hG t63 rfl (fun a70 ma70 ra70 ea70 => ?_)
          refine q_ok_if (q_inV (g_50_N hG ma70 ra70) ev37 (by omega) (by omega)) ?_
          have f71 : q_sm _ := g_50_E hG ma70 ra70 (k := (q_fd (S19) o ((1735162214 : Int64))).toNatClampNeg)
          have t72 := g_45_R6 hG mo ro
          obtain ⟨a73, ea73, ma73, ra73⟩ := id t72
          have f74 : q_sm _ := g_49_E hG ma73 ra73 (k := (q_fd (S19) o ((1735162214 : Int64))).toNatClampNeg)
          have t75 := g_45_R7 hG mo ro
          obtain ⟨v76, ev76⟩ := q_ev ((q_I (S19) a73 (q_fd (S19) o ((1735162214 : Int64))).toNatClampNeg).toInt)
          have f77 := q_bV ev76 f74
          obtain ⟨v78, ev78⟩ := q_ev ((q_I (S19) a70 (q_fd (S19) o ((1735162214 : Int64))).toNatClampNeg).toInt)
          have f79 := q_bV ev78 f71
          have f80 : v76 + v78 ≤ 1600 := q_to2 (fun x0 x1 => x0 + x1 ≤ 1600) ev76 ev78 (hG.1.2.2.2 a73 a70 ma73 ma70 ra73 ra70 _)
          refine q_ok_ite (fun g81 => ?_) (fun g81 => ?_)
          · have f82 := q_ltV ev78 ev42 (q_p_gt g81)
            unfold m_X12_addSimple_169
            unfold m_X12_addSimple_170
            have t83 := g_45_R19 hG mo ro
            have e84 : q_R (S19) o 19 = q_R (S) o 19 := (q_unR h20.1 mo ro (by decide))
            have t85 := g_45_R28 hG mo ro
            have e86 : q_R (S19) o 28 = q_R (S) o 28 := (q_unR h20.1 mo ro (by decide))
            have t87 := g_45_R27 hG mo ro
            have e88 : q_R (S19) o 27 = q_R (S) o 27 := (q_unR h20.1 mo ro (by decide))
            obtain ⟨v89, ev89⟩ := q_ev ((l3 + (1 : Int32)).toInt)
            have f90 : v89 = l3.toInt + (1) := q_addVI ev89 q_evr (show q_eqv ((1 : Int32)).toInt (1) by unfold q_eqv; decide) (by omega) (by omega)
            have f91 : q_sm _ := g_45_I14 hG mo ro
            have e92 : q_I (S19) o 14 = q_I (S) o 14 := (q_unI h20.1 mo ro (by decide))
            obtain ⟨v93, ev93⟩ := q_ev ((q_I (S19) o 14).toInt)
            have f94 : v93 = v12 := q_eqVI e92 ev93 ev12
            exact s_X12_addSimple_45_175 hn mo ro (p0 := p0) n _ _ _ _ _ _ hG (q_wd (q_addBI (12) (67140) hl2 (q_addBI (2) (65537) (show (2 : Int) ≤ (2 : Int32).toInt ∧ (2 : Int32).toInt ≤ (2 : Int) by decide) f22 (by decide) (by decide) (by decide) (by decide)) (by decide) (by decide) (by decide) (by decide)) (by decide) (by decide)) (q_wd hl4 (by decide) (by decide)) (q_wd (q_addBI (0) (120) hl3 (show (1 : Int) ≤ (1 : Int32).toInt ∧ (1 : Int32).toInt ≤ (1 : Int) by decide) (by decide) (by decide) (by decide) (by decide)) (by decide) (by decide)) (q_wd (show (0 : Int) ≤ (0 : Int32).toInt ∧ (0 : Int32).toInt ≤ (0 : Int) by decide) (by decide) (by decide)) (q_wd (show (0 : Int) ≤ (0 : Int32).toInt ∧ (0 : Int32).toInt ≤ (0 : Int) by decide) (by decide) (by decide)) (q_N3xI (Eq.trans e84 ea2) (Eq.trans e86 ea4) (Eq.trans e88 ea6) (q_N3c n23 (q_bw2 (fun x0 x1 => x0 = x1) q_evr q_evr (by omega)) (q_bw2 (fun x0 x1 => x0 = x1 + 1) ev89 q_evr (by omega)))) (q_bw2 (fun x0 x1 => x0 = 1 → x1 = 0) (show q_eqv ((0 : Int32)).toInt (0) by unfold q_eqv; decide) ev25 (by omega)) (q_bw2 (fun x0 x1 => x0 = 1 → x1 ≤ 1601) (show q_eqv ((0 : Int32)).toInt (0) by unfold q_eqv; decide) ev43 (by omega)) (q_bw2 (fun x0 x1 => x0 + x1 ≤ 120) ev93 ev89 (by omega))  (q_upV (show q_eqv ((0 : Int32)).toInt (0) by unfold q_eqv; decide) (by omega))
          · have f95 := q_leV ev42 ev78 (q_n_gt g81)
            unfold m_X12_addSimple_170
            have t96 := g_45_R19 hG mo ro
            have e97 : q_R (S19) o 19 = q_R (S) o 19 := (q_unR h20.1 mo ro (by decide))
            have t98 := g_45_R28 hG mo ro
            have e99 : q_R (S19) o 28 = q_R (S) o 28 := (q_unR h20.1 mo ro (by decide))
            have t100 := g_45_R27 hG mo ro
            have e101 : q_R (S19) o 27 = q_R (S) o 27 := (q_unR h20.1 mo ro (by decide))
            obtain ⟨v102, ev102⟩ := q_ev ((l3 + (1 : Int32)).toInt)
            have f103 : v102 = l3.toInt + (1) := q_addVI ev102 q_evr (show q_eqv ((1 : Int32)).toInt (1) by unfold q_eqv; decide) (by omega) (by omega)
            have f104 : q_sm _ := g_45_I14 hG mo ro
            have e105 : q_I (S19) o 14 = q_I (S) o 14 := (q_unI h20.1 mo ro (by decide))
            obtain ⟨v106, ev106⟩ := q_ev ((q_I (S19) o 14).toInt)
            have f107 : v106 = v12 := q_eqVI e105 ev106 ev12
            exact s_X12_addSimple_45_175 hn mo ro (p0 := p0) n _ _ _ _ _ _ hG (q_wd (q_addBI (12) (67140) hl2 (q_addBI (2) (65537) (show (2 : Int) ≤ (2 : Int32).toInt ∧ (2 : Int32).toInt ≤ (2 : Int) by decide) f22 (by decide) (by decide) (by decide) (by decide)) (by decide) (by decide) (by decide) (by decide)) (by decide) (by decide)) (q_wd hl4 (by decide) (by decide)) (q_wd (q_addBI (0) (120) hl3 (show (1 : Int) ≤ (1 : Int32).toInt ∧ (1 : Int32).toInt ≤ (1 : Int) by decide) (by decide) (by decide) (by decide) (by decide)) (by decide) (by decide)) (q_wd (show (1 : Int) ≤ (1 : Int32).toInt ∧ (1 : Int32).toInt ≤ (1 : Int) by decide) (by decide) (by decide)) (q_wd (show (0 : Int) ≤ (0 : Int32).toInt ∧ (0 : Int32).toInt ≤ (0 : Int) by decide) (by decide) (by decide)) (q_N3xI (Eq.trans e97 ea2) (Eq.trans e99 ea4) (Eq.trans e101 ea6) (q_N3c n23 (q_bw2 (fun x0 x1 => x0 = x1) q_evr q_evr (by omega)) (q_bw2 (fun x0 x1 => x0 = x1 + 1) ev102 q_evr (by omega)))) (q_bw2 (fun x0 x1 => x0 = 1 → x1 = 0) (show q_eqv ((1 : Int32)).toInt (1) by unfold q_eqv; decide) ev25 (by omega)) (q_bw2 (fun x0 x1 => x0 = 1 → x1 ≤ 1601) (show q_eqv ((1 : Int32)).toInt (1) by unfold q_eqv; decide) ev43 (by omega)) (q_bw2 (fun x0 x1 => x0 + x1 ≤ 120) ev106 ev102 (by omega))  (q_upV (show q_eqv ((0 : Int32)).toInt (0) by unfold q_eqv; decide) (by omega))
      · have f108 := q_neV ev25 (show q_eqv ((0 : Int32)).toInt (0) by unfold q_eqv; decide) (q_n_eq g40)
        unfold m_X12_addSimple_169
        unfold m_X12_addSimple_170
        have t109 := g_45_R19 hG mo ro
        have e110 : q_R (S19) o 19 = q_R (S) o 19 := (q_unR h20.1 mo ro (by decide))
        have t111 := g_45_R28 hG mo ro
        have e112 : q_R (S19) o 28 = q_R (S) o 28 := (q_unR h20.1 mo ro (by decide))
        have t113 := g_45_R27 hG mo ro
        have e114 : q_R (S19) o 27 = q_R (S) o 27 := (q_unR h20.1 mo ro (by decide))
        obtain ⟨v115, ev115⟩ := q_ev ((l3 + (1 : Int32)).toInt)
        have f116 : v115 = l3.toInt + (1) := q_addVI ev115 q_evr (show q_eqv ((1 : Int32)).toInt (1) by unfold q_eqv; decide) (by omega) (by omega)
        obtain ⟨v117, ev117⟩ := q_ev ((l2 + ((2 : Int32) + r18)).toInt)
        obtain ⟨v118, ev118⟩ := q_ev (((2 : Int32) + r18).toInt)
        have f119 : v118 = (2) + r18.toInt := q_addVI ev118 (show q_eqv ((2 : Int32)).toInt (2) by unfold q_eqv; decide) q_evr (by omega) (by omega)
        have f120 : v117 = l2.toInt + v118 := q_addVI ev117 q_evr ev118 (by omega) (by omega)
        have f121 : q_sm _ := g_45_I14 hG mo ro
        have e122 : q_I (S19) o 14 = q_I (S) o 14 := (q_unI h20.1 mo ro (by decide))
        obtain ⟨v123, ev123⟩ := q_ev ((q_I (S19) o 14).toInt)
        have f124 : v123 = v12 := q_eqVI e122 ev123 ev12
        exact s_X12_addSimple_45_175 hn mo ro (p0 := p0) n _ _ _ _ _ _ hG (q_wd (q_addBI (12) (67140) hl2 (q_addBI (2) (65537) (show (2 : Int) ≤ (2 : Int32).toInt ∧ (2 : Int32).toInt ≤ (2 : Int) by decide) f22 (by decide) (by decide) (by decide) (by decide)) (by decide) (by decide) (by decide) (by decide)) (by decide) (by decide)) (q_wd hl4 (by decide) (by decide)) (q_wd (q_addBI (0) (120) hl3 (show (1 : Int) ≤ (1 : Int32).toInt ∧ (1 : Int32).toInt ≤ (1 : Int) by decide) (by decide) (by decide) (by decide) (by decide)) (by decide) (by decide)) (q_wd (show (0 : Int) ≤ (0 : Int32).toInt ∧ (0 : Int32).toInt ≤ (0 : Int) by decide) (by decide) (by decide)) (q_wd (show (0 : Int) ≤ (0 : Int32).toInt ∧ (0 : Int32).toInt ≤ (0 : Int) by decide) (by decide) (by decide)) (q_N3xI (Eq.trans e110 ea2) (Eq.trans e112 ea4) (Eq.trans e114 ea6) (q_N3c n23 (q_bw2 (fun x0 x1 => x0 = x1) q_evr q_evr (by omega)) (q_bw2 (fun x0 x1 => x0 = x1 + 1) ev115 q_evr (by omega)))) (q_bw2 (fun x0 x1 => x0 = 1 → x1 = 0) (show q_eqv ((0 : Int32)).toInt (0) by unfold q_eqv; decide) ev25 (by omega)) (q_bw2 (fun x0 x1 => x0 = 1 → x1 ≤ 1601) (show q_eqv ((0 : Int32)).toInt (0) by unfold q_eqv; decide) ev117 (by omega)) (q_bw2 (fun x0 x1 => x0 + x1 ≤ 120) ev123 ev115 (by omega))  (q_upV (show q_eqv ((0 : Int32)).toInt (0) by unfold q_eqv; decide) (by omega))
    · have f125 := q_ltV q_evr q_evr (q_n_ge g16)
      refine q_ok_atS hG (q_trI mo ro) rfl (fun mo ro => ?_)
      have f126 : q_sm _ := g_45_I8 hG mo ro
      obtain ⟨v127, ev127⟩ := q_ev ((q_I (S) o 8).toInt)
      have f128 := q_bV ev127 f126
      refine q_ok_ite (fun g129 => ?_) (fun g129 => ?_)
      · have f130 := q_eqV ev127 (show q_eqv ((0 : Int32)).toInt (0) by unfold q_eqv; decide) (q_p_eq g129)
        refine q_ok_b (s_X12_data_45_k2 hn hG.1 mo ro (q_wd hl2 (by decide) (by decide)) (q_wd (show (2 : Int) ≤ (2 : Int32).toInt ∧ (2 : Int32).toInt ≤ (2 : Int) by decide) (by decide) (by decide))) (fun r131 S132 h133 => ?_)
        have hG := q_G_call hG h133.1 (by decide)
        have f134 := h133.2.1
        have n135 := q_N3U h133.1 mo ro ma2 ra2 ma4 ra4 ma6 ra6 rfl rfl rfl rfl rfl rfl n7
        have f136 : q_sm _ := g_45_I8 hG mo ro
        obtain ⟨v137, ev137⟩ := q_ev ((q_I (S132) o 8).toInt)
        have f138 := q_bV ev137 f136
        have f139 : v137 = 0 → v127 = 0 := q_to2 (fun x0 x1 => x0 = 0 → x1 = 0) ev137 ev127 ((q_smE (h133.2.2)).1)
        have f140 : q_sm _ := g_45_I21 hG mo ro
        have f141 : q_sm _ := g_45_I22 hG mo ro
        obtain ⟨v142, ev142⟩ := q_ev ((q_I (S132) o 21).toInt)
        have f143 := q_bV ev142 f140
        obtain ⟨v144, ev144⟩ := q_ev ((q_I (S132) o 22).toInt)
        have f145 := q_bV ev144 f141
        have f146 : v137 = 0 → v142 + l2.toInt + (2) ≤ v144 := q_to5 (fun x0 x1 x2 x3 x4 => x0 = 0 → x1 + x2 + x3 ≤ x4) ev137 ev142 q_evr (show q_eqv ((2 : Int32)).toInt (2) by unfold q_eqv; decide) ev144 ((q_smE (h133.2.2)).2.1)
        obtain ⟨v147, ev147⟩ := q_ev ((q_fd (S132) o ((1735162214 : Int64))).toInt)
        have f148 := q_rVI (x := q_fd (S132) o ((1735162214 : Int64))) ev147
        have f149 : v137 = 0 → 0 ≤ v147 := q_to2 (fun x0 x1 => x0 = 0 → 0 ≤ x1) ev137 ev147 ((q_smE (h133.2.2)).2.2)
        refine q_ok_atS hG (q_trI mo ro) rfl (fun mo ro => ?_)
        refine q_ok_ite (fun g150 => ?_) (fun g150 => ?_)
        · have f151 := q_eqV ev137 (show q_eqv ((0 : Int32)).toInt (0) by unfold q_eqv; decide) (q_p_eq g150)
          refine q_ok_ite (fun g152 => ?_) (fun g152 => ?_)
          · have f153 := q_leV q_evr q_evr (q_p_le g152)
            unfold m_X12_addSimple_65
            refine q_ok_atS hG (q_trI mo ro) rfl (fun mo ro => ?_)
            have hG := u_45_I18 (x := l4) hG mo ro (by decide) (q_wd hl4 (by decide) (by decide))
            have f154 : q_sm _ := g_45_I18 hG mo ro
            have e155 : q_I (S132) o 18 = q_I (S) o 18 := (q_unI h133.1 mo ro (by decide))
            have f156 : q_sm _ := g_45_I14 hG mo ro
            have e157 : q_I (S132) o 14 = q_I (S) o 14 := (q_unI h133.1 mo ro (by decide))
            have f158 : q_sm _ := g_45_I24 hG mo ro
            have n159 : q_N3 (q_sI (S132) o 18 (l4)) o a2 a4 a6 _ _ := q_N3no ro ra2 ra4 ra6 n135 (q_bw2 (fun x0 x1 => x0 = x1) q_evr q_evr (by omega))
            refine q_ok_if (q_b01V (show q_eqv ((0 : Int32)).toInt (0) by unfold q_eqv; decide) (by omega) (by omega)) ?_
            have t160 := g_45_R19 hG mo ro
            have e161 : q_R (q_sI (S132) o 18 (l4)) o 19 = q_R (S) o 19 := (Eq.trans q_skRI (q_unR h133.1 mo ro (by decide)))
            have t162 := g_45_R28 hG mo ro
            have e163 : q_R (q_sI (S132) o 18 (l4)) o 28 = q_R (S) o 28 := (Eq.trans q_skRI (q_unR h133.1 mo ro (by decide)))
            have t164 := g_45_R27 hG mo ro
            have e165 : q_R (q_sI (S132) o 18 (l4)) o 27 = q_R (S) o 27 := (Eq.trans q_skRI (q_unR h133.1 mo ro (by decide)))
            have f166 : q_sm _ := g_45_I18 hG mo ro
            have e167 : q_I (q_sI (S132) o 18 (l4)) o 18 = l4 := q_hitI
            obtain ⟨v168, ev168⟩ := q_ev ((q_I (q_sI (S132) o 18 (l4)) o 18).toInt)
            have f169 : v168 = l4.toInt := q_eqVI e167 ev168 q_evr
            exact q_ok_some ⟨hG, (q_wd (show (0 : Int) ≤ (0 : Int32).toInt ∧ (0 : Int32).toInt ≤ (0 : Int) by decide) (by decide) (by decide)), (q_smI (q_N3xI (Eq.trans e161 ea2) (Eq.trans e163 ea4) (Eq.trans e165 ea6) (q_N3c n159 (q_bw2 (fun x0 x1 => x0 = x1) ev168 q_evr (by omega)) rfl)))⟩
          · have f170 := q_ltV q_evr q_evr (q_n_le g152)
            have f171 : q_sm _ := g_45_I14 hG mo ro
            have e172 : q_I (S132) o 14 = q_I (S) o 14 := (q_unI h133.1 mo ro (by decide))
            obtain ⟨v173, ev173⟩ := q_ev ((((q_I (S132) o 14) + r131) + (1 : Int32)).toInt)
            obtain ⟨v174, ev174⟩ := q_ev (((q_I (S132) o 14) + r131).toInt)
            obtain ⟨v175, ev175⟩ := q_ev ((q_I (S132) o 14).toInt)
            have f176 : v175 = v12 := q_eqVI e172 ev175 ev12
            have f177 : v174 = v175 + r131.toInt := q_addVI ev174 ev175 q_evr (by omega) (by omega)
            have f178 : v173 = v174 + (1) := q_addVI ev173 ev174 (show q_eqv ((1 : Int32)).toInt (1) by unfold q_eqv; decide) (by omega) (by omega)
            refine q_ok_ite (fun g179 => ?_) (fun g179 => ?_)
            · have f180 := q_leV ev173 (show q_eqv ((120 : Int32)).toInt (120) by unfold q_eqv; decide) (q_p_le g179)
              have t181 := g_45_R19 hG mo ro
              have e182 : q_R (S132) o 19 = q_R (S) o 19 := (q_unR h133.1 mo ro (by decide))
              have f183 : q_sm _ := g_45_I18 hG mo ro
              have e184 : q_I (S132) o 18 = q_I (S) o 18 := (q_unI h133.1 mo ro (by decide))
              refine q_ok_atA hG (Eq.trans e182 ea2) ma2 ra2 rfl ?_
              obtain ⟨v185, ev185⟩ := q_ev ((q_I (S132) o 18).toInt)
              have f186 : v185 = v10 := q_eqVI e184 ev185 ev10
              refine q_ok_if (q_inV (g_58_N hG ma2 ra2) ev185 (by omega) (by omega)) ?_
              have hG := u_58_E (k := (q_I (S132) o 18).toNatClampNeg) (x := (q_I (S132) o 14) + r131) hG ma2 ra2 (by decide) (q_oV ev174 (by omega) (by omega))
              have f187 : q_sm _ := g_45_I18 hG mo ro
              have e188 : q_I (q_sI (S132) a2 (q_I (S132) o 18).toNatClampNeg ((q_I (S132) o 14) + r131)) o 18 = q_I (S132) o 18 := (q_fwI ro ra2 (by decide))
              obtain ⟨v189, ev189⟩ := q_ev (((q_I (q_sI (S132) a2 (q_I (S132) o 18).toNatClampNeg ((q_I (S132) o 14) + r131)) o 18) + (1 : Int32)).toInt)
              obtain ⟨v190, ev190⟩ := q_ev ((q_I (q_sI (S132) a2 (q_I (S132) o 18).toNatClampNeg ((q_I (S132) o 14) + r131)) o 18).toInt)
              have f191 : v190 = v185 := q_eqVI e188 ev190 ev185
              have f192 : v189 = v190 + (1) := q_addVI ev189 ev190 (show q_eqv ((1 : Int32)).toInt (1) by unfold q_eqv; decide) (by omega) (by omega)
              have hG := u_45_I18 (x := (q_I (q_sI (S132) a2 (q_I (S132) o 18).toNatClampNeg ((q_I (S132) o 14) + r131)) o 18) + (1 : Int32)) hG mo ro (by decide) (q_oV ev189 (by omega) (by omega))
              have f193 : q_sm _ := g_45_I14 hG mo ro
              have e194 : q_I (q_sI (S132) a2 (q_I (S132) o 18).toNatClampNeg ((q_I (S132) o 14) + r131)) o 14 = q_I (S132) o 14 := (q_fwI ro ra2 (by decide))
              have f195 : q_sm _ := g_45_I24 hG mo ro
              have n196 : q_N3 (q_sI (q_sI (S132) a2 (q_I (S132) o 18).toNatClampNeg ((q_I (S132) o 14) + r131)) o 18 ((q_I (q_sI (S132) a2 (q_I (S132) o 18).toNatClampNeg ((q_I (S132) o 14) + r131)) o 18) + (1 : Int32))) o a2 a4 a6 _ _ := q_N3app ro ra2 ra4 ra6 n135 (q_clamp (q_bw1 (fun x0 => 0 ≤ x0) ev185 (by omega)) (q_bw2 (fun x0 x1 => x0 = x1) ev185 ev185 (by omega))) (q_bw3 (fun x0 x1 x2 => x0 = x1 + x2) ev174 ev175 q_evr (by omega)) (q_bw2 (fun x0 x1 => x0 + 1 ≤ x1) q_evr q_evr (by omega)) (q_bw2 (fun x0 x1 => x0 = x1 + 1) ev189 ev185 (by omega))
              refine q_ok_let (fun S197 eS197 => ?_)
              rw [← eS197] at hG
              have n198 := q_N3L eS197 n196
              obtain ⟨v199, ev199⟩ := q_ev ((l2 + (2)).toInt)
              have f200 : v199 = l2.toInt + (2) := q_addVI ev199 q_evr (show q_eqv ((2 : Int32)).toInt (2) by unfold q_eqv; decide) (by omega) (by omega)
              obtain ⟨v201, ev201⟩ := q_ev ((l5 + (1)).toInt)
              have f202 : v201 = l5.toInt + (1) := q_addVI ev201 q_evr (show q_eqv ((1 : Int32)).toInt (1) by unfold q_eqv; decide) (by omega) (by omega)
              have t203 := g_45_R19 hG mo ro
              have e204 : q_R (S197) o 19 = q_R (S132) o 19 := (Eq.trans (q_leR eS197) (Eq.trans q_skRI q_skRI))
              have t205 := g_45_R28 hG mo ro
              have e206 : q_R (S197) o 28 = q_R (S) o 28 := (Eq.trans (q_leR eS197) (Eq.trans q_skRI (Eq.trans q_skRI (q_unR h133.1 mo ro (by decide)))))
              have t207 := g_45_R27 hG mo ro
              have e208 : q_R (S197) o 27 = q_R (S) o 27 := (Eq.trans (q_leR eS197) (Eq.trans q_skRI (Eq.trans q_skRI (q_unR h133.1 mo ro (by decide)))))
              have f209 : q_sm _ := g_45_I14 hG mo ro
              have e210 : q_I (S197) o 14 = q_I (q_sI (S132) a2 (q_I (S132) o 18).toNatClampNeg ((q_I (S132) o 14) + r131)) o 14 := (Eq.trans (q_leI eS197) (q_ffI (by decide)))
              obtain ⟨v211, ev211⟩ := q_ev ((q_I (S197) o 14).toInt)
              obtain ⟨v212, ev212⟩ := q_ev ((q_I (q_sI (S132) a2 (q_I (S132) o 18).toNatClampNeg ((q_I (S132) o 14) + r131)) o 14).toInt)
              have f213 : v212 = v175 := q_eqVI e194 ev212 ev175
              have f214 : v211 = v212 := q_eqVI e210 ev211 ev212
              exact ih _ _ _ _ _ _ hG (q_wd hl1 (by decide) (by decide)) (q_oV ev199 (by omega) (by omega)) (q_oV q_evr (by omega) (by omega)) (q_wd hl4 (by decide) (by decide)) (q_oV ev201 (by omega) (by omega)) (q_N3xI (Eq.trans e204 (Eq.trans e182 ea2)) (Eq.trans e206 ea4) (Eq.trans e208 ea6) (q_N3c n198 (q_bw2 (fun x0 x1 => x0 = x1) q_evr q_evr (by omega)) (q_bw2 (fun x0 x1 => x0 + 1 = x1 + 1) q_evr q_evr (by omega)))) (q_bw2 (fun x0 x1 => x0 + x1 + 1 ≤ 120) ev211 q_evr (by omega))  (q_upV ev199 (by omega))
            · have f215 := q_ltV (show q_eqv ((120 : Int32)).toInt (120) by unfold q_eqv; decide) ev173 (q_n_le g179)
              unfold m_X12_addSimple_65
              refine q_ok_atS hG (q_trI mo ro) rfl (fun mo ro => ?_)
              have hG := u_45_I18 (x := l4) hG mo ro (by decide) (q_wd hl4 (by decide) (by decide))
              have f216 : q_sm _ := g_45_I18 hG mo ro
              have e217 : q_I (S132) o 18 = q_I (S) o 18 := (q_unI h133.1 mo ro (by decide))
              have f218 : q_sm _ := g_45_I24 hG mo ro
              have n219 : q_N3 (q_sI (S132) o 18 (l4)) o a2 a4 a6 _ _ := q_N3no ro ra2 ra4 ra6 n135 (q_bw2 (fun x0 x1 => x0 = x1) q_evr q_evr (by omega))
              refine q_ok_if (q_b01V (show q_eqv ((0 : Int32)).toInt (0) by unfold q_eqv; decide) (by omega) (by omega)) ?_
              have t220 := g_45_R19 hG mo ro
              have e221 : q_R (q_sI (S132) o 18 (l4)) o 19 = q_R (S) o 19 := (Eq.trans q_skRI (q_unR h133.1 mo ro (by decide)))
              have t222 := g_45_R28 hG mo ro
              have e223 : q_R (q_sI (S132) o 18 (l4)) o 28 = q_R (S) o 28 := (Eq.trans q_skRI (q_unR h133.1 mo ro (by decide)))
              have t224 := g_45_R27 hG mo ro
              have e225 : q_R (q_sI (S132) o 18 (l4)) o 27 = q_R (S) o 27 := (Eq.trans q_skRI (q_unR h133.1 mo ro (by decide)))
              have f226 : q_sm _ := g_45_I18 hG mo ro
              have e227 : q_I (q_sI (S132) o 18 (l4)) o 18 = l4 := q_hitI
              obtain ⟨v228, ev228⟩ := q_ev ((q_I (q_sI (S132) o 18 (l4)) o 18).toInt)
              have f229 : v228 = l4.toInt := q_eqVI e227 ev228 q_evr
              exact q_ok_some ⟨hG, (q_wd (show (0 : Int) ≤ (0 : Int32).toInt ∧ (0 : Int32).toInt ≤ (0 : Int) by decide) (by decide) (by decide)), (q_smI (q_N3xI (Eq.trans e221 ea2) (Eq.trans e223 ea4) (Eq.trans e225 ea6) (q_N3c n219 (q_bw2 (fun x0 x1 => x0 = x1) ev228 q_evr (by omega)) rfl)))⟩
        · have f230 := q_neV ev137 (show q_eqv ((0 : Int32)).toInt (0) by unfold q_eqv; decide) (q_n_eq g150)
          unfold m_X12_addSimple_65
          refine q_ok_atS hG (q_trI mo ro) rfl (fun mo ro => ?_)
          have hG := u_45_I18 (x := l4) hG mo ro (by decide) (q_wd hl4 (by decide) (by decide))
          have f231 : q_sm _ := g_45_I18 hG mo ro
          have e232 : q_I (S132) o 18 = q_I (S) o 18 := (q_unI h133.1 mo ro (by decide))
          have f233 : q_sm _ := g_45_I14 hG mo ro
          have e234 : q_I (S132) o 14 = q_I (S) o 14 := (q_unI h133.1 mo ro (by decide))
          have f235 : q_sm _ := g_45_I24 hG mo ro
          have n236 : q_N3 (q_sI (S132) o 18 (l4)) o a2 a4 a6 _ _ := q_N3no ro ra2 ra4 ra6 n135 (q_bw2 (fun x0 x1 => x0 = x1) q_evr q_evr (by omega))
          refine q_ok_if (q_b01V (show q_eqv ((0 : Int32)).toInt (0) by unfold q_eqv; decide) (by omega) (by omega)) ?_
          have t237 := g_45_R19 hG mo ro
          have e238 : q_R (q_sI (S132) o 18 (l4)) o 19 = q_R (S) o 19 := (Eq.trans q_skRI (q_unR h133.1 mo ro (by decide)))
          have t239 := g_45_R28 hG mo ro
          have e240 : q_R (q_sI (S132) o 18 (l4)) o 28 = q_R (S) o 28 := (Eq.trans q_skRI (q_unR h133.1 mo ro (by decide)))
          have t241 := g_45_R27 hG mo ro
          have e242 : q_R (q_sI (S132) o 18 (l4)) o 27 = q_R (S) o 27 := (Eq.trans q_skRI (q_unR h133.1 mo ro (by decide)))
          have f243 : q_sm _ := g_45_I18 hG mo ro
          have e244 : q_I (q_sI (S132) o 18 (l4)) o 18 = l4 := q_hitI
          obtain ⟨v245, ev245⟩ := q_ev ((q_I (q_sI (S132) o 18 (l4)) o 18).toInt)
          have f246 : v245 = l4.toInt := q_eqVI e244 ev245 q_evr
          exact q_ok_some ⟨hG, (q_wd (show (0 : Int) ≤ (0 : Int32).toInt ∧ (0 : Int32).toInt ≤ (0 : Int) by decide) (by decide) (by decide)), (q_smI (q_N3xI (Eq.trans e238 ea2) (Eq.trans e240 ea4) (Eq.trans e242 ea6) (q_N3c n236 (q_bw2 (fun x0 x1 => x0 = x1) ev245 q_evr (by omega)) rfl)))⟩
      · have f247 := q_neV ev127 (show q_eqv ((0 : Int32)).toInt (0) by unfold q_eqv; decide) (q_n_eq g129)
        unfold m_X12_addSimple_108
        refine q_ok_atS hG (q_trI mo ro) rfl (fun mo ro => ?_)
        refine q_ok_b (s_X12_data_45_k2 hn hG.1 mo ro (q_wd hl2 (by decide) (by decide)) (q_wd (show (2 : Int) ≤ (2 : Int32).toInt ∧ (2 : Int32).toInt ≤ (2 : Int) by decide) (by decide) (by decide))) (fun r248 S249 h250 => ?_)
        have hG := q_G_call hG h250.1 (by decide)
        have f251 := h250.2.1
        have n252 := q_N3U h250.1 mo ro ma2 ra2 ma4 ra4 ma6 ra6 rfl rfl rfl rfl rfl rfl n7
        have f253 : q_sm _ := g_45_I8 hG mo ro
        obtain ⟨v254, ev254⟩ := q_ev ((q_I (S249) o 8).toInt)
        have f255 := q_bV ev254 f253
        have f256 : v254 = 0 → v127 = 0 := q_to2 (fun x0 x1 => x0 = 0 → x1 = 0) ev254 ev127 ((q_smE (h250.2.2)).1)
        have f257 : q_sm _ := g_45_I21 hG mo ro
        have f258 : q_sm _ := g_45_I22 hG mo ro
        obtain ⟨v259, ev259⟩ := q_ev ((q_I (S249) o 21).toInt)
        have f260 := q_bV ev259 f257
        obtain ⟨v261, ev261⟩ := q_ev ((q_I (S249) o 22).toInt)
        have f262 := q_bV ev261 f258
        have f263 : v254 = 0 → v259 + l2.toInt + (2) ≤ v261 := q_to5 (fun x0 x1 x2 x3 x4 => x0 = 0 → x1 + x2 + x3 ≤ x4) ev254 ev259 q_evr (show q_eqv ((2 : Int32)).toInt (2) by unfold q_eqv; decide) ev261 ((q_smE (h250.2.2)).2.1)
        obtain ⟨v264, ev264⟩ := q_ev ((q_fd (S249) o ((1735162214 : Int64))).toInt)
        have f265 := q_rVI (x := q_fd (S249) o ((1735162214 : Int64))) ev264
        have f266 : v254 = 0 → 0 ≤ v264 := q_to2 (fun x0 x1 => x0 = 0 → 0 ≤ x1) ev254 ev264 ((q_smE (h250.2.2)).2.2)
        refine q_ok_atS hG (q_trI mo ro) rfl (fun mo ro => ?_)
        refine q_ok_ite (fun g267 => ?_) (fun g267 => ?_)
        · have f268 := q_eqV ev254 (show q_eqv ((0 : Int32)).toInt (0) by unfold q_eqv; decide) (q_p_eq g267)
          obtain ⟨v269, ev269⟩ := q_ev (((q_I (S249) o 21) + (l2 + ((2 : Int32) + r248))).toInt)
          obtain ⟨v270, ev270⟩ := q_ev ((l2 + ((2 : Int32) + r248)).toInt)
          obtain ⟨v271, ev271⟩ := q_ev (((2 : Int32) + r248).toInt)
          have f272 : v271 = (2) + r248.toInt := q_addVI ev271 (show q_eqv ((2 : Int32)).toInt (2) by unfold q_eqv; decide) q_evr (by omega) (by omega)
          have f273 : v270 = l2.toInt + v271 := q_addVI ev270 q_evr ev271 (by omega) (by omega)
          have f274 : v269 = v259 + v270 := q_addVI ev269 ev259 ev270 (by omega) (by omega)
          refine q_ok_ite (fun g275 => ?_) (fun g275 => ?_)
          · have f276 := q_ltV ev261 ev269 (q_p_gt g275)
            unfold m_X12_addSimple_169
            unfold m_X12_addSimple_170
            have t277 := g_45_R19 hG mo ro
            have e278 : q_R (S249) o 19 = q_R (S) o 19 := (q_unR h250.1 mo ro (by decide))
            have t279 := g_45_R28 hG mo ro
            have e280 : q_R (S249) o 28 = q_R (S) o 28 := (q_unR h250.1 mo ro (by decide))
            have t281 := g_45_R27 hG mo ro
            have e282 : q_R (S249) o 27 = q_R (S) o 27 := (q_unR h250.1 mo ro (by decide))
            obtain ⟨v283, ev283⟩ := q_ev ((l3 + (1 : Int32)).toInt)
            have f284 : v283 = l3.toInt + (1) := q_addVI ev283 q_evr (show q_eqv ((1 : Int32)).toInt (1) by unfold q_eqv; decide) (by omega) (by omega)
            have f285 : q_sm _ := g_45_I14 hG mo ro
            have e286 : q_I (S249) o 14 = q_I (S) o 14 := (q_unI h250.1 mo ro (by decide))
            obtain ⟨v287, ev287⟩ := q_ev ((q_I (S249) o 14).toInt)
            have f288 : v287 = v12 := q_eqVI e286 ev287 ev12
            exact s_X12_addSimple_45_175 hn mo ro (p0 := p0) n _ _ _ _ _ _ hG (q_wd (q_addBI (12) (67140) hl2 (q_addBI (2) (65537) (show (2 : Int) ≤ (2 : Int32).toInt ∧ (2 : Int32).toInt ≤ (2 : Int) by decide) f251 (by decide) (by decide) (by decide) (by decide)) (by decide) (by decide) (by decide) (by decide)) (by decide) (by decide)) (q_wd hl4 (by decide) (by decide)) (q_wd (q_addBI (0) (120) hl3 (show (1 : Int) ≤ (1 : Int32).toInt ∧ (1 : Int32).toInt ≤ (1 : Int) by decide) (by decide) (by decide) (by decide) (by decide)) (by decide) (by decide)) (q_wd (show (0 : Int) ≤ (0 : Int32).toInt ∧ (0 : Int32).toInt ≤ (0 : Int) by decide) (by decide) (by decide)) (q_wd (show (0 : Int) ≤ (0 : Int32).toInt ∧ (0 : Int32).toInt ≤ (0 : Int) by decide) (by decide) (by decide)) (q_N3xI (Eq.trans e278 ea2) (Eq.trans e280 ea4) (Eq.trans e282 ea6) (q_N3c n252 (q_bw2 (fun x0 x1 => x0 = x1) q_evr q_evr (by omega)) (q_bw2 (fun x0 x1 => x0 = x1 + 1) ev283 q_evr (by omega)))) (q_bw2 (fun x0 x1 => x0 = 1 → x1 = 0) (show q_eqv ((0 : Int32)).toInt (0) by unfold q_eqv; decide) ev254 (by omega)) (q_bw2 (fun x0 x1 => x0 = 1 → x1 ≤ 1601) (show q_eqv ((0 : Int32)).toInt (0) by unfold q_eqv; decide) ev270 (by omega)) (q_bw2 (fun x0 x1 => x0 + x1 ≤ 120) ev287 ev283 (by omega))  (q_upV (show q_eqv ((0 : Int32)).toInt (0) by unfold q_eqv; decide) (by omega))
          · have f289 := q_leV ev269 ev261 (q_n_gt g275)
            have t290 := g_45_R7 hG mo ro
            refine q_ok_b (s_X12_find_45 hn hG.1 mo ro (q_wd (show (1735162214 : Int) ≤ (1735162214 : Int64).toInt ∧ (1735162214 : Int64).toInt ≤ (1735162214 : Int) by decide) (by decide) (by decide))) (fun r291 S292 h293 => ?_)
            obtain ⟨eS292, h293⟩ := h293
            replace eS292 := eS292.symm
            subst eS292
            have f294 := h293.1
            have e295 : r291 = q_fd (S249) o ((1735162214 : Int64)) := Int32.toInt_inj.mp (q_smE (h293.2))
            subst e295
            have f296 := q_bV ev264 f294
            refine q_ok_at hG t290 rfl (fun a297 ma297 ra297 ea297 => ?_)
            refine q_ok_if (q_inV (g_50_N hG ma297 ra297) ev264 (by omega) (by omega)) ?_
            have f298 : q_sm _ := g_50_E hG ma297 ra297 (k := (q_fd (S249) o ((1735162214 : Int64))).toNatClampNeg)
            have t299 := g_45_R6 hG mo ro
            obtain ⟨a300, ea300, ma300, ra300⟩ := id t299
            have f301 : q_sm _ := g_49_E hG ma300 ra300 (k := (q_fd (S249) o ((1735162214 : Int64))).toNatClampNeg)
            have t302 := g_45_R7 hG mo ro
            obtain ⟨v303, ev303⟩ := q_ev ((q_I (S249) a300 (q_fd (S249) o ((1735162214 : Int64))).toNatClampNeg).toInt)
            have f304 := q_bV ev303 f301
            obtain ⟨v305, ev305⟩ := q_ev ((q_I (S249) a297 (q_fd (S249) o ((1735162214 : Int64))).toNatClampNeg).toInt)
            have f306 := q_bV ev305 f298
            have f307 : v303 + v305 ≤ 1600 := q_to2 (fun x0 x1 => x0 + x1 ≤ 1600) ev303 ev305 (hG.1.2.2.2 a300 a297 ma300 ma297 ra300 ra297 _)
            refine q_ok_ite (fun g308 => ?_) (fun g308 => ?_)
            · have f309 := q_ltV ev305 ev269 (q_p_gt g308)
              unfold m_X12_addSimple_169
              unfold m_X12_addSimple_170
              have t310 := g_45_R19 hG mo ro
              have e311 : q_R (S249) o 19 = q_R (S) o 19 := (q_unR h250.1 mo ro (by decide))
              have t312 := g_45_R28 hG mo ro
              have e313 : q_R (S249) o 28 = q_R (S) o 28 := (q_unR h250.1 mo ro (by decide))
              have t314 := g_45_R27 hG mo ro
              have e315 : q_R (S249) o 27 = q_R (S) o 27 := (q_unR h250.1 mo ro (by decide))
              obtain ⟨v316, ev316⟩ := q_ev ((l3 + (1 : Int32)).toInt)
              have f317 : v316 = l3.toInt + (1) := q_addVI ev316 q_evr (show q_eqv ((1 : Int32)).toInt (1) by unfold q_eqv; decide) (by omega) (by omega)
              have f318 : q_sm _ := g_45_I14 hG mo ro
              have e319 : q_I (S249) o 14 = q_I (S) o 14 := (q_unI h250.1 mo ro (by decide))
              obtain ⟨v320, ev320⟩ := q_ev ((q_I (S249) o 14).toInt)
              have f321 : v320 = v12 := q_eqVI e319 ev320 ev12
              exact s_X12_addSimple_45_175 hn mo ro (p0 := p0) n _ _ _ _ _ _ hG (q_wd (q_addBI (12) (67140) hl2 (q_addBI (2) (65537) (show (2 : Int) ≤ (2 : Int32).toInt ∧ (2 : Int32).toInt ≤ (2 : Int) by decide) f251 (by decide) (by decide) (by decide) (by decide)) (by decide) (by decide) (by decide) (by decide)) (by decide) (by decide)) (q_wd hl4 (by decide) (by decide)) (q_wd (q_addBI (0) (120) hl3 (show (1 : Int) ≤ (1 : Int32).toInt ∧ (1 : Int32).toInt ≤ (1 : Int) by decide) (by decide) (by decide) (by decide) (by decide)) (by decide) (by decide)) (q_wd (show (0 : Int) ≤ (0 : Int32).toInt ∧ (0 : Int32).toInt ≤ (0 : Int) by decide) (by decide) (by decide)) (q_wd (show (0 : Int) ≤ (0 : Int32).toInt ∧ (0 : Int32).toInt ≤ (0 : Int) by decide) (by decide) (by decide)) (q_N3xI (Eq.trans e311 ea2) (Eq.trans e313 ea4) (Eq.trans e315 ea6) (q_N3c n252 (q_bw2 (fun x0 x1 => x0 = x1) q_evr q_evr (by omega)) (q_bw2 (fun x0 x1 => x0 = x1 + 1) ev316 q_evr (by omega)))) (q_bw2 (fun x0 x1 => x0 = 1 → x1 = 0) (show q_eqv ((0 : Int32)).toInt (0) by unfold q_eqv; decide) ev254 (by omega)) (q_bw2 (fun x0 x1 => x0 = 1 → x1 ≤ 1601) (show q_eqv ((0 : Int32)).toInt (0) by unfold q_eqv; decide) ev270 (by omega)) (q_bw2 (fun x0 x1 => x0 + x1 ≤ 120) ev320 ev316 (by omega))  (q_upV (show q_eqv ((0 : Int32)).toInt (0) by unfold q_eqv; decide) (by omega))
            · have f322 := q_leV ev269 ev305 (q_n_gt g308)
              unfold m_X12_addSimple_170
              have t323 := g_45_R19 hG mo ro
              have e324 : q_R (S249) o 19 = q_R (S) o 19 := (q_unR h250.1 mo ro (by decide))
              have t325 := g_45_R28 hG mo ro
              have e326 : q_R (S249) o 28 = q_R (S) o 28 := (q_unR h250.1 mo ro (by decide))
              have t327 := g_45_R27 hG mo ro
              have e328 : q_R (S249) o 27 = q_R (S) o 27 := (q_unR h250.1 mo ro (by decide))
              obtain ⟨v329, ev329⟩ := q_ev ((l3 + (1 : Int32)).toInt)
              have f330 : v329 = l3.toInt + (1) := q_addVI ev329 q_evr (show q_eqv ((1 : Int32)).toInt (1) by unfold q_eqv; decide) (by omega) (by omega)
              have f331 : q_sm _ := g_45_I14 hG mo ro
              have e332 : q_I (S249) o 14 = q_I (S) o 14 := (q_unI h250.1 mo ro (by decide))
              obtain ⟨v333, ev333⟩ := q_ev ((q_I (S249) o 14).toInt)
              have f334 : v333 = v12 := q_eqVI e332 ev333 ev12
              exact s_X12_addSimple_45_175 hn mo ro (p0 := p0) n _ _ _ _ _ _ hG (q_wd (q_addBI (12) (67140) hl2 (q_addBI (2) (65537) (show (2 : Int) ≤ (2 : Int32).toInt ∧ (2 : Int32).toInt ≤ (2 : Int) by decide) f251 (by decide) (by decide) (by decide) (by decide)) (by decide) (by decide) (by decide) (by decide)) (by decide) (by decide)) (q_wd hl4 (by decide) (by decide)) (q_wd (q_addBI (0) (120) hl3 (show (1 : Int) ≤ (1 : Int32).toInt ∧ (1 : Int32).toInt ≤ (1 : Int) by decide) (by decide) (by decide) (by decide) (by decide)) (by decide) (by decide)) (q_wd (show (1 : Int) ≤ (1 : Int32).toInt ∧ (1 : Int32).toInt ≤ (1 : Int) by decide) (by decide) (by decide)) (q_wd (show (0 : Int) ≤ (0 : Int32).toInt ∧ (0 : Int32).toInt ≤ (0 : Int) by decide) (by decide) (by decide)) (q_N3xI (Eq.trans e324 ea2) (Eq.trans e326 ea4) (Eq.trans e328 ea6) (q_N3c n252 (q_bw2 (fun x0 x1 => x0 = x1) q_evr q_evr (by omega)) (q_bw2 (fun x0 x1 => x0 = x1 + 1) ev329 q_evr (by omega)))) (q_bw2 (fun x0 x1 => x0 = 1 → x1 = 0) (show q_eqv ((1 : Int32)).toInt (1) by unfold q_eqv; decide) ev254 (by omega)) (q_bw2 (fun x0 x1 => x0 = 1 → x1 ≤ 1601) (show q_eqv ((1 : Int32)).toInt (1) by unfold q_eqv; decide) ev270 (by omega)) (q_bw2 (fun x0 x1 => x0 + x1 ≤ 120) ev333 ev329 (by omega))  (q_upV (show q_eqv ((0 : Int32)).toInt (0) by unfold q_eqv; decide) (by omega))
        · have f335 := q_neV ev254 (show q_eqv ((0 : Int32)).toInt (0) by unfold q_eqv; decide) (q_n_eq g267)
          unfold m_X12_addSimple_169
          unfold m_X12_addSimple_170
          have t336 := g_45_R19 hG mo ro
          have e337 : q_R (S249) o 19 = q_R (S) o 19 := (q_unR h250.1 mo ro (by decide))
          have t338 := g_45_R28 hG mo ro
          have e339 : q_R (S249) o 28 = q_R (S) o 28 := (q_unR h250.1 mo ro (by decide))
          have t340 := g_45_R27 hG mo ro
          have e341 : q_R (S249) o 27 = q_R (S) o 27 := (q_unR h250.1 mo ro (by decide))
          obtain ⟨v342, ev342⟩ := q_ev ((l3 + (1 : Int32)).toInt)
          have f343 : v342 = l3.toInt + (1) := q_addVI ev342 q_evr (show q_eqv ((1 : Int32)).toInt (1) by unfold q_eqv; decide) (by omega) (by omega)
          obtain ⟨v344, ev344⟩ := q_ev ((l2 + ((2 : Int32) + r248)).toInt)
          obtain ⟨v345, ev345⟩ := q_ev (((2 : Int32) + r248).toInt)
          have f346 : v345 = (2) + r248.toInt := q_addVI ev345 (show q_eqv ((2 : Int32)).toInt (2) by unfold q_eqv; decide) q_evr (by omega) (by omega)
          have f347 : v344 = l2.toInt + v345 := q_addVI ev344 q_evr ev345 (by omega) (by omega)
          have f348 : q_sm _ := g_45_I14 hG mo ro
          have e349 : q_I (S249) o 14 = q_I (S) o 14 := (q_unI h250.1 mo ro (by decide))
          obtain ⟨v350, ev350⟩ := q_ev ((q_I (S249) o 14).toInt)
          have f351 : v350 = v12 := q_eqVI e349 ev350 ev12
          exact s_X12_addSimple_45_175 hn mo ro (p0 := p0) n _ _ _ _ _ _ hG (q_wd (q_addBI (12) (67140) hl2 (q_addBI (2) (65537) (show (2 : Int) ≤ (2 : Int32).toInt ∧ (2 : Int32).toInt ≤ (2 : Int) by decide) f251 (by decide) (by decide) (by decide) (by decide)) (by decide) (by decide) (by decide) (by decide)) (by decide) (by decide)) (q_wd hl4 (by decide) (by decide)) (q_wd (q_addBI (0) (120) hl3 (show (1 : Int) ≤ (1 : Int32).toInt ∧ (1 : Int32).toInt ≤ (1 : Int) by decide) (by decide) (by decide) (by decide) (by decide)) (by decide) (by decide)) (q_wd (show (0 : Int) ≤ (0 : Int32).toInt ∧ (0 : Int32).toInt ≤ (0 : Int) by decide) (by decide) (by decide)) (q_wd (show (0 : Int) ≤ (0 : Int32).toInt ∧ (0 : Int32).toInt ≤ (0 : Int) by decide) (by decide) (by decide)) (q_N3xI (Eq.trans e337 ea2) (Eq.trans e339 ea4) (Eq.trans e341 ea6) (q_N3c n252 (q_bw2 (fun x0 x1 => x0 = x1) q_evr q_evr (by omega)) (q_bw2 (fun x0 x1 => x0 = x1 + 1) ev342 q_evr (by omega)))) (q_bw2 (fun x0 x1 => x0 = 1 → x1 = 0) (show q_eqv ((0 : Int32)).toInt (0) by unfold q_eqv; decide) ev254 (by omega)) (q_bw2 (fun x0 x1 => x0 = 1 → x1 ≤ 1601) (show q_eqv ((0 : Int32)).toInt (0) by unfold q_eqv; decide) ev344 (by omega)) (q_bw2 (fun x0 x1 => x0 + x1 ≤ 120) ev350 ev342 (by omega))  (q_upV (show q_eqv ((0 : Int32)).toInt (0) by unfold q_eqv; decide) (by omega))
set_option maxHeartbeats 4000000 in
set_option maxRecDepth 100000 in
theorem s_X12_addSimple_45 {ρ : Nat → Nat} {L : List Nat} {n : Nat} (hn : 18446744073709551616 ≤ n) {S : q_S} (hI : q_Inv ρ L S) {o : Nat} (mo : o ∈ L) (ro : ρ o = 45) {p0 : Int32} (hp0 : (0 ≤ p0.toInt ∧ p0.toInt ≤ 32767)) (hq0 : q_N3x S o (q_I S o 18).toInt 0) : q_ok (m_X12_addSimple n S o p0) (fun r T => q_G ρ L M_X12_addSimple_45 S T ∧ (0 ≤ r.toInt ∧ r.toInt ≤ 1) ∧ q_sm ((q_N3x T o (q_I T o 18).toInt 0))) := by
  have hG : q_G ρ L M_X12_addSimple_45 S S := q_G_refl hI
  unfold m_X12_addSimple
  have z0 : (0 : Int32).toInt = 0 := rfl
  have t1 := g_45_R19 hG mo ro
  obtain ⟨a2, ea2, ma2, ra2⟩ := id t1
  have t3 := g_45_R28 hG mo ro
  obtain ⟨a4, ea4, ma4, ra4⟩ := id t3
  have t5 := g_45_R27 hG mo ro
  obtain ⟨a6, ea6, ma6, ra6⟩ := id t5
  have n7 := hq0 _ _ _ ea2 ea4 ea6
  have f8 : q_sm _ := g_45_I18 hG mo ro
  have f9 : q_sm _ := g_45_I14 hG mo ro
  obtain ⟨v10, ev10⟩ := q_ev ((q_I (S) o 18).toInt)
  have f11 := q_bV ev10 f8
  obtain ⟨v12, ev12⟩ := q_ev ((q_I (S) o 14).toInt)
  have f13 := q_bV ev12 f9
  have f14 : 0 ≤ v10 ∧ v10 ≤ v10 ∧ v10 ≤ v10 + 0 ∧ v10 ≤ v12 := q_to3 (fun x0 x1 x2 => 0 ≤ x0 ∧ x0 ≤ x1 ∧ x1 ≤ x0 + 0 ∧ x0 ≤ x2) ev10 ev10 ev12 (q_N3lin n7)
  refine q_ok_atS hG (q_trI mo ro) rfl (fun mo ro => ?_)
  have t15 := g_45_R19 hG mo ro
  have t16 := g_45_R28 hG mo ro
  have t17 := g_45_R27 hG mo ro
  exact s_X12_addSimple_45_14 hn mo ro (p0 := p0) n _ _ _ _ _ _ hG (q_wd hp0 (by decide) (by decide)) (q_wd (show (10 : Int) ≤ (10 : Int32).toInt ∧ (10 : Int32).toInt ≤ (10 : Int) by decide) (by decide) (by decide)) (q_wd (show (-1 : Int) ≤ (-1 : Int32).toInt ∧ (-1 : Int32).toInt ≤ (-1 : Int) by decide) (by decide) (by decide)) (q_wd f8 (by decide) (by decide)) (q_wd (show (0 : Int) ≤ (0 : Int32).toInt ∧ (0 : Int32).toInt ≤ (0 : Int) by decide) (by decide) (by decide)) (q_N3xI ea2 ea4 ea6 (q_N3c n7 (q_bw2 (fun x0 x1 => x0 = x1) ev10 ev10 (by omega)) (q_bw1 (fun x0 => x0 + 1 = 0) (show q_eqv ((-1 : Int32)).toInt (-1) by unfold q_eqv; decide) (by omega)))) (q_bw2 (fun x0 x1 => x0 + x1 + 1 ≤ 120) ev12 (show q_eqv ((-1 : Int32)).toInt (-1) by unfold q_eqv; decide) (by omega))  (q_upV (show q_eqv ((10 : Int32)).toInt (10) by unfold q_eqv; decide) (by omega))
