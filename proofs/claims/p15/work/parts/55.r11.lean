def M_X12_goOn_45 : List Nat := [2888, 2891, 2894, 2898, 2901, 2902, 2903, 2904, 2922, 3392, 3456, 3520, 3584, 3648, 3712, 3776, 3840, 3904, 3968, 4032, 4096, 4160, 4224, 4288, 4352, 4416, 4480]
set_option maxHeartbeats 4000000 in
set_option maxRecDepth 100000 in
theorem s_X12_goOn_45 {ρ : Nat → Nat} {L : List Nat} {n : Nat} (hn : 18446744073709551616 ≤ n) {S : q_S} (hI : q_Inv ρ L S) {o : Nat} (mo : o ∈ L) (ro : ρ o = 45) (hq0 : q_N3x S o (q_I S o 18).toInt 0) (hq1 : 1 ≤ (q_I S o 24).toInt) (hq2 : 2 ≤ (q_I S o 24).toInt → (((q_fE S o 32 ((q_I S o 24) - (2 : Int32) : Int32).toNatClampNeg) &&& (2 : Int32)).toInt = 0 → 0 ≤ (q_fE S o 33 ((q_I S o 24) - (2 : Int32) : Int32).toNatClampNeg).toInt ∧ 0 ≤ (q_fE S o 34 ((q_I S o 24) - (2 : Int32) : Int32).toNatClampNeg).toInt)) : q_ok (m_X12_goOn n S o) (fun _ T => q_G ρ L M_X12_goOn_45 S T ∧ q_sm ((q_N3x T o (q_I T o 18).toInt 0) ∧ (q_efx S T o ((q_I S o 24).toInt - 1)) ∧ ((q_I T o 24).toInt < (q_I S o 24).toInt ∨ (((q_fE T o 32 ((q_I S o 24) - (1 : Int32) : Int32).toNatClampNeg) &&& (2 : Int32)).toInt = 0 → 0 ≤ (q_fE T o 33 ((q_I S o 24) - (1 : Int32) : Int32).toNatClampNeg).toInt ∧ 0 ≤ (q_fE T o 34 ((q_I S o 24) - (1 : Int32) : Int32).toNatClampNeg).toInt)) ∧ ((q_I T o 24).toInt = (q_I S o 24).toInt - 1 ∨ ((q_fE S o 29 ((q_I S o 24) - (1 : Int32) : Int32).toNatClampNeg).toInt = 1 ∧ (q_I T o 24).toInt = (q_I S o 24).toInt ∧ (q_fE T o 29 ((q_I S o 24) - (1 : Int32) : Int32).toNatClampNeg).toInt = 0) ∨ ((q_fE S o 29 ((q_I S o 24) - (1 : Int32) : Int32).toNatClampNeg).toInt = 1 ∧ (q_fE S o 26 ((q_I S o 24) - (1 : Int32) : Int32).toNatClampNeg).toInt + 6 ≤ (q_fE T o 26 ((q_I S o 24) - (1 : Int32) : Int32).toNatClampNeg).toInt ∧ ((q_I T o 24).toInt = (q_I S o 24).toInt ∨ (q_I T o 24).toInt = (q_I S o 24).toInt + 1))))) := by
  have hG : q_G ρ L M_X12_goOn_45 S S := q_G_refl hI
  unfold m_X12_goOn
  have z0 : (0 : Int32).toInt = 0 := rfl
  have f1 : q_sm _ := g_45_I24 hG mo ro
  have t2 := g_45_R29 hG mo ro
  obtain ⟨a3, ea3, ma3, ra3⟩ := id t2
  have f4 : q_sm _ := g_64_E hG ma3 ra3 (k := ((q_I (S) o 24) - (1 : Int32)).toNatClampNeg)
  have e5 : q_fE (S) o 29 (((q_I (S) o 24) - (1 : Int32) : Int32)).toNatClampNeg = q_I (S) a3 ((q_I (S) o 24) - (1 : Int32)).toNatClampNeg := q_fEe ea3
  have t6 := g_45_R26 hG mo ro
  obtain ⟨a7, ea7, ma7, ra7⟩ := id t6
  have f8 : q_sm _ := g_61_E hG ma7 ra7 (k := ((q_I (S) o 24) - (1 : Int32)).toNatClampNeg)
  have e9 : q_fE (S) o 26 (((q_I (S) o 24) - (1 : Int32) : Int32)).toNatClampNeg = q_I (S) a7 ((q_I (S) o 24) - (1 : Int32)).toNatClampNeg := q_fEe ea7
  have t10 := g_45_R26 hG mo ro
  have t11 := g_45_R29 hG mo ro
  have t12 := g_45_R32 hG mo ro
  obtain ⟨a13, ea13, ma13, ra13⟩ := id t12
  have t14 := g_45_R33 hG mo ro
  obtain ⟨a15, ea15, ma15, ra15⟩ := id t14
  have t16 := g_45_R34 hG mo ro
  obtain ⟨a17, ea17, ma17, ra17⟩ := id t16
  obtain ⟨v19, ev19⟩ := q_ev ((q_I (S) o 24).toInt)
  have f20 := q_bV ev19 f1
  have n18 : q_ef (S) (S) a7 a3 a13 a15 a17 ((q_I (S) o 24).toInt - 1) := q_ef0
  have t21 := g_45_R19 hG mo ro
  obtain ⟨a22, ea22, ma22, ra22⟩ := id t21
  have t23 := g_45_R28 hG mo ro
  obtain ⟨a24, ea24, ma24, ra24⟩ := id t23
  have t25 := g_45_R27 hG mo ro
  obtain ⟨a26, ea26, ma26, ra26⟩ := id t25
  have n27 := hq0 _ _ _ ea22 ea24 ea26
  have f28 : q_sm _ := g_45_I18 hG mo ro
  have f29 : q_sm _ := g_45_I14 hG mo ro
  obtain ⟨v30, ev30⟩ := q_ev ((q_I (S) o 18).toInt)
  have f31 := q_bV ev30 f28
  obtain ⟨v32, ev32⟩ := q_ev ((q_I (S) o 14).toInt)
  have f33 := q_bV ev32 f29
  have f34 : 0 ≤ v30 ∧ v30 ≤ v30 ∧ v30 ≤ v30 + 0 ∧ v30 ≤ v32 := q_to3 (fun x0 x1 x2 => 0 ≤ x0 ∧ x0 ≤ x1 ∧ x1 ≤ x0 + 0 ∧ x0 ≤ x2) ev30 ev30 ev32 (q_N3lin n27)
  have f35 : 1 ≤ v19 := q_to1 (fun x0 => 1 ≤ x0) ev19 hq1
  have t36 := g_45_R32 hG mo ro
  have f37 : q_sm _ := g_67_E hG ma13 ra13 (k := ((q_I (S) o 24) - (2 : Int32)).toNatClampNeg)
  have e38 : q_fE (S) o 32 (((q_I (S) o 24) - (2 : Int32) : Int32)).toNatClampNeg = q_I (S) a13 ((q_I (S) o 24) - (2 : Int32)).toNatClampNeg := q_fEe ea13
  have e39 : (q_fE (S) o 32 (((q_I (S) o 24) - (2 : Int32) : Int32)).toNatClampNeg) &&& (2 : Int32) = (q_I (S) a13 ((q_I (S) o 24) - (2 : Int32)).toNatClampNeg) &&& (2 : Int32) := congrArg (fun z : Int32 => z &&& (2 : Int32)) e38
  have t40 := g_45_R33 hG mo ro
  have f41 : q_sm _ := g_68_E hG ma15 ra15 (k := ((q_I (S) o 24) - (2 : Int32)).toNatClampNeg)
  have e42 : q_fE (S) o 33 (((q_I (S) o 24) - (2 : Int32) : Int32)).toNatClampNeg = q_I (S) a15 ((q_I (S) o 24) - (2 : Int32)).toNatClampNeg := q_fEe ea15
  have t43 := g_45_R34 hG mo ro
  have f44 : q_sm _ := g_69_E hG ma17 ra17 (k := ((q_I (S) o 24) - (2 : Int32)).toNatClampNeg)
  have e45 : q_fE (S) o 34 (((q_I (S) o 24) - (2 : Int32) : Int32)).toNatClampNeg = q_I (S) a17 ((q_I (S) o 24) - (2 : Int32)).toNatClampNeg := q_fEe ea17
  obtain ⟨v46, ev46⟩ := q_ev (((q_fE (S) o 32 (((q_I (S) o 24) - (2 : Int32) : Int32)).toNatClampNeg) &&& (2 : Int32)).toInt)
  obtain ⟨v47, ev47⟩ := q_ev (((q_I (S) a13 ((q_I (S) o 24) - (2 : Int32)).toNatClampNeg) &&& (2 : Int32)).toInt)
  have f48 := q_andRVI ev47 (show q_eqv ((2 : Int32)).toInt (2) by unfold q_eqv; decide) (by omega)
  have f49 : v46 = v47 := q_eqVI e39 ev46 ev47
  obtain ⟨v50, ev50⟩ := q_ev ((q_fE (S) o 33 (((q_I (S) o 24) - (2 : Int32) : Int32)).toNatClampNeg).toInt)
  obtain ⟨v51, ev51⟩ := q_ev ((q_I (S) a15 ((q_I (S) o 24) - (2 : Int32)).toNatClampNeg).toInt)
  have f52 := q_bV ev51 f41
  have f53 : v50 = v51 := q_eqVI e42 ev50 ev51
  obtain ⟨v54, ev54⟩ := q_ev ((q_fE (S) o 34 (((q_I (S) o 24) - (2 : Int32) : Int32)).toNatClampNeg).toInt)
  obtain ⟨v55, ev55⟩ := q_ev ((q_I (S) a17 ((q_I (S) o 24) - (2 : Int32)).toNatClampNeg).toInt)
  have f56 := q_bV ev55 f44
  have f57 : v54 = v55 := q_eqVI e45 ev54 ev55
  have f58 : 2 ≤ v19 → (v46 = 0 → 0 ≤ v50 ∧ 0 ≤ v54) := q_to4 (fun x0 x1 x2 x3 => 2 ≤ x0 → (x1 = 0 → 0 ≤ x2 ∧ 0 ≤ x3)) ev19 ev46 ev50 ev54 hq2
  refine q_ok_atS hG (q_trI mo ro) rfl (fun mo ro => ?_)
  have t59 := g_45_R29 hG mo ro
  refine q_ok_atA hG ea3 ma3 ra3 rfl ?_
  obtain ⟨v60, ev60⟩ := q_ev (((q_I (S) o 24) - (1 : Int32)).toInt)
  have f61 : v60 = v19 - (1) := q_subVI ev60 ev19 (show q_eqv ((1 : Int32)).toInt (1) by unfold q_eqv; decide) (by omega) (by omega)
  refine q_ok_if (q_inV (g_64_N hG ma3 ra3) ev60 (by omega) (by omega)) ?_
  obtain ⟨v62, ev62⟩ := q_ev ((q_I (S) a3 ((q_I (S) o 24) - (1 : Int32)).toNatClampNeg).toInt)
  have f63 := q_bV ev62 f4
  refine q_ok_ite (fun g64 => ?_) (fun g64 => ?_)
  · have f65 := q_eqV ev62 (show q_eqv ((0 : Int32)).toInt (0) by unfold q_eqv; decide) (q_p_eq g64)
    have hG := u_45_I24 (x := (q_I (S) o 24) - (1 : Int32)) hG mo ro (by decide) (q_oV ev60 (by omega) (by omega))
    have n66 : q_N3 (q_sI (S) o 24 ((q_I (S) o 24) - (1 : Int32))) o a22 a24 a26 _ _ := q_N3pop ro ra22 ra24 ra26 n27 (q_bw2 (fun x0 x1 => x0 ≤ x1) ev60 ev19 (by omega))
    have n67 : q_ef (S) (q_sI (S) o 24 ((q_I (S) o 24) - (1 : Int32))) a7 a3 a13 a15 a17 _ := q_efI ro ra7 ra3 ra13 ra15 ra17 (by decide) (by decide) (by decide) (by decide) (by decide) n18
    have f68 : q_sm _ := g_45_I24 hG mo ro
    have e69 : q_I (q_sI (S) o 24 ((q_I (S) o 24) - (1 : Int32))) o 24 = (q_I (S) o 24) - (1 : Int32) := q_hitI
    obtain ⟨v70, ev70⟩ := q_ev ((q_I (q_sI (S) o 24 ((q_I (S) o 24) - (1 : Int32))) o 24).toInt)
    have f71 : v70 = v60 := q_eqVI e69 ev70 ev60
    refine q_ok_ite (fun g72 => ?_) (fun g72 => ?_)
    · have f73 := q_leV ev70 (show q_eqv ((0 : Int32)).toInt (0) by unfold q_eqv; decide) (q_p_le g72)
      unfold m_X12_goOn_43
      have t74 := g_45_R19 hG mo ro
      have e75 : q_R (q_sI (S) o 24 ((q_I (S) o 24) - (1 : Int32))) o 19 = q_R (S) o 19 := q_skRI
      have t76 := g_45_R28 hG mo ro
      have e77 : q_R (q_sI (S) o 24 ((q_I (S) o 24) - (1 : Int32))) o 28 = q_R (S) o 28 := q_skRI
      have t78 := g_45_R27 hG mo ro
      have e79 : q_R (q_sI (S) o 24 ((q_I (S) o 24) - (1 : Int32))) o 27 = q_R (S) o 27 := q_skRI
      have f80 : q_sm _ := g_45_I18 hG mo ro
      have e81 : q_I (q_sI (S) o 24 ((q_I (S) o 24) - (1 : Int32))) o 18 = q_I (S) o 18 := (q_ffI (by decide))
      obtain ⟨v82, ev82⟩ := q_ev ((q_I (q_sI (S) o 24 ((q_I (S) o 24) - (1 : Int32))) o 18).toInt)
      have f83 : v82 = v30 := q_eqVI e81 ev82 ev30
      have t84 := g_45_R26 hG mo ro
      have e85 : q_R (q_sI (S) o 24 ((q_I (S) o 24) - (1 : Int32))) o 26 = q_R (S) o 26 := q_skRI
      have t86 := g_45_R29 hG mo ro
      have e87 : q_R (q_sI (S) o 24 ((q_I (S) o 24) - (1 : Int32))) o 29 = q_R (S) o 29 := q_skRI
      have t88 := g_45_R32 hG mo ro
      have e89 : q_R (q_sI (S) o 24 ((q_I (S) o 24) - (1 : Int32))) o 32 = q_R (S) o 32 := q_skRI
      have t90 := g_45_R33 hG mo ro
      have e91 : q_R (q_sI (S) o 24 ((q_I (S) o 24) - (1 : Int32))) o 33 = q_R (S) o 33 := q_skRI
      have t92 := g_45_R34 hG mo ro
      have e93 : q_R (q_sI (S) o 24 ((q_I (S) o 24) - (1 : Int32))) o 34 = q_R (S) o 34 := q_skRI
      have t94 := g_45_R32 hG mo ro
      have f95 : q_sm _ := g_67_E hG ma13 ra13 (k := ((q_I (S) o 24) - (1 : Int32)).toNatClampNeg)
      have e96 : q_fE (q_sI (S) o 24 ((q_I (S) o 24) - (1 : Int32))) o 32 (((q_I (S) o 24) - (1 : Int32) : Int32)).toNatClampNeg = q_I (q_sI (S) o 24 ((q_I (S) o 24) - (1 : Int32))) a13 ((q_I (S) o 24) - (1 : Int32)).toNatClampNeg := q_fEe (Eq.trans e89 ea13)
      have e97 : (q_fE (q_sI (S) o 24 ((q_I (S) o 24) - (1 : Int32))) o 32 (((q_I (S) o 24) - (1 : Int32) : Int32)).toNatClampNeg) &&& (2 : Int32) = (q_I (q_sI (S) o 24 ((q_I (S) o 24) - (1 : Int32))) a13 ((q_I (S) o 24) - (1 : Int32)).toNatClampNeg) &&& (2 : Int32) := congrArg (fun z : Int32 => z &&& (2 : Int32)) e96
      have t98 := g_45_R33 hG mo ro
      have f99 : q_sm _ := g_68_E hG ma15 ra15 (k := ((q_I (S) o 24) - (1 : Int32)).toNatClampNeg)
      have e100 : q_fE (q_sI (S) o 24 ((q_I (S) o 24) - (1 : Int32))) o 33 (((q_I (S) o 24) - (1 : Int32) : Int32)).toNatClampNeg = q_I (q_sI (S) o 24 ((q_I (S) o 24) - (1 : Int32))) a15 ((q_I (S) o 24) - (1 : Int32)).toNatClampNeg := q_fEe (Eq.trans e91 ea15)
      have t101 := g_45_R34 hG mo ro
      have f102 : q_sm _ := g_69_E hG ma17 ra17 (k := ((q_I (S) o 24) - (1 : Int32)).toNatClampNeg)
      have e103 : q_fE (q_sI (S) o 24 ((q_I (S) o 24) - (1 : Int32))) o 34 (((q_I (S) o 24) - (1 : Int32) : Int32)).toNatClampNeg = q_I (q_sI (S) o 24 ((q_I (S) o 24) - (1 : Int32))) a17 ((q_I (S) o 24) - (1 : Int32)).toNatClampNeg := q_fEe (Eq.trans e93 ea17)
      obtain ⟨v104, ev104⟩ := q_ev (((q_fE (q_sI (S) o 24 ((q_I (S) o 24) - (1 : Int32))) o 32 (((q_I (S) o 24) - (1 : Int32) : Int32)).toNatClampNeg) &&& (2 : Int32)).toInt)
      obtain ⟨v105, ev105⟩ := q_ev (((q_I (q_sI (S) o 24 ((q_I (S) o 24) - (1 : Int32))) a13 ((q_I (S) o 24) - (1 : Int32)).toNatClampNeg) &&& (2 : Int32)).toInt)
      have f106 := q_andRVI ev105 (show q_eqv ((2 : Int32)).toInt (2) by unfold q_eqv; decide) (by omega)
      have f107 : v104 = v105 := q_eqVI e97 ev104 ev105
      obtain ⟨v108, ev108⟩ := q_ev ((q_fE (q_sI (S) o 24 ((q_I (S) o 24) - (1 : Int32))) o 33 (((q_I (S) o 24) - (1 : Int32) : Int32)).toNatClampNeg).toInt)
      obtain ⟨v109, ev109⟩ := q_ev ((q_I (q_sI (S) o 24 ((q_I (S) o 24) - (1 : Int32))) a15 ((q_I (S) o 24) - (1 : Int32)).toNatClampNeg).toInt)
      have f110 := q_bV ev109 f99
      have f111 : v108 = v109 := q_eqVI e100 ev108 ev109
      obtain ⟨v112, ev112⟩ := q_ev ((q_fE (q_sI (S) o 24 ((q_I (S) o 24) - (1 : Int32))) o 34 (((q_I (S) o 24) - (1 : Int32) : Int32)).toNatClampNeg).toInt)
      obtain ⟨v113, ev113⟩ := q_ev ((q_I (q_sI (S) o 24 ((q_I (S) o 24) - (1 : Int32))) a17 ((q_I (S) o 24) - (1 : Int32)).toNatClampNeg).toInt)
      have f114 := q_bV ev113 f102
      have f115 : v112 = v113 := q_eqVI e103 ev112 ev113
      have t116 := g_45_R29 hG mo ro
      have f117 : q_sm _ := g_64_E hG ma3 ra3 (k := ((q_I (S) o 24) - (1 : Int32)).toNatClampNeg)
      have e118 : q_I (q_sI (S) o 24 ((q_I (S) o 24) - (1 : Int32))) a3 ((q_I (S) o 24) - (1 : Int32)).toNatClampNeg = q_I (S) a3 ((q_I (S) o 24) - (1 : Int32)).toNatClampNeg := (q_fwI ra3 ro (by decide))
      have e119 : q_fE (q_sI (S) o 24 ((q_I (S) o 24) - (1 : Int32))) o 29 (((q_I (S) o 24) - (1 : Int32) : Int32)).toNatClampNeg = q_I (q_sI (S) o 24 ((q_I (S) o 24) - (1 : Int32))) a3 ((q_I (S) o 24) - (1 : Int32)).toNatClampNeg := q_fEe (Eq.trans e87 ea3)
      have t120 := g_45_R26 hG mo ro
      have f121 : q_sm _ := g_61_E hG ma7 ra7 (k := ((q_I (S) o 24) - (1 : Int32)).toNatClampNeg)
      have e122 : q_I (q_sI (S) o 24 ((q_I (S) o 24) - (1 : Int32))) a7 ((q_I (S) o 24) - (1 : Int32)).toNatClampNeg = q_I (S) a7 ((q_I (S) o 24) - (1 : Int32)).toNatClampNeg := (q_fwI ra7 ro (by decide))
      have e123 : q_fE (q_sI (S) o 24 ((q_I (S) o 24) - (1 : Int32))) o 26 (((q_I (S) o 24) - (1 : Int32) : Int32)).toNatClampNeg = q_I (q_sI (S) o 24 ((q_I (S) o 24) - (1 : Int32))) a7 ((q_I (S) o 24) - (1 : Int32)).toNatClampNeg := q_fEe (Eq.trans e85 ea7)
      obtain ⟨v124, ev124⟩ := q_ev ((q_fE (S) o 29 (((q_I (S) o 24) - (1 : Int32) : Int32)).toNatClampNeg).toInt)
      have f125 : v124 = v62 := q_eqVI e5 ev124 ev62
      obtain ⟨v126, ev126⟩ := q_ev ((q_fE (q_sI (S) o 24 ((q_I (S) o 24) - (1 : Int32))) o 29 (((q_I (S) o 24) - (1 : Int32) : Int32)).toNatClampNeg).toInt)
      obtain ⟨v127, ev127⟩ := q_ev ((q_I (q_sI (S) o 24 ((q_I (S) o 24) - (1 : Int32))) a3 ((q_I (S) o 24) - (1 : Int32)).toNatClampNeg).toInt)
      have f128 : v127 = v62 := q_eqVI e118 ev127 ev62
      have f129 : v126 = v127 := q_eqVI e119 ev126 ev127
      obtain ⟨v130, ev130⟩ := q_ev ((q_fE (S) o 26 (((q_I (S) o 24) - (1 : Int32) : Int32)).toNatClampNeg).toInt)
      obtain ⟨v131, ev131⟩ := q_ev ((q_I (S) a7 ((q_I (S) o 24) - (1 : Int32)).toNatClampNeg).toInt)
      have f132 := q_bV ev131 f8
      have f133 : v130 = v131 := q_eqVI e9 ev130 ev131
      obtain ⟨v134, ev134⟩ := q_ev ((q_fE (q_sI (S) o 24 ((q_I (S) o 24) - (1 : Int32))) o 26 (((q_I (S) o 24) - (1 : Int32) : Int32)).toNatClampNeg).toInt)
      obtain ⟨v135, ev135⟩ := q_ev ((q_I (q_sI (S) o 24 ((q_I (S) o 24) - (1 : Int32))) a7 ((q_I (S) o 24) - (1 : Int32)).toNatClampNeg).toInt)
      have f136 : v135 = v131 := q_eqVI e122 ev135 ev131
      have f137 : v134 = v135 := q_eqVI e123 ev134 ev135
      exact q_ok_some ⟨hG, (q_smI ⟨(q_N3xI (Eq.trans e75 ea22) (Eq.trans e77 ea24) (Eq.trans e79 ea26) (q_N3c n66 (q_bw2 (fun x0 x1 => x0 = x1) ev82 ev30 (by omega)) rfl)), (q_efxI (Eq.trans e85 ea7) (Eq.trans e87 ea3) (Eq.trans e89 ea13) (Eq.trans e91 ea15) (Eq.trans e93 ea17) n67), (q_bw5 (fun x0 x1 x2 x3 x4 => x0 < x1 ∨ (x2 = 0 → 0 ≤ x3 ∧ 0 ≤ x4)) ev70 ev19 ev104 ev108 ev112 (by omega)), (q_bw6 (fun x0 x1 x2 x3 x4 x5 => x0 = x1 - 1 ∨ (x2 = 1 ∧ x0 = x1 ∧ x3 = 0) ∨ (x2 = 1 ∧ x4 + 6 ≤ x5 ∧ (x0 = x1 ∨ x0 = x1 + 1))) ev70 ev19 ev124 ev126 ev130 ev134 (by omega))⟩)⟩
    · have f138 := q_ltV (show q_eqv ((0 : Int32)).toInt (0) by unfold q_eqv; decide) ev70 (q_n_le g72)
      obtain ⟨v142, ev142⟩ := q_ev (((q_I (q_sI (S) o 24 ((q_I (S) o 24) - (1 : Int32))) o 24) - (1 : Int32)).toInt)
      have f143 : v142 = v70 - (1) := q_subVI ev142 ev70 (show q_eqv ((1 : Int32)).toInt (1) by unfold q_eqv; decide) (by omega) (by omega)
      obtain ⟨v144, ev144⟩ := q_ev (((q_I (S) o 24) - (2 : Int32)).toInt)
      have f145 : v144 = v19 - (2) := q_subVI ev144 ev19 (show q_eqv ((2 : Int32)).toInt (2) by unfold q_eqv; decide) (by omega) (by omega)
      have t146 := g_45_R32 hG mo ro
      have e147 : q_R (q_sI (S) o 24 ((q_I (S) o 24) - (1 : Int32))) o 32 = q_R (S) o 32 := q_skRI
      have f148 : q_sm _ := g_67_E hG ma13 ra13 (k := ((q_I (S) o 24) - (2 : Int32)).toNatClampNeg)
      have e149 : q_I (q_sI (S) o 24 ((q_I (S) o 24) - (1 : Int32))) a13 ((q_I (S) o 24) - (2 : Int32)).toNatClampNeg = q_I (S) a13 ((q_I (S) o 24) - (2 : Int32)).toNatClampNeg := (q_fwI ra13 ro (by decide))
      have e150 : q_fE (q_sI (S) o 24 ((q_I (S) o 24) - (1 : Int32))) o 32 (((q_I (S) o 24) - (2 : Int32) : Int32)).toNatClampNeg = q_I (q_sI (S) o 24 ((q_I (S) o 24) - (1 : Int32))) a13 ((q_I (S) o 24) - (2 : Int32)).toNatClampNeg := q_fEe (Eq.trans e147 ea13)
      have e151 : (q_fE (q_sI (S) o 24 ((q_I (S) o 24) - (1 : Int32))) o 32 (((q_I (S) o 24) - (2 : Int32) : Int32)).toNatClampNeg) &&& (2 : Int32) = (q_I (S) a13 ((q_I (S) o 24) - (2 : Int32)).toNatClampNeg) &&& (2 : Int32) := congrArg (fun z : Int32 => z &&& (2 : Int32)) (Eq.trans e150 e149)
      have t152 := g_45_R33 hG mo ro
      have e153 : q_R (q_sI (S) o 24 ((q_I (S) o 24) - (1 : Int32))) o 33 = q_R (S) o 33 := q_skRI
      have f154 : q_sm _ := g_68_E hG ma15 ra15 (k := ((q_I (S) o 24) - (2 : Int32)).toNatClampNeg)
      have e155 : q_I (q_sI (S) o 24 ((q_I (S) o 24) - (1 : Int32))) a15 ((q_I (S) o 24) - (2 : Int32)).toNatClampNeg = q_I (S) a15 ((q_I (S) o 24) - (2 : Int32)).toNatClampNeg := (q_fwI ra15 ro (by decide))
      have e156 : q_fE (q_sI (S) o 24 ((q_I (S) o 24) - (1 : Int32))) o 33 (((q_I (S) o 24) - (2 : Int32) : Int32)).toNatClampNeg = q_I (q_sI (S) o 24 ((q_I (S) o 24) - (1 : Int32))) a15 ((q_I (S) o 24) - (2 : Int32)).toNatClampNeg := q_fEe (Eq.trans e153 ea15)
      have t157 := g_45_R34 hG mo ro
      have e158 : q_R (q_sI (S) o 24 ((q_I (S) o 24) - (1 : Int32))) o 34 = q_R (S) o 34 := q_skRI
      have f159 : q_sm _ := g_69_E hG ma17 ra17 (k := ((q_I (S) o 24) - (2 : Int32)).toNatClampNeg)
      have e160 : q_I (q_sI (S) o 24 ((q_I (S) o 24) - (1 : Int32))) a17 ((q_I (S) o 24) - (2 : Int32)).toNatClampNeg = q_I (S) a17 ((q_I (S) o 24) - (2 : Int32)).toNatClampNeg := (q_fwI ra17 ro (by decide))
      have e161 : q_fE (q_sI (S) o 24 ((q_I (S) o 24) - (1 : Int32))) o 34 (((q_I (S) o 24) - (2 : Int32) : Int32)).toNatClampNeg = q_I (q_sI (S) o 24 ((q_I (S) o 24) - (1 : Int32))) a17 ((q_I (S) o 24) - (2 : Int32)).toNatClampNeg := q_fEe (Eq.trans e158 ea17)
      obtain ⟨v162, ev162⟩ := q_ev (((q_fE (q_sI (S) o 24 ((q_I (S) o 24) - (1 : Int32))) o 32 (((q_I (S) o 24) - (2 : Int32) : Int32)).toNatClampNeg) &&& (2 : Int32)).toInt)
      have f163 : v162 = v47 := q_eqVI e151 ev162 ev47
      obtain ⟨v164, ev164⟩ := q_ev ((q_fE (q_sI (S) o 24 ((q_I (S) o 24) - (1 : Int32))) o 33 (((q_I (S) o 24) - (2 : Int32) : Int32)).toNatClampNeg).toInt)
      obtain ⟨v165, ev165⟩ := q_ev ((q_I (q_sI (S) o 24 ((q_I (S) o 24) - (1 : Int32))) a15 ((q_I (S) o 24) - (2 : Int32)).toNatClampNeg).toInt)
      have f166 : v165 = v51 := q_eqVI e155 ev165 ev51
      have f167 : v164 = v165 := q_eqVI e156 ev164 ev165
      obtain ⟨v168, ev168⟩ := q_ev ((q_fE (q_sI (S) o 24 ((q_I (S) o 24) - (1 : Int32))) o 34 (((q_I (S) o 24) - (2 : Int32) : Int32)).toNatClampNeg).toInt)
      obtain ⟨v169, ev169⟩ := q_ev ((q_I (q_sI (S) o 24 ((q_I (S) o 24) - (1 : Int32))) a17 ((q_I (S) o 24) - (2 : Int32)).toNatClampNeg).toInt)
      have f170 : v169 = v55 := q_eqVI e160 ev169 ev55
      have f171 : v168 = v169 := q_eqVI e161 ev168 ev169
      refine q_ok_b (s_X12_place_45 hn hG.1 mo ro (q_oV ev142 (by omega) (by omega)) (q_PBcg (Int32.toInt_inj.mp (q_bw2 (fun x0 x1 => x0 = x1) ev142 ev144 (by omega))) (q_bw3 (fun x0 x1 x2 => x0 = 0 → 0 ≤ x1 ∧ 0 ≤ x2) ev162 ev164 ev168 (by omega)))) (fun r139 S140 h141 => ?_)
      have hG := q_G_call hG h141 (by decide)
      have n172 := q_N3U h141 mo ro ma22 ra22 ma24 ra24 ma26 ra26 rfl rfl rfl rfl rfl rfl n66
      have n173 := q_efU h141 ma7 ra7 ma3 ra3 ma13 ra13 ma15 ra15 ma17 ra17 rfl rfl rfl rfl rfl n67
      unfold m_X12_goOn_43
      have t174 := g_45_R19 hG mo ro
      have e175 : q_R (S140) o 19 = q_R (S) o 19 := (Eq.trans (q_unR h141 mo ro (by decide)) q_skRI)
      have t176 := g_45_R28 hG mo ro
      have e177 : q_R (S140) o 28 = q_R (S) o 28 := (Eq.trans (q_unR h141 mo ro (by decide)) q_skRI)
      have t178 := g_45_R27 hG mo ro
      have e179 : q_R (S140) o 27 = q_R (S) o 27 := (Eq.trans (q_unR h141 mo ro (by decide)) q_skRI)
      have f180 : q_sm _ := g_45_I18 hG mo ro
      have e181 : q_I (S140) o 18 = q_I (S) o 18 := (Eq.trans (q_unI h141 mo ro (by decide)) (q_ffI (by decide)))
      obtain ⟨v182, ev182⟩ := q_ev ((q_I (S140) o 18).toInt)
      have f183 : v182 = v30 := q_eqVI e181 ev182 ev30
      have t184 := g_45_R26 hG mo ro
      have e185 : q_R (S140) o 26 = q_R (S) o 26 := (Eq.trans (q_unR h141 mo ro (by decide)) q_skRI)
      have t186 := g_45_R29 hG mo ro
      have e187 : q_R (S140) o 29 = q_R (S) o 29 := (Eq.trans (q_unR h141 mo ro (by decide)) q_skRI)
      have t188 := g_45_R32 hG mo ro
      have e189 : q_R (S140) o 32 = q_R (q_sI (S) o 24 ((q_I (S) o 24) - (1 : Int32))) o 32 := (q_unR h141 mo ro (by decide))
      have t190 := g_45_R33 hG mo ro
      have e191 : q_R (S140) o 33 = q_R (q_sI (S) o 24 ((q_I (S) o 24) - (1 : Int32))) o 33 := (q_unR h141 mo ro (by decide))
      have t192 := g_45_R34 hG mo ro
      have e193 : q_R (S140) o 34 = q_R (q_sI (S) o 24 ((q_I (S) o 24) - (1 : Int32))) o 34 := (q_unR h141 mo ro (by decide))
      have f194 : q_sm _ := g_45_I24 hG mo ro
      have e195 : q_I (S140) o 24 = q_I (q_sI (S) o 24 ((q_I (S) o 24) - (1 : Int32))) o 24 := (q_unI h141 mo ro (by decide))
      have t196 := g_45_R32 hG mo ro
      have f197 : q_sm _ := g_67_E hG ma13 ra13 (k := ((q_I (S) o 24) - (1 : Int32)).toNatClampNeg)
      have e198 : q_fE (S140) o 32 (((q_I (S) o 24) - (1 : Int32) : Int32)).toNatClampNeg = q_I (S140) a13 ((q_I (S) o 24) - (1 : Int32)).toNatClampNeg := q_fEe (Eq.trans e189 (Eq.trans e147 ea13))
      have e199 : (q_fE (S140) o 32 (((q_I (S) o 24) - (1 : Int32) : Int32)).toNatClampNeg) &&& (2 : Int32) = (q_I (S140) a13 ((q_I (S) o 24) - (1 : Int32)).toNatClampNeg) &&& (2 : Int32) := congrArg (fun z : Int32 => z &&& (2 : Int32)) e198
      have t200 := g_45_R33 hG mo ro
      have f201 : q_sm _ := g_68_E hG ma15 ra15 (k := ((q_I (S) o 24) - (1 : Int32)).toNatClampNeg)
      have e202 : q_fE (S140) o 33 (((q_I (S) o 24) - (1 : Int32) : Int32)).toNatClampNeg = q_I (S140) a15 ((q_I (S) o 24) - (1 : Int32)).toNatClampNeg := q_fEe (Eq.trans e191 (Eq.trans e153 ea15))
      have t203 := g_45_R34 hG mo ro
      have f204 : q_sm _ := g_69_E hG ma17 ra17 (k := ((q_I (S) o 24) - (1 : Int32)).toNatClampNeg)
      have e205 : q_fE (S140) o 34 (((q_I (S) o 24) - (1 : Int32) : Int32)).toNatClampNeg = q_I (S140) a17 ((q_I (S) o 24) - (1 : Int32)).toNatClampNeg := q_fEe (Eq.trans e193 (Eq.trans e158 ea17))
      obtain ⟨v206, ev206⟩ := q_ev ((q_I (S140) o 24).toInt)
      have f207 : v206 = v70 := q_eqVI e195 ev206 ev70
      obtain ⟨v208, ev208⟩ := q_ev (((q_fE (S140) o 32 (((q_I (S) o 24) - (1 : Int32) : Int32)).toNatClampNeg) &&& (2 : Int32)).toInt)
      obtain ⟨v209, ev209⟩ := q_ev (((q_I (S140) a13 ((q_I (S) o 24) - (1 : Int32)).toNatClampNeg) &&& (2 : Int32)).toInt)
      have f210 := q_andRVI ev209 (show q_eqv ((2 : Int32)).toInt (2) by unfold q_eqv; decide) (by omega)
      have f211 : v208 = v209 := q_eqVI e199 ev208 ev209
      obtain ⟨v212, ev212⟩ := q_ev ((q_fE (S140) o 33 (((q_I (S) o 24) - (1 : Int32) : Int32)).toNatClampNeg).toInt)
      obtain ⟨v213, ev213⟩ := q_ev ((q_I (S140) a15 ((q_I (S) o 24) - (1 : Int32)).toNatClampNeg).toInt)
      have f214 := q_bV ev213 f201
      have f215 : v212 = v213 := q_eqVI e202 ev212 ev213
      obtain ⟨v216, ev216⟩ := q_ev ((q_fE (S140) o 34 (((q_I (S) o 24) - (1 : Int32) : Int32)).toNatClampNeg).toInt)
      obtain ⟨v217, ev217⟩ := q_ev ((q_I (S140) a17 ((q_I (S) o 24) - (1 : Int32)).toNatClampNeg).toInt)
      have f218 := q_bV ev217 f204
      have f219 : v216 = v217 := q_eqVI e205 ev216 ev217
      have t220 := g_45_R29 hG mo ro
      have f221 : q_sm _ := g_64_E hG ma3 ra3 (k := ((q_I (S) o 24) - (1 : Int32)).toNatClampNeg)
      have e222 : q_I (S140) a3 ((q_I (S) o 24) - (1 : Int32)).toNatClampNeg = q_I (S) a3 ((q_I (S) o 24) - (1 : Int32)).toNatClampNeg := (Eq.trans (q_unIA h141 ma3 ra3 (by decide) (by decide)) (q_fwI ra3 ro (by decide)))
      have e223 : q_fE (S140) o 29 (((q_I (S) o 24) - (1 : Int32) : Int32)).toNatClampNeg = q_I (S140) a3 ((q_I (S) o 24) - (1 : Int32)).toNatClampNeg := q_fEe (Eq.trans e187 ea3)
      have t224 := g_45_R26 hG mo ro
      have f225 : q_sm _ := g_61_E hG ma7 ra7 (k := ((q_I (S) o 24) - (1 : Int32)).toNatClampNeg)
      have e226 : q_I (S140) a7 ((q_I (S) o 24) - (1 : Int32)).toNatClampNeg = q_I (S) a7 ((q_I (S) o 24) - (1 : Int32)).toNatClampNeg := (Eq.trans (q_unIA h141 ma7 ra7 (by decide) (by decide)) (q_fwI ra7 ro (by decide)))
      have e227 : q_fE (S140) o 26 (((q_I (S) o 24) - (1 : Int32) : Int32)).toNatClampNeg = q_I (S140) a7 ((q_I (S) o 24) - (1 : Int32)).toNatClampNeg := q_fEe (Eq.trans e185 ea7)
      obtain ⟨v228, ev228⟩ := q_ev ((q_fE (S) o 29 (((q_I (S) o 24) - (1 : Int32) : Int32)).toNatClampNeg).toInt)
      have f229 : v228 = v62 := q_eqVI e5 ev228 ev62
      obtain ⟨v230, ev230⟩ := q_ev ((q_fE (S140) o 29 (((q_I (S) o 24) - (1 : Int32) : Int32)).toNatClampNeg).toInt)
      obtain ⟨v231, ev231⟩ := q_ev ((q_I (S140) a3 ((q_I (S) o 24) - (1 : Int32)).toNatClampNeg).toInt)
      have f232 : v231 = v62 := q_eqVI e222 ev231 ev62
      have f233 : v230 = v231 := q_eqVI e223 ev230 ev231
      obtain ⟨v234, ev234⟩ := q_ev ((q_fE (S) o 26 (((q_I (S) o 24) - (1 : Int32) : Int32)).toNatClampNeg).toInt)
      obtain ⟨v235, ev235⟩ := q_ev ((q_I (S) a7 ((q_I (S) o 24) - (1 : Int32)).toNatClampNeg).toInt)
      have f236 := q_bV ev235 f8
      have f237 : v234 = v235 := q_eqVI e9 ev234 ev235
      obtain ⟨v238, ev238⟩ := q_ev ((q_fE (S140) o 26 (((q_I (S) o 24) - (1 : Int32) : Int32)).toNatClampNeg).toInt)
      obtain ⟨v239, ev239⟩ := q_ev ((q_I (S140) a7 ((q_I (S) o 24) - (1 : Int32)).toNatClampNeg).toInt)
      have f240 : v239 = v235 := q_eqVI e226 ev239 ev235
      have f241 : v238 = v239 := q_eqVI e227 ev238 ev239
      exact q_ok_some ⟨hG, (q_smI ⟨(q_N3xI (Eq.trans e175 ea22) (Eq.trans e177 ea24) (Eq.trans e179 ea26) (q_N3c n172 (q_bw2 (fun x0 x1 => x0 = x1) ev182 ev30 (by omega)) rfl)), (q_efxI (Eq.trans e185 ea7) (Eq.trans e187 ea3) (Eq.trans e189 (Eq.trans e147 ea13)) (Eq.trans e191 (Eq.trans e153 ea15)) (Eq.trans e193 (Eq.trans e158 ea17)) n173), (q_bw5 (fun x0 x1 x2 x3 x4 => x0 < x1 ∨ (x2 = 0 → 0 ≤ x3 ∧ 0 ≤ x4)) ev206 ev19 ev208 ev212 ev216 (by omega)), (q_bw6 (fun x0 x1 x2 x3 x4 x5 => x0 = x1 - 1 ∨ (x2 = 1 ∧ x0 = x1 ∧ x3 = 0) ∨ (x2 = 1 ∧ x4 + 6 ≤ x5 ∧ (x0 = x1 ∨ x0 = x1 + 1))) ev206 ev19 ev228 ev230 ev234 ev238 (by omega))⟩)⟩
  · have f242 := q_neV ev62 (show q_eqv ((0 : Int32)).toInt (0) by unfold q_eqv; decide) (q_n_eq g64)
    have t243 := g_45_R25 hG mo ro
    refine q_ok_at hG t243 rfl (fun a244 ma244 ra244 ea244 => ?_)
    refine q_ok_if (q_inV (g_60_N hG ma244 ra244) ev60 (by omega) (by omega)) ?_
    have f245 : q_sm _ := g_60_E hG ma244 ra244 (k := ((q_I (S) o 24) - (1 : Int32)).toNatClampNeg)
    refine q_ok_b (s_X12_lookData_45 hn hG.1 mo ro (q_wd f245 (by decide) (by decide))) (fun r246 S247 h248 => ?_)
    have hG := q_G_call hG h248.1 (by decide)
    have f249 := h248.2
    have n250 := q_N3U h248.1 mo ro ma22 ra22 ma24 ra24 ma26 ra26 rfl rfl rfl rfl rfl rfl n27
    have n251 := q_efU h248.1 ma7 ra7 ma3 ra3 ma13 ra13 ma15 ra15 ma17 ra17 rfl rfl rfl rfl rfl n18
    refine q_ok_atS hG (q_trI mo ro) rfl (fun mo ro => ?_)
    have t252 := g_45_R26 hG mo ro
    have e253 : q_R (S247) o 26 = q_R (S) o 26 := (q_unR h248.1 mo ro (by decide))
    refine q_ok_atA hG (Eq.trans e253 ea7) ma7 ra7 rfl ?_
    refine q_ok_if (q_inV (g_61_N hG ma7 ra7) ev60 (by omega) (by omega)) ?_
    have f254 : q_sm _ := g_61_E hG ma7 ra7 (k := ((q_I (S) o 24) - (1 : Int32)).toNatClampNeg)
    have e255 : q_I (S247) a7 ((q_I (S) o 24) - (1 : Int32)).toNatClampNeg = q_I (S) a7 ((q_I (S) o 24) - (1 : Int32)).toNatClampNeg := (q_unIA h248.1 ma7 ra7 (by decide) (by decide))
    have f259 : q_sm _ := g_45_I8 hG mo ro
    refine q_ok_b (s_X12_readPart_45 hn hG.1 mo ro (q_oV ev60 (by omega) (by omega)) (q_wd f254 (by decide) (by decide))) (fun r256 S257 h258 => ?_)
    have hG := q_G_call hG h258.1 (by decide)
    have f260 := h258.2.1
    have n261 := q_N3U h258.1 mo ro ma22 ra22 ma24 ra24 ma26 ra26 rfl rfl rfl rfl rfl rfl n250
    have f262 : q_sm _ := g_45_I8 hG mo ro
    obtain ⟨v263, ev263⟩ := q_ev ((q_I (S257) o 8).toInt)
    have f264 := q_bV ev263 f262
    obtain ⟨v265, ev265⟩ := q_ev ((q_I (S247) o 8).toInt)
    have f266 := q_bV ev265 f259
    have f267 : v263 = 0 → v265 = 0 := q_to2 (fun x0 x1 => x0 = 0 → x1 = 0) ev263 ev265 ((q_smE (h258.2.2)).1)
    obtain ⟨v268, ev268⟩ := q_ev ((q_I (S247) a7 ((q_I (S) o 24) - (1 : Int32)).toNatClampNeg).toInt)
    obtain ⟨v269, ev269⟩ := q_ev ((q_I (S) a7 ((q_I (S) o 24) - (1 : Int32)).toNatClampNeg).toInt)
    have f270 := q_bV ev269 f8
    have f271 : v268 = v269 := q_eqVI e255 ev268 ev269
    have f272 : v263 = 0 → v268 ≤ 1601 := q_to2 (fun x0 x1 => x0 = 0 → x1 ≤ 1601) ev263 ev268 ((q_smE (h258.2.2)).2.1)
    have t273 := g_45_R32 hG mo ro
    have e274 : q_R (S257) o 32 = q_R (S) o 32 := (Eq.trans (q_unR h258.1 mo ro (by decide)) (q_unR h248.1 mo ro (by decide)))
    have f275 : q_sm _ := g_67_E hG ma13 ra13 (k := ((q_I (S) o 24) - (1 : Int32)).toNatClampNeg)
    have e276 : q_fE (S257) o 32 (((q_I (S) o 24) - (1 : Int32) : Int32)).toNatClampNeg = q_I (S257) a13 ((q_I (S) o 24) - (1 : Int32)).toNatClampNeg := q_fEe (Eq.trans e274 ea13)
    have e277 : (q_fE (S257) o 32 (((q_I (S) o 24) - (1 : Int32) : Int32)).toNatClampNeg) &&& (2 : Int32) = (q_I (S257) a13 ((q_I (S) o 24) - (1 : Int32)).toNatClampNeg) &&& (2 : Int32) := congrArg (fun z : Int32 => z &&& (2 : Int32)) e276
    have t278 := g_45_R33 hG mo ro
    have e279 : q_R (S257) o 33 = q_R (S) o 33 := (Eq.trans (q_unR h258.1 mo ro (by decide)) (q_unR h248.1 mo ro (by decide)))
    have f280 : q_sm _ := g_68_E hG ma15 ra15 (k := ((q_I (S) o 24) - (1 : Int32)).toNatClampNeg)
    have e281 : q_fE (S257) o 33 (((q_I (S) o 24) - (1 : Int32) : Int32)).toNatClampNeg = q_I (S257) a15 ((q_I (S) o 24) - (1 : Int32)).toNatClampNeg := q_fEe (Eq.trans e279 ea15)
    have t282 := g_45_R34 hG mo ro
    have e283 : q_R (S257) o 34 = q_R (S) o 34 := (Eq.trans (q_unR h258.1 mo ro (by decide)) (q_unR h248.1 mo ro (by decide)))
    have f284 : q_sm _ := g_69_E hG ma17 ra17 (k := ((q_I (S) o 24) - (1 : Int32)).toNatClampNeg)
    have e285 : q_fE (S257) o 34 (((q_I (S) o 24) - (1 : Int32) : Int32)).toNatClampNeg = q_I (S257) a17 ((q_I (S) o 24) - (1 : Int32)).toNatClampNeg := q_fEe (Eq.trans e283 ea17)
    obtain ⟨v286, ev286⟩ := q_ev (((q_fE (S257) o 32 (((q_I (S) o 24) - (1 : Int32) : Int32)).toNatClampNeg) &&& (2 : Int32)).toInt)
    obtain ⟨v287, ev287⟩ := q_ev (((q_I (S257) a13 ((q_I (S) o 24) - (1 : Int32)).toNatClampNeg) &&& (2 : Int32)).toInt)
    have f288 := q_andRVI ev287 (show q_eqv ((2 : Int32)).toInt (2) by unfold q_eqv; decide) (by omega)
    have f289 : v286 = v287 := q_eqVI e277 ev286 ev287
    obtain ⟨v290, ev290⟩ := q_ev ((q_fE (S257) o 33 (((q_I (S) o 24) - (1 : Int32) : Int32)).toNatClampNeg).toInt)
    obtain ⟨v291, ev291⟩ := q_ev ((q_I (S257) a15 ((q_I (S) o 24) - (1 : Int32)).toNatClampNeg).toInt)
    have f292 := q_bV ev291 f280
    have f293 : v290 = v291 := q_eqVI e281 ev290 ev291
    obtain ⟨v294, ev294⟩ := q_ev ((q_fE (S257) o 34 (((q_I (S) o 24) - (1 : Int32) : Int32)).toNatClampNeg).toInt)
    obtain ⟨v295, ev295⟩ := q_ev ((q_I (S257) a17 ((q_I (S) o 24) - (1 : Int32)).toNatClampNeg).toInt)
    have f296 := q_bV ev295 f284
    have f297 : v294 = v295 := q_eqVI e285 ev294 ev295
    have f298 : v286 = 0 → 0 ≤ v290 ∧ 0 ≤ v294 := q_to3 (fun x0 x1 x2 => x0 = 0 → 0 ≤ x1 ∧ 0 ≤ x2) ev286 ev290 ev294 ((q_smE (h258.2.2)).2.2.1)
    have t299 := g_45_R26 hG mo ro
    have e300 : q_R (S257) o 26 = q_R (S247) o 26 := (q_unR h258.1 mo ro (by decide))
    have t301 := g_45_R29 hG mo ro
    have e302 : q_R (S257) o 29 = q_R (S) o 29 := (Eq.trans (q_unR h258.1 mo ro (by decide)) (q_unR h248.1 mo ro (by decide)))
    have t303 := g_45_R32 hG mo ro
    have t304 := g_45_R33 hG mo ro
    have t305 := g_45_R34 hG mo ro
    have n306 := ((q_smE (h258.2.2)).2.2.2) _ _ _ _ _ (Eq.trans e300 (Eq.trans e253 ea7)) (Eq.trans e302 ea3) (Eq.trans e274 ea13) (Eq.trans e279 ea15) (Eq.trans e283 ea17)
    have n307 := q_efT n251 n306 (q_bw2 (fun x0 x1 => x0 - 1 ≤ x1) ev19 ev60 (by omega))
    refine q_ok_ite (fun g308 => ?_) (fun g308 => ?_)
    · have f309 := q_eqV q_evr (show q_eqv ((0 : Int32)).toInt (0) by unfold q_eqv; decide) (q_p_eq g308)
      unfold m_X12_goOn_78
      refine q_ok_atS hG (q_trI mo ro) rfl (fun mo ro => ?_)
      have t310 := g_45_R27 hG mo ro
      have e311 : q_R (S257) o 27 = q_R (S) o 27 := (Eq.trans (q_unR h258.1 mo ro (by decide)) (q_unR h248.1 mo ro (by decide)))
      refine q_ok_atA hG (Eq.trans e311 ea26) ma26 ra26 rfl ?_
      refine q_ok_if (q_inV (g_62_N hG ma26 ra26) ev60 (by omega) (by omega)) ?_
      have f312 : q_sm _ := g_62_E hG ma26 ra26 (k := ((q_I (S) o 24) - (1 : Int32)).toNatClampNeg)
      have hG := u_45_I14 (x := q_I (S257) a26 ((q_I (S) o 24) - (1 : Int32)).toNatClampNeg) hG mo ro (by decide) (q_wd f312 (by decide) (by decide))
      have f313 : q_sm _ := g_45_I18 hG mo ro
      have e314 : q_I (S257) o 18 = q_I (S) o 18 := (Eq.trans (q_unI h258.1 mo ro (by decide)) (q_unI h248.1 mo ro (by decide)))
      have f315 : q_sm _ := g_45_I14 hG mo ro
      have e316 : q_I (S257) o 14 = q_I (S) o 14 := (Eq.trans (q_unI h258.1 mo ro (by decide)) (q_unI h248.1 mo ro (by decide)))
      have f317 : q_sm _ := g_45_I24 hG mo ro
      have e318 : q_I (S257) o 24 = q_I (S) o 24 := (Eq.trans (q_unI h258.1 mo ro (by decide)) (q_unI h248.1 mo ro (by decide)))
      have n319 : q_ef (S) (q_sI (S257) o 14 (q_I (S257) a26 ((q_I (S) o 24) - (1 : Int32)).toNatClampNeg)) a7 a3 a13 a15 a17 _ := q_efI ro ra7 ra3 ra13 ra15 ra17 (by decide) (by decide) (by decide) (by decide) (by decide) n307
      have t320 := g_45_R28 hG mo ro
      have e321 : q_R (q_sI (S257) o 14 (q_I (S257) a26 ((q_I (S) o 24) - (1 : Int32)).toNatClampNeg)) o 28 = q_R (S) o 28 := (Eq.trans q_skRI (Eq.trans (q_unR h258.1 mo ro (by decide)) (q_unR h248.1 mo ro (by decide))))
      refine q_ok_atA hG (Eq.trans e321 ea24) ma24 ra24 rfl ?_
      refine q_ok_if (q_inV (g_63_N hG ma24 ra24) ev60 (by omega) (by omega)) ?_
      have f322 : q_sm _ := g_63_E hG ma24 ra24 (k := ((q_I (S) o 24) - (1 : Int32)).toNatClampNeg)
      have hG := u_45_I18 (x := q_I (q_sI (S257) o 14 (q_I (S257) a26 ((q_I (S) o 24) - (1 : Int32)).toNatClampNeg)) a24 ((q_I (S) o 24) - (1 : Int32)).toNatClampNeg) hG mo ro (by decide) (q_wd f322 (by decide) (by decide))
      have f323 : q_sm _ := g_45_I18 hG mo ro
      have e324 : q_I (q_sI (S257) o 14 (q_I (S257) a26 ((q_I (S) o 24) - (1 : Int32)).toNatClampNeg)) o 18 = q_I (S257) o 18 := (q_ffI (by decide))
      have f325 : q_sm _ := g_45_I14 hG mo ro
      have e326 : q_I (q_sI (S257) o 14 (q_I (S257) a26 ((q_I (S) o 24) - (1 : Int32)).toNatClampNeg)) o 14 = q_I (S257) a26 ((q_I (S) o 24) - (1 : Int32)).toNatClampNeg := q_hitI
      have f327 : q_sm _ := g_45_I24 hG mo ro
      have e328 : q_I (q_sI (S257) o 14 (q_I (S257) a26 ((q_I (S) o 24) - (1 : Int32)).toNatClampNeg)) o 24 = q_I (S257) o 24 := (q_ffI (by decide))
      obtain ⟨v329, ev329⟩ := q_ev ((q_I (S257) o 24).toInt)
      have f330 : v329 = v19 := q_eqVI e318 ev329 ev19
      have n331 : q_N3 (q_sI (q_sI (S257) o 14 (q_I (S257) a26 ((q_I (S) o 24) - (1 : Int32)).toNatClampNeg)) o 18 (q_I (q_sI (S257) o 14 (q_I (S257) a26 ((q_I (S) o 24) - (1 : Int32)).toNatClampNeg)) a24 ((q_I (S) o 24) - (1 : Int32)).toNatClampNeg)) o a22 a24 a26 _ _ := q_N3reset ro ra22 ra24 ra26 n261 (q_clamp1 (q_bw1 (fun x0 => 0 ≤ x0) ev60 (by omega)) (q_bw2 (fun x0 x1 => x0 + 1 = x1) ev60 ev329 (by omega))) rfl (q_fwI ra24 ro (by decide))
      have n332 : q_ef (S) (q_sI (q_sI (S257) o 14 (q_I (S257) a26 ((q_I (S) o 24) - (1 : Int32)).toNatClampNeg)) o 18 (q_I (q_sI (S257) o 14 (q_I (S257) a26 ((q_I (S) o 24) - (1 : Int32)).toNatClampNeg)) a24 ((q_I (S) o 24) - (1 : Int32)).toNatClampNeg)) a7 a3 a13 a15 a17 _ := q_efI ro ra7 ra3 ra13 ra15 ra17 (by decide) (by decide) (by decide) (by decide) (by decide) n319
      refine q_ok_let (fun S333 eS333 => ?_)
      rw [← eS333] at hG
      have n334 := q_N3L eS333 n331
      have n335 := q_efL eS333 n332
      have t336 := g_45_R25 hG mo ro
      have e337 : q_R (S333) o 25 = q_R (S) o 25 := (Eq.trans (q_leR eS333) (Eq.trans q_skRI (Eq.trans q_skRI (Eq.trans (q_unR h258.1 mo ro (by decide)) (q_unR h248.1 mo ro (by decide))))))
      refine q_ok_atA hG (Eq.trans e337 ea244) ma244 ra244 rfl ?_
      refine q_ok_if (q_inV (g_60_N hG ma244 ra244) ev60 (by omega) (by omega)) ?_
      have f338 : q_sm _ := g_60_E hG ma244 ra244 (k := ((q_I (S) o 24) - (1 : Int32)).toNatClampNeg)
      have e339 : q_I (S333) a244 ((q_I (S) o 24) - (1 : Int32)).toNatClampNeg = q_I (S) a244 ((q_I (S) o 24) - (1 : Int32)).toNatClampNeg := (Eq.trans (q_leI eS333) (Eq.trans (q_fwI ra244 ro (by decide)) (Eq.trans (q_fwI ra244 ro (by decide)) (Eq.trans (q_unIA h258.1 ma244 ra244 (by decide) (by decide)) (q_unIA h248.1 ma244 ra244 (by decide) (by decide))))))
      refine q_ok_b (s_X12_tell_45 hn hG.1 mo ro (q_wd (show (1 : Int) ≤ (1 : Int32).toInt ∧ (1 : Int32).toInt ≤ (1 : Int) by decide) (by decide) (by decide)) (q_wd f338 (by decide) (by decide))) (fun r340 S341 h342 => ?_)
      have hG := q_G_call hG h342 (by decide)
      have n343 := q_N3U h342 mo ro ma22 ra22 ma24 ra24 ma26 ra26 rfl rfl rfl rfl rfl rfl n334
      have n344 := q_efU h342 ma7 ra7 ma3 ra3 ma13 ra13 ma15 ra15 ma17 ra17 rfl rfl rfl rfl rfl n335
      refine q_ok_atS hG (q_trI mo ro) rfl (fun mo ro => ?_)
      have t345 := g_45_R29 hG mo ro
      have e346 : q_R (S341) o 29 = q_R (S257) o 29 := (Eq.trans (q_unR h342 mo ro (by decide)) (Eq.trans (q_leR eS333) (Eq.trans q_skRI q_skRI)))
      refine q_ok_atA hG (Eq.trans e346 (Eq.trans e302 ea3)) ma3 ra3 rfl ?_
      refine q_ok_if (q_inV (g_64_N hG ma3 ra3) ev60 (by omega) (by omega)) ?_
      obtain ⟨v347, ev347⟩ := q_ev ((vp_nar .boolean ((0 : Int32))).toInt)
      have f348 : v347 = (0) := q_narV ev347 (show q_eqv ((0 : Int32)).toInt (0) by unfold q_eqv; decide) (by omega) (by omega)
      have hG := u_64_E (k := ((q_I (S) o 24) - (1 : Int32)).toNatClampNeg) (x := vp_nar .boolean ((0 : Int32))) hG ma3 ra3 (by decide) (q_oV ev347 (by omega) (by omega))
      have n349 : q_N3 (q_sI (S341) a3 ((q_I (S) o 24) - (1 : Int32)).toNatClampNeg (vp_nar .boolean ((0 : Int32)))) o a22 a24 a26 _ _ := q_N3I ro ra3 ra22 ra24 ra26 (by decide) (by decide) (by decide) (by decide) n343
      have n350 : q_ef (S) (q_sI (S341) a3 ((q_I (S) o 24) - (1 : Int32)).toNatClampNeg (vp_nar .boolean ((0 : Int32)))) a7 a3 a13 a15 a17 _ := q_efA (q_clampL (q_bw1 (fun x0 => 0 ≤ x0) ev60 (by omega)) (q_bw2 (fun x0 x1 => x0 - 1 ≤ x1) ev19 ev60 (by omega))) n344
      have t351 := g_45_R19 hG mo ro
      have e352 : q_R (q_sI (S341) a3 ((q_I (S) o 24) - (1 : Int32)).toNatClampNeg (vp_nar .boolean ((0 : Int32)))) o 19 = q_R (S) o 19 := (Eq.trans q_skRI (Eq.trans (q_unR h342 mo ro (by decide)) (Eq.trans (q_leR eS333) (Eq.trans q_skRI (Eq.trans q_skRI (Eq.trans (q_unR h258.1 mo ro (by decide)) (q_unR h248.1 mo ro (by decide))))))))
      have t353 := g_45_R28 hG mo ro
      have e354 : q_R (q_sI (S341) a3 ((q_I (S) o 24) - (1 : Int32)).toNatClampNeg (vp_nar .boolean ((0 : Int32)))) o 28 = q_R (q_sI (S257) o 14 (q_I (S257) a26 ((q_I (S) o 24) - (1 : Int32)).toNatClampNeg)) o 28 := (Eq.trans q_skRI (Eq.trans (q_unR h342 mo ro (by decide)) (Eq.trans (q_leR eS333) q_skRI)))
      have t355 := g_45_R27 hG mo ro
      have e356 : q_R (q_sI (S341) a3 ((q_I (S) o 24) - (1 : Int32)).toNatClampNeg (vp_nar .boolean ((0 : Int32)))) o 27 = q_R (S257) o 27 := (Eq.trans q_skRI (Eq.trans (q_unR h342 mo ro (by decide)) (Eq.trans (q_leR eS333) (Eq.trans q_skRI q_skRI))))
      have f357 : q_sm _ := g_45_I18 hG mo ro
      have e358 : q_I (q_sI (S341) a3 ((q_I (S) o 24) - (1 : Int32)).toNatClampNeg (vp_nar .boolean ((0 : Int32)))) o 18 = q_I (q_sI (S257) o 14 (q_I (S257) a26 ((q_I (S) o 24) - (1 : Int32)).toNatClampNeg)) a24 ((q_I (S) o 24) - (1 : Int32)).toNatClampNeg := (Eq.trans (q_fwI ro ra3 (by decide)) (Eq.trans (q_unI h342 mo ro (by decide)) (Eq.trans (q_leI eS333) q_hitI)))
      obtain ⟨v359, ev359⟩ := q_ev ((q_I (q_sI (S341) a3 ((q_I (S) o 24) - (1 : Int32)).toNatClampNeg (vp_nar .boolean ((0 : Int32)))) o 18).toInt)
      obtain ⟨v360, ev360⟩ := q_ev ((q_I (q_sI (S257) o 14 (q_I (S257) a26 ((q_I (S) o 24) - (1 : Int32)).toNatClampNeg)) a24 ((q_I (S) o 24) - (1 : Int32)).toNatClampNeg).toInt)
      have f361 := q_bV ev360 f322
      have f362 : v359 = v360 := q_eqVI e358 ev359 ev360
      have t363 := g_45_R26 hG mo ro
      have e364 : q_R (q_sI (S341) a3 ((q_I (S) o 24) - (1 : Int32)).toNatClampNeg (vp_nar .boolean ((0 : Int32)))) o 26 = q_R (S257) o 26 := (Eq.trans q_skRI (Eq.trans (q_unR h342 mo ro (by decide)) (Eq.trans (q_leR eS333) (Eq.trans q_skRI q_skRI))))
      have t365 := g_45_R29 hG mo ro
      have e366 : q_R (q_sI (S341) a3 ((q_I (S) o 24) - (1 : Int32)).toNatClampNeg (vp_nar .boolean ((0 : Int32)))) o 29 = q_R (S341) o 29 := q_skRI
      have t367 := g_45_R32 hG mo ro
      have e368 : q_R (q_sI (S341) a3 ((q_I (S) o 24) - (1 : Int32)).toNatClampNeg (vp_nar .boolean ((0 : Int32)))) o 32 = q_R (S257) o 32 := (Eq.trans q_skRI (Eq.trans (q_unR h342 mo ro (by decide)) (Eq.trans (q_leR eS333) (Eq.trans q_skRI q_skRI))))
      have t369 := g_45_R33 hG mo ro
      have e370 : q_R (q_sI (S341) a3 ((q_I (S) o 24) - (1 : Int32)).toNatClampNeg (vp_nar .boolean ((0 : Int32)))) o 33 = q_R (S257) o 33 := (Eq.trans q_skRI (Eq.trans (q_unR h342 mo ro (by decide)) (Eq.trans (q_leR eS333) (Eq.trans q_skRI q_skRI))))
      have t371 := g_45_R34 hG mo ro
      have e372 : q_R (q_sI (S341) a3 ((q_I (S) o 24) - (1 : Int32)).toNatClampNeg (vp_nar .boolean ((0 : Int32)))) o 34 = q_R (S257) o 34 := (Eq.trans q_skRI (Eq.trans (q_unR h342 mo ro (by decide)) (Eq.trans (q_leR eS333) (Eq.trans q_skRI q_skRI))))
      have f373 : q_sm _ := g_45_I24 hG mo ro
      have e374 : q_I (q_sI (S341) a3 ((q_I (S) o 24) - (1 : Int32)).toNatClampNeg (vp_nar .boolean ((0 : Int32)))) o 24 = q_I (q_sI (S257) o 14 (q_I (S257) a26 ((q_I (S) o 24) - (1 : Int32)).toNatClampNeg)) o 24 := (Eq.trans (q_fwI ro ra3 (by decide)) (Eq.trans (q_unI h342 mo ro (by decide)) (Eq.trans (q_leI eS333) (q_ffI (by decide)))))
      have t375 := g_45_R32 hG mo ro
      have f376 : q_sm _ := g_67_E hG ma13 ra13 (k := ((q_I (S) o 24) - (1 : Int32)).toNatClampNeg)
      have e377 : q_I (q_sI (S341) a3 ((q_I (S) o 24) - (1 : Int32)).toNatClampNeg (vp_nar .boolean ((0 : Int32)))) a13 ((q_I (S) o 24) - (1 : Int32)).toNatClampNeg = q_I (S257) a13 ((q_I (S) o 24) - (1 : Int32)).toNatClampNeg := (Eq.trans (q_fwI ra13 ra3 (by decide)) (Eq.trans (q_unIA h342 ma13 ra13 (by decide) (by decide)) (Eq.trans (q_leI eS333) (Eq.trans (q_fwI ra13 ro (by decide)) (q_fwI ra13 ro (by decide))))))
      have e378 : q_fE (q_sI (S341) a3 ((q_I (S) o 24) - (1 : Int32)).toNatClampNeg (vp_nar .boolean ((0 : Int32)))) o 32 (((q_I (S) o 24) - (1 : Int32) : Int32)).toNatClampNeg = q_I (q_sI (S341) a3 ((q_I (S) o 24) - (1 : Int32)).toNatClampNeg (vp_nar .boolean ((0 : Int32)))) a13 ((q_I (S) o 24) - (1 : Int32)).toNatClampNeg := q_fEe (Eq.trans e368 (Eq.trans e274 ea13))
      have e379 : (q_fE (q_sI (S341) a3 ((q_I (S) o 24) - (1 : Int32)).toNatClampNeg (vp_nar .boolean ((0 : Int32)))) o 32 (((q_I (S) o 24) - (1 : Int32) : Int32)).toNatClampNeg) &&& (2 : Int32) = (q_I (S257) a13 ((q_I (S) o 24) - (1 : Int32)).toNatClampNeg) &&& (2 : Int32) := congrArg (fun z : Int32 => z &&& (2 : Int32)) (Eq.trans e378 e377)
      have t380 := g_45_R33 hG mo ro
      have f381 : q_sm _ := g_68_E hG ma15 ra15 (k := ((q_I (S) o 24) - (1 : Int32)).toNatClampNeg)
      have e382 : q_I (q_sI (S341) a3 ((q_I (S) o 24) - (1 : Int32)).toNatClampNeg (vp_nar .boolean ((0 : Int32)))) a15 ((q_I (S) o 24) - (1 : Int32)).toNatClampNeg = q_I (S257) a15 ((q_I (S) o 24) - (1 : Int32)).toNatClampNeg := (Eq.trans (q_fwI ra15 ra3 (by decide)) (Eq.trans (q_unIA h342 ma15 ra15 (by decide) (by decide)) (Eq.trans (q_leI eS333) (Eq.trans (q_fwI ra15 ro (by decide)) (q_fwI ra15 ro (by decide))))))
      have e383 : q_fE (q_sI (S341) a3 ((q_I (S) o 24) - (1 : Int32)).toNatClampNeg (vp_nar .boolean ((0 : Int32)))) o 33 (((q_I (S) o 24) - (1 : Int32) : Int32)).toNatClampNeg = q_I (q_sI (S341) a3 ((q_I (S) o 24) - (1 : Int32)).toNatClampNeg (vp_nar .boolean ((0 : Int32)))) a15 ((q_I (S) o 24) - (1 : Int32)).toNatClampNeg := q_fEe (Eq.trans e370 (Eq.trans e279 ea15))
      have t384 := g_45_R34 hG mo ro
      have f385 : q_sm _ := g_69_E hG ma17 ra17 (k := ((q_I (S) o 24) - (1 : Int32)).toNatClampNeg)
      have e386 : q_I (q_sI (S341) a3 ((q_I (S) o 24) - (1 : Int32)).toNatClampNeg (vp_nar .boolean ((0 : Int32)))) a17 ((q_I (S) o 24) - (1 : Int32)).toNatClampNeg = q_I (S257) a17 ((q_I (S) o 24) - (1 : Int32)).toNatClampNeg := (Eq.trans (q_fwI ra17 ra3 (by decide)) (Eq.trans (q_unIA h342 ma17 ra17 (by decide) (by decide)) (Eq.trans (q_leI eS333) (Eq.trans (q_fwI ra17 ro (by decide)) (q_fwI ra17 ro (by decide))))))
      have e387 : q_fE (q_sI (S341) a3 ((q_I (S) o 24) - (1 : Int32)).toNatClampNeg (vp_nar .boolean ((0 : Int32)))) o 34 (((q_I (S) o 24) - (1 : Int32) : Int32)).toNatClampNeg = q_I (q_sI (S341) a3 ((q_I (S) o 24) - (1 : Int32)).toNatClampNeg (vp_nar .boolean ((0 : Int32)))) a17 ((q_I (S) o 24) - (1 : Int32)).toNatClampNeg := q_fEe (Eq.trans e372 (Eq.trans e283 ea17))
      obtain ⟨v388, ev388⟩ := q_ev ((q_I (q_sI (S341) a3 ((q_I (S) o 24) - (1 : Int32)).toNatClampNeg (vp_nar .boolean ((0 : Int32)))) o 24).toInt)
      obtain ⟨v389, ev389⟩ := q_ev ((q_I (q_sI (S257) o 14 (q_I (S257) a26 ((q_I (S) o 24) - (1 : Int32)).toNatClampNeg)) o 24).toInt)
      have f390 : v389 = v329 := q_eqVI e328 ev389 ev329
      have f391 : v388 = v389 := q_eqVI e374 ev388 ev389
      obtain ⟨v392, ev392⟩ := q_ev (((q_fE (q_sI (S341) a3 ((q_I (S) o 24) - (1 : Int32)).toNatClampNeg (vp_nar .boolean ((0 : Int32)))) o 32 (((q_I (S) o 24) - (1 : Int32) : Int32)).toNatClampNeg) &&& (2 : Int32)).toInt)
      have f393 : v392 = v287 := q_eqVI e379 ev392 ev287
      obtain ⟨v394, ev394⟩ := q_ev ((q_fE (q_sI (S341) a3 ((q_I (S) o 24) - (1 : Int32)).toNatClampNeg (vp_nar .boolean ((0 : Int32)))) o 33 (((q_I (S) o 24) - (1 : Int32) : Int32)).toNatClampNeg).toInt)
      obtain ⟨v395, ev395⟩ := q_ev ((q_I (q_sI (S341) a3 ((q_I (S) o 24) - (1 : Int32)).toNatClampNeg (vp_nar .boolean ((0 : Int32)))) a15 ((q_I (S) o 24) - (1 : Int32)).toNatClampNeg).toInt)
      have f396 : v395 = v291 := q_eqVI e382 ev395 ev291
      have f397 : v394 = v395 := q_eqVI e383 ev394 ev395
      obtain ⟨v398, ev398⟩ := q_ev ((q_fE (q_sI (S341) a3 ((q_I (S) o 24) - (1 : Int32)).toNatClampNeg (vp_nar .boolean ((0 : Int32)))) o 34 (((q_I (S) o 24) - (1 : Int32) : Int32)).toNatClampNeg).toInt)
      obtain ⟨v399, ev399⟩ := q_ev ((q_I (q_sI (S341) a3 ((q_I (S) o 24) - (1 : Int32)).toNatClampNeg (vp_nar .boolean ((0 : Int32)))) a17 ((q_I (S) o 24) - (1 : Int32)).toNatClampNeg).toInt)
      have f400 : v399 = v295 := q_eqVI e386 ev399 ev295
      have f401 : v398 = v399 := q_eqVI e387 ev398 ev399
      have t402 := g_45_R29 hG mo ro
      have f403 : q_sm _ := g_64_E hG ma3 ra3 (k := ((q_I (S) o 24) - (1 : Int32)).toNatClampNeg)
      have e404 : q_I (q_sI (S341) a3 ((q_I (S) o 24) - (1 : Int32)).toNatClampNeg (vp_nar .boolean ((0 : Int32)))) a3 ((q_I (S) o 24) - (1 : Int32)).toNatClampNeg = vp_nar .boolean ((0 : Int32)) := q_hitI
      have e405 : q_fE (q_sI (S341) a3 ((q_I (S) o 24) - (1 : Int32)).toNatClampNeg (vp_nar .boolean ((0 : Int32)))) o 29 (((q_I (S) o 24) - (1 : Int32) : Int32)).toNatClampNeg = q_I (q_sI (S341) a3 ((q_I (S) o 24) - (1 : Int32)).toNatClampNeg (vp_nar .boolean ((0 : Int32)))) a3 ((q_I (S) o 24) - (1 : Int32)).toNatClampNeg := q_fEe (Eq.trans e366 (Eq.trans e346 (Eq.trans e302 ea3)))
      have t406 := g_45_R26 hG mo ro
      have f407 : q_sm _ := g_61_E hG ma7 ra7 (k := ((q_I (S) o 24) - (1 : Int32)).toNatClampNeg)
      have e408 : q_I (q_sI (S341) a3 ((q_I (S) o 24) - (1 : Int32)).toNatClampNeg (vp_nar .boolean ((0 : Int32)))) a7 ((q_I (S) o 24) - (1 : Int32)).toNatClampNeg = q_I (S247) a7 ((q_I (S) o 24) - (1 : Int32)).toNatClampNeg := (Eq.trans (q_fwI ra7 ra3 (by decide)) (Eq.trans (q_unIA h342 ma7 ra7 (by decide) (by decide)) (Eq.trans (q_leI eS333) (Eq.trans (q_fwI ra7 ro (by decide)) (Eq.trans (q_fwI ra7 ro (by decide)) (q_unIA h258.1 ma7 ra7 (by decide) (by decide)))))))
      have e409 : q_fE (q_sI (S341) a3 ((q_I (S) o 24) - (1 : Int32)).toNatClampNeg (vp_nar .boolean ((0 : Int32)))) o 26 (((q_I (S) o 24) - (1 : Int32) : Int32)).toNatClampNeg = q_I (q_sI (S341) a3 ((q_I (S) o 24) - (1 : Int32)).toNatClampNeg (vp_nar .boolean ((0 : Int32)))) a7 ((q_I (S) o 24) - (1 : Int32)).toNatClampNeg := q_fEe (Eq.trans e364 (Eq.trans e300 (Eq.trans e253 ea7)))
      obtain ⟨v410, ev410⟩ := q_ev ((q_fE (S) o 29 (((q_I (S) o 24) - (1 : Int32) : Int32)).toNatClampNeg).toInt)
      have f411 : v410 = v62 := q_eqVI e5 ev410 ev62
      obtain ⟨v412, ev412⟩ := q_ev ((q_fE (q_sI (S341) a3 ((q_I (S) o 24) - (1 : Int32)).toNatClampNeg (vp_nar .boolean ((0 : Int32)))) o 29 (((q_I (S) o 24) - (1 : Int32) : Int32)).toNatClampNeg).toInt)
      obtain ⟨v413, ev413⟩ := q_ev ((q_I (q_sI (S341) a3 ((q_I (S) o 24) - (1 : Int32)).toNatClampNeg (vp_nar .boolean ((0 : Int32)))) a3 ((q_I (S) o 24) - (1 : Int32)).toNatClampNeg).toInt)
      have f414 : v413 = v347 := q_eqVI e404 ev413 ev347
      have f415 : v412 = v413 := q_eqVI e405 ev412 ev413
      obtain ⟨v416, ev416⟩ := q_ev ((q_fE (S) o 26 (((q_I (S) o 24) - (1 : Int32) : Int32)).toNatClampNeg).toInt)
      have f417 : v416 = v269 := q_eqVI e9 ev416 ev269
      obtain ⟨v418, ev418⟩ := q_ev ((q_fE (q_sI (S341) a3 ((q_I (S) o 24) - (1 : Int32)).toNatClampNeg (vp_nar .boolean ((0 : Int32)))) o 26 (((q_I (S) o 24) - (1 : Int32) : Int32)).toNatClampNeg).toInt)
      obtain ⟨v419, ev419⟩ := q_ev ((q_I (q_sI (S341) a3 ((q_I (S) o 24) - (1 : Int32)).toNatClampNeg (vp_nar .boolean ((0 : Int32)))) a7 ((q_I (S) o 24) - (1 : Int32)).toNatClampNeg).toInt)
      have f420 : v419 = v268 := q_eqVI e408 ev419 ev268
      have f421 : v418 = v419 := q_eqVI e409 ev418 ev419
      exact q_ok_some ⟨hG, (q_smI ⟨(q_N3xI (Eq.trans e352 ea22) (Eq.trans e354 (Eq.trans e321 ea24)) (Eq.trans e356 (Eq.trans e311 ea26)) (q_N3c n349 (q_bw2 (fun x0 x1 => x0 = x1) ev359 ev360 (by omega)) rfl)), (q_efxI (Eq.trans e364 (Eq.trans e300 (Eq.trans e253 ea7))) (Eq.trans e366 (Eq.trans e346 (Eq.trans e302 ea3))) (Eq.trans e368 (Eq.trans e274 ea13)) (Eq.trans e370 (Eq.trans e279 ea15)) (Eq.trans e372 (Eq.trans e283 ea17)) n350), (q_bw5 (fun x0 x1 x2 x3 x4 => x0 < x1 ∨ (x2 = 0 → 0 ≤ x3 ∧ 0 ≤ x4)) ev388 ev19 ev392 ev394 ev398 (by omega)), (q_bw6 (fun x0 x1 x2 x3 x4 x5 => x0 = x1 - 1 ∨ (x2 = 1 ∧ x0 = x1 ∧ x3 = 0) ∨ (x2 = 1 ∧ x4 + 6 ≤ x5 ∧ (x0 = x1 ∨ x0 = x1 + 1))) ev388 ev19 ev410 ev412 ev416 ev418 (by omega))⟩)⟩
    · have f422 := q_neV q_evr (show q_eqv ((0 : Int32)).toInt (0) by unfold q_eqv; decide) (q_n_eq g308)
      refine q_ok_atS hG (q_trI mo ro) rfl (fun mo ro => ?_)
      refine q_ok_ite (fun g423 => ?_) (fun g423 => ?_)
      · have f424 := q_eqV ev263 (show q_eqv ((0 : Int32)).toInt (0) by unfold q_eqv; decide) (q_p_eq g423)
        have t425 := g_45_R26 hG mo ro
        refine q_ok_atA hG (Eq.trans e300 (Eq.trans e253 ea7)) ma7 ra7 rfl ?_
        refine q_ok_if (q_inV (g_61_N hG ma7 ra7) ev60 (by omega) (by omega)) ?_
        have f426 : q_sm _ := g_61_E hG ma7 ra7 (k := ((q_I (S) o 24) - (1 : Int32)).toNatClampNeg)
        have e427 : q_I (S257) a7 ((q_I (S) o 24) - (1 : Int32)).toNatClampNeg = q_I (S247) a7 ((q_I (S) o 24) - (1 : Int32)).toNatClampNeg := (q_unIA h258.1 ma7 ra7 (by decide) (by decide))
        refine q_ok_if (q_inV (g_61_N hG ma7 ra7) ev60 (by omega) (by omega)) ?_
        obtain ⟨v428, ev428⟩ := q_ev (((q_I (S257) a7 ((q_I (S) o 24) - (1 : Int32)).toNatClampNeg) + r256).toInt)
        obtain ⟨v429, ev429⟩ := q_ev ((q_I (S257) a7 ((q_I (S) o 24) - (1 : Int32)).toNatClampNeg).toInt)
        have f430 : v429 = v268 := q_eqVI e427 ev429 ev268
        have f431 : v428 = v429 + r256.toInt := q_addVI ev428 ev429 q_evr (by omega) (by omega)
        have hG := u_61_E (k := ((q_I (S) o 24) - (1 : Int32)).toNatClampNeg) (x := (q_I (S257) a7 ((q_I (S) o 24) - (1 : Int32)).toNatClampNeg) + r256) hG ma7 ra7 (by decide) (q_oV ev428 (by omega) (by omega))
        have n432 : q_N3 (q_sI (S257) a7 ((q_I (S) o 24) - (1 : Int32)).toNatClampNeg ((q_I (S257) a7 ((q_I (S) o 24) - (1 : Int32)).toNatClampNeg) + r256)) o a22 a24 a26 _ _ := q_N3I ro ra7 ra22 ra24 ra26 (by decide) (by decide) (by decide) (by decide) n261
        have n433 : q_ef (S) (q_sI (S257) a7 ((q_I (S) o 24) - (1 : Int32)).toNatClampNeg ((q_I (S257) a7 ((q_I (S) o 24) - (1 : Int32)).toNatClampNeg) + r256)) a7 a3 a13 a15 a17 _ := q_efA (q_clampL (q_bw1 (fun x0 => 0 ≤ x0) ev60 (by omega)) (q_bw2 (fun x0 x1 => x0 - 1 ≤ x1) ev19 ev60 (by omega))) n307
        have t434 := g_45_R29 hG mo ro
        have e435 : q_R (q_sI (S257) a7 ((q_I (S) o 24) - (1 : Int32)).toNatClampNeg ((q_I (S257) a7 ((q_I (S) o 24) - (1 : Int32)).toNatClampNeg) + r256)) o 29 = q_R (S257) o 29 := q_skRI
        have t436 := g_45_R32 hG mo ro
        have e437 : q_R (q_sI (S257) a7 ((q_I (S) o 24) - (1 : Int32)).toNatClampNeg ((q_I (S257) a7 ((q_I (S) o 24) - (1 : Int32)).toNatClampNeg) + r256)) o 32 = q_R (S257) o 32 := q_skRI
        refine q_ok_atA hG (Eq.trans e437 (Eq.trans e274 ea13)) ma13 ra13 rfl ?_
        refine q_ok_if (q_inV (g_67_N hG ma13 ra13) ev60 (by omega) (by omega)) ?_
        have f438 : q_sm _ := g_67_E hG ma13 ra13 (k := ((q_I (S) o 24) - (1 : Int32)).toNatClampNeg)
        have e439 : q_I (q_sI (S257) a7 ((q_I (S) o 24) - (1 : Int32)).toNatClampNeg ((q_I (S257) a7 ((q_I (S) o 24) - (1 : Int32)).toNatClampNeg) + r256)) a13 ((q_I (S) o 24) - (1 : Int32)).toNatClampNeg = q_I (S257) a13 ((q_I (S) o 24) - (1 : Int32)).toNatClampNeg := (q_fwI ra13 ra7 (by decide))
        obtain ⟨v440, ev440⟩ := q_ev (((q_I (q_sI (S257) a7 ((q_I (S) o 24) - (1 : Int32)).toNatClampNeg ((q_I (S257) a7 ((q_I (S) o 24) - (1 : Int32)).toNatClampNeg) + r256)) a13 ((q_I (S) o 24) - (1 : Int32)).toNatClampNeg) &&& (32 : Int32)).toInt)
        have f441 := q_andRVI ev440 (show q_eqv ((32 : Int32)).toInt (32) by unfold q_eqv; decide) (by omega)
        refine q_ok_ite (fun g442 => ?_) (fun g442 => ?_)
        · have f443 := q_eqV ev440 (show q_eqv ((0 : Int32)).toInt (0) by unfold q_eqv; decide) (q_p_eq g442)
          unfold m_X12_goOn_149
          refine q_ok_atA hG (Eq.trans e435 (Eq.trans e302 ea3)) ma3 ra3 rfl ?_
          refine q_ok_if (q_inV (g_64_N hG ma3 ra3) ev60 (by omega) (by omega)) ?_
          obtain ⟨v444, ev444⟩ := q_ev ((vp_nar .boolean ((0 : Int32))).toInt)
          have f445 : v444 = (0) := q_narV ev444 (show q_eqv ((0 : Int32)).toInt (0) by unfold q_eqv; decide) (by omega) (by omega)
          have hG := u_64_E (k := ((q_I (S) o 24) - (1 : Int32)).toNatClampNeg) (x := vp_nar .boolean ((0 : Int32))) hG ma3 ra3 (by decide) (q_oV ev444 (by omega) (by omega))
          have n446 : q_N3 (q_sI (q_sI (S257) a7 ((q_I (S) o 24) - (1 : Int32)).toNatClampNeg ((q_I (S257) a7 ((q_I (S) o 24) - (1 : Int32)).toNatClampNeg) + r256)) a3 ((q_I (S) o 24) - (1 : Int32)).toNatClampNeg (vp_nar .boolean ((0 : Int32)))) o a22 a24 a26 _ _ := q_N3I ro ra3 ra22 ra24 ra26 (by decide) (by decide) (by decide) (by decide) n432
          have n447 : q_ef (S) (q_sI (q_sI (S257) a7 ((q_I (S) o 24) - (1 : Int32)).toNatClampNeg ((q_I (S257) a7 ((q_I (S) o 24) - (1 : Int32)).toNatClampNeg) + r256)) a3 ((q_I (S) o 24) - (1 : Int32)).toNatClampNeg (vp_nar .boolean ((0 : Int32)))) a7 a3 a13 a15 a17 _ := q_efA (q_clampL (q_bw1 (fun x0 => 0 ≤ x0) ev60 (by omega)) (q_bw2 (fun x0 x1 => x0 - 1 ≤ x1) ev19 ev60 (by omega))) n433
          refine q_ok_atS hG (q_trI mo ro) rfl (fun mo ro => ?_)
          have t448 := g_45_R31 hG mo ro
          have f449 : q_sm _ := g_45_I14 hG mo ro
          have e450 : q_I (q_sI (q_sI (S257) a7 ((q_I (S) o 24) - (1 : Int32)).toNatClampNeg ((q_I (S257) a7 ((q_I (S) o 24) - (1 : Int32)).toNatClampNeg) + r256)) a3 ((q_I (S) o 24) - (1 : Int32)).toNatClampNeg (vp_nar .boolean ((0 : Int32)))) o 14 = q_I (S) o 14 := (Eq.trans (q_fwI ro ra3 (by decide)) (Eq.trans (q_fwI ro ra7 (by decide)) (Eq.trans (q_unI h258.1 mo ro (by decide)) (q_unI h248.1 mo ro (by decide)))))
          refine q_ok_at hG t448 rfl (fun a451 ma451 ra451 ea451 => ?_)
          refine q_ok_if (q_inV (g_66_N hG ma451 ra451) ev60 (by omega) (by omega)) ?_
          have hG := u_66_E (k := ((q_I (S) o 24) - (1 : Int32)).toNatClampNeg) (x := q_I (q_sI (q_sI (S257) a7 ((q_I (S) o 24) - (1 : Int32)).toNatClampNeg ((q_I (S257) a7 ((q_I (S) o 24) - (1 : Int32)).toNatClampNeg) + r256)) a3 ((q_I (S) o 24) - (1 : Int32)).toNatClampNeg (vp_nar .boolean ((0 : Int32)))) o 14) hG ma451 ra451 (by decide) (q_wd f449 (by decide) (by decide))
          have n452 : q_N3 (q_sI (q_sI (q_sI (S257) a7 ((q_I (S) o 24) - (1 : Int32)).toNatClampNeg ((q_I (S257) a7 ((q_I (S) o 24) - (1 : Int32)).toNatClampNeg) + r256)) a3 ((q_I (S) o 24) - (1 : Int32)).toNatClampNeg (vp_nar .boolean ((0 : Int32)))) a451 ((q_I (S) o 24) - (1 : Int32)).toNatClampNeg (q_I (q_sI (q_sI (S257) a7 ((q_I (S) o 24) - (1 : Int32)).toNatClampNeg ((q_I (S257) a7 ((q_I (S) o 24) - (1 : Int32)).toNatClampNeg) + r256)) a3 ((q_I (S) o 24) - (1 : Int32)).toNatClampNeg (vp_nar .boolean ((0 : Int32)))) o 14)) o a22 a24 a26 _ _ := q_N3I ro ra451 ra22 ra24 ra26 (by decide) (by decide) (by decide) (by decide) n446
          have n453 : q_ef (S) (q_sI (q_sI (q_sI (S257) a7 ((q_I (S) o 24) - (1 : Int32)).toNatClampNeg ((q_I (S257) a7 ((q_I (S) o 24) - (1 : Int32)).toNatClampNeg) + r256)) a3 ((q_I (S) o 24) - (1 : Int32)).toNatClampNeg (vp_nar .boolean ((0 : Int32)))) a451 ((q_I (S) o 24) - (1 : Int32)).toNatClampNeg (q_I (q_sI (q_sI (S257) a7 ((q_I (S) o 24) - (1 : Int32)).toNatClampNeg ((q_I (S257) a7 ((q_I (S) o 24) - (1 : Int32)).toNatClampNeg) + r256)) a3 ((q_I (S) o 24) - (1 : Int32)).toNatClampNeg (vp_nar .boolean ((0 : Int32)))) o 14)) a7 a3 a13 a15 a17 _ := q_efI ra451 ra7 ra3 ra13 ra15 ra17 (by decide) (by decide) (by decide) (by decide) (by decide) n447
          refine q_ok_let (fun S454 eS454 => ?_)
          rw [← eS454] at hG
          have n455 := q_N3L eS454 n452
          have n456 := q_efL eS454 n453
          have t457 := g_45_R30 hG mo ro
          refine q_ok_at hG t457 rfl (fun a458 ma458 ra458 ea458 => ?_)
          refine q_ok_if (q_inV (g_65_N hG ma458 ra458) ev60 (by omega) (by omega)) ?_
          have f459 : q_sm _ := g_65_E hG ma458 ra458 (k := ((q_I (S) o 24) - (1 : Int32)).toNatClampNeg)
          refine q_ok_b (s_X12_isSign_45 hn hG.1 mo ro) (fun r460 S461 h462 => ?_)
          have hG := q_G_call hG h462.1 (by decide)
          have f463 := h462.2.1
          have n464 := q_N3U h462.1 mo ro ma22 ra22 ma24 ra24 ma26 ra26 rfl rfl rfl rfl rfl rfl n455
          have n465 := q_efU h462.1 ma7 ra7 ma3 ra3 ma13 ra13 ma15 ra15 ma17 ra17 rfl rfl rfl rfl rfl n456
          obtain ⟨v466, ev466⟩ := q_ev ((q_I (S454) a458 ((q_I (S) o 24) - (1 : Int32)).toNatClampNeg).toInt)
          have f467 := q_bV ev466 f459
          have f468 : r460.toInt = 1 → 0 ≤ v466 ∧ v466 ≤ 199 := q_to2 (fun x0 x1 => x0 = 1 → 0 ≤ x1 ∧ x1 ≤ 199) q_evr ev466 ((q_smE (h462.2.2)))
          refine q_ok_ite (fun g469 => ?_) (fun g469 => ?_)
          · have f470 := q_eqV q_evr (show q_eqv ((0 : Int32)).toInt (0) by unfold q_eqv; decide) (q_p_eq g469)
            unfold m_X12_goOn_194
            refine q_ok_atS hG (q_trI mo ro) rfl (fun mo ro => ?_)
            refine q_ok_b (s_X12_tell_45 hn hG.1 mo ro (q_wd (show (4 : Int) ≤ (4 : Int32).toInt ∧ (4 : Int32).toInt ≤ (4 : Int) by decide) (by decide) (by decide)) (q_wd f459 (by decide) (by decide))) (fun r471 S472 h473 => ?_)
            have hG := q_G_call hG h473 (by decide)
            have n474 := q_N3U h473 mo ro ma22 ra22 ma24 ra24 ma26 ra26 rfl rfl rfl rfl rfl rfl n464
            have n475 := q_efU h473 ma7 ra7 ma3 ra3 ma13 ra13 ma15 ra15 ma17 ra17 rfl rfl rfl rfl rfl n465
            unfold m_X12_goOn_218
            have t476 := g_45_R19 hG mo ro
            have e477 : q_R (S472) o 19 = q_R (S) o 19 := (Eq.trans (q_unR h473 mo ro (by decide)) (Eq.trans (q_unR h462.1 mo ro (by decide)) (Eq.trans (q_leR eS454) (Eq.trans q_skRI (Eq.trans q_skRI (Eq.trans q_skRI (Eq.trans (q_unR h258.1 mo ro (by decide)) (q_unR h248.1 mo ro (by decide)))))))))
            have t478 := g_45_R28 hG mo ro
            have e479 : q_R (S472) o 28 = q_R (S) o 28 := (Eq.trans (q_unR h473 mo ro (by decide)) (Eq.trans (q_unR h462.1 mo ro (by decide)) (Eq.trans (q_leR eS454) (Eq.trans q_skRI (Eq.trans q_skRI (Eq.trans q_skRI (Eq.trans (q_unR h258.1 mo ro (by decide)) (q_unR h248.1 mo ro (by decide)))))))))
            have t480 := g_45_R27 hG mo ro
            have e481 : q_R (S472) o 27 = q_R (S) o 27 := (Eq.trans (q_unR h473 mo ro (by decide)) (Eq.trans (q_unR h462.1 mo ro (by decide)) (Eq.trans (q_leR eS454) (Eq.trans q_skRI (Eq.trans q_skRI (Eq.trans q_skRI (Eq.trans (q_unR h258.1 mo ro (by decide)) (q_unR h248.1 mo ro (by decide)))))))))
            have f482 : q_sm _ := g_45_I18 hG mo ro
            have e483 : q_I (S472) o 18 = q_I (S) o 18 := (Eq.trans (q_unI h473 mo ro (by decide)) (Eq.trans (q_unI h462.1 mo ro (by decide)) (Eq.trans (q_leI eS454) (Eq.trans (q_fwI ro ra451 (by decide)) (Eq.trans (q_fwI ro ra3 (by decide)) (Eq.trans (q_fwI ro ra7 (by decide)) (Eq.trans (q_unI h258.1 mo ro (by decide)) (q_unI h248.1 mo ro (by decide)))))))))
            obtain ⟨v484, ev484⟩ := q_ev ((q_I (S472) o 18).toInt)
            have f485 : v484 = v30 := q_eqVI e483 ev484 ev30
            have t486 := g_45_R26 hG mo ro
            have e487 : q_R (S472) o 26 = q_R (S257) o 26 := (Eq.trans (q_unR h473 mo ro (by decide)) (Eq.trans (q_unR h462.1 mo ro (by decide)) (Eq.trans (q_leR eS454) (Eq.trans q_skRI (Eq.trans q_skRI q_skRI)))))
            have t488 := g_45_R29 hG mo ro
            have e489 : q_R (S472) o 29 = q_R (q_sI (S257) a7 ((q_I (S) o 24) - (1 : Int32)).toNatClampNeg ((q_I (S257) a7 ((q_I (S) o 24) - (1 : Int32)).toNatClampNeg) + r256)) o 29 := (Eq.trans (q_unR h473 mo ro (by decide)) (Eq.trans (q_unR h462.1 mo ro (by decide)) (Eq.trans (q_leR eS454) (Eq.trans q_skRI q_skRI))))
            have t490 := g_45_R32 hG mo ro
            have e491 : q_R (S472) o 32 = q_R (q_sI (S257) a7 ((q_I (S) o 24) - (1 : Int32)).toNatClampNeg ((q_I (S257) a7 ((q_I (S) o 24) - (1 : Int32)).toNatClampNeg) + r256)) o 32 := (Eq.trans (q_unR h473 mo ro (by decide)) (Eq.trans (q_unR h462.1 mo ro (by decide)) (Eq.trans (q_leR eS454) (Eq.trans q_skRI q_skRI))))
            have t492 := g_45_R33 hG mo ro
            have e493 : q_R (S472) o 33 = q_R (S257) o 33 := (Eq.trans (q_unR h473 mo ro (by decide)) (Eq.trans (q_unR h462.1 mo ro (by decide)) (Eq.trans (q_leR eS454) (Eq.trans q_skRI (Eq.trans q_skRI q_skRI)))))
            have t494 := g_45_R34 hG mo ro
            have e495 : q_R (S472) o 34 = q_R (S257) o 34 := (Eq.trans (q_unR h473 mo ro (by decide)) (Eq.trans (q_unR h462.1 mo ro (by decide)) (Eq.trans (q_leR eS454) (Eq.trans q_skRI (Eq.trans q_skRI q_skRI)))))
            have f496 : q_sm _ := g_45_I24 hG mo ro
            have e497 : q_I (S472) o 24 = q_I (S) o 24 := (Eq.trans (q_unI h473 mo ro (by decide)) (Eq.trans (q_unI h462.1 mo ro (by decide)) (Eq.trans (q_leI eS454) (Eq.trans (q_fwI ro ra451 (by decide)) (Eq.trans (q_fwI ro ra3 (by decide)) (Eq.trans (q_fwI ro ra7 (by decide)) (Eq.trans (q_unI h258.1 mo ro (by decide)) (q_unI h248.1 mo ro (by decide)))))))))
            have t498 := g_45_R32 hG mo ro
            have f499 : q_sm _ := g_67_E hG ma13 ra13 (k := ((q_I (S) o 24) - (1 : Int32)).toNatClampNeg)
            have e500 : q_I (S472) a13 ((q_I (S) o 24) - (1 : Int32)).toNatClampNeg = q_I (q_sI (S257) a7 ((q_I (S) o 24) - (1 : Int32)).toNatClampNeg ((q_I (S257) a7 ((q_I (S) o 24) - (1 : Int32)).toNatClampNeg) + r256)) a13 ((q_I (S) o 24) - (1 : Int32)).toNatClampNeg := (Eq.trans (q_unIA h473 ma13 ra13 (by decide) (by decide)) (Eq.trans (q_unIA h462.1 ma13 ra13 (by decide) (by decide)) (Eq.trans (q_leI eS454) (Eq.trans (q_fwI ra13 ra451 (by decide)) (q_fwI ra13 ra3 (by decide))))))
            have e501 : q_fE (S472) o 32 (((q_I (S) o 24) - (1 : Int32) : Int32)).toNatClampNeg = q_I (S472) a13 ((q_I (S) o 24) - (1 : Int32)).toNatClampNeg := q_fEe (Eq.trans e491 (Eq.trans e437 (Eq.trans e274 ea13)))
            have e502 : (q_fE (S472) o 32 (((q_I (S) o 24) - (1 : Int32) : Int32)).toNatClampNeg) &&& (2 : Int32) = (q_I (S257) a13 ((q_I (S) o 24) - (1 : Int32)).toNatClampNeg) &&& (2 : Int32) := congrArg (fun z : Int32 => z &&& (2 : Int32)) (Eq.trans e501 (Eq.trans e500 e439))
            have t503 := g_45_R33 hG mo ro
            have f504 : q_sm _ := g_68_E hG ma15 ra15 (k := ((q_I (S) o 24) - (1 : Int32)).toNatClampNeg)
            have e505 : q_I (S472) a15 ((q_I (S) o 24) - (1 : Int32)).toNatClampNeg = q_I (S257) a15 ((q_I (S) o 24) - (1 : Int32)).toNatClampNeg := (Eq.trans (q_unIA h473 ma15 ra15 (by decide) (by decide)) (Eq.trans (q_unIA h462.1 ma15 ra15 (by decide) (by decide)) (Eq.trans (q_leI eS454) (Eq.trans (q_fwI ra15 ra451 (by decide)) (Eq.trans (q_fwI ra15 ra3 (by decide)) (q_fwI ra15 ra7 (by decide)))))))
            have e506 : q_fE (S472) o 33 (((q_I (S) o 24) - (1 : Int32) : Int32)).toNatClampNeg = q_I (S472) a15 ((q_I (S) o 24) - (1 : Int32)).toNatClampNeg := q_fEe (Eq.trans e493 (Eq.trans e279 ea15))
            have t507 := g_45_R34 hG mo ro
            have f508 : q_sm _ := g_69_E hG ma17 ra17 (k := ((q_I (S) o 24) - (1 : Int32)).toNatClampNeg)
            have e509 : q_I (S472) a17 ((q_I (S) o 24) - (1 : Int32)).toNatClampNeg = q_I (S257) a17 ((q_I (S) o 24) - (1 : Int32)).toNatClampNeg := (Eq.trans (q_unIA h473 ma17 ra17 (by decide) (by decide)) (Eq.trans (q_unIA h462.1 ma17 ra17 (by decide) (by decide)) (Eq.trans (q_leI eS454) (Eq.trans (q_fwI ra17 ra451 (by decide)) (Eq.trans (q_fwI ra17 ra3 (by decide)) (q_fwI ra17 ra7 (by decide)))))))
            have e510 : q_fE (S472) o 34 (((q_I (S) o 24) - (1 : Int32) : Int32)).toNatClampNeg = q_I (S472) a17 ((q_I (S) o 24) - (1 : Int32)).toNatClampNeg := q_fEe (Eq.trans e495 (Eq.trans e283 ea17))
            obtain ⟨v511, ev511⟩ := q_ev ((q_I (S472) o 24).toInt)
            have f512 : v511 = v19 := q_eqVI e497 ev511 ev19
            obtain ⟨v513, ev513⟩ := q_ev (((q_fE (S472) o 32 (((q_I (S) o 24) - (1 : Int32) : Int32)).toNatClampNeg) &&& (2 : Int32)).toInt)
            have f514 : v513 = v287 := q_eqVI e502 ev513 ev287
            obtain ⟨v515, ev515⟩ := q_ev ((q_fE (S472) o 33 (((q_I (S) o 24) - (1 : Int32) : Int32)).toNatClampNeg).toInt)
            obtain ⟨v516, ev516⟩ := q_ev ((q_I (S472) a15 ((q_I (S) o 24) - (1 : Int32)).toNatClampNeg).toInt)
            have f517 : v516 = v291 := q_eqVI e505 ev516 ev291
            have f518 : v515 = v516 := q_eqVI e506 ev515 ev516
            obtain ⟨v519, ev519⟩ := q_ev ((q_fE (S472) o 34 (((q_I (S) o 24) - (1 : Int32) : Int32)).toNatClampNeg).toInt)
            obtain ⟨v520, ev520⟩ := q_ev ((q_I (S472) a17 ((q_I (S) o 24) - (1 : Int32)).toNatClampNeg).toInt)
            have f521 : v520 = v295 := q_eqVI e509 ev520 ev295
            have f522 : v519 = v520 := q_eqVI e510 ev519 ev520
            have t523 := g_45_R29 hG mo ro
            have f524 : q_sm _ := g_64_E hG ma3 ra3 (k := ((q_I (S) o 24) - (1 : Int32)).toNatClampNeg)
            have e525 : q_I (S472) a3 ((q_I (S) o 24) - (1 : Int32)).toNatClampNeg = vp_nar .boolean ((0 : Int32)) := (Eq.trans (q_unIA h473 ma3 ra3 (by decide) (by decide)) (Eq.trans (q_unIA h462.1 ma3 ra3 (by decide) (by decide)) (Eq.trans (q_leI eS454) (Eq.trans (q_fwI ra3 ra451 (by decide)) q_hitI))))
            have e526 : q_fE (S472) o 29 (((q_I (S) o 24) - (1 : Int32) : Int32)).toNatClampNeg = q_I (S472) a3 ((q_I (S) o 24) - (1 : Int32)).toNatClampNeg := q_fEe (Eq.trans e489 (Eq.trans e435 (Eq.trans e302 ea3)))
            have t527 := g_45_R26 hG mo ro
            have f528 : q_sm _ := g_61_E hG ma7 ra7 (k := ((q_I (S) o 24) - (1 : Int32)).toNatClampNeg)
            have e529 : q_I (S472) a7 ((q_I (S) o 24) - (1 : Int32)).toNatClampNeg = (q_I (S257) a7 ((q_I (S) o 24) - (1 : Int32)).toNatClampNeg) + r256 := (Eq.trans (q_unIA h473 ma7 ra7 (by decide) (by decide)) (Eq.trans (q_unIA h462.1 ma7 ra7 (by decide) (by decide)) (Eq.trans (q_leI eS454) (Eq.trans (q_fwI ra7 ra451 (by decide)) (Eq.trans (q_fwI ra7 ra3 (by decide)) q_hitI)))))
            have e530 : q_fE (S472) o 26 (((q_I (S) o 24) - (1 : Int32) : Int32)).toNatClampNeg = q_I (S472) a7 ((q_I (S) o 24) - (1 : Int32)).toNatClampNeg := q_fEe (Eq.trans e487 (Eq.trans e300 (Eq.trans e253 ea7)))
            obtain ⟨v531, ev531⟩ := q_ev ((q_fE (S) o 29 (((q_I (S) o 24) - (1 : Int32) : Int32)).toNatClampNeg).toInt)
            have f532 : v531 = v62 := q_eqVI e5 ev531 ev62
            obtain ⟨v533, ev533⟩ := q_ev ((q_fE (S472) o 29 (((q_I (S) o 24) - (1 : Int32) : Int32)).toNatClampNeg).toInt)
            obtain ⟨v534, ev534⟩ := q_ev ((q_I (S472) a3 ((q_I (S) o 24) - (1 : Int32)).toNatClampNeg).toInt)
            have f535 : v534 = v444 := q_eqVI e525 ev534 ev444
            have f536 : v533 = v534 := q_eqVI e526 ev533 ev534
            obtain ⟨v537, ev537⟩ := q_ev ((q_fE (S) o 26 (((q_I (S) o 24) - (1 : Int32) : Int32)).toNatClampNeg).toInt)
            have f538 : v537 = v269 := q_eqVI e9 ev537 ev269
            obtain ⟨v539, ev539⟩ := q_ev ((q_fE (S472) o 26 (((q_I (S) o 24) - (1 : Int32) : Int32)).toNatClampNeg).toInt)
            obtain ⟨v540, ev540⟩ := q_ev ((q_I (S472) a7 ((q_I (S) o 24) - (1 : Int32)).toNatClampNeg).toInt)
            have f541 : v540 = v428 := q_eqVI e529 ev540 ev428
            have f542 : v539 = v540 := q_eqVI e530 ev539 ev540
            exact q_ok_some ⟨hG, (q_smI ⟨(q_N3xI (Eq.trans e477 ea22) (Eq.trans e479 ea24) (Eq.trans e481 ea26) (q_N3c n474 (q_bw2 (fun x0 x1 => x0 = x1) ev484 ev30 (by omega)) rfl)), (q_efxI (Eq.trans e487 (Eq.trans e300 (Eq.trans e253 ea7))) (Eq.trans e489 (Eq.trans e435 (Eq.trans e302 ea3))) (Eq.trans e491 (Eq.trans e437 (Eq.trans e274 ea13))) (Eq.trans e493 (Eq.trans e279 ea15)) (Eq.trans e495 (Eq.trans e283 ea17)) n475), (q_bw5 (fun x0 x1 x2 x3 x4 => x0 < x1 ∨ (x2 = 0 → 0 ≤ x3 ∧ 0 ≤ x4)) ev511 ev19 ev513 ev515 ev519 (by omega)), (q_bw6 (fun x0 x1 x2 x3 x4 x5 => x0 = x1 - 1 ∨ (x2 = 1 ∧ x0 = x1 ∧ x3 = 0) ∨ (x2 = 1 ∧ x4 + 6 ≤ x5 ∧ (x0 = x1 ∨ x0 = x1 + 1))) ev511 ev19 ev531 ev533 ev537 ev539 (by omega))⟩)⟩
          · have f543 := q_neV q_evr (show q_eqv ((0 : Int32)).toInt (0) by unfold q_eqv; decide) (q_n_eq g469)
            refine q_ok_atS hG (q_trI mo ro) rfl (fun mo ro => ?_)
            refine q_ok_b (s_X12_isOpen_45 hn hG.1 mo ro (q_wd f459 (by decide) (by decide))) (fun r544 S545 h546 => ?_)
            obtain ⟨eS545, h546⟩ := h546
            replace eS545 := eS545.symm
            subst eS545
            have f547 := h546
            refine q_ok_ite (fun g548 => ?_) (fun g548 => ?_)
            · have f549 := q_eqV q_evr (show q_eqv ((0 : Int32)).toInt (0) by unfold q_eqv; decide) (q_p_eq g548)
              refine q_ok_atS hG (q_trI mo ro) rfl (fun mo ro => ?_)
              have f550 : q_sm _ := g_45_I24 hG mo ro
              have e551 : q_I (S461) o 24 = q_I (S) o 24 := (Eq.trans (q_unI h462.1 mo ro (by decide)) (Eq.trans (q_leI eS454) (Eq.trans (q_fwI ro ra451 (by decide)) (Eq.trans (q_fwI ro ra3 (by decide)) (Eq.trans (q_fwI ro ra7 (by decide)) (Eq.trans (q_unI h258.1 mo ro (by decide)) (q_unI h248.1 mo ro (by decide))))))))
              obtain ⟨v552, ev552⟩ := q_ev ((q_I (S461) o 24).toInt)
              have f553 : v552 = v19 := q_eqVI e551 ev552 ev19
              refine q_ok_ite (fun g554 => ?_) (fun g554 => ?_)
              · have f555 := q_leV ev552 (show q_eqv ((5 : Int32)).toInt (5) by unfold q_eqv; decide) (q_p_le g554)
                have t559 := g_45_R26 hG mo ro
                have e560 : q_R (S461) o 26 = q_R (S257) o 26 := (Eq.trans (q_unR h462.1 mo ro (by decide)) (Eq.trans (q_leR eS454) (Eq.trans q_skRI (Eq.trans q_skRI q_skRI))))
                have f561 : q_sm _ := g_61_E hG ma7 ra7 (k := ((q_I (S) o 24) - (1 : Int32)).toNatClampNeg)
                have e562 : q_I (S461) a7 ((q_I (S) o 24) - (1 : Int32)).toNatClampNeg = (q_I (S257) a7 ((q_I (S) o 24) - (1 : Int32)).toNatClampNeg) + r256 := (Eq.trans (q_unIA h462.1 ma7 ra7 (by decide) (by decide)) (Eq.trans (q_leI eS454) (Eq.trans (q_fwI ra7 ra451 (by decide)) (Eq.trans (q_fwI ra7 ra3 (by decide)) q_hitI))))
                have t563 := g_45_R29 hG mo ro
                have e564 : q_R (S461) o 29 = q_R (q_sI (S257) a7 ((q_I (S) o 24) - (1 : Int32)).toNatClampNeg ((q_I (S257) a7 ((q_I (S) o 24) - (1 : Int32)).toNatClampNeg) + r256)) o 29 := (Eq.trans (q_unR h462.1 mo ro (by decide)) (Eq.trans (q_leR eS454) (Eq.trans q_skRI q_skRI)))
                have f565 : q_sm _ := g_64_E hG ma3 ra3 (k := ((q_I (S) o 24) - (1 : Int32)).toNatClampNeg)
                have e566 : q_I (S461) a3 ((q_I (S) o 24) - (1 : Int32)).toNatClampNeg = vp_nar .boolean ((0 : Int32)) := (Eq.trans (q_unIA h462.1 ma3 ra3 (by decide) (by decide)) (Eq.trans (q_leI eS454) (Eq.trans (q_fwI ra3 ra451 (by decide)) q_hitI)))
                have t567 := g_45_R19 hG mo ro
                have e568 : q_R (S461) o 19 = q_R (S) o 19 := (Eq.trans (q_unR h462.1 mo ro (by decide)) (Eq.trans (q_leR eS454) (Eq.trans q_skRI (Eq.trans q_skRI (Eq.trans q_skRI (Eq.trans (q_unR h258.1 mo ro (by decide)) (q_unR h248.1 mo ro (by decide))))))))
                have t569 := g_45_R28 hG mo ro
                have e570 : q_R (S461) o 28 = q_R (S) o 28 := (Eq.trans (q_unR h462.1 mo ro (by decide)) (Eq.trans (q_leR eS454) (Eq.trans q_skRI (Eq.trans q_skRI (Eq.trans q_skRI (Eq.trans (q_unR h258.1 mo ro (by decide)) (q_unR h248.1 mo ro (by decide))))))))
                have t571 := g_45_R27 hG mo ro
                have e572 : q_R (S461) o 27 = q_R (S) o 27 := (Eq.trans (q_unR h462.1 mo ro (by decide)) (Eq.trans (q_leR eS454) (Eq.trans q_skRI (Eq.trans q_skRI (Eq.trans q_skRI (Eq.trans (q_unR h258.1 mo ro (by decide)) (q_unR h248.1 mo ro (by decide))))))))
                have f573 : q_sm _ := g_45_I18 hG mo ro
                have e574 : q_I (S461) o 18 = q_I (S) o 18 := (Eq.trans (q_unI h462.1 mo ro (by decide)) (Eq.trans (q_leI eS454) (Eq.trans (q_fwI ro ra451 (by decide)) (Eq.trans (q_fwI ro ra3 (by decide)) (Eq.trans (q_fwI ro ra7 (by decide)) (Eq.trans (q_unI h258.1 mo ro (by decide)) (q_unI h248.1 mo ro (by decide))))))))
                obtain ⟨v575, ev575⟩ := q_ev ((q_I (S461) o 18).toInt)
                have f576 : v575 = v30 := q_eqVI e574 ev575 ev30
                refine q_ok_b (s_X12_enter_45 hn hG.1 mo ro (q_oV ev466 (by omega) (by omega)) (q_N3xI (Eq.trans e568 ea22) (Eq.trans e570 ea24) (Eq.trans e572 ea26) (q_N3c n464 (q_bw2 (fun x0 x1 => x0 = x1) ev575 ev30 (by omega)) rfl)) (q_bw1 (fun x0 => x0 ≤ 5) ev552 (by omega))) (fun r556 S557 h558 => ?_)
                have hG := q_G_call hG h558.1 (by decide)
                have f577 := h558.2.1
                have t578 := g_45_R19 hG mo ro
                have e579 : q_R (S557) o 19 = q_R (S461) o 19 := (q_unR h558.1 mo ro (by decide))
                have t580 := g_45_R28 hG mo ro
                have e581 : q_R (S557) o 28 = q_R (S461) o 28 := (q_unR h558.1 mo ro (by decide))
                have t582 := g_45_R27 hG mo ro
                have e583 : q_R (S557) o 27 = q_R (S461) o 27 := (q_unR h558.1 mo ro (by decide))
                have n584 := ((q_smE (h558.2.2)).1) _ _ _ (Eq.trans e579 (Eq.trans e568 ea22)) (Eq.trans e581 (Eq.trans e570 ea24)) (Eq.trans e583 (Eq.trans e572 ea26))
                have f585 : q_sm _ := g_45_I18 hG mo ro
                have f586 : q_sm _ := g_45_I14 hG mo ro
                obtain ⟨v587, ev587⟩ := q_ev ((q_I (S557) o 18).toInt)
                have f588 := q_bV ev587 f585
                obtain ⟨v589, ev589⟩ := q_ev ((q_I (S557) o 14).toInt)
                have f590 := q_bV ev589 f586
                have f591 : 0 ≤ v587 ∧ v587 ≤ v587 ∧ v587 ≤ v587 + 0 ∧ v587 ≤ v589 := q_to3 (fun x0 x1 x2 => 0 ≤ x0 ∧ x0 ≤ x1 ∧ x1 ≤ x0 + 0 ∧ x0 ≤ x2) ev587 ev587 ev589 (q_N3lin n584)
                have f592 : q_sm _ := g_45_I24 hG mo ro
                obtain ⟨v593, ev593⟩ := q_ev ((q_I (S557) o 24).toInt)
                have f594 := q_bV ev593 f592
                have f595 : r556.toInt = 0 → v593 = v552 := q_to3 (fun x0 x1 x2 => x0 = 0 → x1 = x2) q_evr ev593 ev552 ((q_smE (h558.2.2)).2.1)
                have f596 : r556.toInt = 1 → v593 = v552 + 1 := q_to3 (fun x0 x1 x2 => x0 = 1 → x1 = x2 + 1) q_evr ev593 ev552 ((q_smE (h558.2.2)).2.2.1)
                have t597 := g_45_R26 hG mo ro
                have e598 : q_R (S557) o 26 = q_R (S461) o 26 := (q_unR h558.1 mo ro (by decide))
                have t599 := g_45_R29 hG mo ro
                have e600 : q_R (S557) o 29 = q_R (S461) o 29 := (q_unR h558.1 mo ro (by decide))
                have t601 := g_45_R32 hG mo ro
                have e602 : q_R (S557) o 32 = q_R (q_sI (S257) a7 ((q_I (S) o 24) - (1 : Int32)).toNatClampNeg ((q_I (S257) a7 ((q_I (S) o 24) - (1 : Int32)).toNatClampNeg) + r256)) o 32 := (Eq.trans (q_unR h558.1 mo ro (by decide)) (Eq.trans (q_unR h462.1 mo ro (by decide)) (Eq.trans (q_leR eS454) (Eq.trans q_skRI q_skRI))))
                have t603 := g_45_R33 hG mo ro
                have e604 : q_R (S557) o 33 = q_R (S257) o 33 := (Eq.trans (q_unR h558.1 mo ro (by decide)) (Eq.trans (q_unR h462.1 mo ro (by decide)) (Eq.trans (q_leR eS454) (Eq.trans q_skRI (Eq.trans q_skRI q_skRI)))))
                have t605 := g_45_R34 hG mo ro
                have e606 : q_R (S557) o 34 = q_R (S257) o 34 := (Eq.trans (q_unR h558.1 mo ro (by decide)) (Eq.trans (q_unR h462.1 mo ro (by decide)) (Eq.trans (q_leR eS454) (Eq.trans q_skRI (Eq.trans q_skRI q_skRI)))))
                have n607 := ((q_smE (h558.2.2)).2.2.2) _ _ _ _ _ (Eq.trans e598 (Eq.trans e560 (Eq.trans e300 (Eq.trans e253 ea7)))) (Eq.trans e600 (Eq.trans e564 (Eq.trans e435 (Eq.trans e302 ea3)))) (Eq.trans e602 (Eq.trans e437 (Eq.trans e274 ea13))) (Eq.trans e604 (Eq.trans e279 ea15)) (Eq.trans e606 (Eq.trans e283 ea17))
                have e608 : q_I (S557) a7 ((q_I (S) o 24) - (1 : Int32)).toNatClampNeg = q_I (S461) a7 ((q_I (S) o 24) - (1 : Int32)).toNatClampNeg := (n607 _ (q_clI (q_bw1 (fun x0 => 0 ≤ x0) ev60 (by omega)) (q_bw2 (fun x0 x1 => x0 < x1) ev60 ev552 (by omega)))).1
                have e609 : q_I (S557) a3 ((q_I (S) o 24) - (1 : Int32)).toNatClampNeg = q_I (S461) a3 ((q_I (S) o 24) - (1 : Int32)).toNatClampNeg := (n607 _ (q_clI (q_bw1 (fun x0 => 0 ≤ x0) ev60 (by omega)) (q_bw2 (fun x0 x1 => x0 < x1) ev60 ev552 (by omega)))).2.1
                have n610 := q_efT n465 n607 (q_bw2 (fun x0 x1 => x0 - 1 ≤ x1) ev19 ev552 (by omega))
                refine q_ok_ite (fun g611 => ?_) (fun g611 => ?_)
                · have f612 := q_eqV q_evr (show q_eqv ((0 : Int32)).toInt (0) by unfold q_eqv; decide) (q_p_eq g611)
                  refine q_ok_atS hG (q_trI mo ro) rfl (fun mo ro => ?_)
                  have t616 := g_45_R32 hG mo ro
                  have f617 : q_sm _ := g_67_E hG ma13 ra13 (k := ((q_I (S) o 24) - (1 : Int32)).toNatClampNeg)
                  have e618 : q_I (S557) a13 ((q_I (S) o 24) - (1 : Int32)).toNatClampNeg = q_I (q_sI (S257) a7 ((q_I (S) o 24) - (1 : Int32)).toNatClampNeg ((q_I (S257) a7 ((q_I (S) o 24) - (1 : Int32)).toNatClampNeg) + r256)) a13 ((q_I (S) o 24) - (1 : Int32)).toNatClampNeg := (Eq.trans (q_unIA h558.1 ma13 ra13 (by decide) (by decide)) (Eq.trans (q_unIA h462.1 ma13 ra13 (by decide) (by decide)) (Eq.trans (q_leI eS454) (Eq.trans (q_fwI ra13 ra451 (by decide)) (q_fwI ra13 ra3 (by decide))))))
                  have e619 : q_fE (S557) o 32 (((q_I (S) o 24) - (1 : Int32) : Int32)).toNatClampNeg = q_I (S557) a13 ((q_I (S) o 24) - (1 : Int32)).toNatClampNeg := q_fEe (Eq.trans e602 (Eq.trans e437 (Eq.trans e274 ea13)))
                  have e620 : (q_fE (S557) o 32 (((q_I (S) o 24) - (1 : Int32) : Int32)).toNatClampNeg) &&& (2 : Int32) = (q_I (S257) a13 ((q_I (S) o 24) - (1 : Int32)).toNatClampNeg) &&& (2 : Int32) := congrArg (fun z : Int32 => z &&& (2 : Int32)) (Eq.trans e619 (Eq.trans e618 e439))
                  have t621 := g_45_R33 hG mo ro
                  have f622 : q_sm _ := g_68_E hG ma15 ra15 (k := ((q_I (S) o 24) - (1 : Int32)).toNatClampNeg)
                  have e623 : q_I (S557) a15 ((q_I (S) o 24) - (1 : Int32)).toNatClampNeg = q_I (S257) a15 ((q_I (S) o 24) - (1 : Int32)).toNatClampNeg := (Eq.trans (q_unIA h558.1 ma15 ra15 (by decide) (by decide)) (Eq.trans (q_unIA h462.1 ma15 ra15 (by decide) (by decide)) (Eq.trans (q_leI eS454) (Eq.trans (q_fwI ra15 ra451 (by decide)) (Eq.trans (q_fwI ra15 ra3 (by decide)) (q_fwI ra15 ra7 (by decide)))))))
                  have e624 : q_fE (S557) o 33 (((q_I (S) o 24) - (1 : Int32) : Int32)).toNatClampNeg = q_I (S557) a15 ((q_I (S) o 24) - (1 : Int32)).toNatClampNeg := q_fEe (Eq.trans e604 (Eq.trans e279 ea15))
                  have t625 := g_45_R34 hG mo ro
                  have f626 : q_sm _ := g_69_E hG ma17 ra17 (k := ((q_I (S) o 24) - (1 : Int32)).toNatClampNeg)
                  have e627 : q_I (S557) a17 ((q_I (S) o 24) - (1 : Int32)).toNatClampNeg = q_I (S257) a17 ((q_I (S) o 24) - (1 : Int32)).toNatClampNeg := (Eq.trans (q_unIA h558.1 ma17 ra17 (by decide) (by decide)) (Eq.trans (q_unIA h462.1 ma17 ra17 (by decide) (by decide)) (Eq.trans (q_leI eS454) (Eq.trans (q_fwI ra17 ra451 (by decide)) (Eq.trans (q_fwI ra17 ra3 (by decide)) (q_fwI ra17 ra7 (by decide)))))))
                  have e628 : q_fE (S557) o 34 (((q_I (S) o 24) - (1 : Int32) : Int32)).toNatClampNeg = q_I (S557) a17 ((q_I (S) o 24) - (1 : Int32)).toNatClampNeg := q_fEe (Eq.trans e606 (Eq.trans e283 ea17))
                  obtain ⟨v629, ev629⟩ := q_ev (((q_fE (S557) o 32 (((q_I (S) o 24) - (1 : Int32) : Int32)).toNatClampNeg) &&& (2 : Int32)).toInt)
                  have f630 : v629 = v287 := q_eqVI e620 ev629 ev287
                  obtain ⟨v631, ev631⟩ := q_ev ((q_fE (S557) o 33 (((q_I (S) o 24) - (1 : Int32) : Int32)).toNatClampNeg).toInt)
                  obtain ⟨v632, ev632⟩ := q_ev ((q_I (S557) a15 ((q_I (S) o 24) - (1 : Int32)).toNatClampNeg).toInt)
                  have f633 : v632 = v291 := q_eqVI e623 ev632 ev291
                  have f634 : v631 = v632 := q_eqVI e624 ev631 ev632
                  obtain ⟨v635, ev635⟩ := q_ev ((q_fE (S557) o 34 (((q_I (S) o 24) - (1 : Int32) : Int32)).toNatClampNeg).toInt)
                  obtain ⟨v636, ev636⟩ := q_ev ((q_I (S557) a17 ((q_I (S) o 24) - (1 : Int32)).toNatClampNeg).toInt)
                  have f637 : v636 = v295 := q_eqVI e627 ev636 ev295
                  have f638 : v635 = v636 := q_eqVI e628 ev635 ev636
                  refine q_ok_b (s_X12_place_45 hn hG.1 mo ro (q_oV ev60 (by omega) (by omega)) (q_bw3 (fun x0 x1 x2 => x0 = 0 → 0 ≤ x1 ∧ 0 ≤ x2) ev629 ev631 ev635 (by omega))) (fun r613 S614 h615 => ?_)
                  have hG := q_G_call hG h615 (by decide)
                  have n639 := q_N3U h615 mo ro ma22 ra22 ma24 ra24 ma26 ra26 rfl rfl rfl rfl rfl rfl n584
                  have n640 := q_efU h615 ma7 ra7 ma3 ra3 ma13 ra13 ma15 ra15 ma17 ra17 rfl rfl rfl rfl rfl n610
                  unfold m_X12_goOn_218
                  have t641 := g_45_R19 hG mo ro
                  have e642 : q_R (S614) o 19 = q_R (S557) o 19 := (q_unR h615 mo ro (by decide))
                  have t643 := g_45_R28 hG mo ro
                  have e644 : q_R (S614) o 28 = q_R (S557) o 28 := (q_unR h615 mo ro (by decide))
                  have t645 := g_45_R27 hG mo ro
                  have e646 : q_R (S614) o 27 = q_R (S557) o 27 := (q_unR h615 mo ro (by decide))
                  have f647 : q_sm _ := g_45_I18 hG mo ro
                  have e648 : q_I (S614) o 18 = q_I (S557) o 18 := (q_unI h615 mo ro (by decide))
                  obtain ⟨v649, ev649⟩ := q_ev ((q_I (S614) o 18).toInt)
                  have f650 : v649 = v587 := q_eqVI e648 ev649 ev587
                  have t651 := g_45_R26 hG mo ro
                  have e652 : q_R (S614) o 26 = q_R (S557) o 26 := (q_unR h615 mo ro (by decide))
                  have t653 := g_45_R29 hG mo ro
                  have e654 : q_R (S614) o 29 = q_R (S557) o 29 := (q_unR h615 mo ro (by decide))
                  have t655 := g_45_R32 hG mo ro
                  have e656 : q_R (S614) o 32 = q_R (S557) o 32 := (q_unR h615 mo ro (by decide))
                  have t657 := g_45_R33 hG mo ro
                  have e658 : q_R (S614) o 33 = q_R (S557) o 33 := (q_unR h615 mo ro (by decide))
                  have t659 := g_45_R34 hG mo ro
                  have e660 : q_R (S614) o 34 = q_R (S557) o 34 := (q_unR h615 mo ro (by decide))
                  have f661 : q_sm _ := g_45_I24 hG mo ro
                  have e662 : q_I (S614) o 24 = q_I (S557) o 24 := (q_unI h615 mo ro (by decide))
                  have t663 := g_45_R32 hG mo ro
                  have f664 : q_sm _ := g_67_E hG ma13 ra13 (k := ((q_I (S) o 24) - (1 : Int32)).toNatClampNeg)
                  have e665 : q_I (S614) a13 ((q_I (S) o 24) - (1 : Int32)).toNatClampNeg = q_I (S557) a13 ((q_I (S) o 24) - (1 : Int32)).toNatClampNeg := (q_unIA h615 ma13 ra13 (by decide) (by decide))
                  have e666 : q_fE (S614) o 32 (((q_I (S) o 24) - (1 : Int32) : Int32)).toNatClampNeg = q_I (S614) a13 ((q_I (S) o 24) - (1 : Int32)).toNatClampNeg := q_fEe (Eq.trans e656 (Eq.trans e602 (Eq.trans e437 (Eq.trans e274 ea13))))
                  have e667 : (q_fE (S614) o 32 (((q_I (S) o 24) - (1 : Int32) : Int32)).toNatClampNeg) &&& (2 : Int32) = (q_I (S257) a13 ((q_I (S) o 24) - (1 : Int32)).toNatClampNeg) &&& (2 : Int32) := congrArg (fun z : Int32 => z &&& (2 : Int32)) (Eq.trans e666 (Eq.trans e665 (Eq.trans e618 e439)))
                  have t668 := g_45_R33 hG mo ro
                  have f669 : q_sm _ := g_68_E hG ma15 ra15 (k := ((q_I (S) o 24) - (1 : Int32)).toNatClampNeg)
                  have e670 : q_I (S614) a15 ((q_I (S) o 24) - (1 : Int32)).toNatClampNeg = q_I (S557) a15 ((q_I (S) o 24) - (1 : Int32)).toNatClampNeg := (q_unIA h615 ma15 ra15 (by decide) (by decide))
                  have e671 : q_fE (S614) o 33 (((q_I (S) o 24) - (1 : Int32) : Int32)).toNatClampNeg = q_I (S614) a15 ((q_I (S) o 24) - (1 : Int32)).toNatClampNeg := q_fEe (Eq.trans e658 (Eq.trans e604 (Eq.trans e279 ea15)))
                  have t672 := g_45_R34 hG mo ro
                  have f673 : q_sm _ := g_69_E hG ma17 ra17 (k := ((q_I (S) o 24) - (1 : Int32)).toNatClampNeg)
                  have e674 : q_I (S614) a17 ((q_I (S) o 24) - (1 : Int32)).toNatClampNeg = q_I (S557) a17 ((q_I (S) o 24) - (1 : Int32)).toNatClampNeg := (q_unIA h615 ma17 ra17 (by decide) (by decide))
                  have e675 : q_fE (S614) o 34 (((q_I (S) o 24) - (1 : Int32) : Int32)).toNatClampNeg = q_I (S614) a17 ((q_I (S) o 24) - (1 : Int32)).toNatClampNeg := q_fEe (Eq.trans e660 (Eq.trans e606 (Eq.trans e283 ea17)))
                  obtain ⟨v676, ev676⟩ := q_ev ((q_I (S614) o 24).toInt)
                  have f677 : v676 = v593 := q_eqVI e662 ev676 ev593
                  obtain ⟨v678, ev678⟩ := q_ev (((q_fE (S614) o 32 (((q_I (S) o 24) - (1 : Int32) : Int32)).toNatClampNeg) &&& (2 : Int32)).toInt)
                  have f679 : v678 = v287 := q_eqVI e667 ev678 ev287
                  obtain ⟨v680, ev680⟩ := q_ev ((q_fE (S614) o 33 (((q_I (S) o 24) - (1 : Int32) : Int32)).toNatClampNeg).toInt)
                  obtain ⟨v681, ev681⟩ := q_ev ((q_I (S614) a15 ((q_I (S) o 24) - (1 : Int32)).toNatClampNeg).toInt)
                  have f682 : v681 = v632 := q_eqVI e670 ev681 ev632
                  have f683 : v680 = v681 := q_eqVI e671 ev680 ev681
                  obtain ⟨v684, ev684⟩ := q_ev ((q_fE (S614) o 34 (((q_I (S) o 24) - (1 : Int32) : Int32)).toNatClampNeg).toInt)
                  obtain ⟨v685, ev685⟩ := q_ev ((q_I (S614) a17 ((q_I (S) o 24) - (1 : Int32)).toNatClampNeg).toInt)
                  have f686 : v685 = v636 := q_eqVI e674 ev685 ev636
                  have f687 : v684 = v685 := q_eqVI e675 ev684 ev685
                  have t688 := g_45_R29 hG mo ro
                  have f689 : q_sm _ := g_64_E hG ma3 ra3 (k := ((q_I (S) o 24) - (1 : Int32)).toNatClampNeg)
                  have e690 : q_I (S614) a3 ((q_I (S) o 24) - (1 : Int32)).toNatClampNeg = q_I (S557) a3 ((q_I (S) o 24) - (1 : Int32)).toNatClampNeg := (q_unIA h615 ma3 ra3 (by decide) (by decide))
                  have e691 : q_fE (S614) o 29 (((q_I (S) o 24) - (1 : Int32) : Int32)).toNatClampNeg = q_I (S614) a3 ((q_I (S) o 24) - (1 : Int32)).toNatClampNeg := q_fEe (Eq.trans e654 (Eq.trans e600 (Eq.trans e564 (Eq.trans e435 (Eq.trans e302 ea3)))))
                  have t692 := g_45_R26 hG mo ro
                  have f693 : q_sm _ := g_61_E hG ma7 ra7 (k := ((q_I (S) o 24) - (1 : Int32)).toNatClampNeg)
                  have e694 : q_I (S614) a7 ((q_I (S) o 24) - (1 : Int32)).toNatClampNeg = q_I (S557) a7 ((q_I (S) o 24) - (1 : Int32)).toNatClampNeg := (q_unIA h615 ma7 ra7 (by decide) (by decide))
                  have e695 : q_fE (S614) o 26 (((q_I (S) o 24) - (1 : Int32) : Int32)).toNatClampNeg = q_I (S614) a7 ((q_I (S) o 24) - (1 : Int32)).toNatClampNeg := q_fEe (Eq.trans e652 (Eq.trans e598 (Eq.trans e560 (Eq.trans e300 (Eq.trans e253 ea7)))))
                  obtain ⟨v696, ev696⟩ := q_ev ((q_fE (S) o 29 (((q_I (S) o 24) - (1 : Int32) : Int32)).toNatClampNeg).toInt)
                  have f697 : v696 = v62 := q_eqVI e5 ev696 ev62
                  obtain ⟨v698, ev698⟩ := q_ev ((q_fE (S614) o 29 (((q_I (S) o 24) - (1 : Int32) : Int32)).toNatClampNeg).toInt)
                  obtain ⟨v699, ev699⟩ := q_ev ((q_I (S614) a3 ((q_I (S) o 24) - (1 : Int32)).toNatClampNeg).toInt)
                  obtain ⟨v700, ev700⟩ := q_ev ((q_I (S557) a3 ((q_I (S) o 24) - (1 : Int32)).toNatClampNeg).toInt)
                  obtain ⟨v701, ev701⟩ := q_ev ((q_I (S461) a3 ((q_I (S) o 24) - (1 : Int32)).toNatClampNeg).toInt)
                  have f702 : v701 = v444 := q_eqVI e566 ev701 ev444
                  have f703 : v700 = v701 := q_eqVI e609 ev700 ev701
                  have f704 : v699 = v700 := q_eqVI e690 ev699 ev700
                  have f705 : v698 = v699 := q_eqVI e691 ev698 ev699
                  obtain ⟨v706, ev706⟩ := q_ev ((q_fE (S) o 26 (((q_I (S) o 24) - (1 : Int32) : Int32)).toNatClampNeg).toInt)
                  have f707 : v706 = v269 := q_eqVI e9 ev706 ev269
                  obtain ⟨v708, ev708⟩ := q_ev ((q_fE (S614) o 26 (((q_I (S) o 24) - (1 : Int32) : Int32)).toNatClampNeg).toInt)
                  obtain ⟨v709, ev709⟩ := q_ev ((q_I (S614) a7 ((q_I (S) o 24) - (1 : Int32)).toNatClampNeg).toInt)
                  obtain ⟨v710, ev710⟩ := q_ev ((q_I (S557) a7 ((q_I (S) o 24) - (1 : Int32)).toNatClampNeg).toInt)
                  obtain ⟨v711, ev711⟩ := q_ev ((q_I (S461) a7 ((q_I (S) o 24) - (1 : Int32)).toNatClampNeg).toInt)
                  have f712 : v711 = v428 := q_eqVI e562 ev711 ev428
                  have f713 : v710 = v711 := q_eqVI e608 ev710 ev711
                  have f714 : v709 = v710 := q_eqVI e694 ev709 ev710
                  have f715 : v708 = v709 := q_eqVI e695 ev708 ev709
                  exact q_ok_some ⟨hG, (q_smI ⟨(q_N3xI (Eq.trans e642 (Eq.trans e579 (Eq.trans e568 ea22))) (Eq.trans e644 (Eq.trans e581 (Eq.trans e570 ea24))) (Eq.trans e646 (Eq.trans e583 (Eq.trans e572 ea26))) (q_N3c n639 (q_bw2 (fun x0 x1 => x0 = x1) ev649 ev587 (by omega)) rfl)), (q_efxI (Eq.trans e652 (Eq.trans e598 (Eq.trans e560 (Eq.trans e300 (Eq.trans e253 ea7))))) (Eq.trans e654 (Eq.trans e600 (Eq.trans e564 (Eq.trans e435 (Eq.trans e302 ea3))))) (Eq.trans e656 (Eq.trans e602 (Eq.trans e437 (Eq.trans e274 ea13)))) (Eq.trans e658 (Eq.trans e604 (Eq.trans e279 ea15))) (Eq.trans e660 (Eq.trans e606 (Eq.trans e283 ea17))) n640), (q_bw5 (fun x0 x1 x2 x3 x4 => x0 < x1 ∨ (x2 = 0 → 0 ≤ x3 ∧ 0 ≤ x4)) ev676 ev19 ev678 ev680 ev684 (by omega)), (q_bw6 (fun x0 x1 x2 x3 x4 x5 => x0 = x1 - 1 ∨ (x2 = 1 ∧ x0 = x1 ∧ x3 = 0) ∨ (x2 = 1 ∧ x4 + 6 ≤ x5 ∧ (x0 = x1 ∨ x0 = x1 + 1))) ev676 ev19 ev696 ev698 ev706 ev708 (by omega))⟩)⟩
                · have f716 := q_neV q_evr (show q_eqv ((0 : Int32)).toInt (0) by unfold q_eqv; decide) (q_n_eq g611)
                  unfold m_X12_goOn_218
                  have t717 := g_45_R19 hG mo ro
                  have t718 := g_45_R28 hG mo ro
                  have t719 := g_45_R27 hG mo ro
                  have t720 := g_45_R26 hG mo ro
                  have t721 := g_45_R29 hG mo ro
                  have t722 := g_45_R32 hG mo ro
                  have t723 := g_45_R33 hG mo ro
                  have t724 := g_45_R34 hG mo ro
                  have t725 := g_45_R32 hG mo ro
                  have f726 : q_sm _ := g_67_E hG ma13 ra13 (k := ((q_I (S) o 24) - (1 : Int32)).toNatClampNeg)
                  have e727 : q_I (S557) a13 ((q_I (S) o 24) - (1 : Int32)).toNatClampNeg = q_I (q_sI (S257) a7 ((q_I (S) o 24) - (1 : Int32)).toNatClampNeg ((q_I (S257) a7 ((q_I (S) o 24) - (1 : Int32)).toNatClampNeg) + r256)) a13 ((q_I (S) o 24) - (1 : Int32)).toNatClampNeg := (Eq.trans (q_unIA h558.1 ma13 ra13 (by decide) (by decide)) (Eq.trans (q_unIA h462.1 ma13 ra13 (by decide) (by decide)) (Eq.trans (q_leI eS454) (Eq.trans (q_fwI ra13 ra451 (by decide)) (q_fwI ra13 ra3 (by decide))))))
                  have e728 : q_fE (S557) o 32 (((q_I (S) o 24) - (1 : Int32) : Int32)).toNatClampNeg = q_I (S557) a13 ((q_I (S) o 24) - (1 : Int32)).toNatClampNeg := q_fEe (Eq.trans e602 (Eq.trans e437 (Eq.trans e274 ea13)))
                  have e729 : (q_fE (S557) o 32 (((q_I (S) o 24) - (1 : Int32) : Int32)).toNatClampNeg) &&& (2 : Int32) = (q_I (S257) a13 ((q_I (S) o 24) - (1 : Int32)).toNatClampNeg) &&& (2 : Int32) := congrArg (fun z : Int32 => z &&& (2 : Int32)) (Eq.trans e728 (Eq.trans e727 e439))
                  have t730 := g_45_R33 hG mo ro
                  have f731 : q_sm _ := g_68_E hG ma15 ra15 (k := ((q_I (S) o 24) - (1 : Int32)).toNatClampNeg)
                  have e732 : q_I (S557) a15 ((q_I (S) o 24) - (1 : Int32)).toNatClampNeg = q_I (S257) a15 ((q_I (S) o 24) - (1 : Int32)).toNatClampNeg := (Eq.trans (q_unIA h558.1 ma15 ra15 (by decide) (by decide)) (Eq.trans (q_unIA h462.1 ma15 ra15 (by decide) (by decide)) (Eq.trans (q_leI eS454) (Eq.trans (q_fwI ra15 ra451 (by decide)) (Eq.trans (q_fwI ra15 ra3 (by decide)) (q_fwI ra15 ra7 (by decide)))))))
                  have e733 : q_fE (S557) o 33 (((q_I (S) o 24) - (1 : Int32) : Int32)).toNatClampNeg = q_I (S557) a15 ((q_I (S) o 24) - (1 : Int32)).toNatClampNeg := q_fEe (Eq.trans e604 (Eq.trans e279 ea15))
                  have t734 := g_45_R34 hG mo ro
                  have f735 : q_sm _ := g_69_E hG ma17 ra17 (k := ((q_I (S) o 24) - (1 : Int32)).toNatClampNeg)
                  have e736 : q_I (S557) a17 ((q_I (S) o 24) - (1 : Int32)).toNatClampNeg = q_I (S257) a17 ((q_I (S) o 24) - (1 : Int32)).toNatClampNeg := (Eq.trans (q_unIA h558.1 ma17 ra17 (by decide) (by decide)) (Eq.trans (q_unIA h462.1 ma17 ra17 (by decide) (by decide)) (Eq.trans (q_leI eS454) (Eq.trans (q_fwI ra17 ra451 (by decide)) (Eq.trans (q_fwI ra17 ra3 (by decide)) (q_fwI ra17 ra7 (by decide)))))))
                  have e737 : q_fE (S557) o 34 (((q_I (S) o 24) - (1 : Int32) : Int32)).toNatClampNeg = q_I (S557) a17 ((q_I (S) o 24) - (1 : Int32)).toNatClampNeg := q_fEe (Eq.trans e606 (Eq.trans e283 ea17))
                  obtain ⟨v738, ev738⟩ := q_ev (((q_fE (S557) o 32 (((q_I (S) o 24) - (1 : Int32) : Int32)).toNatClampNeg) &&& (2 : Int32)).toInt)
                  have f739 : v738 = v287 := q_eqVI e729 ev738 ev287
                  obtain ⟨v740, ev740⟩ := q_ev ((q_fE (S557) o 33 (((q_I (S) o 24) - (1 : Int32) : Int32)).toNatClampNeg).toInt)
                  obtain ⟨v741, ev741⟩ := q_ev ((q_I (S557) a15 ((q_I (S) o 24) - (1 : Int32)).toNatClampNeg).toInt)
                  have f742 : v741 = v291 := q_eqVI e732 ev741 ev291
                  have f743 : v740 = v741 := q_eqVI e733 ev740 ev741
                  obtain ⟨v744, ev744⟩ := q_ev ((q_fE (S557) o 34 (((q_I (S) o 24) - (1 : Int32) : Int32)).toNatClampNeg).toInt)
                  obtain ⟨v745, ev745⟩ := q_ev ((q_I (S557) a17 ((q_I (S) o 24) - (1 : Int32)).toNatClampNeg).toInt)
                  have f746 : v745 = v295 := q_eqVI e736 ev745 ev295
                  have f747 : v744 = v745 := q_eqVI e737 ev744 ev745
                  have t748 := g_45_R29 hG mo ro
                  have f749 : q_sm _ := g_64_E hG ma3 ra3 (k := ((q_I (S) o 24) - (1 : Int32)).toNatClampNeg)
                  have e750 : q_fE (S557) o 29 (((q_I (S) o 24) - (1 : Int32) : Int32)).toNatClampNeg = q_I (S557) a3 ((q_I (S) o 24) - (1 : Int32)).toNatClampNeg := q_fEe (Eq.trans e600 (Eq.trans e564 (Eq.trans e435 (Eq.trans e302 ea3))))
                  have t751 := g_45_R26 hG mo ro
                  have f752 : q_sm _ := g_61_E hG ma7 ra7 (k := ((q_I (S) o 24) - (1 : Int32)).toNatClampNeg)
                  have e753 : q_fE (S557) o 26 (((q_I (S) o 24) - (1 : Int32) : Int32)).toNatClampNeg = q_I (S557) a7 ((q_I (S) o 24) - (1 : Int32)).toNatClampNeg := q_fEe (Eq.trans e598 (Eq.trans e560 (Eq.trans e300 (Eq.trans e253 ea7))))
                  obtain ⟨v754, ev754⟩ := q_ev ((q_fE (S) o 29 (((q_I (S) o 24) - (1 : Int32) : Int32)).toNatClampNeg).toInt)
                  have f755 : v754 = v62 := q_eqVI e5 ev754 ev62
                  obtain ⟨v756, ev756⟩ := q_ev ((q_fE (S557) o 29 (((q_I (S) o 24) - (1 : Int32) : Int32)).toNatClampNeg).toInt)
                  obtain ⟨v757, ev757⟩ := q_ev ((q_I (S557) a3 ((q_I (S) o 24) - (1 : Int32)).toNatClampNeg).toInt)
                  obtain ⟨v758, ev758⟩ := q_ev ((q_I (S461) a3 ((q_I (S) o 24) - (1 : Int32)).toNatClampNeg).toInt)
                  have f759 : v758 = v444 := q_eqVI e566 ev758 ev444
                  have f760 : v757 = v758 := q_eqVI e609 ev757 ev758
                  have f761 : v756 = v757 := q_eqVI e750 ev756 ev757
                  obtain ⟨v762, ev762⟩ := q_ev ((q_fE (S) o 26 (((q_I (S) o 24) - (1 : Int32) : Int32)).toNatClampNeg).toInt)
                  have f763 : v762 = v269 := q_eqVI e9 ev762 ev269
                  obtain ⟨v764, ev764⟩ := q_ev ((q_fE (S557) o 26 (((q_I (S) o 24) - (1 : Int32) : Int32)).toNatClampNeg).toInt)
                  obtain ⟨v765, ev765⟩ := q_ev ((q_I (S557) a7 ((q_I (S) o 24) - (1 : Int32)).toNatClampNeg).toInt)
                  obtain ⟨v766, ev766⟩ := q_ev ((q_I (S461) a7 ((q_I (S) o 24) - (1 : Int32)).toNatClampNeg).toInt)
                  have f767 : v766 = v428 := q_eqVI e562 ev766 ev428
                  have f768 : v765 = v766 := q_eqVI e608 ev765 ev766
                  have f769 : v764 = v765 := q_eqVI e753 ev764 ev765
                  exact q_ok_some ⟨hG, (q_smI ⟨(q_N3xI (Eq.trans e579 (Eq.trans e568 ea22)) (Eq.trans e581 (Eq.trans e570 ea24)) (Eq.trans e583 (Eq.trans e572 ea26)) (q_N3c n584 (q_bw2 (fun x0 x1 => x0 = x1) ev587 ev587 (by omega)) rfl)), (q_efxI (Eq.trans e598 (Eq.trans e560 (Eq.trans e300 (Eq.trans e253 ea7)))) (Eq.trans e600 (Eq.trans e564 (Eq.trans e435 (Eq.trans e302 ea3)))) (Eq.trans e602 (Eq.trans e437 (Eq.trans e274 ea13))) (Eq.trans e604 (Eq.trans e279 ea15)) (Eq.trans e606 (Eq.trans e283 ea17)) n610), (q_bw5 (fun x0 x1 x2 x3 x4 => x0 < x1 ∨ (x2 = 0 → 0 ≤ x3 ∧ 0 ≤ x4)) ev593 ev19 ev738 ev740 ev744 (by omega)), (q_bw6 (fun x0 x1 x2 x3 x4 x5 => x0 = x1 - 1 ∨ (x2 = 1 ∧ x0 = x1 ∧ x3 = 0) ∨ (x2 = 1 ∧ x4 + 6 ≤ x5 ∧ (x0 = x1 ∨ x0 = x1 + 1))) ev593 ev19 ev754 ev756 ev762 ev764 (by omega))⟩)⟩
              · have f770 := q_ltV (show q_eqv ((5 : Int32)).toInt (5) by unfold q_eqv; decide) ev552 (q_n_le g554)
                unfold m_X12_goOn_194
                refine q_ok_atS hG (q_trI mo ro) rfl (fun mo ro => ?_)
                refine q_ok_b (s_X12_tell_45 hn hG.1 mo ro (q_wd (show (4 : Int) ≤ (4 : Int32).toInt ∧ (4 : Int32).toInt ≤ (4 : Int) by decide) (by decide) (by decide)) (q_wd f459 (by decide) (by decide))) (fun r771 S772 h773 => ?_)
                have hG := q_G_call hG h773 (by decide)
                have n774 := q_N3U h773 mo ro ma22 ra22 ma24 ra24 ma26 ra26 rfl rfl rfl rfl rfl rfl n464
                have n775 := q_efU h773 ma7 ra7 ma3 ra3 ma13 ra13 ma15 ra15 ma17 ra17 rfl rfl rfl rfl rfl n465
                unfold m_X12_goOn_218
                have t776 := g_45_R19 hG mo ro
                have e777 : q_R (S772) o 19 = q_R (S) o 19 := (Eq.trans (q_unR h773 mo ro (by decide)) (Eq.trans (q_unR h462.1 mo ro (by decide)) (Eq.trans (q_leR eS454) (Eq.trans q_skRI (Eq.trans q_skRI (Eq.trans q_skRI (Eq.trans (q_unR h258.1 mo ro (by decide)) (q_unR h248.1 mo ro (by decide)))))))))
                have t778 := g_45_R28 hG mo ro
                have e779 : q_R (S772) o 28 = q_R (S) o 28 := (Eq.trans (q_unR h773 mo ro (by decide)) (Eq.trans (q_unR h462.1 mo ro (by decide)) (Eq.trans (q_leR eS454) (Eq.trans q_skRI (Eq.trans q_skRI (Eq.trans q_skRI (Eq.trans (q_unR h258.1 mo ro (by decide)) (q_unR h248.1 mo ro (by decide)))))))))
                have t780 := g_45_R27 hG mo ro
                have e781 : q_R (S772) o 27 = q_R (S) o 27 := (Eq.trans (q_unR h773 mo ro (by decide)) (Eq.trans (q_unR h462.1 mo ro (by decide)) (Eq.trans (q_leR eS454) (Eq.trans q_skRI (Eq.trans q_skRI (Eq.trans q_skRI (Eq.trans (q_unR h258.1 mo ro (by decide)) (q_unR h248.1 mo ro (by decide)))))))))
                have f782 : q_sm _ := g_45_I18 hG mo ro
                have e783 : q_I (S772) o 18 = q_I (S) o 18 := (Eq.trans (q_unI h773 mo ro (by decide)) (Eq.trans (q_unI h462.1 mo ro (by decide)) (Eq.trans (q_leI eS454) (Eq.trans (q_fwI ro ra451 (by decide)) (Eq.trans (q_fwI ro ra3 (by decide)) (Eq.trans (q_fwI ro ra7 (by decide)) (Eq.trans (q_unI h258.1 mo ro (by decide)) (q_unI h248.1 mo ro (by decide)))))))))
                obtain ⟨v784, ev784⟩ := q_ev ((q_I (S772) o 18).toInt)
                have f785 : v784 = v30 := q_eqVI e783 ev784 ev30
                have t786 := g_45_R26 hG mo ro
                have e787 : q_R (S772) o 26 = q_R (S257) o 26 := (Eq.trans (q_unR h773 mo ro (by decide)) (Eq.trans (q_unR h462.1 mo ro (by decide)) (Eq.trans (q_leR eS454) (Eq.trans q_skRI (Eq.trans q_skRI q_skRI)))))
                have t788 := g_45_R29 hG mo ro
                have e789 : q_R (S772) o 29 = q_R (q_sI (S257) a7 ((q_I (S) o 24) - (1 : Int32)).toNatClampNeg ((q_I (S257) a7 ((q_I (S) o 24) - (1 : Int32)).toNatClampNeg) + r256)) o 29 := (Eq.trans (q_unR h773 mo ro (by decide)) (Eq.trans (q_unR h462.1 mo ro (by decide)) (Eq.trans (q_leR eS454) (Eq.trans q_skRI q_skRI))))
                have t790 := g_45_R32 hG mo ro
                have e791 : q_R (S772) o 32 = q_R (q_sI (S257) a7 ((q_I (S) o 24) - (1 : Int32)).toNatClampNeg ((q_I (S257) a7 ((q_I (S) o 24) - (1 : Int32)).toNatClampNeg) + r256)) o 32 := (Eq.trans (q_unR h773 mo ro (by decide)) (Eq.trans (q_unR h462.1 mo ro (by decide)) (Eq.trans (q_leR eS454) (Eq.trans q_skRI q_skRI))))
                have t792 := g_45_R33 hG mo ro
                have e793 : q_R (S772) o 33 = q_R (S257) o 33 := (Eq.trans (q_unR h773 mo ro (by decide)) (Eq.trans (q_unR h462.1 mo ro (by decide)) (Eq.trans (q_leR eS454) (Eq.trans q_skRI (Eq.trans q_skRI q_skRI)))))
                have t794 := g_45_R34 hG mo ro
                have e795 : q_R (S772) o 34 = q_R (S257) o 34 := (Eq.trans (q_unR h773 mo ro (by decide)) (Eq.trans (q_unR h462.1 mo ro (by decide)) (Eq.trans (q_leR eS454) (Eq.trans q_skRI (Eq.trans q_skRI q_skRI)))))
                have f796 : q_sm _ := g_45_I24 hG mo ro
                have e797 : q_I (S772) o 24 = q_I (S461) o 24 := (q_unI h773 mo ro (by decide))
                have t798 := g_45_R32 hG mo ro
                have f799 : q_sm _ := g_67_E hG ma13 ra13 (k := ((q_I (S) o 24) - (1 : Int32)).toNatClampNeg)
                have e800 : q_I (S772) a13 ((q_I (S) o 24) - (1 : Int32)).toNatClampNeg = q_I (q_sI (S257) a7 ((q_I (S) o 24) - (1 : Int32)).toNatClampNeg ((q_I (S257) a7 ((q_I (S) o 24) - (1 : Int32)).toNatClampNeg) + r256)) a13 ((q_I (S) o 24) - (1 : Int32)).toNatClampNeg := (Eq.trans (q_unIA h773 ma13 ra13 (by decide) (by decide)) (Eq.trans (q_unIA h462.1 ma13 ra13 (by decide) (by decide)) (Eq.trans (q_leI eS454) (Eq.trans (q_fwI ra13 ra451 (by decide)) (q_fwI ra13 ra3 (by decide))))))
                have e801 : q_fE (S772) o 32 (((q_I (S) o 24) - (1 : Int32) : Int32)).toNatClampNeg = q_I (S772) a13 ((q_I (S) o 24) - (1 : Int32)).toNatClampNeg := q_fEe (Eq.trans e791 (Eq.trans e437 (Eq.trans e274 ea13)))
                have e802 : (q_fE (S772) o 32 (((q_I (S) o 24) - (1 : Int32) : Int32)).toNatClampNeg) &&& (2 : Int32) = (q_I (S257) a13 ((q_I (S) o 24) - (1 : Int32)).toNatClampNeg) &&& (2 : Int32) := congrArg (fun z : Int32 => z &&& (2 : Int32)) (Eq.trans e801 (Eq.trans e800 e439))
                have t803 := g_45_R33 hG mo ro
                have f804 : q_sm _ := g_68_E hG ma15 ra15 (k := ((q_I (S) o 24) - (1 : Int32)).toNatClampNeg)
                have e805 : q_I (S772) a15 ((q_I (S) o 24) - (1 : Int32)).toNatClampNeg = q_I (S257) a15 ((q_I (S) o 24) - (1 : Int32)).toNatClampNeg := (Eq.trans (q_unIA h773 ma15 ra15 (by decide) (by decide)) (Eq.trans (q_unIA h462.1 ma15 ra15 (by decide) (by decide)) (Eq.trans (q_leI eS454) (Eq.trans (q_fwI ra15 ra451 (by decide)) (Eq.trans (q_fwI ra15 ra3 (by decide)) (q_fwI ra15 ra7 (by decide)))))))
                have e806 : q_fE (S772) o 33 (((q_I (S) o 24) - (1 : Int32) : Int32)).toNatClampNeg = q_I (S772) a15 ((q_I (S) o 24) - (1 : Int32)).toNatClampNeg := q_fEe (Eq.trans e793 (Eq.trans e279 ea15))
                have t807 := g_45_R34 hG mo ro
                have f808 : q_sm _ := g_69_E hG ma17 ra17 (k := ((q_I (S) o 24) - (1 : Int32)).toNatClampNeg)
                have e809 : q_I (S772) a17 ((q_I (S) o 24) - (1 : Int32)).toNatClampNeg = q_I (S257) a17 ((q_I (S) o 24) - (1 : Int32)).toNatClampNeg := (Eq.trans (q_unIA h773 ma17 ra17 (by decide) (by decide)) (Eq.trans (q_unIA h462.1 ma17 ra17 (by decide) (by decide)) (Eq.trans (q_leI eS454) (Eq.trans (q_fwI ra17 ra451 (by decide)) (Eq.trans (q_fwI ra17 ra3 (by decide)) (q_fwI ra17 ra7 (by decide)))))))
                have e810 : q_fE (S772) o 34 (((q_I (S) o 24) - (1 : Int32) : Int32)).toNatClampNeg = q_I (S772) a17 ((q_I (S) o 24) - (1 : Int32)).toNatClampNeg := q_fEe (Eq.trans e795 (Eq.trans e283 ea17))
                obtain ⟨v811, ev811⟩ := q_ev ((q_I (S772) o 24).toInt)
                have f812 : v811 = v552 := q_eqVI e797 ev811 ev552
                obtain ⟨v813, ev813⟩ := q_ev (((q_fE (S772) o 32 (((q_I (S) o 24) - (1 : Int32) : Int32)).toNatClampNeg) &&& (2 : Int32)).toInt)
                have f814 : v813 = v287 := q_eqVI e802 ev813 ev287
                obtain ⟨v815, ev815⟩ := q_ev ((q_fE (S772) o 33 (((q_I (S) o 24) - (1 : Int32) : Int32)).toNatClampNeg).toInt)
                obtain ⟨v816, ev816⟩ := q_ev ((q_I (S772) a15 ((q_I (S) o 24) - (1 : Int32)).toNatClampNeg).toInt)
                have f817 : v816 = v291 := q_eqVI e805 ev816 ev291
                have f818 : v815 = v816 := q_eqVI e806 ev815 ev816
                obtain ⟨v819, ev819⟩ := q_ev ((q_fE (S772) o 34 (((q_I (S) o 24) - (1 : Int32) : Int32)).toNatClampNeg).toInt)
                obtain ⟨v820, ev820⟩ := q_ev ((q_I (S772) a17 ((q_I (S) o 24) - (1 : Int32)).toNatClampNeg).toInt)
                have f821 : v820 = v295 := q_eqVI e809 ev820 ev295
                have f822 : v819 = v820 := q_eqVI e810 ev819 ev820
                have t823 := g_45_R29 hG mo ro
                have f824 : q_sm _ := g_64_E hG ma3 ra3 (k := ((q_I (S) o 24) - (1 : Int32)).toNatClampNeg)
                have e825 : q_I (S772) a3 ((q_I (S) o 24) - (1 : Int32)).toNatClampNeg = vp_nar .boolean ((0 : Int32)) := (Eq.trans (q_unIA h773 ma3 ra3 (by decide) (by decide)) (Eq.trans (q_unIA h462.1 ma3 ra3 (by decide) (by decide)) (Eq.trans (q_leI eS454) (Eq.trans (q_fwI ra3 ra451 (by decide)) q_hitI))))
                have e826 : q_fE (S772) o 29 (((q_I (S) o 24) - (1 : Int32) : Int32)).toNatClampNeg = q_I (S772) a3 ((q_I (S) o 24) - (1 : Int32)).toNatClampNeg := q_fEe (Eq.trans e789 (Eq.trans e435 (Eq.trans e302 ea3)))
                have t827 := g_45_R26 hG mo ro
                have f828 : q_sm _ := g_61_E hG ma7 ra7 (k := ((q_I (S) o 24) - (1 : Int32)).toNatClampNeg)
                have e829 : q_I (S772) a7 ((q_I (S) o 24) - (1 : Int32)).toNatClampNeg = (q_I (S257) a7 ((q_I (S) o 24) - (1 : Int32)).toNatClampNeg) + r256 := (Eq.trans (q_unIA h773 ma7 ra7 (by decide) (by decide)) (Eq.trans (q_unIA h462.1 ma7 ra7 (by decide) (by decide)) (Eq.trans (q_leI eS454) (Eq.trans (q_fwI ra7 ra451 (by decide)) (Eq.trans (q_fwI ra7 ra3 (by decide)) q_hitI)))))
                have e830 : q_fE (S772) o 26 (((q_I (S) o 24) - (1 : Int32) : Int32)).toNatClampNeg = q_I (S772) a7 ((q_I (S) o 24) - (1 : Int32)).toNatClampNeg := q_fEe (Eq.trans e787 (Eq.trans e300 (Eq.trans e253 ea7)))
                obtain ⟨v831, ev831⟩ := q_ev ((q_fE (S) o 29 (((q_I (S) o 24) - (1 : Int32) : Int32)).toNatClampNeg).toInt)
                have f832 : v831 = v62 := q_eqVI e5 ev831 ev62
                obtain ⟨v833, ev833⟩ := q_ev ((q_fE (S772) o 29 (((q_I (S) o 24) - (1 : Int32) : Int32)).toNatClampNeg).toInt)
                obtain ⟨v834, ev834⟩ := q_ev ((q_I (S772) a3 ((q_I (S) o 24) - (1 : Int32)).toNatClampNeg).toInt)
                have f835 : v834 = v444 := q_eqVI e825 ev834 ev444
                have f836 : v833 = v834 := q_eqVI e826 ev833 ev834
                obtain ⟨v837, ev837⟩ := q_ev ((q_fE (S) o 26 (((q_I (S) o 24) - (1 : Int32) : Int32)).toNatClampNeg).toInt)
                have f838 : v837 = v269 := q_eqVI e9 ev837 ev269
                obtain ⟨v839, ev839⟩ := q_ev ((q_fE (S772) o 26 (((q_I (S) o 24) - (1 : Int32) : Int32)).toNatClampNeg).toInt)
                obtain ⟨v840, ev840⟩ := q_ev ((q_I (S772) a7 ((q_I (S) o 24) - (1 : Int32)).toNatClampNeg).toInt)
                have f841 : v840 = v428 := q_eqVI e829 ev840 ev428
                have f842 : v839 = v840 := q_eqVI e830 ev839 ev840
                exact q_ok_some ⟨hG, (q_smI ⟨(q_N3xI (Eq.trans e777 ea22) (Eq.trans e779 ea24) (Eq.trans e781 ea26) (q_N3c n774 (q_bw2 (fun x0 x1 => x0 = x1) ev784 ev30 (by omega)) rfl)), (q_efxI (Eq.trans e787 (Eq.trans e300 (Eq.trans e253 ea7))) (Eq.trans e789 (Eq.trans e435 (Eq.trans e302 ea3))) (Eq.trans e791 (Eq.trans e437 (Eq.trans e274 ea13))) (Eq.trans e793 (Eq.trans e279 ea15)) (Eq.trans e795 (Eq.trans e283 ea17)) n775), (q_bw5 (fun x0 x1 x2 x3 x4 => x0 < x1 ∨ (x2 = 0 → 0 ≤ x3 ∧ 0 ≤ x4)) ev811 ev19 ev813 ev815 ev819 (by omega)), (q_bw6 (fun x0 x1 x2 x3 x4 x5 => x0 = x1 - 1 ∨ (x2 = 1 ∧ x0 = x1 ∧ x3 = 0) ∨ (x2 = 1 ∧ x4 + 6 ≤ x5 ∧ (x0 = x1 ∨ x0 = x1 + 1))) ev811 ev19 ev831 ev833 ev837 ev839 (by omega))⟩)⟩
            · have f843 := q_neV q_evr (show q_eqv ((0 : Int32)).toInt (0) by unfold q_eqv; decide) (q_n_eq g548)
              unfold m_X12_goOn_194
              refine q_ok_atS hG (q_trI mo ro) rfl (fun mo ro => ?_)
              refine q_ok_b (s_X12_tell_45 hn hG.1 mo ro (q_wd (show (4 : Int) ≤ (4 : Int32).toInt ∧ (4 : Int32).toInt ≤ (4 : Int) by decide) (by decide) (by decide)) (q_wd f459 (by decide) (by decide))) (fun r844 S845 h846 => ?_)
              have hG := q_G_call hG h846 (by decide)
              have n847 := q_N3U h846 mo ro ma22 ra22 ma24 ra24 ma26 ra26 rfl rfl rfl rfl rfl rfl n464
              have n848 := q_efU h846 ma7 ra7 ma3 ra3 ma13 ra13 ma15 ra15 ma17 ra17 rfl rfl rfl rfl rfl n465
              unfold m_X12_goOn_218
              have t849 := g_45_R19 hG mo ro
              have e850 : q_R (S845) o 19 = q_R (S) o 19 := (Eq.trans (q_unR h846 mo ro (by decide)) (Eq.trans (q_unR h462.1 mo ro (by decide)) (Eq.trans (q_leR eS454) (Eq.trans q_skRI (Eq.trans q_skRI (Eq.trans q_skRI (Eq.trans (q_unR h258.1 mo ro (by decide)) (q_unR h248.1 mo ro (by decide)))))))))
              have t851 := g_45_R28 hG mo ro
              have e852 : q_R (S845) o 28 = q_R (S) o 28 := (Eq.trans (q_unR h846 mo ro (by decide)) (Eq.trans (q_unR h462.1 mo ro (by decide)) (Eq.trans (q_leR eS454) (Eq.trans q_skRI (Eq.trans q_skRI (Eq.trans q_skRI (Eq.trans (q_unR h258.1 mo ro (by decide)) (q_unR h248.1 mo ro (by decide)))))))))
              have t853 := g_45_R27 hG mo ro
              have e854 : q_R (S845) o 27 = q_R (S) o 27 := (Eq.trans (q_unR h846 mo ro (by decide)) (Eq.trans (q_unR h462.1 mo ro (by decide)) (Eq.trans (q_leR eS454) (Eq.trans q_skRI (Eq.trans q_skRI (Eq.trans q_skRI (Eq.trans (q_unR h258.1 mo ro (by decide)) (q_unR h248.1 mo ro (by decide)))))))))
              have f855 : q_sm _ := g_45_I18 hG mo ro
              have e856 : q_I (S845) o 18 = q_I (S) o 18 := (Eq.trans (q_unI h846 mo ro (by decide)) (Eq.trans (q_unI h462.1 mo ro (by decide)) (Eq.trans (q_leI eS454) (Eq.trans (q_fwI ro ra451 (by decide)) (Eq.trans (q_fwI ro ra3 (by decide)) (Eq.trans (q_fwI ro ra7 (by decide)) (Eq.trans (q_unI h258.1 mo ro (by decide)) (q_unI h248.1 mo ro (by decide)))))))))
              obtain ⟨v857, ev857⟩ := q_ev ((q_I (S845) o 18).toInt)
              have f858 : v857 = v30 := q_eqVI e856 ev857 ev30
              have t859 := g_45_R26 hG mo ro
              have e860 : q_R (S845) o 26 = q_R (S257) o 26 := (Eq.trans (q_unR h846 mo ro (by decide)) (Eq.trans (q_unR h462.1 mo ro (by decide)) (Eq.trans (q_leR eS454) (Eq.trans q_skRI (Eq.trans q_skRI q_skRI)))))
              have t861 := g_45_R29 hG mo ro
              have e862 : q_R (S845) o 29 = q_R (q_sI (S257) a7 ((q_I (S) o 24) - (1 : Int32)).toNatClampNeg ((q_I (S257) a7 ((q_I (S) o 24) - (1 : Int32)).toNatClampNeg) + r256)) o 29 := (Eq.trans (q_unR h846 mo ro (by decide)) (Eq.trans (q_unR h462.1 mo ro (by decide)) (Eq.trans (q_leR eS454) (Eq.trans q_skRI q_skRI))))
              have t863 := g_45_R32 hG mo ro
              have e864 : q_R (S845) o 32 = q_R (q_sI (S257) a7 ((q_I (S) o 24) - (1 : Int32)).toNatClampNeg ((q_I (S257) a7 ((q_I (S) o 24) - (1 : Int32)).toNatClampNeg) + r256)) o 32 := (Eq.trans (q_unR h846 mo ro (by decide)) (Eq.trans (q_unR h462.1 mo ro (by decide)) (Eq.trans (q_leR eS454) (Eq.trans q_skRI q_skRI))))
              have t865 := g_45_R33 hG mo ro
              have e866 : q_R (S845) o 33 = q_R (S257) o 33 := (Eq.trans (q_unR h846 mo ro (by decide)) (Eq.trans (q_unR h462.1 mo ro (by decide)) (Eq.trans (q_leR eS454) (Eq.trans q_skRI (Eq.trans q_skRI q_skRI)))))
              have t867 := g_45_R34 hG mo ro
              have e868 : q_R (S845) o 34 = q_R (S257) o 34 := (Eq.trans (q_unR h846 mo ro (by decide)) (Eq.trans (q_unR h462.1 mo ro (by decide)) (Eq.trans (q_leR eS454) (Eq.trans q_skRI (Eq.trans q_skRI q_skRI)))))
              have f869 : q_sm _ := g_45_I24 hG mo ro
              have e870 : q_I (S845) o 24 = q_I (S) o 24 := (Eq.trans (q_unI h846 mo ro (by decide)) (Eq.trans (q_unI h462.1 mo ro (by decide)) (Eq.trans (q_leI eS454) (Eq.trans (q_fwI ro ra451 (by decide)) (Eq.trans (q_fwI ro ra3 (by decide)) (Eq.trans (q_fwI ro ra7 (by decide)) (Eq.trans (q_unI h258.1 mo ro (by decide)) (q_unI h248.1 mo ro (by decide)))))))))
              have t871 := g_45_R32 hG mo ro
              have f872 : q_sm _ := g_67_E hG ma13 ra13 (k := ((q_I (S) o 24) - (1 : Int32)).toNatClampNeg)
              have e873 : q_I (S845) a13 ((q_I (S) o 24) - (1 : Int32)).toNatClampNeg = q_I (q_sI (S257) a7 ((q_I (S) o 24) - (1 : Int32)).toNatClampNeg ((q_I (S257) a7 ((q_I (S) o 24) - (1 : Int32)).toNatClampNeg) + r256)) a13 ((q_I (S) o 24) - (1 : Int32)).toNatClampNeg := (Eq.trans (q_unIA h846 ma13 ra13 (by decide) (by decide)) (Eq.trans (q_unIA h462.1 ma13 ra13 (by decide) (by decide)) (Eq.trans (q_leI eS454) (Eq.trans (q_fwI ra13 ra451 (by decide)) (q_fwI ra13 ra3 (by decide))))))
              have e874 : q_fE (S845) o 32 (((q_I (S) o 24) - (1 : Int32) : Int32)).toNatClampNeg = q_I (S845) a13 ((q_I (S) o 24) - (1 : Int32)).toNatClampNeg := q_fEe (Eq.trans e864 (Eq.trans e437 (Eq.trans e274 ea13)))
              have e875 : (q_fE (S845) o 32 (((q_I (S) o 24) - (1 : Int32) : Int32)).toNatClampNeg) &&& (2 : Int32) = (q_I (S257) a13 ((q_I (S) o 24) - (1 : Int32)).toNatClampNeg) &&& (2 : Int32) := congrArg (fun z : Int32 => z &&& (2 : Int32)) (Eq.trans e874 (Eq.trans e873 e439))
              have t876 := g_45_R33 hG mo ro
              have f877 : q_sm _ := g_68_E hG ma15 ra15 (k := ((q_I (S) o 24) - (1 : Int32)).toNatClampNeg)
              have e878 : q_I (S845) a15 ((q_I (S) o 24) - (1 : Int32)).toNatClampNeg = q_I (S257) a15 ((q_I (S) o 24) - (1 : Int32)).toNatClampNeg := (Eq.trans (q_unIA h846 ma15 ra15 (by decide) (by decide)) (Eq.trans (q_unIA h462.1 ma15 ra15 (by decide) (by decide)) (Eq.trans (q_leI eS454) (Eq.trans (q_fwI ra15 ra451 (by decide)) (Eq.trans (q_fwI ra15 ra3 (by decide)) (q_fwI ra15 ra7 (by decide)))))))
              have e879 : q_fE (S845) o 33 (((q_I (S) o 24) - (1 : Int32) : Int32)).toNatClampNeg = q_I (S845) a15 ((q_I (S) o 24) - (1 : Int32)).toNatClampNeg := q_fEe (Eq.trans e866 (Eq.trans e279 ea15))
              have t880 := g_45_R34 hG mo ro
              have f881 : q_sm _ := g_69_E hG ma17 ra17 (k := ((q_I (S) o 24) - (1 : Int32)).toNatClampNeg)
              have e882 : q_I (S845) a17 ((q_I (S) o 24) - (1 : Int32)).toNatClampNeg = q_I (S257) a17 ((q_I (S) o 24) - (1 : Int32)).toNatClampNeg := (Eq.trans (q_unIA h846 ma17 ra17 (by decide) (by decide)) (Eq.trans (q_unIA h462.1 ma17 ra17 (by decide) (by decide)) (Eq.trans (q_leI eS454) (Eq.trans (q_fwI ra17 ra451 (by decide)) (Eq.trans (q_fwI ra17 ra3 (by decide)) (q_fwI ra17 ra7 (by decide)))))))
              have e883 : q_fE (S845) o 34 (((q_I (S) o 24) - (1 : Int32) : Int32)).toNatClampNeg = q_I (S845) a17 ((q_I (S) o 24) - (1 : Int32)).toNatClampNeg := q_fEe (Eq.trans e868 (Eq.trans e283 ea17))
              obtain ⟨v884, ev884⟩ := q_ev ((q_I (S845) o 24).toInt)
              have f885 : v884 = v19 := q_eqVI e870 ev884 ev19
              obtain ⟨v886, ev886⟩ := q_ev (((q_fE (S845) o 32 (((q_I (S) o 24) - (1 : Int32) : Int32)).toNatClampNeg) &&& (2 : Int32)).toInt)
              have f887 : v886 = v287 := q_eqVI e875 ev886 ev287
              obtain ⟨v888, ev888⟩ := q_ev ((q_fE (S845) o 33 (((q_I (S) o 24) - (1 : Int32) : Int32)).toNatClampNeg).toInt)
              obtain ⟨v889, ev889⟩ := q_ev ((q_I (S845) a15 ((q_I (S) o 24) - (1 : Int32)).toNatClampNeg).toInt)
              have f890 : v889 = v291 := q_eqVI e878 ev889 ev291
              have f891 : v888 = v889 := q_eqVI e879 ev888 ev889
              obtain ⟨v892, ev892⟩ := q_ev ((q_fE (S845) o 34 (((q_I (S) o 24) - (1 : Int32) : Int32)).toNatClampNeg).toInt)
              obtain ⟨v893, ev893⟩ := q_ev ((q_I (S845) a17 ((q_I (S) o 24) - (1 : Int32)).toNatClampNeg).toInt)
              have f894 : v893 = v295 := q_eqVI e882 ev893 ev295
              have f895 : v892 = v893 := q_eqVI e883 ev892 ev893
              have t896 := g_45_R29 hG mo ro
              have f897 : q_sm _ := g_64_E hG ma3 ra3 (k := ((q_I (S) o 24) - (1 : Int32)).toNatClampNeg)
              have e898 : q_I (S845) a3 ((q_I (S) o 24) - (1 : Int32)).toNatClampNeg = vp_nar .boolean ((0 : Int32)) := (Eq.trans (q_unIA h846 ma3 ra3 (by decide) (by decide)) (Eq.trans (q_unIA h462.1 ma3 ra3 (by decide) (by decide)) (Eq.trans (q_leI eS454) (Eq.trans (q_fwI ra3 ra451 (by decide)) q_hitI))))
              have e899 : q_fE (S845) o 29 (((q_I (S) o 24) - (1 : Int32) : Int32)).toNatClampNeg = q_I (S845) a3 ((q_I (S) o 24) - (1 : Int32)).toNatClampNeg := q_fEe (Eq.trans e862 (Eq.trans e435 (Eq.trans e302 ea3)))
              have t900 := g_45_R26 hG mo ro
              have f901 : q_sm _ := g_61_E hG ma7 ra7 (k := ((q_I (S) o 24) - (1 : Int32)).toNatClampNeg)
              have e902 : q_I (S845) a7 ((q_I (S) o 24) - (1 : Int32)).toNatClampNeg = (q_I (S257) a7 ((q_I (S) o 24) - (1 : Int32)).toNatClampNeg) + r256 := (Eq.trans (q_unIA h846 ma7 ra7 (by decide) (by decide)) (Eq.trans (q_unIA h462.1 ma7 ra7 (by decide) (by decide)) (Eq.trans (q_leI eS454) (Eq.trans (q_fwI ra7 ra451 (by decide)) (Eq.trans (q_fwI ra7 ra3 (by decide)) q_hitI)))))
              have e903 : q_fE (S845) o 26 (((q_I (S) o 24) - (1 : Int32) : Int32)).toNatClampNeg = q_I (S845) a7 ((q_I (S) o 24) - (1 : Int32)).toNatClampNeg := q_fEe (Eq.trans e860 (Eq.trans e300 (Eq.trans e253 ea7)))
              obtain ⟨v904, ev904⟩ := q_ev ((q_fE (S) o 29 (((q_I (S) o 24) - (1 : Int32) : Int32)).toNatClampNeg).toInt)
              have f905 : v904 = v62 := q_eqVI e5 ev904 ev62
              obtain ⟨v906, ev906⟩ := q_ev ((q_fE (S845) o 29 (((q_I (S) o 24) - (1 : Int32) : Int32)).toNatClampNeg).toInt)
              obtain ⟨v907, ev907⟩ := q_ev ((q_I (S845) a3 ((q_I (S) o 24) - (1 : Int32)).toNatClampNeg).toInt)
              have f908 : v907 = v444 := q_eqVI e898 ev907 ev444
              have f909 : v906 = v907 := q_eqVI e899 ev906 ev907
              obtain ⟨v910, ev910⟩ := q_ev ((q_fE (S) o 26 (((q_I (S) o 24) - (1 : Int32) : Int32)).toNatClampNeg).toInt)
              have f911 : v910 = v269 := q_eqVI e9 ev910 ev269
              obtain ⟨v912, ev912⟩ := q_ev ((q_fE (S845) o 26 (((q_I (S) o 24) - (1 : Int32) : Int32)).toNatClampNeg).toInt)
              obtain ⟨v913, ev913⟩ := q_ev ((q_I (S845) a7 ((q_I (S) o 24) - (1 : Int32)).toNatClampNeg).toInt)
              have f914 : v913 = v428 := q_eqVI e902 ev913 ev428
              have f915 : v912 = v913 := q_eqVI e903 ev912 ev913
              exact q_ok_some ⟨hG, (q_smI ⟨(q_N3xI (Eq.trans e850 ea22) (Eq.trans e852 ea24) (Eq.trans e854 ea26) (q_N3c n847 (q_bw2 (fun x0 x1 => x0 = x1) ev857 ev30 (by omega)) rfl)), (q_efxI (Eq.trans e860 (Eq.trans e300 (Eq.trans e253 ea7))) (Eq.trans e862 (Eq.trans e435 (Eq.trans e302 ea3))) (Eq.trans e864 (Eq.trans e437 (Eq.trans e274 ea13))) (Eq.trans e866 (Eq.trans e279 ea15)) (Eq.trans e868 (Eq.trans e283 ea17)) n848), (q_bw5 (fun x0 x1 x2 x3 x4 => x0 < x1 ∨ (x2 = 0 → 0 ≤ x3 ∧ 0 ≤ x4)) ev884 ev19 ev886 ev888 ev892 (by omega)), (q_bw6 (fun x0 x1 x2 x3 x4 x5 => x0 = x1 - 1 ∨ (x2 = 1 ∧ x0 = x1 ∧ x3 = 0) ∨ (x2 = 1 ∧ x4 + 6 ≤ x5 ∧ (x0 = x1 ∨ x0 = x1 + 1))) ev884 ev19 ev904 ev906 ev910 ev912 (by omega))⟩)⟩
        · have f916 := q_neV ev440 (show q_eqv ((0 : Int32)).toInt (0) by unfold q_eqv; decide) (q_n_eq g442)
          unfold m_X12_goOn_149
          refine q_ok_atA hG (Eq.trans e435 (Eq.trans e302 ea3)) ma3 ra3 rfl ?_
          refine q_ok_if (q_inV (g_64_N hG ma3 ra3) ev60 (by omega) (by omega)) ?_
          obtain ⟨v917, ev917⟩ := q_ev ((vp_nar .boolean ((1 : Int32))).toInt)
          have f918 : v917 = (1) := q_narV ev917 (show q_eqv ((1 : Int32)).toInt (1) by unfold q_eqv; decide) (by omega) (by omega)
          have hG := u_64_E (k := ((q_I (S) o 24) - (1 : Int32)).toNatClampNeg) (x := vp_nar .boolean ((1 : Int32))) hG ma3 ra3 (by decide) (q_oV ev917 (by omega) (by omega))
          have n919 : q_N3 (q_sI (q_sI (S257) a7 ((q_I (S) o 24) - (1 : Int32)).toNatClampNeg ((q_I (S257) a7 ((q_I (S) o 24) - (1 : Int32)).toNatClampNeg) + r256)) a3 ((q_I (S) o 24) - (1 : Int32)).toNatClampNeg (vp_nar .boolean ((1 : Int32)))) o a22 a24 a26 _ _ := q_N3I ro ra3 ra22 ra24 ra26 (by decide) (by decide) (by decide) (by decide) n432
          have n920 : q_ef (S) (q_sI (q_sI (S257) a7 ((q_I (S) o 24) - (1 : Int32)).toNatClampNeg ((q_I (S257) a7 ((q_I (S) o 24) - (1 : Int32)).toNatClampNeg) + r256)) a3 ((q_I (S) o 24) - (1 : Int32)).toNatClampNeg (vp_nar .boolean ((1 : Int32)))) a7 a3 a13 a15 a17 _ := q_efA (q_clampL (q_bw1 (fun x0 => 0 ≤ x0) ev60 (by omega)) (q_bw2 (fun x0 x1 => x0 - 1 ≤ x1) ev19 ev60 (by omega))) n433
          refine q_ok_atS hG (q_trI mo ro) rfl (fun mo ro => ?_)
          have t921 := g_45_R31 hG mo ro
          have f922 : q_sm _ := g_45_I14 hG mo ro
          have e923 : q_I (q_sI (q_sI (S257) a7 ((q_I (S) o 24) - (1 : Int32)).toNatClampNeg ((q_I (S257) a7 ((q_I (S) o 24) - (1 : Int32)).toNatClampNeg) + r256)) a3 ((q_I (S) o 24) - (1 : Int32)).toNatClampNeg (vp_nar .boolean ((1 : Int32)))) o 14 = q_I (S) o 14 := (Eq.trans (q_fwI ro ra3 (by decide)) (Eq.trans (q_fwI ro ra7 (by decide)) (Eq.trans (q_unI h258.1 mo ro (by decide)) (q_unI h248.1 mo ro (by decide)))))
          refine q_ok_at hG t921 rfl (fun a924 ma924 ra924 ea924 => ?_)
          refine q_ok_if (q_inV (g_66_N hG ma924 ra924) ev60 (by omega) (by omega)) ?_
          have hG := u_66_E (k := ((q_I (S) o 24) - (1 : Int32)).toNatClampNeg) (x := q_I (q_sI (q_sI (S257) a7 ((q_I (S) o 24) - (1 : Int32)).toNatClampNeg ((q_I (S257) a7 ((q_I (S) o 24) - (1 : Int32)).toNatClampNeg) + r256)) a3 ((q_I (S) o 24) - (1 : Int32)).toNatClampNeg (vp_nar .boolean ((1 : Int32)))) o 14) hG ma924 ra924 (by decide) (q_wd f922 (by decide) (by decide))
          have n925 : q_N3 (q_sI (q_sI (q_sI (S257) a7 ((q_I (S) o 24) - (1 : Int32)).toNatClampNeg ((q_I (S257) a7 ((q_I (S) o 24) - (1 : Int32)).toNatClampNeg) + r256)) a3 ((q_I (S) o 24) - (1 : Int32)).toNatClampNeg (vp_nar .boolean ((1 : Int32)))) a924 ((q_I (S) o 24) - (1 : Int32)).toNatClampNeg (q_I (q_sI (q_sI (S257) a7 ((q_I (S) o 24) - (1 : Int32)).toNatClampNeg ((q_I (S257) a7 ((q_I (S) o 24) - (1 : Int32)).toNatClampNeg) + r256)) a3 ((q_I (S) o 24) - (1 : Int32)).toNatClampNeg (vp_nar .boolean ((1 : Int32)))) o 14)) o a22 a24 a26 _ _ := q_N3I ro ra924 ra22 ra24 ra26 (by decide) (by decide) (by decide) (by decide) n919
          have n926 : q_ef (S) (q_sI (q_sI (q_sI (S257) a7 ((q_I (S) o 24) - (1 : Int32)).toNatClampNeg ((q_I (S257) a7 ((q_I (S) o 24) - (1 : Int32)).toNatClampNeg) + r256)) a3 ((q_I (S) o 24) - (1 : Int32)).toNatClampNeg (vp_nar .boolean ((1 : Int32)))) a924 ((q_I (S) o 24) - (1 : Int32)).toNatClampNeg (q_I (q_sI (q_sI (S257) a7 ((q_I (S) o 24) - (1 : Int32)).toNatClampNeg ((q_I (S257) a7 ((q_I (S) o 24) - (1 : Int32)).toNatClampNeg) + r256)) a3 ((q_I (S) o 24) - (1 : Int32)).toNatClampNeg (vp_nar .boolean ((1 : Int32)))) o 14)) a7 a3 a13 a15 a17 _ := q_efI ra924 ra7 ra3 ra13 ra15 ra17 (by decide) (by decide) (by decide) (by decide) (by decide) n920
          refine q_ok_let (fun S927 eS927 => ?_)
          rw [← eS927] at hG
          have n928 := q_N3L eS927 n925
          have n929 := q_efL eS927 n926
          have t930 := g_45_R30 hG mo ro
          refine q_ok_at hG t930 rfl (fun a931 ma931 ra931 ea931 => ?_)
          refine q_ok_if (q_inV (g_65_N hG ma931 ra931) ev60 (by omega) (by omega)) ?_
          have f932 : q_sm _ := g_65_E hG ma931 ra931 (k := ((q_I (S) o 24) - (1 : Int32)).toNatClampNeg)
          refine q_ok_b (s_X12_isSign_45 hn hG.1 mo ro) (fun r933 S934 h935 => ?_)
          have hG := q_G_call hG h935.1 (by decide)
          have f936 := h935.2.1
          have n937 := q_N3U h935.1 mo ro ma22 ra22 ma24 ra24 ma26 ra26 rfl rfl rfl rfl rfl rfl n928
          have n938 := q_efU h935.1 ma7 ra7 ma3 ra3 ma13 ra13 ma15 ra15 ma17 ra17 rfl rfl rfl rfl rfl n929
          obtain ⟨v939, ev939⟩ := q_ev ((q_I (S927) a931 ((q_I (S) o 24) - (1 : Int32)).toNatClampNeg).toInt)
          have f940 := q_bV ev939 f932
          have f941 : r933.toInt = 1 → 0 ≤ v939 ∧ v939 ≤ 199 := q_to2 (fun x0 x1 => x0 = 1 → 0 ≤ x1 ∧ x1 ≤ 199) q_evr ev939 ((q_smE (h935.2.2)))
          refine q_ok_ite (fun g942 => ?_) (fun g942 => ?_)
          · have f943 := q_eqV q_evr (show q_eqv ((0 : Int32)).toInt (0) by unfold q_eqv; decide) (q_p_eq g942)
            unfold m_X12_goOn_194
            refine q_ok_atS hG (q_trI mo ro) rfl (fun mo ro => ?_)
            refine q_ok_b (s_X12_tell_45 hn hG.1 mo ro (q_wd (show (4 : Int) ≤ (4 : Int32).toInt ∧ (4 : Int32).toInt ≤ (4 : Int) by decide) (by decide) (by decide)) (q_wd f932 (by decide) (by decide))) (fun r944 S945 h946 => ?_)
            have hG := q_G_call hG h946 (by decide)
            have n947 := q_N3U h946 mo ro ma22 ra22 ma24 ra24 ma26 ra26 rfl rfl rfl rfl rfl rfl n937
            have n948 := q_efU h946 ma7 ra7 ma3 ra3 ma13 ra13 ma15 ra15 ma17 ra17 rfl rfl rfl rfl rfl n938
            unfold m_X12_goOn_218
            have t949 := g_45_R19 hG mo ro
            have e950 : q_R (S945) o 19 = q_R (S) o 19 := (Eq.trans (q_unR h946 mo ro (by decide)) (Eq.trans (q_unR h935.1 mo ro (by decide)) (Eq.trans (q_leR eS927) (Eq.trans q_skRI (Eq.trans q_skRI (Eq.trans q_skRI (Eq.trans (q_unR h258.1 mo ro (by decide)) (q_unR h248.1 mo ro (by decide)))))))))
            have t951 := g_45_R28 hG mo ro
            have e952 : q_R (S945) o 28 = q_R (S) o 28 := (Eq.trans (q_unR h946 mo ro (by decide)) (Eq.trans (q_unR h935.1 mo ro (by decide)) (Eq.trans (q_leR eS927) (Eq.trans q_skRI (Eq.trans q_skRI (Eq.trans q_skRI (Eq.trans (q_unR h258.1 mo ro (by decide)) (q_unR h248.1 mo ro (by decide)))))))))
            have t953 := g_45_R27 hG mo ro
            have e954 : q_R (S945) o 27 = q_R (S) o 27 := (Eq.trans (q_unR h946 mo ro (by decide)) (Eq.trans (q_unR h935.1 mo ro (by decide)) (Eq.trans (q_leR eS927) (Eq.trans q_skRI (Eq.trans q_skRI (Eq.trans q_skRI (Eq.trans (q_unR h258.1 mo ro (by decide)) (q_unR h248.1 mo ro (by decide)))))))))
            have f955 : q_sm _ := g_45_I18 hG mo ro
            have e956 : q_I (S945) o 18 = q_I (S) o 18 := (Eq.trans (q_unI h946 mo ro (by decide)) (Eq.trans (q_unI h935.1 mo ro (by decide)) (Eq.trans (q_leI eS927) (Eq.trans (q_fwI ro ra924 (by decide)) (Eq.trans (q_fwI ro ra3 (by decide)) (Eq.trans (q_fwI ro ra7 (by decide)) (Eq.trans (q_unI h258.1 mo ro (by decide)) (q_unI h248.1 mo ro (by decide)))))))))
            obtain ⟨v957, ev957⟩ := q_ev ((q_I (S945) o 18).toInt)
            have f958 : v957 = v30 := q_eqVI e956 ev957 ev30
            have t959 := g_45_R26 hG mo ro
            have e960 : q_R (S945) o 26 = q_R (S257) o 26 := (Eq.trans (q_unR h946 mo ro (by decide)) (Eq.trans (q_unR h935.1 mo ro (by decide)) (Eq.trans (q_leR eS927) (Eq.trans q_skRI (Eq.trans q_skRI q_skRI)))))
            have t961 := g_45_R29 hG mo ro
            have e962 : q_R (S945) o 29 = q_R (q_sI (S257) a7 ((q_I (S) o 24) - (1 : Int32)).toNatClampNeg ((q_I (S257) a7 ((q_I (S) o 24) - (1 : Int32)).toNatClampNeg) + r256)) o 29 := (Eq.trans (q_unR h946 mo ro (by decide)) (Eq.trans (q_unR h935.1 mo ro (by decide)) (Eq.trans (q_leR eS927) (Eq.trans q_skRI q_skRI))))
            have t963 := g_45_R32 hG mo ro
            have e964 : q_R (S945) o 32 = q_R (q_sI (S257) a7 ((q_I (S) o 24) - (1 : Int32)).toNatClampNeg ((q_I (S257) a7 ((q_I (S) o 24) - (1 : Int32)).toNatClampNeg) + r256)) o 32 := (Eq.trans (q_unR h946 mo ro (by decide)) (Eq.trans (q_unR h935.1 mo ro (by decide)) (Eq.trans (q_leR eS927) (Eq.trans q_skRI q_skRI))))
            have t965 := g_45_R33 hG mo ro
            have e966 : q_R (S945) o 33 = q_R (S257) o 33 := (Eq.trans (q_unR h946 mo ro (by decide)) (Eq.trans (q_unR h935.1 mo ro (by decide)) (Eq.trans (q_leR eS927) (Eq.trans q_skRI (Eq.trans q_skRI q_skRI)))))
            have t967 := g_45_R34 hG mo ro
            have e968 : q_R (S945) o 34 = q_R (S257) o 34 := (Eq.trans (q_unR h946 mo ro (by decide)) (Eq.trans (q_unR h935.1 mo ro (by decide)) (Eq.trans (q_leR eS927) (Eq.trans q_skRI (Eq.trans q_skRI q_skRI)))))
            have f969 : q_sm _ := g_45_I24 hG mo ro
            have e970 : q_I (S945) o 24 = q_I (S) o 24 := (Eq.trans (q_unI h946 mo ro (by decide)) (Eq.trans (q_unI h935.1 mo ro (by decide)) (Eq.trans (q_leI eS927) (Eq.trans (q_fwI ro ra924 (by decide)) (Eq.trans (q_fwI ro ra3 (by decide)) (Eq.trans (q_fwI ro ra7 (by decide)) (Eq.trans (q_unI h258.1 mo ro (by decide)) (q_unI h248.1 mo ro (by decide)))))))))
            have t971 := g_45_R32 hG mo ro
            have f972 : q_sm _ := g_67_E hG ma13 ra13 (k := ((q_I (S) o 24) - (1 : Int32)).toNatClampNeg)
            have e973 : q_I (S945) a13 ((q_I (S) o 24) - (1 : Int32)).toNatClampNeg = q_I (q_sI (S257) a7 ((q_I (S) o 24) - (1 : Int32)).toNatClampNeg ((q_I (S257) a7 ((q_I (S) o 24) - (1 : Int32)).toNatClampNeg) + r256)) a13 ((q_I (S) o 24) - (1 : Int32)).toNatClampNeg := (Eq.trans (q_unIA h946 ma13 ra13 (by decide) (by decide)) (Eq.trans (q_unIA h935.1 ma13 ra13 (by decide) (by decide)) (Eq.trans (q_leI eS927) (Eq.trans (q_fwI ra13 ra924 (by decide)) (q_fwI ra13 ra3 (by decide))))))
            have e974 : q_fE (S945) o 32 (((q_I (S) o 24) - (1 : Int32) : Int32)).toNatClampNeg = q_I (S945) a13 ((q_I (S) o 24) - (1 : Int32)).toNatClampNeg := q_fEe (Eq.trans e964 (Eq.trans e437 (Eq.trans e274 ea13)))
            have e975 : (q_fE (S945) o 32 (((q_I (S) o 24) - (1 : Int32) : Int32)).toNatClampNeg) &&& (2 : Int32) = (q_I (S257) a13 ((q_I (S) o 24) - (1 : Int32)).toNatClampNeg) &&& (2 : Int32) := congrArg (fun z : Int32 => z &&& (2 : Int32)) (Eq.trans e974 (Eq.trans e973 e439))
            have t976 := g_45_R33 hG mo ro
            have f977 : q_sm _ := g_68_E hG ma15 ra15 (k := ((q_I (S) o 24) - (1 : Int32)).toNatClampNeg)
            have e978 : q_I (S945) a15 ((q_I (S) o 24) - (1 : Int32)).toNatClampNeg = q_I (S257) a15 ((q_I (S) o 24) - (1 : Int32)).toNatClampNeg := (Eq.trans (q_unIA h946 ma15 ra15 (by decide) (by decide)) (Eq.trans (q_unIA h935.1 ma15 ra15 (by decide) (by decide)) (Eq.trans (q_leI eS927) (Eq.trans (q_fwI ra15 ra924 (by decide)) (Eq.trans (q_fwI ra15 ra3 (by decide)) (q_fwI ra15 ra7 (by decide)))))))
            have e979 : q_fE (S945) o 33 (((q_I (S) o 24) - (1 : Int32) : Int32)).toNatClampNeg = q_I (S945) a15 ((q_I (S) o 24) - (1 : Int32)).toNatClampNeg := q_fEe (Eq.trans e966 (Eq.trans e279 ea15))
            have t980 := g_45_R34 hG mo ro
            have f981 : q_sm _ := g_69_E hG ma17 ra17 (k := ((q_I (S) o 24) - (1 : Int32)).toNatClampNeg)
            have e982 : q_I (S945) a17 ((q_I (S) o 24) - (1 : Int32)).toNatClampNeg = q_I (S257) a17 ((q_I (S) o 24) - (1 : Int32)).toNatClampNeg := (Eq.trans (q_unIA h946 ma17 ra17 (by decide) (by decide)) (Eq.trans (q_unIA h935.1 ma17 ra17 (by decide) (by decide)) (Eq.trans (q_leI eS927) (Eq.trans (q_fwI ra17 ra924 (by decide)) (Eq.trans (q_fwI ra17 ra3 (by decide)) (q_fwI ra17 ra7 (by decide)))))))
            have e983 : q_fE (S945) o 34 (((q_I (S) o 24) - (1 : Int32) : Int32)).toNatClampNeg = q_I (S945) a17 ((q_I (S) o 24) - (1 : Int32)).toNatClampNeg := q_fEe (Eq.trans e968 (Eq.trans e283 ea17))
            obtain ⟨v984, ev984⟩ := q_ev ((q_I (S945) o 24).toInt)
            have f985 : v984 = v19 := q_eqVI e970 ev984 ev19
            obtain ⟨v986, ev986⟩ := q_ev (((q_fE (S945) o 32 (((q_I (S) o 24) - (1 : Int32) : Int32)).toNatClampNeg) &&& (2 : Int32)).toInt)
            have f987 : v986 = v287 := q_eqVI e975 ev986 ev287
            obtain ⟨v988, ev988⟩ := q_ev ((q_fE (S945) o 33 (((q_I (S) o 24) - (1 : Int32) : Int32)).toNatClampNeg).toInt)
            obtain ⟨v989, ev989⟩ := q_ev ((q_I (S945) a15 ((q_I (S) o 24) - (1 : Int32)).toNatClampNeg).toInt)
            have f990 : v989 = v291 := q_eqVI e978 ev989 ev291
            have f991 : v988 = v989 := q_eqVI e979 ev988 ev989
            obtain ⟨v992, ev992⟩ := q_ev ((q_fE (S945) o 34 (((q_I (S) o 24) - (1 : Int32) : Int32)).toNatClampNeg).toInt)
            obtain ⟨v993, ev993⟩ := q_ev ((q_I (S945) a17 ((q_I (S) o 24) - (1 : Int32)).toNatClampNeg).toInt)
            have f994 : v993 = v295 := q_eqVI e982 ev993 ev295
            have f995 : v992 = v993 := q_eqVI e983 ev992 ev993
            have t996 := g_45_R29 hG mo ro
            have f997 : q_sm _ := g_64_E hG ma3 ra3 (k := ((q_I (S) o 24) - (1 : Int32)).toNatClampNeg)
            have e998 : q_I (S945) a3 ((q_I (S) o 24) - (1 : Int32)).toNatClampNeg = vp_nar .boolean ((1 : Int32)) := (Eq.trans (q_unIA h946 ma3 ra3 (by decide) (by decide)) (Eq.trans (q_unIA h935.1 ma3 ra3 (by decide) (by decide)) (Eq.trans (q_leI eS927) (Eq.trans (q_fwI ra3 ra924 (by decide)) q_hitI))))
            have e999 : q_fE (S945) o 29 (((q_I (S) o 24) - (1 : Int32) : Int32)).toNatClampNeg = q_I (S945) a3 ((q_I (S) o 24) - (1 : Int32)).toNatClampNeg := q_fEe (Eq.trans e962 (Eq.trans e435 (Eq.trans e302 ea3)))
            have t1000 := g_45_R26 hG mo ro
            have f1001 : q_sm _ := g_61_E hG ma7 ra7 (k := ((q_I (S) o 24) - (1 : Int32)).toNatClampNeg)
            have e1002 : q_I (S945) a7 ((q_I (S) o 24) - (1 : Int32)).toNatClampNeg = (q_I (S257) a7 ((q_I (S) o 24) - (1 : Int32)).toNatClampNeg) + r256 := (Eq.trans (q_unIA h946 ma7 ra7 (by decide) (by decide)) (Eq.trans (q_unIA h935.1 ma7 ra7 (by decide) (by decide)) (Eq.trans (q_leI eS927) (Eq.trans (q_fwI ra7 ra924 (by decide)) (Eq.trans (q_fwI ra7 ra3 (by decide)) q_hitI)))))
            have e1003 : q_fE (S945) o 26 (((q_I (S) o 24) - (1 : Int32) : Int32)).toNatClampNeg = q_I (S945) a7 ((q_I (S) o 24) - (1 : Int32)).toNatClampNeg := q_fEe (Eq.trans e960 (Eq.trans e300 (Eq.trans e253 ea7)))
            obtain ⟨v1004, ev1004⟩ := q_ev ((q_fE (S) o 29 (((q_I (S) o 24) - (1 : Int32) : Int32)).toNatClampNeg).toInt)
            have f1005 : v1004 = v62 := q_eqVI e5 ev1004 ev62
            obtain ⟨v1006, ev1006⟩ := q_ev ((q_fE (S945) o 29 (((q_I (S) o 24) - (1 : Int32) : Int32)).toNatClampNeg).toInt)
            obtain ⟨v1007, ev1007⟩ := q_ev ((q_I (S945) a3 ((q_I (S) o 24) - (1 : Int32)).toNatClampNeg).toInt)
            have f1008 : v1007 = v917 := q_eqVI e998 ev1007 ev917
            have f1009 : v1006 = v1007 := q_eqVI e999 ev1006 ev1007
            obtain ⟨v1010, ev1010⟩ := q_ev ((q_fE (S) o 26 (((q_I (S) o 24) - (1 : Int32) : Int32)).toNatClampNeg).toInt)
            have f1011 : v1010 = v269 := q_eqVI e9 ev1010 ev269
            obtain ⟨v1012, ev1012⟩ := q_ev ((q_fE (S945) o 26 (((q_I (S) o 24) - (1 : Int32) : Int32)).toNatClampNeg).toInt)
            obtain ⟨v1013, ev1013⟩ := q_ev ((q_I (S945) a7 ((q_I (S) o 24) - (1 : Int32)).toNatClampNeg).toInt)
            have f1014 : v1013 = v428 := q_eqVI e1002 ev1013 ev428
            have f1015 : v1012 = v1013 := q_eqVI e1003 ev1012 ev1013
            exact q_ok_some ⟨hG, (q_smI ⟨(q_N3xI (Eq.trans e950 ea22) (Eq.trans e952 ea24) (Eq.trans e954 ea26) (q_N3c n947 (q_bw2 (fun x0 x1 => x0 = x1) ev957 ev30 (by omega)) rfl)), (q_efxI (Eq.trans e960 (Eq.trans e300 (Eq.trans e253 ea7))) (Eq.trans e962 (Eq.trans e435 (Eq.trans e302 ea3))) (Eq.trans e964 (Eq.trans e437 (Eq.trans e274 ea13))) (Eq.trans e966 (Eq.trans e279 ea15)) (Eq.trans e968 (Eq.trans e283 ea17)) n948), (q_bw5 (fun x0 x1 x2 x3 x4 => x0 < x1 ∨ (x2 = 0 → 0 ≤ x3 ∧ 0 ≤ x4)) ev984 ev19 ev986 ev988 ev992 (by omega)), (q_bw6 (fun x0 x1 x2 x3 x4 x5 => x0 = x1 - 1 ∨ (x2 = 1 ∧ x0 = x1 ∧ x3 = 0) ∨ (x2 = 1 ∧ x4 + 6 ≤ x5 ∧ (x0 = x1 ∨ x0 = x1 + 1))) ev984 ev19 ev1004 ev1006 ev1010 ev1012 (by omega))⟩)⟩
          · have f1016 := q_neV q_evr (show q_eqv ((0 : Int32)).toInt (0) by unfold q_eqv; decide) (q_n_eq g942)
            refine q_ok_atS hG (q_trI mo ro) rfl (fun mo ro => ?_)
            refine q_ok_b (s_X12_isOpen_45 hn hG.1 mo ro (q_wd f932 (by decide) (by decide))) (fun r1017 S1018 h1019 => ?_)
            obtain ⟨eS1018, h1019⟩ := h1019
            replace eS1018 := eS1018.symm
            subst eS1018
            have f1020 := h1019
            refine q_ok_ite (fun g1021 => ?_) (fun g1021 => ?_)
            · have f1022 := q_eqV q_evr (show q_eqv ((0 : Int32)).toInt (0) by unfold q_eqv; decide) (q_p_eq g1021)
              refine q_ok_atS hG (q_trI mo ro) rfl (fun mo ro => ?_)
              have f1023 : q_sm _ := g_45_I24 hG mo ro
              have e1024 : q_I (S934) o 24 = q_I (S) o 24 := (Eq.trans (q_unI h935.1 mo ro (by decide)) (Eq.trans (q_leI eS927) (Eq.trans (q_fwI ro ra924 (by decide)) (Eq.trans (q_fwI ro ra3 (by decide)) (Eq.trans (q_fwI ro ra7 (by decide)) (Eq.trans (q_unI h258.1 mo ro (by decide)) (q_unI h248.1 mo ro (by decide))))))))
              obtain ⟨v1025, ev1025⟩ := q_ev ((q_I (S934) o 24).toInt)
              have f1026 : v1025 = v19 := q_eqVI e1024 ev1025 ev19
              refine q_ok_ite (fun g1027 => ?_) (fun g1027 => ?_)
              · have f1028 := q_leV ev1025 (show q_eqv ((5 : Int32)).toInt (5) by unfold q_eqv; decide) (q_p_le g1027)
                have t1032 := g_45_R26 hG mo ro
                have e1033 : q_R (S934) o 26 = q_R (S257) o 26 := (Eq.trans (q_unR h935.1 mo ro (by decide)) (Eq.trans (q_leR eS927) (Eq.trans q_skRI (Eq.trans q_skRI q_skRI))))
                have f1034 : q_sm _ := g_61_E hG ma7 ra7 (k := ((q_I (S) o 24) - (1 : Int32)).toNatClampNeg)
                have e1035 : q_I (S934) a7 ((q_I (S) o 24) - (1 : Int32)).toNatClampNeg = (q_I (S257) a7 ((q_I (S) o 24) - (1 : Int32)).toNatClampNeg) + r256 := (Eq.trans (q_unIA h935.1 ma7 ra7 (by decide) (by decide)) (Eq.trans (q_leI eS927) (Eq.trans (q_fwI ra7 ra924 (by decide)) (Eq.trans (q_fwI ra7 ra3 (by decide)) q_hitI))))
                have t1036 := g_45_R29 hG mo ro
                have e1037 : q_R (S934) o 29 = q_R (q_sI (S257) a7 ((q_I (S) o 24) - (1 : Int32)).toNatClampNeg ((q_I (S257) a7 ((q_I (S) o 24) - (1 : Int32)).toNatClampNeg) + r256)) o 29 := (Eq.trans (q_unR h935.1 mo ro (by decide)) (Eq.trans (q_leR eS927) (Eq.trans q_skRI q_skRI)))
                have f1038 : q_sm _ := g_64_E hG ma3 ra3 (k := ((q_I (S) o 24) - (1 : Int32)).toNatClampNeg)
                have e1039 : q_I (S934) a3 ((q_I (S) o 24) - (1 : Int32)).toNatClampNeg = vp_nar .boolean ((1 : Int32)) := (Eq.trans (q_unIA h935.1 ma3 ra3 (by decide) (by decide)) (Eq.trans (q_leI eS927) (Eq.trans (q_fwI ra3 ra924 (by decide)) q_hitI)))
                have t1040 := g_45_R19 hG mo ro
                have e1041 : q_R (S934) o 19 = q_R (S) o 19 := (Eq.trans (q_unR h935.1 mo ro (by decide)) (Eq.trans (q_leR eS927) (Eq.trans q_skRI (Eq.trans q_skRI (Eq.trans q_skRI (Eq.trans (q_unR h258.1 mo ro (by decide)) (q_unR h248.1 mo ro (by decide))))))))
                have t1042 := g_45_R28 hG mo ro
                have e1043 : q_R (S934) o 28 = q_R (S) o 28 := (Eq.trans (q_unR h935.1 mo ro (by decide)) (Eq.trans (q_leR eS927) (Eq.trans q_skRI (Eq.trans q_skRI (Eq.trans q_skRI (Eq.trans (q_unR h258.1 mo ro (by decide)) (q_unR h248.1 mo ro (by decide))))))))
                have t1044 := g_45_R27 hG mo ro
                have e1045 : q_R (S934) o 27 = q_R (S) o 27 := (Eq.trans (q_unR h935.1 mo ro (by decide)) (Eq.trans (q_leR eS927) (Eq.trans q_skRI (Eq.trans q_skRI (Eq.trans q_skRI (Eq.trans (q_unR h258.1 mo ro (by decide)) (q_unR h248.1 mo ro (by decide))))))))
                have f1046 : q_sm _ := g_45_I18 hG mo ro
                have e1047 : q_I (S934) o 18 = q_I (S) o 18 := (Eq.trans (q_unI h935.1 mo ro (by decide)) (Eq.trans (q_leI eS927) (Eq.trans (q_fwI ro ra924 (by decide)) (Eq.trans (q_fwI ro ra3 (by decide)) (Eq.trans (q_fwI ro ra7 (by decide)) (Eq.trans (q_unI h258.1 mo ro (by decide)) (q_unI h248.1 mo ro (by decide))))))))
                obtain ⟨v1048, ev1048⟩ := q_ev ((q_I (S934) o 18).toInt)
                have f1049 : v1048 = v30 := q_eqVI e1047 ev1048 ev30
                refine q_ok_b (s_X12_enter_45 hn hG.1 mo ro (q_oV ev939 (by omega) (by omega)) (q_N3xI (Eq.trans e1041 ea22) (Eq.trans e1043 ea24) (Eq.trans e1045 ea26) (q_N3c n937 (q_bw2 (fun x0 x1 => x0 = x1) ev1048 ev30 (by omega)) rfl)) (q_bw1 (fun x0 => x0 ≤ 5) ev1025 (by omega))) (fun r1029 S1030 h1031 => ?_)
                have hG := q_G_call hG h1031.1 (by decide)
                have f1050 := h1031.2.1
                have t1051 := g_45_R19 hG mo ro
                have e1052 : q_R (S1030) o 19 = q_R (S934) o 19 := (q_unR h1031.1 mo ro (by decide))
                have t1053 := g_45_R28 hG mo ro
                have e1054 : q_R (S1030) o 28 = q_R (S934) o 28 := (q_unR h1031.1 mo ro (by decide))
                have t1055 := g_45_R27 hG mo ro
                have e1056 : q_R (S1030) o 27 = q_R (S934) o 27 := (q_unR h1031.1 mo ro (by decide))
                have n1057 := ((q_smE (h1031.2.2)).1) _ _ _ (Eq.trans e1052 (Eq.trans e1041 ea22)) (Eq.trans e1054 (Eq.trans e1043 ea24)) (Eq.trans e1056 (Eq.trans e1045 ea26))
                have f1058 : q_sm _ := g_45_I18 hG mo ro
                have f1059 : q_sm _ := g_45_I14 hG mo ro
                obtain ⟨v1060, ev1060⟩ := q_ev ((q_I (S1030) o 18).toInt)
                have f1061 := q_bV ev1060 f1058
                obtain ⟨v1062, ev1062⟩ := q_ev ((q_I (S1030) o 14).toInt)
                have f1063 := q_bV ev1062 f1059
                have f1064 : 0 ≤ v1060 ∧ v1060 ≤ v1060 ∧ v1060 ≤ v1060 + 0 ∧ v1060 ≤ v1062 := q_to3 (fun x0 x1 x2 => 0 ≤ x0 ∧ x0 ≤ x1 ∧ x1 ≤ x0 + 0 ∧ x0 ≤ x2) ev1060 ev1060 ev1062 (q_N3lin n1057)
                have f1065 : q_sm _ := g_45_I24 hG mo ro
                obtain ⟨v1066, ev1066⟩ := q_ev ((q_I (S1030) o 24).toInt)
                have f1067 := q_bV ev1066 f1065
                have f1068 : r1029.toInt = 0 → v1066 = v1025 := q_to3 (fun x0 x1 x2 => x0 = 0 → x1 = x2) q_evr ev1066 ev1025 ((q_smE (h1031.2.2)).2.1)
                have f1069 : r1029.toInt = 1 → v1066 = v1025 + 1 := q_to3 (fun x0 x1 x2 => x0 = 1 → x1 = x2 + 1) q_evr ev1066 ev1025 ((q_smE (h1031.2.2)).2.2.1)
                have t1070 := g_45_R26 hG mo ro
                have e1071 : q_R (S1030) o 26 = q_R (S934) o 26 := (q_unR h1031.1 mo ro (by decide))
                have t1072 := g_45_R29 hG mo ro
                have e1073 : q_R (S1030) o 29 = q_R (S934) o 29 := (q_unR h1031.1 mo ro (by decide))
                have t1074 := g_45_R32 hG mo ro
                have e1075 : q_R (S1030) o 32 = q_R (q_sI (S257) a7 ((q_I (S) o 24) - (1 : Int32)).toNatClampNeg ((q_I (S257) a7 ((q_I (S) o 24) - (1 : Int32)).toNatClampNeg) + r256)) o 32 := (Eq.trans (q_unR h1031.1 mo ro (by decide)) (Eq.trans (q_unR h935.1 mo ro (by decide)) (Eq.trans (q_leR eS927) (Eq.trans q_skRI q_skRI))))
                have t1076 := g_45_R33 hG mo ro
                have e1077 : q_R (S1030) o 33 = q_R (S257) o 33 := (Eq.trans (q_unR h1031.1 mo ro (by decide)) (Eq.trans (q_unR h935.1 mo ro (by decide)) (Eq.trans (q_leR eS927) (Eq.trans q_skRI (Eq.trans q_skRI q_skRI)))))
                have t1078 := g_45_R34 hG mo ro
                have e1079 : q_R (S1030) o 34 = q_R (S257) o 34 := (Eq.trans (q_unR h1031.1 mo ro (by decide)) (Eq.trans (q_unR h935.1 mo ro (by decide)) (Eq.trans (q_leR eS927) (Eq.trans q_skRI (Eq.trans q_skRI q_skRI)))))
                have n1080 := ((q_smE (h1031.2.2)).2.2.2) _ _ _ _ _ (Eq.trans e1071 (Eq.trans e1033 (Eq.trans e300 (Eq.trans e253 ea7)))) (Eq.trans e1073 (Eq.trans e1037 (Eq.trans e435 (Eq.trans e302 ea3)))) (Eq.trans e1075 (Eq.trans e437 (Eq.trans e274 ea13))) (Eq.trans e1077 (Eq.trans e279 ea15)) (Eq.trans e1079 (Eq.trans e283 ea17))
                have e1081 : q_I (S1030) a7 ((q_I (S) o 24) - (1 : Int32)).toNatClampNeg = q_I (S934) a7 ((q_I (S) o 24) - (1 : Int32)).toNatClampNeg := (n1080 _ (q_clI (q_bw1 (fun x0 => 0 ≤ x0) ev60 (by omega)) (q_bw2 (fun x0 x1 => x0 < x1) ev60 ev1025 (by omega)))).1
                have e1082 : q_I (S1030) a3 ((q_I (S) o 24) - (1 : Int32)).toNatClampNeg = q_I (S934) a3 ((q_I (S) o 24) - (1 : Int32)).toNatClampNeg := (n1080 _ (q_clI (q_bw1 (fun x0 => 0 ≤ x0) ev60 (by omega)) (q_bw2 (fun x0 x1 => x0 < x1) ev60 ev1025 (by omega)))).2.1
                have n1083 := q_efT n938 n1080 (q_bw2 (fun x0 x1 => x0 - 1 ≤ x1) ev19 ev1025 (by omega))
                refine q_ok_ite (fun g1084 => ?_) (fun g1084 => ?_)
                · have f1085 := q_eqV q_evr (show q_eqv ((0 : Int32)).toInt (0) by unfold q_eqv; decide) (q_p_eq g1084)
                  refine q_ok_atS hG (q_trI mo ro) rfl (fun mo ro => ?_)
                  have t1089 := g_45_R32 hG mo ro
                  have f1090 : q_sm _ := g_67_E hG ma13 ra13 (k := ((q_I (S) o 24) - (1 : Int32)).toNatClampNeg)
                  have e1091 : q_I (S1030) a13 ((q_I (S) o 24) - (1 : Int32)).toNatClampNeg = q_I (q_sI (S257) a7 ((q_I (S) o 24) - (1 : Int32)).toNatClampNeg ((q_I (S257) a7 ((q_I (S) o 24) - (1 : Int32)).toNatClampNeg) + r256)) a13 ((q_I (S) o 24) - (1 : Int32)).toNatClampNeg := (Eq.trans (q_unIA h1031.1 ma13 ra13 (by decide) (by decide)) (Eq.trans (q_unIA h935.1 ma13 ra13 (by decide) (by decide)) (Eq.trans (q_leI eS927) (Eq.trans (q_fwI ra13 ra924 (by decide)) (q_fwI ra13 ra3 (by decide))))))
                  have e1092 : q_fE (S1030) o 32 (((q_I (S) o 24) - (1 : Int32) : Int32)).toNatClampNeg = q_I (S1030) a13 ((q_I (S) o 24) - (1 : Int32)).toNatClampNeg := q_fEe (Eq.trans e1075 (Eq.trans e437 (Eq.trans e274 ea13)))
                  have e1093 : (q_fE (S1030) o 32 (((q_I (S) o 24) - (1 : Int32) : Int32)).toNatClampNeg) &&& (2 : Int32) = (q_I (S257) a13 ((q_I (S) o 24) - (1 : Int32)).toNatClampNeg) &&& (2 : Int32) := congrArg (fun z : Int32 => z &&& (2 : Int32)) (Eq.trans e1092 (Eq.trans e1091 e439))
                  have t1094 := g_45_R33 hG mo ro
                  have f1095 : q_sm _ := g_68_E hG ma15 ra15 (k := ((q_I (S) o 24) - (1 : Int32)).toNatClampNeg)
                  have e1096 : q_I (S1030) a15 ((q_I (S) o 24) - (1 : Int32)).toNatClampNeg = q_I (S257) a15 ((q_I (S) o 24) - (1 : Int32)).toNatClampNeg := (Eq.trans (q_unIA h1031.1 ma15 ra15 (by decide) (by decide)) (Eq.trans (q_unIA h935.1 ma15 ra15 (by decide) (by decide)) (Eq.trans (q_leI eS927) (Eq.trans (q_fwI ra15 ra924 (by decide)) (Eq.trans (q_fwI ra15 ra3 (by decide)) (q_fwI ra15 ra7 (by decide)))))))
                  have e1097 : q_fE (S1030) o 33 (((q_I (S) o 24) - (1 : Int32) : Int32)).toNatClampNeg = q_I (S1030) a15 ((q_I (S) o 24) - (1 : Int32)).toNatClampNeg := q_fEe (Eq.trans e1077 (Eq.trans e279 ea15))
                  have t1098 := g_45_R34 hG mo ro
                  have f1099 : q_sm _ := g_69_E hG ma17 ra17 (k := ((q_I (S) o 24) - (1 : Int32)).toNatClampNeg)
                  have e1100 : q_I (S1030) a17 ((q_I (S) o 24) - (1 : Int32)).toNatClampNeg = q_I (S257) a17 ((q_I (S) o 24) - (1 : Int32)).toNatClampNeg := (Eq.trans (q_unIA h1031.1 ma17 ra17 (by decide) (by decide)) (Eq.trans (q_unIA h935.1 ma17 ra17 (by decide) (by decide)) (Eq.trans (q_leI eS927) (Eq.trans (q_fwI ra17 ra924 (by decide)) (Eq.trans (q_fwI ra17 ra3 (by decide)) (q_fwI ra17 ra7 (by decide)))))))
                  have e1101 : q_fE (S1030) o 34 (((q_I (S) o 24) - (1 : Int32) : Int32)).toNatClampNeg = q_I (S1030) a17 ((q_I (S) o 24) - (1 : Int32)).toNatClampNeg := q_fEe (Eq.trans e1079 (Eq.trans e283 ea17))
                  obtain ⟨v1102, ev1102⟩ := q_ev (((q_fE (S1030) o 32 (((q_I (S) o 24) - (1 : Int32) : Int32)).toNatClampNeg) &&& (2 : Int32)).toInt)
                  have f1103 : v1102 = v287 := q_eqVI e1093 ev1102 ev287
                  obtain ⟨v1104, ev1104⟩ := q_ev ((q_fE (S1030) o 33 (((q_I (S) o 24) - (1 : Int32) : Int32)).toNatClampNeg).toInt)
                  obtain ⟨v1105, ev1105⟩ := q_ev ((q_I (S1030) a15 ((q_I (S) o 24) - (1 : Int32)).toNatClampNeg).toInt)
                  have f1106 : v1105 = v291 := q_eqVI e1096 ev1105 ev291
                  have f1107 : v1104 = v1105 := q_eqVI e1097 ev1104 ev1105
                  obtain ⟨v1108, ev1108⟩ := q_ev ((q_fE (S1030) o 34 (((q_I (S) o 24) - (1 : Int32) : Int32)).toNatClampNeg).toInt)
                  obtain ⟨v1109, ev1109⟩ := q_ev ((q_I (S1030) a17 ((q_I (S) o 24) - (1 : Int32)).toNatClampNeg).toInt)
                  have f1110 : v1109 = v295 := q_eqVI e1100 ev1109 ev295
                  have f1111 : v1108 = v1109 := q_eqVI e1101 ev1108 ev1109
                  refine q_ok_b (s_X12_place_45 hn hG.1 mo ro (q_oV ev60 (by omega) (by omega)) (q_bw3 (fun x0 x1 x2 => x0 = 0 → 0 ≤ x1 ∧ 0 ≤ x2) ev1102 ev1104 ev1108 (by omega))) (fun r1086 S1087 h1088 => ?_)
                  have hG := q_G_call hG h1088 (by decide)
                  have n1112 := q_N3U h1088 mo ro ma22 ra22 ma24 ra24 ma26 ra26 rfl rfl rfl rfl rfl rfl n1057
                  have n1113 := q_efU h1088 ma7 ra7 ma3 ra3 ma13 ra13 ma15 ra15 ma17 ra17 rfl rfl rfl rfl rfl n1083
                  unfold m_X12_goOn_218
                  have t1114 := g_45_R19 hG mo ro
                  have e1115 : q_R (S1087) o 19 = q_R (S1030) o 19 := (q_unR h1088 mo ro (by decide))
                  have t1116 := g_45_R28 hG mo ro
                  have e1117 : q_R (S1087) o 28 = q_R (S1030) o 28 := (q_unR h1088 mo ro (by decide))
                  have t1118 := g_45_R27 hG mo ro
                  have e1119 : q_R (S1087) o 27 = q_R (S1030) o 27 := (q_unR h1088 mo ro (by decide))
                  have f1120 : q_sm _ := g_45_I18 hG mo ro
                  have e1121 : q_I (S1087) o 18 = q_I (S1030) o 18 := (q_unI h1088 mo ro (by decide))
                  obtain ⟨v1122, ev1122⟩ := q_ev ((q_I (S1087) o 18).toInt)
                  have f1123 : v1122 = v1060 := q_eqVI e1121 ev1122 ev1060
                  have t1124 := g_45_R26 hG mo ro
                  have e1125 : q_R (S1087) o 26 = q_R (S1030) o 26 := (q_unR h1088 mo ro (by decide))
                  have t1126 := g_45_R29 hG mo ro
                  have e1127 : q_R (S1087) o 29 = q_R (S1030) o 29 := (q_unR h1088 mo ro (by decide))
                  have t1128 := g_45_R32 hG mo ro
                  have e1129 : q_R (S1087) o 32 = q_R (S1030) o 32 := (q_unR h1088 mo ro (by decide))
                  have t1130 := g_45_R33 hG mo ro
                  have e1131 : q_R (S1087) o 33 = q_R (S1030) o 33 := (q_unR h1088 mo ro (by decide))
                  have t1132 := g_45_R34 hG mo ro
                  have e1133 : q_R (S1087) o 34 = q_R (S1030) o 34 := (q_unR h1088 mo ro (by decide))
                  have f1134 : q_sm _ := g_45_I24 hG mo ro
                  have e1135 : q_I (S1087) o 24 = q_I (S1030) o 24 := (q_unI h1088 mo ro (by decide))
                  have t1136 := g_45_R32 hG mo ro
                  have f1137 : q_sm _ := g_67_E hG ma13 ra13 (k := ((q_I (S) o 24) - (1 : Int32)).toNatClampNeg)
                  have e1138 : q_I (S1087) a13 ((q_I (S) o 24) - (1 : Int32)).toNatClampNeg = q_I (S1030) a13 ((q_I (S) o 24) - (1 : Int32)).toNatClampNeg := (q_unIA h1088 ma13 ra13 (by decide) (by decide))
                  have e1139 : q_fE (S1087) o 32 (((q_I (S) o 24) - (1 : Int32) : Int32)).toNatClampNeg = q_I (S1087) a13 ((q_I (S) o 24) - (1 : Int32)).toNatClampNeg := q_fEe (Eq.trans e1129 (Eq.trans e1075 (Eq.trans e437 (Eq.trans e274 ea13))))
                  have e1140 : (q_fE (S1087) o 32 (((q_I (S) o 24) - (1 : Int32) : Int32)).toNatClampNeg) &&& (2 : Int32) = (q_I (S257) a13 ((q_I (S) o 24) - (1 : Int32)).toNatClampNeg) &&& (2 : Int32) := congrArg (fun z : Int32 => z &&& (2 : Int32)) (Eq.trans e1139 (Eq.trans e1138 (Eq.trans e1091 e439)))
                  have t1141 := g_45_R33 hG mo ro
                  have f1142 : q_sm _ := g_68_E hG ma15 ra15 (k := ((q_I (S) o 24) - (1 : Int32)).toNatClampNeg)
                  have e1143 : q_I (S1087) a15 ((q_I (S) o 24) - (1 : Int32)).toNatClampNeg = q_I (S1030) a15 ((q_I (S) o 24) - (1 : Int32)).toNatClampNeg := (q_unIA h1088 ma15 ra15 (by decide) (by decide))
                  have e1144 : q_fE (S1087) o 33 (((q_I (S) o 24) - (1 : Int32) : Int32)).toNatClampNeg = q_I (S1087) a15 ((q_I (S) o 24) - (1 : Int32)).toNatClampNeg := q_fEe (Eq.trans e1131 (Eq.trans e1077 (Eq.trans e279 ea15)))
                  have t1145 := g_45_R34 hG mo ro
                  have f1146 : q_sm _ := g_69_E hG ma17 ra17 (k := ((q_I (S) o 24) - (1 : Int32)).toNatClampNeg)
                  have e1147 : q_I (S1087) a17 ((q_I (S) o 24) - (1 : Int32)).toNatClampNeg = q_I (S1030) a17 ((q_I (S) o 24) - (1 : Int32)).toNatClampNeg := (q_unIA h1088 ma17 ra17 (by decide) (by decide))
                  have e1148 : q_fE (S1087) o 34 (((q_I (S) o 24) - (1 : Int32) : Int32)).toNatClampNeg = q_I (S1087) a17 ((q_I (S) o 24) - (1 : Int32)).toNatClampNeg := q_fEe (Eq.trans e1133 (Eq.trans e1079 (Eq.trans e283 ea17)))
                  obtain ⟨v1149, ev1149⟩ := q_ev ((q_I (S1087) o 24).toInt)
                  have f1150 : v1149 = v1066 := q_eqVI e1135 ev1149 ev1066
                  obtain ⟨v1151, ev1151⟩ := q_ev (((q_fE (S1087) o 32 (((q_I (S) o 24) - (1 : Int32) : Int32)).toNatClampNeg) &&& (2 : Int32)).toInt)
                  have f1152 : v1151 = v287 := q_eqVI e1140 ev1151 ev287
                  obtain ⟨v1153, ev1153⟩ := q_ev ((q_fE (S1087) o 33 (((q_I (S) o 24) - (1 : Int32) : Int32)).toNatClampNeg).toInt)
                  obtain ⟨v1154, ev1154⟩ := q_ev ((q_I (S1087) a15 ((q_I (S) o 24) - (1 : Int32)).toNatClampNeg).toInt)
                  have f1155 : v1154 = v1105 := q_eqVI e1143 ev1154 ev1105
                  have f1156 : v1153 = v1154 := q_eqVI e1144 ev1153 ev1154
                  obtain ⟨v1157, ev1157⟩ := q_ev ((q_fE (S1087) o 34 (((q_I (S) o 24) - (1 : Int32) : Int32)).toNatClampNeg).toInt)
                  obtain ⟨v1158, ev1158⟩ := q_ev ((q_I (S1087) a17 ((q_I (S) o 24) - (1 : Int32)).toNatClampNeg).toInt)
                  have f1159 : v1158 = v1109 := q_eqVI e1147 ev1158 ev1109
                  have f1160 : v1157 = v1158 := q_eqVI e1148 ev1157 ev1158
                  have t1161 := g_45_R29 hG mo ro
                  have f1162 : q_sm _ := g_64_E hG ma3 ra3 (k := ((q_I (S) o 24) - (1 : Int32)).toNatClampNeg)
                  have e1163 : q_I (S1087) a3 ((q_I (S) o 24) - (1 : Int32)).toNatClampNeg = q_I (S1030) a3 ((q_I (S) o 24) - (1 : Int32)).toNatClampNeg := (q_unIA h1088 ma3 ra3 (by decide) (by decide))
                  have e1164 : q_fE (S1087) o 29 (((q_I (S) o 24) - (1 : Int32) : Int32)).toNatClampNeg = q_I (S1087) a3 ((q_I (S) o 24) - (1 : Int32)).toNatClampNeg := q_fEe (Eq.trans e1127 (Eq.trans e1073 (Eq.trans e1037 (Eq.trans e435 (Eq.trans e302 ea3)))))
                  have t1165 := g_45_R26 hG mo ro
                  have f1166 : q_sm _ := g_61_E hG ma7 ra7 (k := ((q_I (S) o 24) - (1 : Int32)).toNatClampNeg)
                  have e1167 : q_I (S1087) a7 ((q_I (S) o 24) - (1 : Int32)).toNatClampNeg = q_I (S1030) a7 ((q_I (S) o 24) - (1 : Int32)).toNatClampNeg := (q_unIA h1088 ma7 ra7 (by decide) (by decide))
                  have e1168 : q_fE (S1087) o 26 (((q_I (S) o 24) - (1 : Int32) : Int32)).toNatClampNeg = q_I (S1087) a7 ((q_I (S) o 24) - (1 : Int32)).toNatClampNeg := q_fEe (Eq.trans e1125 (Eq.trans e1071 (Eq.trans e1033 (Eq.trans e300 (Eq.trans e253 ea7)))))
                  obtain ⟨v1169, ev1169⟩ := q_ev ((q_fE (S) o 29 (((q_I (S) o 24) - (1 : Int32) : Int32)).toNatClampNeg).toInt)
                  have f1170 : v1169 = v62 := q_eqVI e5 ev1169 ev62
                  obtain ⟨v1171, ev1171⟩ := q_ev ((q_fE (S1087) o 29 (((q_I (S) o 24) - (1 : Int32) : Int32)).toNatClampNeg).toInt)
                  obtain ⟨v1172, ev1172⟩ := q_ev ((q_I (S1087) a3 ((q_I (S) o 24) - (1 : Int32)).toNatClampNeg).toInt)
                  obtain ⟨v1173, ev1173⟩ := q_ev ((q_I (S1030) a3 ((q_I (S) o 24) - (1 : Int32)).toNatClampNeg).toInt)
                  obtain ⟨v1174, ev1174⟩ := q_ev ((q_I (S934) a3 ((q_I (S) o 24) - (1 : Int32)).toNatClampNeg).toInt)
                  have f1175 : v1174 = v917 := q_eqVI e1039 ev1174 ev917
                  have f1176 : v1173 = v1174 := q_eqVI e1082 ev1173 ev1174
                  have f1177 : v1172 = v1173 := q_eqVI e1163 ev1172 ev1173
                  have f1178 : v1171 = v1172 := q_eqVI e1164 ev1171 ev1172
                  obtain ⟨v1179, ev1179⟩ := q_ev ((q_fE (S) o 26 (((q_I (S) o 24) - (1 : Int32) : Int32)).toNatClampNeg).toInt)
                  have f1180 : v1179 = v269 := q_eqVI e9 ev1179 ev269
                  obtain ⟨v1181, ev1181⟩ := q_ev ((q_fE (S1087) o 26 (((q_I (S) o 24) - (1 : Int32) : Int32)).toNatClampNeg).toInt)
                  obtain ⟨v1182, ev1182⟩ := q_ev ((q_I (S1087) a7 ((q_I (S) o 24) - (1 : Int32)).toNatClampNeg).toInt)
                  obtain ⟨v1183, ev1183⟩ := q_ev ((q_I (S1030) a7 ((q_I (S) o 24) - (1 : Int32)).toNatClampNeg).toInt)
                  obtain ⟨v1184, ev1184⟩ := q_ev ((q_I (S934) a7 ((q_I (S) o 24) - (1 : Int32)).toNatClampNeg).toInt)
                  have f1185 : v1184 = v428 := q_eqVI e1035 ev1184 ev428
                  have f1186 : v1183 = v1184 := q_eqVI e1081 ev1183 ev1184
                  have f1187 : v1182 = v1183 := q_eqVI e1167 ev1182 ev1183
                  have f1188 : v1181 = v1182 := q_eqVI e1168 ev1181 ev1182
                  exact q_ok_some ⟨hG, (q_smI ⟨(q_N3xI (Eq.trans e1115 (Eq.trans e1052 (Eq.trans e1041 ea22))) (Eq.trans e1117 (Eq.trans e1054 (Eq.trans e1043 ea24))) (Eq.trans e1119 (Eq.trans e1056 (Eq.trans e1045 ea26))) (q_N3c n1112 (q_bw2 (fun x0 x1 => x0 = x1) ev1122 ev1060 (by omega)) rfl)), (q_efxI (Eq.trans e1125 (Eq.trans e1071 (Eq.trans e1033 (Eq.trans e300 (Eq.trans e253 ea7))))) (Eq.trans e1127 (Eq.trans e1073 (Eq.trans e1037 (Eq.trans e435 (Eq.trans e302 ea3))))) (Eq.trans e1129 (Eq.trans e1075 (Eq.trans e437 (Eq.trans e274 ea13)))) (Eq.trans e1131 (Eq.trans e1077 (Eq.trans e279 ea15))) (Eq.trans e1133 (Eq.trans e1079 (Eq.trans e283 ea17))) n1113), (q_bw5 (fun x0 x1 x2 x3 x4 => x0 < x1 ∨ (x2 = 0 → 0 ≤ x3 ∧ 0 ≤ x4)) ev1149 ev19 ev1151 ev1153 ev1157 (by omega)), (q_bw6 (fun x0 x1 x2 x3 x4 x5 => x0 = x1 - 1 ∨ (x2 = 1 ∧ x0 = x1 ∧ x3 = 0) ∨ (x2 = 1 ∧ x4 + 6 ≤ x5 ∧ (x0 = x1 ∨ x0 = x1 + 1))) ev1149 ev19 ev1169 ev1171 ev1179 ev1181 (by omega))⟩)⟩
                · have f1189 := q_neV q_evr (show q_eqv ((0 : Int32)).toInt (0) by unfold q_eqv; decide) (q_n_eq g1084)
                  unfold m_X12_goOn_218
                  have t1190 := g_45_R19 hG mo ro
                  have t1191 := g_45_R28 hG mo ro
                  have t1192 := g_45_R27 hG mo ro
                  have t1193 := g_45_R26 hG mo ro
                  have t1194 := g_45_R29 hG mo ro
                  have t1195 := g_45_R32 hG mo ro
                  have t1196 := g_45_R33 hG mo ro
                  have t1197 := g_45_R34 hG mo ro
                  have t1198 := g_45_R32 hG mo ro
                  have f1199 : q_sm _ := g_67_E hG ma13 ra13 (k := ((q_I (S) o 24) - (1 : Int32)).toNatClampNeg)
                  have e1200 : q_I (S1030) a13 ((q_I (S) o 24) - (1 : Int32)).toNatClampNeg = q_I (q_sI (S257) a7 ((q_I (S) o 24) - (1 : Int32)).toNatClampNeg ((q_I (S257) a7 ((q_I (S) o 24) - (1 : Int32)).toNatClampNeg) + r256)) a13 ((q_I (S) o 24) - (1 : Int32)).toNatClampNeg := (Eq.trans (q_unIA h1031.1 ma13 ra13 (by decide) (by decide)) (Eq.trans (q_unIA h935.1 ma13 ra13 (by decide) (by decide)) (Eq.trans (q_leI eS927) (Eq.trans (q_fwI ra13 ra924 (by decide)) (q_fwI ra13 ra3 (by decide))))))
                  have e1201 : q_fE (S1030) o 32 (((q_I (S) o 24) - (1 : Int32) : Int32)).toNatClampNeg = q_I (S1030) a13 ((q_I (S) o 24) - (1 : Int32)).toNatClampNeg := q_fEe (Eq.trans e1075 (Eq.trans e437 (Eq.trans e274 ea13)))
                  have e1202 : (q_fE (S1030) o 32 (((q_I (S) o 24) - (1 : Int32) : Int32)).toNatClampNeg) &&& (2 : Int32) = (q_I (S257) a13 ((q_I (S) o 24) - (1 : Int32)).toNatClampNeg) &&& (2 : Int32) := congrArg (fun z : Int32 => z &&& (2 : Int32)) (Eq.trans e1201 (Eq.trans e1200 e439))
                  have t1203 := g_45_R33 hG mo ro
                  have f1204 : q_sm _ := g_68_E hG ma15 ra15 (k := ((q_I (S) o 24) - (1 : Int32)).toNatClampNeg)
                  have e1205 : q_I (S1030) a15 ((q_I (S) o 24) - (1 : Int32)).toNatClampNeg = q_I (S257) a15 ((q_I (S) o 24) - (1 : Int32)).toNatClampNeg := (Eq.trans (q_unIA h1031.1 ma15 ra15 (by decide) (by decide)) (Eq.trans (q_unIA h935.1 ma15 ra15 (by decide) (by decide)) (Eq.trans (q_leI eS927) (Eq.trans (q_fwI ra15 ra924 (by decide)) (Eq.trans (q_fwI ra15 ra3 (by decide)) (q_fwI ra15 ra7 (by decide)))))))
                  have e1206 : q_fE (S1030) o 33 (((q_I (S) o 24) - (1 : Int32) : Int32)).toNatClampNeg = q_I (S1030) a15 ((q_I (S) o 24) - (1 : Int32)).toNatClampNeg := q_fEe (Eq.trans e1077 (Eq.trans e279 ea15))
                  have t1207 := g_45_R34 hG mo ro
                  have f1208 : q_sm _ := g_69_E hG ma17 ra17 (k := ((q_I (S) o 24) - (1 : Int32)).toNatClampNeg)
                  have e1209 : q_I (S1030) a17 ((q_I (S) o 24) - (1 : Int32)).toNatClampNeg = q_I (S257) a17 ((q_I (S) o 24) - (1 : Int32)).toNatClampNeg := (Eq.trans (q_unIA h1031.1 ma17 ra17 (by decide) (by decide)) (Eq.trans (q_unIA h935.1 ma17 ra17 (by decide) (by decide)) (Eq.trans (q_leI eS927) (Eq.trans (q_fwI ra17 ra924 (by decide)) (Eq.trans (q_fwI ra17 ra3 (by decide)) (q_fwI ra17 ra7 (by decide)))))))
                  have e1210 : q_fE (S1030) o 34 (((q_I (S) o 24) - (1 : Int32) : Int32)).toNatClampNeg = q_I (S1030) a17 ((q_I (S) o 24) - (1 : Int32)).toNatClampNeg := q_fEe (Eq.trans e1079 (Eq.trans e283 ea17))
                  obtain ⟨v1211, ev1211⟩ := q_ev (((q_fE (S1030) o 32 (((q_I (S) o 24) - (1 : Int32) : Int32)).toNatClampNeg) &&& (2 : Int32)).toInt)
                  have f1212 : v1211 = v287 := q_eqVI e1202 ev1211 ev287
                  obtain ⟨v1213, ev1213⟩ := q_ev ((q_fE (S1030) o 33 (((q_I (S) o 24) - (1 : Int32) : Int32)).toNatClampNeg).toInt)
                  obtain ⟨v1214, ev1214⟩ := q_ev ((q_I (S1030) a15 ((q_I (S) o 24) - (1 : Int32)).toNatClampNeg).toInt)
                  have f1215 : v1214 = v291 := q_eqVI e1205 ev1214 ev291
                  have f1216 : v1213 = v1214 := q_eqVI e1206 ev1213 ev1214
                  obtain ⟨v1217, ev1217⟩ := q_ev ((q_fE (S1030) o 34 (((q_I (S) o 24) - (1 : Int32) : Int32)).toNatClampNeg).toInt)
                  obtain ⟨v1218, ev1218⟩ := q_ev ((q_I (S1030) a17 ((q_I (S) o 24) - (1 : Int32)).toNatClampNeg).toInt)
                  have f1219 : v1218 = v295 := q_eqVI e1209 ev1218 ev295
                  have f1220 : v1217 = v1218 := q_eqVI e1210 ev1217 ev1218
                  have t1221 := g_45_R29 hG mo ro
                  have f1222 : q_sm _ := g_64_E hG ma3 ra3 (k := ((q_I (S) o 24) - (1 : Int32)).toNatClampNeg)
                  have e1223 : q_fE (S1030) o 29 (((q_I (S) o 24) - (1 : Int32) : Int32)).toNatClampNeg = q_I (S1030) a3 ((q_I (S) o 24) - (1 : Int32)).toNatClampNeg := q_fEe (Eq.trans e1073 (Eq.trans e1037 (Eq.trans e435 (Eq.trans e302 ea3))))
                  have t1224 := g_45_R26 hG mo ro
                  have f1225 : q_sm _ := g_61_E hG ma7 ra7 (k := ((q_I (S) o 24) - (1 : Int32)).toNatClampNeg)
                  have e1226 : q_fE (S1030) o 26 (((q_I (S) o 24) - (1 : Int32) : Int32)).toNatClampNeg = q_I (S1030) a7 ((q_I (S) o 24) - (1 : Int32)).toNatClampNeg := q_fEe (Eq.trans e1071 (Eq.trans e1033 (Eq.trans e300 (Eq.trans e253 ea7))))
                  obtain ⟨v1227, ev1227⟩ := q_ev ((q_fE (S) o 29 (((q_I (S) o 24) - (1 : Int32) : Int32)).toNatClampNeg).toInt)
                  have f1228 : v1227 = v62 := q_eqVI e5 ev1227 ev62
                  obtain ⟨v1229, ev1229⟩ := q_ev ((q_fE (S1030) o 29 (((q_I (S) o 24) - (1 : Int32) : Int32)).toNatClampNeg).toInt)
                  obtain ⟨v1230, ev1230⟩ := q_ev ((q_I (S1030) a3 ((q_I (S) o 24) - (1 : Int32)).toNatClampNeg).toInt)
                  obtain ⟨v1231, ev1231⟩ := q_ev ((q_I (S934) a3 ((q_I (S) o 24) - (1 : Int32)).toNatClampNeg).toInt)
                  have f1232 : v1231 = v917 := q_eqVI e1039 ev1231 ev917
                  have f1233 : v1230 = v1231 := q_eqVI e1082 ev1230 ev1231
                  have f1234 : v1229 = v1230 := q_eqVI e1223 ev1229 ev1230
                  obtain ⟨v1235, ev1235⟩ := q_ev ((q_fE (S) o 26 (((q_I (S) o 24) - (1 : Int32) : Int32)).toNatClampNeg).toInt)
                  have f1236 : v1235 = v269 := q_eqVI e9 ev1235 ev269
                  obtain ⟨v1237, ev1237⟩ := q_ev ((q_fE (S1030) o 26 (((q_I (S) o 24) - (1 : Int32) : Int32)).toNatClampNeg).toInt)
                  obtain ⟨v1238, ev1238⟩ := q_ev ((q_I (S1030) a7 ((q_I (S) o 24) - (1 : Int32)).toNatClampNeg).toInt)
                  obtain ⟨v1239, ev1239⟩ := q_ev ((q_I (S934) a7 ((q_I (S) o 24) - (1 : Int32)).toNatClampNeg).toInt)
                  have f1240 : v1239 = v428 := q_eqVI e1035 ev1239 ev428
                  have f1241 : v1238 = v1239 := q_eqVI e1081 ev1238 ev1239
                  have f1242 : v1237 = v1238 := q_eqVI e1226 ev1237 ev1238
                  exact q_ok_some ⟨hG, (q_smI ⟨(q_N3xI (Eq.trans e1052 (Eq.trans e1041 ea22)) (Eq.trans e1054 (Eq.trans e1043 ea24)) (Eq.trans e1056 (Eq.trans e1045 ea26)) (q_N3c n1057 (q_bw2 (fun x0 x1 => x0 = x1) ev1060 ev1060 (by omega)) rfl)), (q_efxI (Eq.trans e1071 (Eq.trans e1033 (Eq.trans e300 (Eq.trans e253 ea7)))) (Eq.trans e1073 (Eq.trans e1037 (Eq.trans e435 (Eq.trans e302 ea3)))) (Eq.trans e1075 (Eq.trans e437 (Eq.trans e274 ea13))) (Eq.trans e1077 (Eq.trans e279 ea15)) (Eq.trans e1079 (Eq.trans e283 ea17)) n1083), (q_bw5 (fun x0 x1 x2 x3 x4 => x0 < x1 ∨ (x2 = 0 → 0 ≤ x3 ∧ 0 ≤ x4)) ev1066 ev19 ev1211 ev1213 ev1217 (by omega)), (q_bw6 (fun x0 x1 x2 x3 x4 x5 => x0 = x1 - 1 ∨ (x2 = 1 ∧ x0 = x1 ∧ x3 = 0) ∨ (x2 = 1 ∧ x4 + 6 ≤ x5 ∧ (x0 = x1 ∨ x0 = x1 + 1))) ev1066 ev19 ev1227 ev1229 ev1235 ev1237 (by omega))⟩)⟩
              · have f1243 := q_ltV (show q_eqv ((5 : Int32)).toInt (5) by unfold q_eqv; decide) ev1025 (q_n_le g1027)
                unfold m_X12_goOn_194
                refine q_ok_atS hG (q_trI mo ro) rfl (fun mo ro => ?_)
                refine q_ok_b (s_X12_tell_45 hn hG.1 mo ro (q_wd (show (4 : Int) ≤ (4 : Int32).toInt ∧ (4 : Int32).toInt ≤ (4 : Int) by decide) (by decide) (by decide)) (q_wd f932 (by decide) (by decide))) (fun r1244 S1245 h1246 => ?_)
                have hG := q_G_call hG h1246 (by decide)
                have n1247 := q_N3U h1246 mo ro ma22 ra22 ma24 ra24 ma26 ra26 rfl rfl rfl rfl rfl rfl n937
                have n1248 := q_efU h1246 ma7 ra7 ma3 ra3 ma13 ra13 ma15 ra15 ma17 ra17 rfl rfl rfl rfl rfl n938
                unfold m_X12_goOn_218
                have t1249 := g_45_R19 hG mo ro
                have e1250 : q_R (S1245) o 19 = q_R (S) o 19 := (Eq.trans (q_unR h1246 mo ro (by decide)) (Eq.trans (q_unR h935.1 mo ro (by decide)) (Eq.trans (q_leR eS927) (Eq.trans q_skRI (Eq.trans q_skRI (Eq.trans q_skRI (Eq.trans (q_unR h258.1 mo ro (by decide)) (q_unR h248.1 mo ro (by decide)))))))))
                have t1251 := g_45_R28 hG mo ro
                have e1252 : q_R (S1245) o 28 = q_R (S) o 28 := (Eq.trans (q_unR h1246 mo ro (by decide)) (Eq.trans (q_unR h935.1 mo ro (by decide)) (Eq.trans (q_leR eS927) (Eq.trans q_skRI (Eq.trans q_skRI (Eq.trans q_skRI (Eq.trans (q_unR h258.1 mo ro (by decide)) (q_unR h248.1 mo ro (by decide)))))))))
                have t1253 := g_45_R27 hG mo ro
                have e1254 : q_R (S1245) o 27 = q_R (S) o 27 := (Eq.trans (q_unR h1246 mo ro (by decide)) (Eq.trans (q_unR h935.1 mo ro (by decide)) (Eq.trans (q_leR eS927) (Eq.trans q_skRI (Eq.trans q_skRI (Eq.trans q_skRI (Eq.trans (q_unR h258.1 mo ro (by decide)) (q_unR h248.1 mo ro (by decide)))))))))
                have f1255 : q_sm _ := g_45_I18 hG mo ro
                have e1256 : q_I (S1245) o 18 = q_I (S) o 18 := (Eq.trans (q_unI h1246 mo ro (by decide)) (Eq.trans (q_unI h935.1 mo ro (by decide)) (Eq.trans (q_leI eS927) (Eq.trans (q_fwI ro ra924 (by decide)) (Eq.trans (q_fwI ro ra3 (by decide)) (Eq.trans (q_fwI ro ra7 (by decide)) (Eq.trans (q_unI h258.1 mo ro (by decide)) (q_unI h248.1 mo ro (by decide)))))))))
                obtain ⟨v1257, ev1257⟩ := q_ev ((q_I (S1245) o 18).toInt)
                have f1258 : v1257 = v30 := q_eqVI e1256 ev1257 ev30
                have t1259 := g_45_R26 hG mo ro
                have e1260 : q_R (S1245) o 26 = q_R (S257) o 26 := (Eq.trans (q_unR h1246 mo ro (by decide)) (Eq.trans (q_unR h935.1 mo ro (by decide)) (Eq.trans (q_leR eS927) (Eq.trans q_skRI (Eq.trans q_skRI q_skRI)))))
                have t1261 := g_45_R29 hG mo ro
                have e1262 : q_R (S1245) o 29 = q_R (q_sI (S257) a7 ((q_I (S) o 24) - (1 : Int32)).toNatClampNeg ((q_I (S257) a7 ((q_I (S) o 24) - (1 : Int32)).toNatClampNeg) + r256)) o 29 := (Eq.trans (q_unR h1246 mo ro (by decide)) (Eq.trans (q_unR h935.1 mo ro (by decide)) (Eq.trans (q_leR eS927) (Eq.trans q_skRI q_skRI))))
                have t1263 := g_45_R32 hG mo ro
                have e1264 : q_R (S1245) o 32 = q_R (q_sI (S257) a7 ((q_I (S) o 24) - (1 : Int32)).toNatClampNeg ((q_I (S257) a7 ((q_I (S) o 24) - (1 : Int32)).toNatClampNeg) + r256)) o 32 := (Eq.trans (q_unR h1246 mo ro (by decide)) (Eq.trans (q_unR h935.1 mo ro (by decide)) (Eq.trans (q_leR eS927) (Eq.trans q_skRI q_skRI))))
                have t1265 := g_45_R33 hG mo ro
                have e1266 : q_R (S1245) o 33 = q_R (S257) o 33 := (Eq.trans (q_unR h1246 mo ro (by decide)) (Eq.trans (q_unR h935.1 mo ro (by decide)) (Eq.trans (q_leR eS927) (Eq.trans q_skRI (Eq.trans q_skRI q_skRI)))))
                have t1267 := g_45_R34 hG mo ro
                have e1268 : q_R (S1245) o 34 = q_R (S257) o 34 := (Eq.trans (q_unR h1246 mo ro (by decide)) (Eq.trans (q_unR h935.1 mo ro (by decide)) (Eq.trans (q_leR eS927) (Eq.trans q_skRI (Eq.trans q_skRI q_skRI)))))
                have f1269 : q_sm _ := g_45_I24 hG mo ro
                have e1270 : q_I (S1245) o 24 = q_I (S934) o 24 := (q_unI h1246 mo ro (by decide))
                have t1271 := g_45_R32 hG mo ro
                have f1272 : q_sm _ := g_67_E hG ma13 ra13 (k := ((q_I (S) o 24) - (1 : Int32)).toNatClampNeg)
                have e1273 : q_I (S1245) a13 ((q_I (S) o 24) - (1 : Int32)).toNatClampNeg = q_I (q_sI (S257) a7 ((q_I (S) o 24) - (1 : Int32)).toNatClampNeg ((q_I (S257) a7 ((q_I (S) o 24) - (1 : Int32)).toNatClampNeg) + r256)) a13 ((q_I (S) o 24) - (1 : Int32)).toNatClampNeg := (Eq.trans (q_unIA h1246 ma13 ra13 (by decide) (by decide)) (Eq.trans (q_unIA h935.1 ma13 ra13 (by decide) (by decide)) (Eq.trans (q_leI eS927) (Eq.trans (q_fwI ra13 ra924 (by decide)) (q_fwI ra13 ra3 (by decide))))))
                have e1274 : q_fE (S1245) o 32 (((q_I (S) o 24) - (1 : Int32) : Int32)).toNatClampNeg = q_I (S1245) a13 ((q_I (S) o 24) - (1 : Int32)).toNatClampNeg := q_fEe (Eq.trans e1264 (Eq.trans e437 (Eq.trans e274 ea13)))
                have e1275 : (q_fE (S1245) o 32 (((q_I (S) o 24) - (1 : Int32) : Int32)).toNatClampNeg) &&& (2 : Int32) = (q_I (S257) a13 ((q_I (S) o 24) - (1 : Int32)).toNatClampNeg) &&& (2 : Int32) := congrArg (fun z : Int32 => z &&& (2 : Int32)) (Eq.trans e1274 (Eq.trans e1273 e439))
                have t1276 := g_45_R33 hG mo ro
                have f1277 : q_sm _ := g_68_E hG ma15 ra15 (k := ((q_I (S) o 24) - (1 : Int32)).toNatClampNeg)
                have e1278 : q_I (S1245) a15 ((q_I (S) o 24) - (1 : Int32)).toNatClampNeg = q_I (S257) a15 ((q_I (S) o 24) - (1 : Int32)).toNatClampNeg := (Eq.trans (q_unIA h1246 ma15 ra15 (by decide) (by decide)) (Eq.trans (q_unIA h935.1 ma15 ra15 (by decide) (by decide)) (Eq.trans (q_leI eS927) (Eq.trans (q_fwI ra15 ra924 (by decide)) (Eq.trans (q_fwI ra15 ra3 (by decide)) (q_fwI ra15 ra7 (by decide)))))))
                have e1279 : q_fE (S1245) o 33 (((q_I (S) o 24) - (1 : Int32) : Int32)).toNatClampNeg = q_I (S1245) a15 ((q_I (S) o 24) - (1 : Int32)).toNatClampNeg := q_fEe (Eq.trans e1266 (Eq.trans e279 ea15))
                have t1280 := g_45_R34 hG mo ro
                have f1281 : q_sm _ := g_69_E hG ma17 ra17 (k := ((q_I (S) o 24) - (1 : Int32)).toNatClampNeg)
                have e1282 : q_I (S1245) a17 ((q_I (S) o 24) - (1 : Int32)).toNatClampNeg = q_I (S257) a17 ((q_I (S) o 24) - (1 : Int32)).toNatClampNeg := (Eq.trans (q_unIA h1246 ma17 ra17 (by decide) (by decide)) (Eq.trans (q_unIA h935.1 ma17 ra17 (by decide) (by decide)) (Eq.trans (q_leI eS927) (Eq.trans (q_fwI ra17 ra924 (by decide)) (Eq.trans (q_fwI ra17 ra3 (by decide)) (q_fwI ra17 ra7 (by decide)))))))
                have e1283 : q_fE (S1245) o 34 (((q_I (S) o 24) - (1 : Int32) : Int32)).toNatClampNeg = q_I (S1245) a17 ((q_I (S) o 24) - (1 : Int32)).toNatClampNeg := q_fEe (Eq.trans e1268 (Eq.trans e283 ea17))
                obtain ⟨v1284, ev1284⟩ := q_ev ((q_I (S1245) o 24).toInt)
                have f1285 : v1284 = v1025 := q_eqVI e1270 ev1284 ev1025
                obtain ⟨v1286, ev1286⟩ := q_ev (((q_fE (S1245) o 32 (((q_I (S) o 24) - (1 : Int32) : Int32)).toNatClampNeg) &&& (2 : Int32)).toInt)
                have f1287 : v1286 = v287 := q_eqVI e1275 ev1286 ev287
                obtain ⟨v1288, ev1288⟩ := q_ev ((q_fE (S1245) o 33 (((q_I (S) o 24) - (1 : Int32) : Int32)).toNatClampNeg).toInt)
                obtain ⟨v1289, ev1289⟩ := q_ev ((q_I (S1245) a15 ((q_I (S) o 24) - (1 : Int32)).toNatClampNeg).toInt)
                have f1290 : v1289 = v291 := q_eqVI e1278 ev1289 ev291
                have f1291 : v1288 = v1289 := q_eqVI e1279 ev1288 ev1289
                obtain ⟨v1292, ev1292⟩ := q_ev ((q_fE (S1245) o 34 (((q_I (S) o 24) - (1 : Int32) : Int32)).toNatClampNeg).toInt)
                obtain ⟨v1293, ev1293⟩ := q_ev ((q_I (S1245) a17 ((q_I (S) o 24) - (1 : Int32)).toNatClampNeg).toInt)
                have f1294 : v1293 = v295 := q_eqVI e1282 ev1293 ev295
                have f1295 : v1292 = v1293 := q_eqVI e1283 ev1292 ev1293
                have t1296 := g_45_R29 hG mo ro
                have f1297 : q_sm _ := g_64_E hG ma3 ra3 (k := ((q_I (S) o 24) - (1 : Int32)).toNatClampNeg)
                have e1298 : q_I (S1245) a3 ((q_I (S) o 24) - (1 : Int32)).toNatClampNeg = vp_nar .boolean ((1 : Int32)) := (Eq.trans (q_unIA h1246 ma3 ra3 (by decide) (by decide)) (Eq.trans (q_unIA h935.1 ma3 ra3 (by decide) (by decide)) (Eq.trans (q_leI eS927) (Eq.trans (q_fwI ra3 ra924 (by decide)) q_hitI))))
                have e1299 : q_fE (S1245) o 29 (((q_I (S) o 24) - (1 : Int32) : Int32)).toNatClampNeg = q_I (S1245) a3 ((q_I (S) o 24) - (1 : Int32)).toNatClampNeg := q_fEe (Eq.trans e1262 (Eq.trans e435 (Eq.trans e302 ea3)))
                have t1300 := g_45_R26 hG mo ro
                have f1301 : q_sm _ := g_61_E hG ma7 ra7 (k := ((q_I (S) o 24) - (1 : Int32)).toNatClampNeg)
                have e1302 : q_I (S1245) a7 ((q_I (S) o 24) - (1 : Int32)).toNatClampNeg = (q_I (S257) a7 ((q_I (S) o 24) - (1 : Int32)).toNatClampNeg) + r256 := (Eq.trans (q_unIA h1246 ma7 ra7 (by decide) (by decide)) (Eq.trans (q_unIA h935.1 ma7 ra7 (by decide) (by decide)) (Eq.trans (q_leI eS927) (Eq.trans (q_fwI ra7 ra924 (by decide)) (Eq.trans (q_fwI ra7 ra3 (by decide)) q_hitI)))))
                have e1303 : q_fE (S1245) o 26 (((q_I (S) o 24) - (1 : Int32) : Int32)).toNatClampNeg = q_I (S1245) a7 ((q_I (S) o 24) - (1 : Int32)).toNatClampNeg := q_fEe (Eq.trans e1260 (Eq.trans e300 (Eq.trans e253 ea7)))
                obtain ⟨v1304, ev1304⟩ := q_ev ((q_fE (S) o 29 (((q_I (S) o 24) - (1 : Int32) : Int32)).toNatClampNeg).toInt)
                have f1305 : v1304 = v62 := q_eqVI e5 ev1304 ev62
                obtain ⟨v1306, ev1306⟩ := q_ev ((q_fE (S1245) o 29 (((q_I (S) o 24) - (1 : Int32) : Int32)).toNatClampNeg).toInt)
                obtain ⟨v1307, ev1307⟩ := q_ev ((q_I (S1245) a3 ((q_I (S) o 24) - (1 : Int32)).toNatClampNeg).toInt)
                have f1308 : v1307 = v917 := q_eqVI e1298 ev1307 ev917
                have f1309 : v1306 = v1307 := q_eqVI e1299 ev1306 ev1307
                obtain ⟨v1310, ev1310⟩ := q_ev ((q_fE (S) o 26 (((q_I (S) o 24) - (1 : Int32) : Int32)).toNatClampNeg).toInt)
                have f1311 : v1310 = v269 := q_eqVI e9 ev1310 ev269
                obtain ⟨v1312, ev1312⟩ := q_ev ((q_fE (S1245) o 26 (((q_I (S) o 24) - (1 : Int32) : Int32)).toNatClampNeg).toInt)
                obtain ⟨v1313, ev1313⟩ := q_ev ((q_I (S1245) a7 ((q_I (S) o 24) - (1 : Int32)).toNatClampNeg).toInt)
                have f1314 : v1313 = v428 := q_eqVI e1302 ev1313 ev428
                have f1315 : v1312 = v1313 := q_eqVI e1303 ev1312 ev1313
                exact q_ok_some ⟨hG, (q_smI ⟨(q_N3xI (Eq.trans e1250 ea22) (Eq.trans e1252 ea24) (Eq.trans e1254 ea26) (q_N3c n1247 (q_bw2 (fun x0 x1 => x0 = x1) ev1257 ev30 (by omega)) rfl)), (q_efxI (Eq.trans e1260 (Eq.trans e300 (Eq.trans e253 ea7))) (Eq.trans e1262 (Eq.trans e435 (Eq.trans e302 ea3))) (Eq.trans e1264 (Eq.trans e437 (Eq.trans e274 ea13))) (Eq.trans e1266 (Eq.trans e279 ea15)) (Eq.trans e1268 (Eq.trans e283 ea17)) n1248), (q_bw5 (fun x0 x1 x2 x3 x4 => x0 < x1 ∨ (x2 = 0 → 0 ≤ x3 ∧ 0 ≤ x4)) ev1284 ev19 ev1286 ev1288 ev1292 (by omega)), (q_bw6 (fun x0 x1 x2 x3 x4 x5 => x0 = x1 - 1 ∨ (x2 = 1 ∧ x0 = x1 ∧ x3 = 0) ∨ (x2 = 1 ∧ x4 + 6 ≤ x5 ∧ (x0 = x1 ∨ x0 = x1 + 1))) ev1284 ev19 ev1304 ev1306 ev1310 ev1312 (by omega))⟩)⟩
            · have f1316 := q_neV q_evr (show q_eqv ((0 : Int32)).toInt (0) by unfold q_eqv; decide) (q_n_eq g1021)
              unfold m_X12_goOn_194
              refine q_ok_atS hG (q_trI mo ro) rfl (fun mo ro => ?_)
              refine q_ok_b (s_X12_tell_45 hn hG.1 mo ro (q_wd (show (4 : Int) ≤ (4 : Int32).toInt ∧ (4 : Int32).toInt ≤ (4 : Int) by decide) (by decide) (by decide)) (q_wd f932 (by decide) (by decide))) (fun r1317 S1318 h1319 => ?_)
              have hG := q_G_call hG h1319 (by decide)
              have n1320 := q_N3U h1319 mo ro ma22 ra22 ma24 ra24 ma26 ra26 rfl rfl rfl rfl rfl rfl n937
              have n1321 := q_efU h1319 ma7 ra7 ma3 ra3 ma13 ra13 ma15 ra15 ma17 ra17 rfl rfl rfl rfl rfl n938
              unfold m_X12_goOn_218
              have t1322 := g_45_R19 hG mo ro
              have e1323 : q_R (S1318) o 19 = q_R (S) o 19 := (Eq.trans (q_unR h1319 mo ro (by decide)) (Eq.trans (q_unR h935.1 mo ro (by decide)) (Eq.trans (q_leR eS927) (Eq.trans q_skRI (Eq.trans q_skRI (Eq.trans q_skRI (Eq.trans (q_unR h258.1 mo ro (by decide)) (q_unR h248.1 mo ro (by decide)))))))))
              have t1324 := g_45_R28 hG mo ro
              have e1325 : q_R (S1318) o 28 = q_R (S) o 28 := (Eq.trans (q_unR h1319 mo ro (by decide)) (Eq.trans (q_unR h935.1 mo ro (by decide)) (Eq.trans (q_leR eS927) (Eq.trans q_skRI (Eq.trans q_skRI (Eq.trans q_skRI (Eq.trans (q_unR h258.1 mo ro (by decide)) (q_unR h248.1 mo ro (by decide)))))))))
              have t1326 := g_45_R27 hG mo ro
              have e1327 : q_R (S1318) o 27 = q_R (S) o 27 := (Eq.trans (q_unR h1319 mo ro (by decide)) (Eq.trans (q_unR h935.1 mo ro (by decide)) (Eq.trans (q_leR eS927) (Eq.trans q_skRI (Eq.trans q_skRI (Eq.trans q_skRI (Eq.trans (q_unR h258.1 mo ro (by decide)) (q_unR h248.1 mo ro (by decide)))))))))
              have f1328 : q_sm _ := g_45_I18 hG mo ro
              have e1329 : q_I (S1318) o 18 = q_I (S) o 18 := (Eq.trans (q_unI h1319 mo ro (by decide)) (Eq.trans (q_unI h935.1 mo ro (by decide)) (Eq.trans (q_leI eS927) (Eq.trans (q_fwI ro ra924 (by decide)) (Eq.trans (q_fwI ro ra3 (by decide)) (Eq.trans (q_fwI ro ra7 (by decide)) (Eq.trans (q_unI h258.1 mo ro (by decide)) (q_unI h248.1 mo ro (by decide)))))))))
              obtain ⟨v1330, ev1330⟩ := q_ev ((q_I (S1318) o 18).toInt)
              have f1331 : v1330 = v30 := q_eqVI e1329 ev1330 ev30
              have t1332 := g_45_R26 hG mo ro
              have e1333 : q_R (S1318) o 26 = q_R (S257) o 26 := (Eq.trans (q_unR h1319 mo ro (by decide)) (Eq.trans (q_unR h935.1 mo ro (by decide)) (Eq.trans (q_leR eS927) (Eq.trans q_skRI (Eq.trans q_skRI q_skRI)))))
              have t1334 := g_45_R29 hG mo ro
              have e1335 : q_R (S1318) o 29 = q_R (q_sI (S257) a7 ((q_I (S) o 24) - (1 : Int32)).toNatClampNeg ((q_I (S257) a7 ((q_I (S) o 24) - (1 : Int32)).toNatClampNeg) + r256)) o 29 := (Eq.trans (q_unR h1319 mo ro (by decide)) (Eq.trans (q_unR h935.1 mo ro (by decide)) (Eq.trans (q_leR eS927) (Eq.trans q_skRI q_skRI))))
              have t1336 := g_45_R32 hG mo ro
              have e1337 : q_R (S1318) o 32 = q_R (q_sI (S257) a7 ((q_I (S) o 24) - (1 : Int32)).toNatClampNeg ((q_I (S257) a7 ((q_I (S) o 24) - (1 : Int32)).toNatClampNeg) + r256)) o 32 := (Eq.trans (q_unR h1319 mo ro (by decide)) (Eq.trans (q_unR h935.1 mo ro (by decide)) (Eq.trans (q_leR eS927) (Eq.trans q_skRI q_skRI))))
              have t1338 := g_45_R33 hG mo ro
              have e1339 : q_R (S1318) o 33 = q_R (S257) o 33 := (Eq.trans (q_unR h1319 mo ro (by decide)) (Eq.trans (q_unR h935.1 mo ro (by decide)) (Eq.trans (q_leR eS927) (Eq.trans q_skRI (Eq.trans q_skRI q_skRI)))))
              have t1340 := g_45_R34 hG mo ro
              have e1341 : q_R (S1318) o 34 = q_R (S257) o 34 := (Eq.trans (q_unR h1319 mo ro (by decide)) (Eq.trans (q_unR h935.1 mo ro (by decide)) (Eq.trans (q_leR eS927) (Eq.trans q_skRI (Eq.trans q_skRI q_skRI)))))
              have f1342 : q_sm _ := g_45_I24 hG mo ro
              have e1343 : q_I (S1318) o 24 = q_I (S) o 24 := (Eq.trans (q_unI h1319 mo ro (by decide)) (Eq.trans (q_unI h935.1 mo ro (by decide)) (Eq.trans (q_leI eS927) (Eq.trans (q_fwI ro ra924 (by decide)) (Eq.trans (q_fwI ro ra3 (by decide)) (Eq.trans (q_fwI ro ra7 (by decide)) (Eq.trans (q_unI h258.1 mo ro (by decide)) (q_unI h248.1 mo ro (by decide)))))))))
              have t1344 := g_45_R32 hG mo ro
              have f1345 : q_sm _ := g_67_E hG ma13 ra13 (k := ((q_I (S) o 24) - (1 : Int32)).toNatClampNeg)
              have e1346 : q_I (S1318) a13 ((q_I (S) o 24) - (1 : Int32)).toNatClampNeg = q_I (q_sI (S257) a7 ((q_I (S) o 24) - (1 : Int32)).toNatClampNeg ((q_I (S257) a7 ((q_I (S) o 24) - (1 : Int32)).toNatClampNeg) + r256)) a13 ((q_I (S) o 24) - (1 : Int32)).toNatClampNeg := (Eq.trans (q_unIA h1319 ma13 ra13 (by decide) (by decide)) (Eq.trans (q_unIA h935.1 ma13 ra13 (by decide) (by decide)) (Eq.trans (q_leI eS927) (Eq.trans (q_fwI ra13 ra924 (by decide)) (q_fwI ra13 ra3 (by decide))))))
              have e1347 : q_fE (S1318) o 32 (((q_I (S) o 24) - (1 : Int32) : Int32)).toNatClampNeg = q_I (S1318) a13 ((q_I (S) o 24) - (1 : Int32)).toNatClampNeg := q_fEe (Eq.trans e1337 (Eq.trans e437 (Eq.trans e274 ea13)))
              have e1348 : (q_fE (S1318) o 32 (((q_I (S) o 24) - (1 : Int32) : Int32)).toNatClampNeg) &&& (2 : Int32) = (q_I (S257) a13 ((q_I (S) o 24) - (1 : Int32)).toNatClampNeg) &&& (2 : Int32) := congrArg (fun z : Int32 => z &&& (2 : Int32)) (Eq.trans e1347 (Eq.trans e1346 e439))
              have t1349 := g_45_R33 hG mo ro
              have f1350 : q_sm _ := g_68_E hG ma15 ra15 (k := ((q_I (S) o 24) - (1 : Int32)).toNatClampNeg)
              have e1351 : q_I (S1318) a15 ((q_I (S) o 24) - (1 : Int32)).toNatClampNeg = q_I (S257) a15 ((q_I (S) o 24) - (1 : Int32)).toNatClampNeg := (Eq.trans (q_unIA h1319 ma15 ra15 (by decide) (by decide)) (Eq.trans (q_unIA h935.1 ma15 ra15 (by decide) (by decide)) (Eq.trans (q_leI eS927) (Eq.trans (q_fwI ra15 ra924 (by decide)) (Eq.trans (q_fwI ra15 ra3 (by decide)) (q_fwI ra15 ra7 (by decide)))))))
              have e1352 : q_fE (S1318) o 33 (((q_I (S) o 24) - (1 : Int32) : Int32)).toNatClampNeg = q_I (S1318) a15 ((q_I (S) o 24) - (1 : Int32)).toNatClampNeg := q_fEe (Eq.trans e1339 (Eq.trans e279 ea15))
              have t1353 := g_45_R34 hG mo ro
              have f1354 : q_sm _ := g_69_E hG ma17 ra17 (k := ((q_I (S) o 24) - (1 : Int32)).toNatClampNeg)
              have e1355 : q_I (S1318) a17 ((q_I (S) o 24) - (1 : Int32)).toNatClampNeg = q_I (S257) a17 ((q_I (S) o 24) - (1 : Int32)).toNatClampNeg := (Eq.trans (q_unIA h1319 ma17 ra17 (by decide) (by decide)) (Eq.trans (q_unIA h935.1 ma17 ra17 (by decide) (by decide)) (Eq.trans (q_leI eS927) (Eq.trans (q_fwI ra17 ra924 (by decide)) (Eq.trans (q_fwI ra17 ra3 (by decide)) (q_fwI ra17 ra7 (by decide)))))))
              have e1356 : q_fE (S1318) o 34 (((q_I (S) o 24) - (1 : Int32) : Int32)).toNatClampNeg = q_I (S1318) a17 ((q_I (S) o 24) - (1 : Int32)).toNatClampNeg := q_fEe (Eq.trans e1341 (Eq.trans e283 ea17))
              obtain ⟨v1357, ev1357⟩ := q_ev ((q_I (S1318) o 24).toInt)
              have f1358 : v1357 = v19 := q_eqVI e1343 ev1357 ev19
              obtain ⟨v1359, ev1359⟩ := q_ev (((q_fE (S1318) o 32 (((q_I (S) o 24) - (1 : Int32) : Int32)).toNatClampNeg) &&& (2 : Int32)).toInt)
              have f1360 : v1359 = v287 := q_eqVI e1348 ev1359 ev287
              obtain ⟨v1361, ev1361⟩ := q_ev ((q_fE (S1318) o 33 (((q_I (S) o 24) - (1 : Int32) : Int32)).toNatClampNeg).toInt)
              obtain ⟨v1362, ev1362⟩ := q_ev ((q_I (S1318) a15 ((q_I (S) o 24) - (1 : Int32)).toNatClampNeg).toInt)
              have f1363 : v1362 = v291 := q_eqVI e1351 ev1362 ev291
              have f1364 : v1361 = v1362 := q_eqVI e1352 ev1361 ev1362
              obtain ⟨v1365, ev1365⟩ := q_ev ((q_fE (S1318) o 34 (((q_I (S) o 24) - (1 : Int32) : Int32)).toNatClampNeg).toInt)
              obtain ⟨v1366, ev1366⟩ := q_ev ((q_I (S1318) a17 ((q_I (S) o 24) - (1 : Int32)).toNatClampNeg).toInt)
              have f1367 : v1366 = v295 := q_eqVI e1355 ev1366 ev295
              have f1368 : v1365 = v1366 := q_eqVI e1356 ev1365 ev1366
              have t1369 := g_45_R29 hG mo ro
              have f1370 : q_sm _ := g_64_E hG ma3 ra3 (k := ((q_I (S) o 24) - (1 : Int32)).toNatClampNeg)
              have e1371 : q_I (S1318) a3 ((q_I (S) o 24) - (1 : Int32)).toNatClampNeg = vp_nar .boolean ((1 : Int32)) := (Eq.trans (q_unIA h1319 ma3 ra3 (by decide) (by decide)) (Eq.trans (q_unIA h935.1 ma3 ra3 (by decide) (by decide)) (Eq.trans (q_leI eS927) (Eq.trans (q_fwI ra3 ra924 (by decide)) q_hitI))))
              have e1372 : q_fE (S1318) o 29 (((q_I (S) o 24) - (1 : Int32) : Int32)).toNatClampNeg = q_I (S1318) a3 ((q_I (S) o 24) - (1 : Int32)).toNatClampNeg := q_fEe (Eq.trans e1335 (Eq.trans e435 (Eq.trans e302 ea3)))
              have t1373 := g_45_R26 hG mo ro
              have f1374 : q_sm _ := g_61_E hG ma7 ra7 (k := ((q_I (S) o 24) - (1 : Int32)).toNatClampNeg)
              have e1375 : q_I (S1318) a7 ((q_I (S) o 24) - (1 : Int32)).toNatClampNeg = (q_I (S257) a7 ((q_I (S) o 24) - (1 : Int32)).toNatClampNeg) + r256 := (Eq.trans (q_unIA h1319 ma7 ra7 (by decide) (by decide)) (Eq.trans (q_unIA h935.1 ma7 ra7 (by decide) (by decide)) (Eq.trans (q_leI eS927) (Eq.trans (q_fwI ra7 ra924 (by decide)) (Eq.trans (q_fwI ra7 ra3 (by decide)) q_hitI)))))
              have e1376 : q_fE (S1318) o 26 (((q_I (S) o 24) - (1 : Int32) : Int32)).toNatClampNeg = q_I (S1318) a7 ((q_I (S) o 24) - (1 : Int32)).toNatClampNeg := q_fEe (Eq.trans e1333 (Eq.trans e300 (Eq.trans e253 ea7)))
              obtain ⟨v1377, ev1377⟩ := q_ev ((q_fE (S) o 29 (((q_I (S) o 24) - (1 : Int32) : Int32)).toNatClampNeg).toInt)
              have f1378 : v1377 = v62 := q_eqVI e5 ev1377 ev62
              obtain ⟨v1379, ev1379⟩ := q_ev ((q_fE (S1318) o 29 (((q_I (S) o 24) - (1 : Int32) : Int32)).toNatClampNeg).toInt)
              obtain ⟨v1380, ev1380⟩ := q_ev ((q_I (S1318) a3 ((q_I (S) o 24) - (1 : Int32)).toNatClampNeg).toInt)
              have f1381 : v1380 = v917 := q_eqVI e1371 ev1380 ev917
              have f1382 : v1379 = v1380 := q_eqVI e1372 ev1379 ev1380
              obtain ⟨v1383, ev1383⟩ := q_ev ((q_fE (S) o 26 (((q_I (S) o 24) - (1 : Int32) : Int32)).toNatClampNeg).toInt)
              have f1384 : v1383 = v269 := q_eqVI e9 ev1383 ev269
              obtain ⟨v1385, ev1385⟩ := q_ev ((q_fE (S1318) o 26 (((q_I (S) o 24) - (1 : Int32) : Int32)).toNatClampNeg).toInt)
              obtain ⟨v1386, ev1386⟩ := q_ev ((q_I (S1318) a7 ((q_I (S) o 24) - (1 : Int32)).toNatClampNeg).toInt)
              have f1387 : v1386 = v428 := q_eqVI e1375 ev1386 ev428
              have f1388 : v1385 = v1386 := q_eqVI e1376 ev1385 ev1386
              exact q_ok_some ⟨hG, (q_smI ⟨(q_N3xI (Eq.trans e1323 ea22) (Eq.trans e1325 ea24) (Eq.trans e1327 ea26) (q_N3c n1320 (q_bw2 (fun x0 x1 => x0 = x1) ev1330 ev30 (by omega)) rfl)), (q_efxI (Eq.trans e1333 (Eq.trans e300 (Eq.trans e253 ea7))) (Eq.trans e1335 (Eq.trans e435 (Eq.trans e302 ea3))) (Eq.trans e1337 (Eq.trans e437 (Eq.trans e274 ea13))) (Eq.trans e1339 (Eq.trans e279 ea15)) (Eq.trans e1341 (Eq.trans e283 ea17)) n1321), (q_bw5 (fun x0 x1 x2 x3 x4 => x0 < x1 ∨ (x2 = 0 → 0 ≤ x3 ∧ 0 ≤ x4)) ev1357 ev19 ev1359 ev1361 ev1365 (by omega)), (q_bw6 (fun x0 x1 x2 x3 x4 x5 => x0 = x1 - 1 ∨ (x2 = 1 ∧ x0 = x1 ∧ x3 = 0) ∨ (x2 = 1 ∧ x4 + 6 ≤ x5 ∧ (x0 = x1 ∨ x0 = x1 + 1))) ev1357 ev19 ev1377 ev1379 ev1383 ev1385 (by omega))⟩)⟩
      · have f1389 := q_neV ev263 (show q_eqv ((0 : Int32)).toInt (0) by unfold q_eqv; decide) (q_n_eq g423)
        unfold m_X12_goOn_78
        refine q_ok_atS hG (q_trI mo ro) rfl (fun mo ro => ?_)
        have t1390 := g_45_R27 hG mo ro
        have e1391 : q_R (S257) o 27 = q_R (S) o 27 := (Eq.trans (q_unR h258.1 mo ro (by decide)) (q_unR h248.1 mo ro (by decide)))
        refine q_ok_atA hG (Eq.trans e1391 ea26) ma26 ra26 rfl ?_
        refine q_ok_if (q_inV (g_62_N hG ma26 ra26) ev60 (by omega) (by omega)) ?_
        have f1392 : q_sm _ := g_62_E hG ma26 ra26 (k := ((q_I (S) o 24) - (1 : Int32)).toNatClampNeg)
        have hG := u_45_I14 (x := q_I (S257) a26 ((q_I (S) o 24) - (1 : Int32)).toNatClampNeg) hG mo ro (by decide) (q_wd f1392 (by decide) (by decide))
        have f1393 : q_sm _ := g_45_I18 hG mo ro
        have e1394 : q_I (S257) o 18 = q_I (S) o 18 := (Eq.trans (q_unI h258.1 mo ro (by decide)) (q_unI h248.1 mo ro (by decide)))
        have f1395 : q_sm _ := g_45_I14 hG mo ro
        have e1396 : q_I (S257) o 14 = q_I (S) o 14 := (Eq.trans (q_unI h258.1 mo ro (by decide)) (q_unI h248.1 mo ro (by decide)))
        have f1397 : q_sm _ := g_45_I24 hG mo ro
        have e1398 : q_I (S257) o 24 = q_I (S) o 24 := (Eq.trans (q_unI h258.1 mo ro (by decide)) (q_unI h248.1 mo ro (by decide)))
        have n1399 : q_ef (S) (q_sI (S257) o 14 (q_I (S257) a26 ((q_I (S) o 24) - (1 : Int32)).toNatClampNeg)) a7 a3 a13 a15 a17 _ := q_efI ro ra7 ra3 ra13 ra15 ra17 (by decide) (by decide) (by decide) (by decide) (by decide) n307
        have t1400 := g_45_R28 hG mo ro
        have e1401 : q_R (q_sI (S257) o 14 (q_I (S257) a26 ((q_I (S) o 24) - (1 : Int32)).toNatClampNeg)) o 28 = q_R (S) o 28 := (Eq.trans q_skRI (Eq.trans (q_unR h258.1 mo ro (by decide)) (q_unR h248.1 mo ro (by decide))))
        refine q_ok_atA hG (Eq.trans e1401 ea24) ma24 ra24 rfl ?_
        refine q_ok_if (q_inV (g_63_N hG ma24 ra24) ev60 (by omega) (by omega)) ?_
        have f1402 : q_sm _ := g_63_E hG ma24 ra24 (k := ((q_I (S) o 24) - (1 : Int32)).toNatClampNeg)
        have hG := u_45_I18 (x := q_I (q_sI (S257) o 14 (q_I (S257) a26 ((q_I (S) o 24) - (1 : Int32)).toNatClampNeg)) a24 ((q_I (S) o 24) - (1 : Int32)).toNatClampNeg) hG mo ro (by decide) (q_wd f1402 (by decide) (by decide))
        have f1403 : q_sm _ := g_45_I18 hG mo ro
        have e1404 : q_I (q_sI (S257) o 14 (q_I (S257) a26 ((q_I (S) o 24) - (1 : Int32)).toNatClampNeg)) o 18 = q_I (S257) o 18 := (q_ffI (by decide))
        have f1405 : q_sm _ := g_45_I14 hG mo ro
        have e1406 : q_I (q_sI (S257) o 14 (q_I (S257) a26 ((q_I (S) o 24) - (1 : Int32)).toNatClampNeg)) o 14 = q_I (S257) a26 ((q_I (S) o 24) - (1 : Int32)).toNatClampNeg := q_hitI
        have f1407 : q_sm _ := g_45_I24 hG mo ro
        have e1408 : q_I (q_sI (S257) o 14 (q_I (S257) a26 ((q_I (S) o 24) - (1 : Int32)).toNatClampNeg)) o 24 = q_I (S257) o 24 := (q_ffI (by decide))
        obtain ⟨v1409, ev1409⟩ := q_ev ((q_I (S257) o 24).toInt)
        have f1410 : v1409 = v19 := q_eqVI e1398 ev1409 ev19
        have n1411 : q_N3 (q_sI (q_sI (S257) o 14 (q_I (S257) a26 ((q_I (S) o 24) - (1 : Int32)).toNatClampNeg)) o 18 (q_I (q_sI (S257) o 14 (q_I (S257) a26 ((q_I (S) o 24) - (1 : Int32)).toNatClampNeg)) a24 ((q_I (S) o 24) - (1 : Int32)).toNatClampNeg)) o a22 a24 a26 _ _ := q_N3reset ro ra22 ra24 ra26 n261 (q_clamp1 (q_bw1 (fun x0 => 0 ≤ x0) ev60 (by omega)) (q_bw2 (fun x0 x1 => x0 + 1 = x1) ev60 ev1409 (by omega))) rfl (q_fwI ra24 ro (by decide))
        have n1412 : q_ef (S) (q_sI (q_sI (S257) o 14 (q_I (S257) a26 ((q_I (S) o 24) - (1 : Int32)).toNatClampNeg)) o 18 (q_I (q_sI (S257) o 14 (q_I (S257) a26 ((q_I (S) o 24) - (1 : Int32)).toNatClampNeg)) a24 ((q_I (S) o 24) - (1 : Int32)).toNatClampNeg)) a7 a3 a13 a15 a17 _ := q_efI ro ra7 ra3 ra13 ra15 ra17 (by decide) (by decide) (by decide) (by decide) (by decide) n1399
        refine q_ok_let (fun S1413 eS1413 => ?_)
        rw [← eS1413] at hG
        have n1414 := q_N3L eS1413 n1411
        have n1415 := q_efL eS1413 n1412
        have t1416 := g_45_R25 hG mo ro
        have e1417 : q_R (S1413) o 25 = q_R (S) o 25 := (Eq.trans (q_leR eS1413) (Eq.trans q_skRI (Eq.trans q_skRI (Eq.trans (q_unR h258.1 mo ro (by decide)) (q_unR h248.1 mo ro (by decide))))))
        refine q_ok_atA hG (Eq.trans e1417 ea244) ma244 ra244 rfl ?_
        refine q_ok_if (q_inV (g_60_N hG ma244 ra244) ev60 (by omega) (by omega)) ?_
        have f1418 : q_sm _ := g_60_E hG ma244 ra244 (k := ((q_I (S) o 24) - (1 : Int32)).toNatClampNeg)
        have e1419 : q_I (S1413) a244 ((q_I (S) o 24) - (1 : Int32)).toNatClampNeg = q_I (S) a244 ((q_I (S) o 24) - (1 : Int32)).toNatClampNeg := (Eq.trans (q_leI eS1413) (Eq.trans (q_fwI ra244 ro (by decide)) (Eq.trans (q_fwI ra244 ro (by decide)) (Eq.trans (q_unIA h258.1 ma244 ra244 (by decide) (by decide)) (q_unIA h248.1 ma244 ra244 (by decide) (by decide))))))
        refine q_ok_b (s_X12_tell_45 hn hG.1 mo ro (q_wd (show (1 : Int) ≤ (1 : Int32).toInt ∧ (1 : Int32).toInt ≤ (1 : Int) by decide) (by decide) (by decide)) (q_wd f1418 (by decide) (by decide))) (fun r1420 S1421 h1422 => ?_)
        have hG := q_G_call hG h1422 (by decide)
        have n1423 := q_N3U h1422 mo ro ma22 ra22 ma24 ra24 ma26 ra26 rfl rfl rfl rfl rfl rfl n1414
        have n1424 := q_efU h1422 ma7 ra7 ma3 ra3 ma13 ra13 ma15 ra15 ma17 ra17 rfl rfl rfl rfl rfl n1415
        refine q_ok_atS hG (q_trI mo ro) rfl (fun mo ro => ?_)
        have t1425 := g_45_R29 hG mo ro
        have e1426 : q_R (S1421) o 29 = q_R (S257) o 29 := (Eq.trans (q_unR h1422 mo ro (by decide)) (Eq.trans (q_leR eS1413) (Eq.trans q_skRI q_skRI)))
        refine q_ok_atA hG (Eq.trans e1426 (Eq.trans e302 ea3)) ma3 ra3 rfl ?_
        refine q_ok_if (q_inV (g_64_N hG ma3 ra3) ev60 (by omega) (by omega)) ?_
        obtain ⟨v1427, ev1427⟩ := q_ev ((vp_nar .boolean ((0 : Int32))).toInt)
        have f1428 : v1427 = (0) := q_narV ev1427 (show q_eqv ((0 : Int32)).toInt (0) by unfold q_eqv; decide) (by omega) (by omega)
        have hG := u_64_E (k := ((q_I (S) o 24) - (1 : Int32)).toNatClampNeg) (x := vp_nar .boolean ((0 : Int32))) hG ma3 ra3 (by decide) (q_oV ev1427 (by omega) (by omega))
        have n1429 : q_N3 (q_sI (S1421) a3 ((q_I (S) o 24) - (1 : Int32)).toNatClampNeg (vp_nar .boolean ((0 : Int32)))) o a22 a24 a26 _ _ := q_N3I ro ra3 ra22 ra24 ra26 (by decide) (by decide) (by decide) (by decide) n1423
        have n1430 : q_ef (S) (q_sI (S1421) a3 ((q_I (S) o 24) - (1 : Int32)).toNatClampNeg (vp_nar .boolean ((0 : Int32)))) a7 a3 a13 a15 a17 _ := q_efA (q_clampL (q_bw1 (fun x0 => 0 ≤ x0) ev60 (by omega)) (q_bw2 (fun x0 x1 => x0 - 1 ≤ x1) ev19 ev60 (by omega))) n1424
        have t1431 := g_45_R19 hG mo ro
        have e1432 : q_R (q_sI (S1421) a3 ((q_I (S) o 24) - (1 : Int32)).toNatClampNeg (vp_nar .boolean ((0 : Int32)))) o 19 = q_R (S) o 19 := (Eq.trans q_skRI (Eq.trans (q_unR h1422 mo ro (by decide)) (Eq.trans (q_leR eS1413) (Eq.trans q_skRI (Eq.trans q_skRI (Eq.trans (q_unR h258.1 mo ro (by decide)) (q_unR h248.1 mo ro (by decide))))))))
        have t1433 := g_45_R28 hG mo ro
        have e1434 : q_R (q_sI (S1421) a3 ((q_I (S) o 24) - (1 : Int32)).toNatClampNeg (vp_nar .boolean ((0 : Int32)))) o 28 = q_R (q_sI (S257) o 14 (q_I (S257) a26 ((q_I (S) o 24) - (1 : Int32)).toNatClampNeg)) o 28 := (Eq.trans q_skRI (Eq.trans (q_unR h1422 mo ro (by decide)) (Eq.trans (q_leR eS1413) q_skRI)))
        have t1435 := g_45_R27 hG mo ro
        have e1436 : q_R (q_sI (S1421) a3 ((q_I (S) o 24) - (1 : Int32)).toNatClampNeg (vp_nar .boolean ((0 : Int32)))) o 27 = q_R (S257) o 27 := (Eq.trans q_skRI (Eq.trans (q_unR h1422 mo ro (by decide)) (Eq.trans (q_leR eS1413) (Eq.trans q_skRI q_skRI))))
        have f1437 : q_sm _ := g_45_I18 hG mo ro
        have e1438 : q_I (q_sI (S1421) a3 ((q_I (S) o 24) - (1 : Int32)).toNatClampNeg (vp_nar .boolean ((0 : Int32)))) o 18 = q_I (q_sI (S257) o 14 (q_I (S257) a26 ((q_I (S) o 24) - (1 : Int32)).toNatClampNeg)) a24 ((q_I (S) o 24) - (1 : Int32)).toNatClampNeg := (Eq.trans (q_fwI ro ra3 (by decide)) (Eq.trans (q_unI h1422 mo ro (by decide)) (Eq.trans (q_leI eS1413) q_hitI)))
        obtain ⟨v1439, ev1439⟩ := q_ev ((q_I (q_sI (S1421) a3 ((q_I (S) o 24) - (1 : Int32)).toNatClampNeg (vp_nar .boolean ((0 : Int32)))) o 18).toInt)
        obtain ⟨v1440, ev1440⟩ := q_ev ((q_I (q_sI (S257) o 14 (q_I (S257) a26 ((q_I (S) o 24) - (1 : Int32)).toNatClampNeg)) a24 ((q_I (S) o 24) - (1 : Int32)).toNatClampNeg).toInt)
        have f1441 := q_bV ev1440 f1402
        have f1442 : v1439 = v1440 := q_eqVI e1438 ev1439 ev1440
        have t1443 := g_45_R26 hG mo ro
        have e1444 : q_R (q_sI (S1421) a3 ((q_I (S) o 24) - (1 : Int32)).toNatClampNeg (vp_nar .boolean ((0 : Int32)))) o 26 = q_R (S257) o 26 := (Eq.trans q_skRI (Eq.trans (q_unR h1422 mo ro (by decide)) (Eq.trans (q_leR eS1413) (Eq.trans q_skRI q_skRI))))
        have t1445 := g_45_R29 hG mo ro
        have e1446 : q_R (q_sI (S1421) a3 ((q_I (S) o 24) - (1 : Int32)).toNatClampNeg (vp_nar .boolean ((0 : Int32)))) o 29 = q_R (S1421) o 29 := q_skRI
        have t1447 := g_45_R32 hG mo ro
        have e1448 : q_R (q_sI (S1421) a3 ((q_I (S) o 24) - (1 : Int32)).toNatClampNeg (vp_nar .boolean ((0 : Int32)))) o 32 = q_R (S257) o 32 := (Eq.trans q_skRI (Eq.trans (q_unR h1422 mo ro (by decide)) (Eq.trans (q_leR eS1413) (Eq.trans q_skRI q_skRI))))
        have t1449 := g_45_R33 hG mo ro
        have e1450 : q_R (q_sI (S1421) a3 ((q_I (S) o 24) - (1 : Int32)).toNatClampNeg (vp_nar .boolean ((0 : Int32)))) o 33 = q_R (S257) o 33 := (Eq.trans q_skRI (Eq.trans (q_unR h1422 mo ro (by decide)) (Eq.trans (q_leR eS1413) (Eq.trans q_skRI q_skRI))))
        have t1451 := g_45_R34 hG mo ro
        have e1452 : q_R (q_sI (S1421) a3 ((q_I (S) o 24) - (1 : Int32)).toNatClampNeg (vp_nar .boolean ((0 : Int32)))) o 34 = q_R (S257) o 34 := (Eq.trans q_skRI (Eq.trans (q_unR h1422 mo ro (by decide)) (Eq.trans (q_leR eS1413) (Eq.trans q_skRI q_skRI))))
        have f1453 : q_sm _ := g_45_I24 hG mo ro
        have e1454 : q_I (q_sI (S1421) a3 ((q_I (S) o 24) - (1 : Int32)).toNatClampNeg (vp_nar .boolean ((0 : Int32)))) o 24 = q_I (q_sI (S257) o 14 (q_I (S257) a26 ((q_I (S) o 24) - (1 : Int32)).toNatClampNeg)) o 24 := (Eq.trans (q_fwI ro ra3 (by decide)) (Eq.trans (q_unI h1422 mo ro (by decide)) (Eq.trans (q_leI eS1413) (q_ffI (by decide)))))
        have t1455 := g_45_R32 hG mo ro
        have f1456 : q_sm _ := g_67_E hG ma13 ra13 (k := ((q_I (S) o 24) - (1 : Int32)).toNatClampNeg)
        have e1457 : q_I (q_sI (S1421) a3 ((q_I (S) o 24) - (1 : Int32)).toNatClampNeg (vp_nar .boolean ((0 : Int32)))) a13 ((q_I (S) o 24) - (1 : Int32)).toNatClampNeg = q_I (S257) a13 ((q_I (S) o 24) - (1 : Int32)).toNatClampNeg := (Eq.trans (q_fwI ra13 ra3 (by decide)) (Eq.trans (q_unIA h1422 ma13 ra13 (by decide) (by decide)) (Eq.trans (q_leI eS1413) (Eq.trans (q_fwI ra13 ro (by decide)) (q_fwI ra13 ro (by decide))))))
        have e1458 : q_fE (q_sI (S1421) a3 ((q_I (S) o 24) - (1 : Int32)).toNatClampNeg (vp_nar .boolean ((0 : Int32)))) o 32 (((q_I (S) o 24) - (1 : Int32) : Int32)).toNatClampNeg = q_I (q_sI (S1421) a3 ((q_I (S) o 24) - (1 : Int32)).toNatClampNeg (vp_nar .boolean ((0 : Int32)))) a13 ((q_I (S) o 24) - (1 : Int32)).toNatClampNeg := q_fEe (Eq.trans e1448 (Eq.trans e274 ea13))
        have e1459 : (q_fE (q_sI (S1421) a3 ((q_I (S) o 24) - (1 : Int32)).toNatClampNeg (vp_nar .boolean ((0 : Int32)))) o 32 (((q_I (S) o 24) - (1 : Int32) : Int32)).toNatClampNeg) &&& (2 : Int32) = (q_I (S257) a13 ((q_I (S) o 24) - (1 : Int32)).toNatClampNeg) &&& (2 : Int32) := congrArg (fun z : Int32 => z &&& (2 : Int32)) (Eq.trans e1458 e1457)
        have t1460 := g_45_R33 hG mo ro
        have f1461 : q_sm _ := g_68_E hG ma15 ra15 (k := ((q_I (S) o 24) - (1 : Int32)).toNatClampNeg)
        have e1462 : q_I (q_sI (S1421) a3 ((q_I (S) o 24) - (1 : Int32)).toNatClampNeg (vp_nar .boolean ((0 : Int32)))) a15 ((q_I (S) o 24) - (1 : Int32)).toNatClampNeg = q_I (S257) a15 ((q_I (S) o 24) - (1 : Int32)).toNatClampNeg := (Eq.trans (q_fwI ra15 ra3 (by decide)) (Eq.trans (q_unIA h1422 ma15 ra15 (by decide) (by decide)) (Eq.trans (q_leI eS1413) (Eq.trans (q_fwI ra15 ro (by decide)) (q_fwI ra15 ro (by decide))))))
        have e1463 : q_fE (q_sI (S1421) a3 ((q_I (S) o 24) - (1 : Int32)).toNatClampNeg (vp_nar .boolean ((0 : Int32)))) o 33 (((q_I (S) o 24) - (1 : Int32) : Int32)).toNatClampNeg = q_I (q_sI (S1421) a3 ((q_I (S) o 24) - (1 : Int32)).toNatClampNeg (vp_nar .boolean ((0 : Int32)))) a15 ((q_I (S) o 24) - (1 : Int32)).toNatClampNeg := q_fEe (Eq.trans e1450 (Eq.trans e279 ea15))
        have t1464 := g_45_R34 hG mo ro
        have f1465 : q_sm _ := g_69_E hG ma17 ra17 (k := ((q_I (S) o 24) - (1 : Int32)).toNatClampNeg)
        have e1466 : q_I (q_sI (S1421) a3 ((q_I (S) o 24) - (1 : Int32)).toNatClampNeg (vp_nar .boolean ((0 : Int32)))) a17 ((q_I (S) o 24) - (1 : Int32)).toNatClampNeg = q_I (S257) a17 ((q_I (S) o 24) - (1 : Int32)).toNatClampNeg := (Eq.trans (q_fwI ra17 ra3 (by decide)) (Eq.trans (q_unIA h1422 ma17 ra17 (by decide) (by decide)) (Eq.trans (q_leI eS1413) (Eq.trans (q_fwI ra17 ro (by decide)) (q_fwI ra17 ro (by decide))))))
        have e1467 : q_fE (q_sI (S1421) a3 ((q_I (S) o 24) - (1 : Int32)).toNatClampNeg (vp_nar .boolean ((0 : Int32)))) o 34 (((q_I (S) o 24) - (1 : Int32) : Int32)).toNatClampNeg = q_I (q_sI (S1421) a3 ((q_I (S) o 24) - (1 : Int32)).toNatClampNeg (vp_nar .boolean ((0 : Int32)))) a17 ((q_I (S) o 24) - (1 : Int32)).toNatClampNeg := q_fEe (Eq.trans e1452 (Eq.trans e283 ea17))
        obtain ⟨v1468, ev1468⟩ := q_ev ((q_I (q_sI (S1421) a3 ((q_I (S) o 24) - (1 : Int32)).toNatClampNeg (vp_nar .boolean ((0 : Int32)))) o 24).toInt)
        obtain ⟨v1469, ev1469⟩ := q_ev ((q_I (q_sI (S257) o 14 (q_I (S257) a26 ((q_I (S) o 24) - (1 : Int32)).toNatClampNeg)) o 24).toInt)
        have f1470 : v1469 = v1409 := q_eqVI e1408 ev1469 ev1409
        have f1471 : v1468 = v1469 := q_eqVI e1454 ev1468 ev1469
        obtain ⟨v1472, ev1472⟩ := q_ev (((q_fE (q_sI (S1421) a3 ((q_I (S) o 24) - (1 : Int32)).toNatClampNeg (vp_nar .boolean ((0 : Int32)))) o 32 (((q_I (S) o 24) - (1 : Int32) : Int32)).toNatClampNeg) &&& (2 : Int32)).toInt)
        have f1473 : v1472 = v287 := q_eqVI e1459 ev1472 ev287
        obtain ⟨v1474, ev1474⟩ := q_ev ((q_fE (q_sI (S1421) a3 ((q_I (S) o 24) - (1 : Int32)).toNatClampNeg (vp_nar .boolean ((0 : Int32)))) o 33 (((q_I (S) o 24) - (1 : Int32) : Int32)).toNatClampNeg).toInt)
        obtain ⟨v1475, ev1475⟩ := q_ev ((q_I (q_sI (S1421) a3 ((q_I (S) o 24) - (1 : Int32)).toNatClampNeg (vp_nar .boolean ((0 : Int32)))) a15 ((q_I (S) o 24) - (1 : Int32)).toNatClampNeg).toInt)
        have f1476 : v1475 = v291 := q_eqVI e1462 ev1475 ev291
        have f1477 : v1474 = v1475 := q_eqVI e1463 ev1474 ev1475
        obtain ⟨v1478, ev1478⟩ := q_ev ((q_fE (q_sI (S1421) a3 ((q_I (S) o 24) - (1 : Int32)).toNatClampNeg (vp_nar .boolean ((0 : Int32)))) o 34 (((q_I (S) o 24) - (1 : Int32) : Int32)).toNatClampNeg).toInt)
        obtain ⟨v1479, ev1479⟩ := q_ev ((q_I (q_sI (S1421) a3 ((q_I (S) o 24) - (1 : Int32)).toNatClampNeg (vp_nar .boolean ((0 : Int32)))) a17 ((q_I (S) o 24) - (1 : Int32)).toNatClampNeg).toInt)
        have f1480 : v1479 = v295 := q_eqVI e1466 ev1479 ev295
        have f1481 : v1478 = v1479 := q_eqVI e1467 ev1478 ev1479
        have t1482 := g_45_R29 hG mo ro
        have f1483 : q_sm _ := g_64_E hG ma3 ra3 (k := ((q_I (S) o 24) - (1 : Int32)).toNatClampNeg)
        have e1484 : q_I (q_sI (S1421) a3 ((q_I (S) o 24) - (1 : Int32)).toNatClampNeg (vp_nar .boolean ((0 : Int32)))) a3 ((q_I (S) o 24) - (1 : Int32)).toNatClampNeg = vp_nar .boolean ((0 : Int32)) := q_hitI
        have e1485 : q_fE (q_sI (S1421) a3 ((q_I (S) o 24) - (1 : Int32)).toNatClampNeg (vp_nar .boolean ((0 : Int32)))) o 29 (((q_I (S) o 24) - (1 : Int32) : Int32)).toNatClampNeg = q_I (q_sI (S1421) a3 ((q_I (S) o 24) - (1 : Int32)).toNatClampNeg (vp_nar .boolean ((0 : Int32)))) a3 ((q_I (S) o 24) - (1 : Int32)).toNatClampNeg := q_fEe (Eq.trans e1446 (Eq.trans e1426 (Eq.trans e302 ea3)))
        have t1486 := g_45_R26 hG mo ro
        have f1487 : q_sm _ := g_61_E hG ma7 ra7 (k := ((q_I (S) o 24) - (1 : Int32)).toNatClampNeg)
        have e1488 : q_I (q_sI (S1421) a3 ((q_I (S) o 24) - (1 : Int32)).toNatClampNeg (vp_nar .boolean ((0 : Int32)))) a7 ((q_I (S) o 24) - (1 : Int32)).toNatClampNeg = q_I (S247) a7 ((q_I (S) o 24) - (1 : Int32)).toNatClampNeg := (Eq.trans (q_fwI ra7 ra3 (by decide)) (Eq.trans (q_unIA h1422 ma7 ra7 (by decide) (by decide)) (Eq.trans (q_leI eS1413) (Eq.trans (q_fwI ra7 ro (by decide)) (Eq.trans (q_fwI ra7 ro (by decide)) (q_unIA h258.1 ma7 ra7 (by decide) (by decide)))))))
        have e1489 : q_fE (q_sI (S1421) a3 ((q_I (S) o 24) - (1 : Int32)).toNatClampNeg (vp_nar .boolean ((0 : Int32)))) o 26 (((q_I (S) o 24) - (1 : Int32) : Int32)).toNatClampNeg = q_I (q_sI (S1421) a3 ((q_I (S) o 24) - (1 : Int32)).toNatClampNeg (vp_nar .boolean ((0 : Int32)))) a7 ((q_I (S) o 24) - (1 : Int32)).toNatClampNeg := q_fEe (Eq.trans e1444 (Eq.trans e300 (Eq.trans e253 ea7)))
        obtain ⟨v1490, ev1490⟩ := q_ev ((q_fE (S) o 29 (((q_I (S) o 24) - (1 : Int32) : Int32)).toNatClampNeg).toInt)
        have f1491 : v1490 = v62 := q_eqVI e5 ev1490 ev62
        obtain ⟨v1492, ev1492⟩ := q_ev ((q_fE (q_sI (S1421) a3 ((q_I (S) o 24) - (1 : Int32)).toNatClampNeg (vp_nar .boolean ((0 : Int32)))) o 29 (((q_I (S) o 24) - (1 : Int32) : Int32)).toNatClampNeg).toInt)
        obtain ⟨v1493, ev1493⟩ := q_ev ((q_I (q_sI (S1421) a3 ((q_I (S) o 24) - (1 : Int32)).toNatClampNeg (vp_nar .boolean ((0 : Int32)))) a3 ((q_I (S) o 24) - (1 : Int32)).toNatClampNeg).toInt)
        have f1494 : v1493 = v1427 := q_eqVI e1484 ev1493 ev1427
        have f1495 : v1492 = v1493 := q_eqVI e1485 ev1492 ev1493
        obtain ⟨v1496, ev1496⟩ := q_ev ((q_fE (S) o 26 (((q_I (S) o 24) - (1 : Int32) : Int32)).toNatClampNeg).toInt)
        have f1497 : v1496 = v269 := q_eqVI e9 ev1496 ev269
        obtain ⟨v1498, ev1498⟩ := q_ev ((q_fE (q_sI (S1421) a3 ((q_I (S) o 24) - (1 : Int32)).toNatClampNeg (vp_nar .boolean ((0 : Int32)))) o 26 (((q_I (S) o 24) - (1 : Int32) : Int32)).toNatClampNeg).toInt)
        obtain ⟨v1499, ev1499⟩ := q_ev ((q_I (q_sI (S1421) a3 ((q_I (S) o 24) - (1 : Int32)).toNatClampNeg (vp_nar .boolean ((0 : Int32)))) a7 ((q_I (S) o 24) - (1 : Int32)).toNatClampNeg).toInt)
        have f1500 : v1499 = v268 := q_eqVI e1488 ev1499 ev268
        have f1501 : v1498 = v1499 := q_eqVI e1489 ev1498 ev1499
        exact q_ok_some ⟨hG, (q_smI ⟨(q_N3xI (Eq.trans e1432 ea22) (Eq.trans e1434 (Eq.trans e1401 ea24)) (Eq.trans e1436 (Eq.trans e1391 ea26)) (q_N3c n1429 (q_bw2 (fun x0 x1 => x0 = x1) ev1439 ev1440 (by omega)) rfl)), (q_efxI (Eq.trans e1444 (Eq.trans e300 (Eq.trans e253 ea7))) (Eq.trans e1446 (Eq.trans e1426 (Eq.trans e302 ea3))) (Eq.trans e1448 (Eq.trans e274 ea13)) (Eq.trans e1450 (Eq.trans e279 ea15)) (Eq.trans e1452 (Eq.trans e283 ea17)) n1430), (q_bw5 (fun x0 x1 x2 x3 x4 => x0 < x1 ∨ (x2 = 0 → 0 ≤ x3 ∧ 0 ≤ x4)) ev1468 ev19 ev1472 ev1474 ev1478 (by omega)), (q_bw6 (fun x0 x1 x2 x3 x4 x5 => x0 = x1 - 1 ∨ (x2 = 1 ∧ x0 = x1 ∧ x3 = 0) ∨ (x2 = 1 ∧ x4 + 6 ≤ x5 ∧ (x0 = x1 ∨ x0 = x1 + 1))) ev1468 ev19 ev1490 ev1492 ev1496 ev1498 (by omega))⟩)⟩
