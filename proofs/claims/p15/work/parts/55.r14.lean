def M_X12_goes_45 : List Nat := [2888, 2901, 2902, 2903]
set_option maxHeartbeats 4000000 in
set_option maxRecDepth 100000 in
theorem s_X12_goes_45 {ρ : Nat → Nat} {L : List Nat} {n : Nat} (hn : 18446744073709551616 ≤ n) {S : q_S} (hI : q_Inv ρ L S) {o : Nat} (mo : o ∈ L) (ro : ρ o = 45) {p0 : Int32} (hp0 : (0 ≤ p0.toInt ∧ p0.toInt ≤ 199)) (hq0 : 0 ≤ (q_fd S o (1735162214)).toInt) : q_ok (m_X12_goes n S o p0) (fun r T => q_G ρ L M_X12_goes_45 S T ∧ (0 ≤ r.toInt ∧ r.toInt ≤ 1) ∧ q_sm (((r).toInt = 1 → (q_I T o 22).toInt ≤ (q_fE T o 7 (q_fd T o (1735162214) : Int32).toNatClampNeg).toInt) ∧ ((r).toInt = 1 → (q_I T o 21).toInt < (q_I T o 22).toInt))) := by
  have hG : q_G ρ L M_X12_goes_45 S S := q_G_refl hI
  unfold m_X12_goes
  have z0 : (0 : Int32).toInt = 0 := rfl
  obtain ⟨v1, ev1⟩ := q_ev ((q_fd (S) o ((1735162214 : Int64))).toInt)
  have f2 := q_rVI (x := q_fd (S) o ((1735162214 : Int64))) ev1
  have f3 : 0 ≤ v1 := q_to1 (fun x0 => 0 ≤ x0) ev1 hq0
  refine q_ok_atS hG (q_trI mo ro) rfl (fun mo ro => ?_)
  have t4 := g_45_R9 hG mo ro
  refine q_ok_at hG t4 rfl (fun a5 ma5 ra5 ea5 => ?_)
  refine q_ok_if (q_inV (g_51_N hG ma5 ra5) q_evr (by omega) (by omega)) ?_
  have f6 : q_sm _ := g_51_E hG ma5 ra5 (k := (p0).toNatClampNeg)
  obtain ⟨v7, ev7⟩ := q_ev ((q_I (S) a5 (p0).toNatClampNeg).toInt)
  have f8 := q_bV ev7 f6
  refine q_ok_ite (fun g9 => ?_) (fun g9 => ?_)
  · have f10 := q_eqV ev7 (show q_eqv ((0 : Int32)).toInt (0) by unfold q_eqv; decide) (q_p_eq g9)
    unfold m_X12_goes_51
    unfold m_X12_goes_52
    refine q_ok_if (q_b01V (show q_eqv ((0 : Int32)).toInt (0) by unfold q_eqv; decide) (by omega) (by omega)) ?_
    have f11 : q_sm _ := g_45_I22 hG mo ro
    have t12 := g_45_R7 hG mo ro
    obtain ⟨a13, ea13, ma13, ra13⟩ := id t12
    have f14 : q_sm _ := g_50_E hG ma13 ra13 (k := (q_fd (S) o ((1735162214 : Int64))).toNatClampNeg)
    have t15 := g_45_R6 hG mo ro
    obtain ⟨a16, ea16, ma16, ra16⟩ := id t15
    have f17 : q_sm _ := g_49_E hG ma16 ra16 (k := (q_fd (S) o ((1735162214 : Int64))).toNatClampNeg)
    have t18 := g_45_R7 hG mo ro
    obtain ⟨v19, ev19⟩ := q_ev ((q_I (S) a16 (q_fd (S) o ((1735162214 : Int64))).toNatClampNeg).toInt)
    have f20 := q_bV ev19 f17
    obtain ⟨v21, ev21⟩ := q_ev ((q_I (S) a13 (q_fd (S) o ((1735162214 : Int64))).toNatClampNeg).toInt)
    have f22 := q_bV ev21 f14
    have f23 : v19 + v21 ≤ 1600 := q_to2 (fun x0 x1 => x0 + x1 ≤ 1600) ev19 ev21 (hG.1.2.2.2 a16 a13 ma16 ma13 ra16 ra13 _)
    have e24 : q_fE (S) o 7 ((q_fd (S) o ((1735162214 : Int64)) : Int32)).toNatClampNeg = q_I (S) a13 (q_fd (S) o ((1735162214 : Int64))).toNatClampNeg := q_fEe ea13
    obtain ⟨v25, ev25⟩ := q_ev ((q_I (S) o 22).toInt)
    have f26 := q_bV ev25 f11
    obtain ⟨v27, ev27⟩ := q_ev ((q_fE (S) o 7 ((q_fd (S) o ((1735162214 : Int64)) : Int32)).toNatClampNeg).toInt)
    have f28 : v27 = v21 := q_eqVI e24 ev27 ev21
    have f29 : q_sm _ := g_45_I21 hG mo ro
    obtain ⟨v30, ev30⟩ := q_ev ((q_I (S) o 21).toInt)
    have f31 := q_bV ev30 f29
    exact q_ok_some ⟨hG, (q_wd (show (0 : Int) ≤ (0 : Int32).toInt ∧ (0 : Int32).toInt ≤ (0 : Int) by decide) (by decide) (by decide)), (q_smI ⟨(q_bw3 (fun x0 x1 x2 => x0 = 1 → x1 ≤ x2) (show q_eqv ((0 : Int32)).toInt (0) by unfold q_eqv; decide) ev25 ev27 (by omega)), (q_bw3 (fun x0 x1 x2 => x0 = 1 → x1 < x2) (show q_eqv ((0 : Int32)).toInt (0) by unfold q_eqv; decide) ev30 ev25 (by omega))⟩)⟩
  · have f32 := q_neV ev7 (show q_eqv ((0 : Int32)).toInt (0) by unfold q_eqv; decide) (q_n_eq g9)
    refine q_ok_b (s_X12_lookData_45 hn hG.1 mo ro (q_wd hp0 (by decide) (by decide))) (fun r33 S34 h35 => ?_)
    have hG := q_G_call hG h35.1 (by decide)
    have f36 := h35.2
    refine q_ok_ite (fun g37 => ?_) (fun g37 => ?_)
    · have f38 := q_eqV q_evr (show q_eqv ((0 : Int32)).toInt (0) by unfold q_eqv; decide) (q_p_eq g37)
      unfold m_X12_goes_51
      unfold m_X12_goes_52
      refine q_ok_if (q_b01V (show q_eqv ((0 : Int32)).toInt (0) by unfold q_eqv; decide) (by omega) (by omega)) ?_
      have f39 : q_sm _ := g_45_I22 hG mo ro
      have e40 : q_fd (S34) o ((1735162214 : Int64)) = q_fd (S) o ((1735162214 : Int64)) := (q_fdU h35.1 mo ro (by decide) (by decide) (by decide))
      have t41 := g_45_R7 hG mo ro
      obtain ⟨a42, ea42, ma42, ra42⟩ := id t41
      have f43 : q_sm _ := g_50_E hG ma42 ra42 (k := (q_fd (S34) o ((1735162214 : Int64))).toNatClampNeg)
      have t44 := g_45_R6 hG mo ro
      obtain ⟨a45, ea45, ma45, ra45⟩ := id t44
      have f46 : q_sm _ := g_49_E hG ma45 ra45 (k := (q_fd (S34) o ((1735162214 : Int64))).toNatClampNeg)
      have t47 := g_45_R7 hG mo ro
      obtain ⟨v48, ev48⟩ := q_ev ((q_I (S34) a45 (q_fd (S34) o ((1735162214 : Int64))).toNatClampNeg).toInt)
      have f49 := q_bV ev48 f46
      obtain ⟨v50, ev50⟩ := q_ev ((q_I (S34) a42 (q_fd (S34) o ((1735162214 : Int64))).toNatClampNeg).toInt)
      have f51 := q_bV ev50 f43
      have f52 : v48 + v50 ≤ 1600 := q_to2 (fun x0 x1 => x0 + x1 ≤ 1600) ev48 ev50 (hG.1.2.2.2 a45 a42 ma45 ma42 ra45 ra42 _)
      have t53 := g_45_R7 hG mo ro
      have f54 : q_sm _ := g_50_E hG ma42 ra42 (k := (q_fd (S) o ((1735162214 : Int64))).toNatClampNeg)
      obtain ⟨v55, ev55⟩ := q_ev ((q_I (S34) a42 (q_fd (S) o ((1735162214 : Int64))).toNatClampNeg).toInt)
      have f56 := q_bV ev55 f54
      have f57 : v50 = v55 := q_eqVI (congrArg (fun z : Int32 => q_I (S34) a42 z.toNatClampNeg) e40) ev50 ev55
      have e58 : q_fE (S34) o 7 ((q_fd (S34) o ((1735162214 : Int64)) : Int32)).toNatClampNeg = q_I (S34) a42 (q_fd (S34) o ((1735162214 : Int64))).toNatClampNeg := q_fEe ea42
      obtain ⟨v59, ev59⟩ := q_ev ((q_I (S34) o 22).toInt)
      have f60 := q_bV ev59 f39
      obtain ⟨v61, ev61⟩ := q_ev ((q_fE (S34) o 7 ((q_fd (S34) o ((1735162214 : Int64)) : Int32)).toNatClampNeg).toInt)
      have f62 : v61 = v50 := q_eqVI e58 ev61 ev50
      have f63 : q_sm _ := g_45_I21 hG mo ro
      obtain ⟨v64, ev64⟩ := q_ev ((q_I (S34) o 21).toInt)
      have f65 := q_bV ev64 f63
      exact q_ok_some ⟨hG, (q_wd (show (0 : Int) ≤ (0 : Int32).toInt ∧ (0 : Int32).toInt ≤ (0 : Int) by decide) (by decide) (by decide)), (q_smI ⟨(q_bw3 (fun x0 x1 x2 => x0 = 1 → x1 ≤ x2) (show q_eqv ((0 : Int32)).toInt (0) by unfold q_eqv; decide) ev59 ev61 (by omega)), (q_bw3 (fun x0 x1 x2 => x0 = 1 → x1 < x2) (show q_eqv ((0 : Int32)).toInt (0) by unfold q_eqv; decide) ev64 ev59 (by omega))⟩)⟩
    · have f66 := q_neV q_evr (show q_eqv ((0 : Int32)).toInt (0) by unfold q_eqv; decide) (q_n_eq g37)
      refine q_ok_atS hG (q_trI mo ro) rfl (fun mo ro => ?_)
      have f67 : q_sm _ := g_45_I21 hG mo ro
      have f68 : q_sm _ := g_45_I22 hG mo ro
      obtain ⟨v69, ev69⟩ := q_ev ((q_I (S34) o 21).toInt)
      have f70 := q_bV ev69 f67
      obtain ⟨v71, ev71⟩ := q_ev ((q_I (S34) o 22).toInt)
      have f72 := q_bV ev71 f68
      refine q_ok_ite (fun g73 => ?_) (fun g73 => ?_)
      · have f74 := q_leV ev71 ev69 (q_p_ge g73)
        unfold m_X12_goes_51
        unfold m_X12_goes_52
        refine q_ok_if (q_b01V (show q_eqv ((0 : Int32)).toInt (0) by unfold q_eqv; decide) (by omega) (by omega)) ?_
        have e75 : q_fd (S34) o ((1735162214 : Int64)) = q_fd (S) o ((1735162214 : Int64)) := (q_fdU h35.1 mo ro (by decide) (by decide) (by decide))
        have t76 := g_45_R7 hG mo ro
        obtain ⟨a77, ea77, ma77, ra77⟩ := id t76
        have f78 : q_sm _ := g_50_E hG ma77 ra77 (k := (q_fd (S34) o ((1735162214 : Int64))).toNatClampNeg)
        have t79 := g_45_R6 hG mo ro
        obtain ⟨a80, ea80, ma80, ra80⟩ := id t79
        have f81 : q_sm _ := g_49_E hG ma80 ra80 (k := (q_fd (S34) o ((1735162214 : Int64))).toNatClampNeg)
        have t82 := g_45_R7 hG mo ro
        obtain ⟨v83, ev83⟩ := q_ev ((q_I (S34) a80 (q_fd (S34) o ((1735162214 : Int64))).toNatClampNeg).toInt)
        have f84 := q_bV ev83 f81
        obtain ⟨v85, ev85⟩ := q_ev ((q_I (S34) a77 (q_fd (S34) o ((1735162214 : Int64))).toNatClampNeg).toInt)
        have f86 := q_bV ev85 f78
        have f87 : v83 + v85 ≤ 1600 := q_to2 (fun x0 x1 => x0 + x1 ≤ 1600) ev83 ev85 (hG.1.2.2.2 a80 a77 ma80 ma77 ra80 ra77 _)
        have t88 := g_45_R7 hG mo ro
        have f89 : q_sm _ := g_50_E hG ma77 ra77 (k := (q_fd (S) o ((1735162214 : Int64))).toNatClampNeg)
        obtain ⟨v90, ev90⟩ := q_ev ((q_I (S34) a77 (q_fd (S) o ((1735162214 : Int64))).toNatClampNeg).toInt)
        have f91 := q_bV ev90 f89
        have f92 : v85 = v90 := q_eqVI (congrArg (fun z : Int32 => q_I (S34) a77 z.toNatClampNeg) e75) ev85 ev90
        have e93 : q_fE (S34) o 7 ((q_fd (S34) o ((1735162214 : Int64)) : Int32)).toNatClampNeg = q_I (S34) a77 (q_fd (S34) o ((1735162214 : Int64))).toNatClampNeg := q_fEe ea77
        obtain ⟨v94, ev94⟩ := q_ev ((q_fE (S34) o 7 ((q_fd (S34) o ((1735162214 : Int64)) : Int32)).toNatClampNeg).toInt)
        have f95 : v94 = v85 := q_eqVI e93 ev94 ev85
        exact q_ok_some ⟨hG, (q_wd (show (0 : Int) ≤ (0 : Int32).toInt ∧ (0 : Int32).toInt ≤ (0 : Int) by decide) (by decide) (by decide)), (q_smI ⟨(q_bw3 (fun x0 x1 x2 => x0 = 1 → x1 ≤ x2) (show q_eqv ((0 : Int32)).toInt (0) by unfold q_eqv; decide) ev71 ev94 (by omega)), (q_bw3 (fun x0 x1 x2 => x0 = 1 → x1 < x2) (show q_eqv ((0 : Int32)).toInt (0) by unfold q_eqv; decide) ev69 ev71 (by omega))⟩)⟩
      · have f96 := q_ltV ev69 ev71 (q_n_ge g73)
        have t97 := g_45_R7 hG mo ro
        refine q_ok_b (s_X12_find_45 hn hG.1 mo ro (q_wd (show (1735162214 : Int) ≤ (1735162214 : Int64).toInt ∧ (1735162214 : Int64).toInt ≤ (1735162214 : Int) by decide) (by decide) (by decide))) (fun r98 S99 h100 => ?_)
        obtain ⟨eS99, h100⟩ := h100
        replace eS99 := eS99.symm
        subst eS99
        have f101 := h100.1
        have e102 : r98 = q_fd (S34) o ((1735162214 : Int64)) := Int32.toInt_inj.mp (q_smE (h100.2))
        subst e102
        have e103 : q_fd (S34) o ((1735162214 : Int64)) = q_fd (S) o ((1735162214 : Int64)) := (q_fdU h35.1 mo ro (by decide) (by decide) (by decide))
        obtain ⟨v104, ev104⟩ := q_ev ((q_fd (S34) o ((1735162214 : Int64))).toInt)
        have f105 : v104 = v1 := q_eqVI e103 ev104 ev1
        have f106 := q_bV ev104 f101
        refine q_ok_at hG t97 rfl (fun a107 ma107 ra107 ea107 => ?_)
        refine q_ok_if (q_inV (g_50_N hG ma107 ra107) ev104 (by omega) (by omega)) ?_
        have f108 : q_sm _ := g_50_E hG ma107 ra107 (k := (q_fd (S34) o ((1735162214 : Int64))).toNatClampNeg)
        have t109 := g_45_R6 hG mo ro
        obtain ⟨a110, ea110, ma110, ra110⟩ := id t109
        have f111 : q_sm _ := g_49_E hG ma110 ra110 (k := (q_fd (S34) o ((1735162214 : Int64))).toNatClampNeg)
        have t112 := g_45_R7 hG mo ro
        obtain ⟨v113, ev113⟩ := q_ev ((q_I (S34) a110 (q_fd (S34) o ((1735162214 : Int64))).toNatClampNeg).toInt)
        have f114 := q_bV ev113 f111
        obtain ⟨v115, ev115⟩ := q_ev ((q_I (S34) a107 (q_fd (S34) o ((1735162214 : Int64))).toNatClampNeg).toInt)
        have f116 := q_bV ev115 f108
        have f117 : v113 + v115 ≤ 1600 := q_to2 (fun x0 x1 => x0 + x1 ≤ 1600) ev113 ev115 (hG.1.2.2.2 a110 a107 ma110 ma107 ra110 ra107 _)
        refine q_ok_ite (fun g118 => ?_) (fun g118 => ?_)
        · have f119 := q_ltV ev115 ev71 (q_p_gt g118)
          unfold m_X12_goes_51
          unfold m_X12_goes_52
          refine q_ok_if (q_b01V (show q_eqv ((0 : Int32)).toInt (0) by unfold q_eqv; decide) (by omega) (by omega)) ?_
          have t120 := g_45_R7 hG mo ro
          have t121 := g_45_R7 hG mo ro
          have f122 : q_sm _ := g_50_E hG ma107 ra107 (k := (q_fd (S) o ((1735162214 : Int64))).toNatClampNeg)
          obtain ⟨v123, ev123⟩ := q_ev ((q_I (S34) a107 (q_fd (S) o ((1735162214 : Int64))).toNatClampNeg).toInt)
          have f124 := q_bV ev123 f122
          have f125 : v115 = v123 := q_eqVI (congrArg (fun z : Int32 => q_I (S34) a107 z.toNatClampNeg) e103) ev115 ev123
          have e126 : q_fE (S34) o 7 ((q_fd (S34) o ((1735162214 : Int64)) : Int32)).toNatClampNeg = q_I (S34) a107 (q_fd (S34) o ((1735162214 : Int64))).toNatClampNeg := q_fEe ea107
          obtain ⟨v127, ev127⟩ := q_ev ((q_fE (S34) o 7 ((q_fd (S34) o ((1735162214 : Int64)) : Int32)).toNatClampNeg).toInt)
          have f128 : v127 = v115 := q_eqVI e126 ev127 ev115
          exact q_ok_some ⟨hG, (q_wd (show (0 : Int) ≤ (0 : Int32).toInt ∧ (0 : Int32).toInt ≤ (0 : Int) by decide) (by decide) (by decide)), (q_smI ⟨(q_bw3 (fun x0 x1 x2 => x0 = 1 → x1 ≤ x2) (show q_eqv ((0 : Int32)).toInt (0) by unfold q_eqv; decide) ev71 ev127 (by omega)), (q_bw3 (fun x0 x1 x2 => x0 = 1 → x1 < x2) (show q_eqv ((0 : Int32)).toInt (0) by unfold q_eqv; decide) ev69 ev71 (by omega))⟩)⟩
        · have f129 := q_leV ev71 ev115 (q_n_gt g118)
          unfold m_X12_goes_52
          refine q_ok_if (q_b01V (show q_eqv ((1 : Int32)).toInt (1) by unfold q_eqv; decide) (by omega) (by omega)) ?_
          have t130 := g_45_R7 hG mo ro
          have t131 := g_45_R7 hG mo ro
          have f132 : q_sm _ := g_50_E hG ma107 ra107 (k := (q_fd (S) o ((1735162214 : Int64))).toNatClampNeg)
          obtain ⟨v133, ev133⟩ := q_ev ((q_I (S34) a107 (q_fd (S) o ((1735162214 : Int64))).toNatClampNeg).toInt)
          have f134 := q_bV ev133 f132
          have f135 : v115 = v133 := q_eqVI (congrArg (fun z : Int32 => q_I (S34) a107 z.toNatClampNeg) e103) ev115 ev133
          have e136 : q_fE (S34) o 7 ((q_fd (S34) o ((1735162214 : Int64)) : Int32)).toNatClampNeg = q_I (S34) a107 (q_fd (S34) o ((1735162214 : Int64))).toNatClampNeg := q_fEe ea107
          obtain ⟨v137, ev137⟩ := q_ev ((q_fE (S34) o 7 ((q_fd (S34) o ((1735162214 : Int64)) : Int32)).toNatClampNeg).toInt)
          have f138 : v137 = v115 := q_eqVI e136 ev137 ev115
          exact q_ok_some ⟨hG, (q_wd (show (1 : Int) ≤ (1 : Int32).toInt ∧ (1 : Int32).toInt ≤ (1 : Int) by decide) (by decide) (by decide)), (q_smI ⟨(q_bw3 (fun x0 x1 x2 => x0 = 1 → x1 ≤ x2) (show q_eqv ((1 : Int32)).toInt (1) by unfold q_eqv; decide) ev71 ev137 (by omega)), (q_bw3 (fun x0 x1 x2 => x0 = 1 → x1 < x2) (show q_eqv ((1 : Int32)).toInt (1) by unfold q_eqv; decide) ev69 ev71 (by omega))⟩)⟩
def M_X12_kern_45 : List Nat := [2880, 2888]
set_option maxHeartbeats 4000000 in
set_option maxRecDepth 100000 in
theorem s_X12_kern_45_31 {ρ : Nat → Nat} {L : List Nat} {n : Nat} (hn : 18446744073709551616 ≤ n) {S0 : q_S} {o : Nat} (mo : o ∈ L) (ro : ρ o = 45) {p0 : Int32} {p1 : Int32}  : ∀ (k : Nat) (S : q_S) (l1 : Int32) (l2 : Int32) (l3 : Int32) (l4 : Int32) (l5 : Int32), q_G ρ L M_X12_kern_45 S0 S → (-1 ≤ l3.toInt ∧ l3.toInt ≤ 23) → (0 ≤ l4.toInt ∧ l4.toInt ≤ 65535) → (0 ≤ l5.toInt ∧ l5.toInt ≤ 65535) → 2147483648 - l5.toInt ≤ (k : Int) → q_ok (m_X12_kern_31 n k S (some o) l1 l2 l3 l4 l5) (fun r T => q_G ρ L M_X12_kern_45 S0 T ∧ (-32768 ≤ r.toInt ∧ r.toInt ≤ 32767)) := by
  intro k
  induction k with
  | zero =>
    intro S l1 l2 l3 l4 l5 hG hl3 hl4 hl5 hm
    have f0 := q_rngI l5
    exfalso; omega
  | succ k ih =>
    intro S l1 l2 l3 l4 l5 hG hl3 hl4 hl5 hm
    rw [m_X12_kern_31]
    have z0 : (0 : Int32).toInt = 0 := rfl
    refine q_ok_ite (fun g1 => ?_) (fun g1 => ?_)
    · have f2 := q_leV q_evr q_evr (q_p_ge g1)
      unfold m_X12_kern_130
      exact q_ok_some ⟨hG, (q_wd (show (0 : Int) ≤ (0 : Int32).toInt ∧ (0 : Int32).toInt ≤ (0 : Int) by decide) (by decide) (by decide))⟩
    · have f3 := q_ltV q_evr q_evr (q_n_ge g1)
      refine q_ok_atS hG (q_trI mo ro) rfl (fun mo ro => ?_)
      have f4 : q_sm _ := g_45_I8 hG mo ro
      obtain ⟨v5, ev5⟩ := q_ev ((q_I (S) o 8).toInt)
      have f6 := q_bV ev5 f4
      refine q_ok_ite (fun g7 => ?_) (fun g7 => ?_)
      · have f8 := q_eqV ev5 (show q_eqv ((0 : Int32)).toInt (0) by unfold q_eqv; decide) (q_p_eq g7)
        obtain ⟨v12, ev12⟩ := q_ev (((18 : Int64) + ((6 : Int64) * (l5.toInt64))).toInt)
        obtain ⟨v13, ev13⟩ := q_ev (((6 : Int64) * (l5.toInt64)).toInt)
        obtain ⟨v14, ev14⟩ := q_ev ((l5.toInt64).toInt)
        have f15 : v14 = l5.toInt := q_i2lV ev14 q_evr
        have f16 : v13 = (6) * v14 := q_mulVJ ev13 (show q_eqv ((6 : Int64)).toInt (6) by unfold q_eqv; decide) ev14 (by omega) (by omega)
        have f17 : v12 = (18) + v13 := q_addVJ ev12 (show q_eqv ((18 : Int64)).toInt (18) by unfold q_eqv; decide) ev13 (by omega) (by omega)
        refine q_ok_b (s_X12_two_45 hn hG.1 mo ro (q_wd hl3 (by decide) (by decide)) (q_oV ev12 (by omega) (by omega))) (fun r9 S10 h11 => ?_)
        have hG := q_G_call hG h11.1 (by decide)
        have f18 := h11.2.1
        have f19 : q_sm _ := g_45_I8 hG mo ro
        obtain ⟨v20, ev20⟩ := q_ev ((q_I (S10) o 8).toInt)
        have f21 := q_bV ev20 f19
        have f22 : v20 = 0 → v5 = 0 := q_to2 (fun x0 x1 => x0 = 0 → x1 = 0) ev20 ev5 ((q_smE (h11.2.2)))
        refine q_ok_atS hG (q_trI mo ro) rfl (fun mo ro => ?_)
        obtain ⟨v26, ev26⟩ := q_ev (((20 : Int64) + ((6 : Int64) * (l5.toInt64))).toInt)
        have f27 : v26 = (20) + v13 := q_addVJ ev26 (show q_eqv ((20 : Int64)).toInt (20) by unfold q_eqv; decide) ev13 (by omega) (by omega)
        refine q_ok_b (s_X12_two_45 hn hG.1 mo ro (q_wd hl3 (by decide) (by decide)) (q_oV ev26 (by omega) (by omega))) (fun r23 S24 h25 => ?_)
        have hG := q_G_call hG h25.1 (by decide)
        have f28 := h25.2.1
        have f29 : q_sm _ := g_45_I8 hG mo ro
        obtain ⟨v30, ev30⟩ := q_ev ((q_I (S24) o 8).toInt)
        have f31 := q_bV ev30 f29
        have f32 : v30 = 0 → v20 = 0 := q_to2 (fun x0 x1 => x0 = 0 → x1 = 0) ev30 ev20 ((q_smE (h25.2.2)))
        refine q_ok_atS hG (q_trI mo ro) rfl (fun mo ro => ?_)
        obtain ⟨v36, ev36⟩ := q_ev (((22 : Int64) + ((6 : Int64) * (l5.toInt64))).toInt)
        have f37 : v36 = (22) + v13 := q_addVJ ev36 (show q_eqv ((22 : Int64)).toInt (22) by unfold q_eqv; decide) ev13 (by omega) (by omega)
        refine q_ok_b (s_X12_two_45 hn hG.1 mo ro (q_wd hl3 (by decide) (by decide)) (q_oV ev36 (by omega) (by omega))) (fun r33 S34 h35 => ?_)
        have hG := q_G_call hG h35.1 (by decide)
        have f38 := h35.2.1
        have f39 : q_sm _ := g_45_I8 hG mo ro
        obtain ⟨v40, ev40⟩ := q_ev ((q_I (S34) o 8).toInt)
        have f41 := q_bV ev40 f39
        have f42 : v40 = 0 → v30 = 0 := q_to2 (fun x0 x1 => x0 = 0 → x1 = 0) ev40 ev30 ((q_smE (h35.2.2)))
        refine q_ok_atS hG (q_trI mo ro) rfl (fun mo ro => ?_)
        refine q_ok_ite (fun g43 => ?_) (fun g43 => ?_)
        · have f44 := q_eqV ev40 (show q_eqv ((0 : Int32)).toInt (0) by unfold q_eqv; decide) (q_p_eq g43)
          have f45 := q_rVI (x := l1) q_evr
          refine q_ok_ite (fun g46 => ?_) (fun g46 => ?_)
          · have f47 := q_eqV q_evr q_evr (q_p_eq g46)
            have f48 := q_rVI (x := l2) q_evr
            refine q_ok_ite (fun g49 => ?_) (fun g49 => ?_)
            · have f50 := q_eqV q_evr q_evr (q_p_eq g49)
              refine q_ok_b (s_X12_signed hn hG.1 (q_wd f38 (by decide) (by decide))) (fun r51 S52 h53 => ?_)
              obtain ⟨eS52, h53⟩ := h53
              replace eS52 := eS52.symm
              subst eS52
              have f54 := h53
              exact q_ok_some ⟨hG, (q_wd f54 (by decide) (by decide))⟩
            · have f55 := q_neV q_evr q_evr (q_n_eq g49)
              unfold m_X12_kern_124
              obtain ⟨v56, ev56⟩ := q_ev ((l5 + (1)).toInt)
              have f57 : v56 = l5.toInt + (1) := q_addVI ev56 q_evr (show q_eqv ((1 : Int32)).toInt (1) by unfold q_eqv; decide) (by omega) (by omega)
              exact ih _ _ _ _ _ _ hG (q_wd hl3 (by decide) (by decide)) (q_wd hl4 (by decide) (by decide)) (q_oV ev56 (by omega) (by omega))  (q_upV ev56 (by omega))
          · have f58 := q_neV q_evr q_evr (q_n_eq g46)
            unfold m_X12_kern_124
            obtain ⟨v59, ev59⟩ := q_ev ((l5 + (1)).toInt)
            have f60 : v59 = l5.toInt + (1) := q_addVI ev59 q_evr (show q_eqv ((1 : Int32)).toInt (1) by unfold q_eqv; decide) (by omega) (by omega)
            exact ih _ _ _ _ _ _ hG (q_wd hl3 (by decide) (by decide)) (q_wd hl4 (by decide) (by decide)) (q_oV ev59 (by omega) (by omega))  (q_upV ev59 (by omega))
        · have f61 := q_neV ev40 (show q_eqv ((0 : Int32)).toInt (0) by unfold q_eqv; decide) (q_n_eq g43)
          unfold m_X12_kern_124
          obtain ⟨v62, ev62⟩ := q_ev ((l5 + (1)).toInt)
          have f63 : v62 = l5.toInt + (1) := q_addVI ev62 q_evr (show q_eqv ((1 : Int32)).toInt (1) by unfold q_eqv; decide) (by omega) (by omega)
          exact ih _ _ _ _ _ _ hG (q_wd hl3 (by decide) (by decide)) (q_wd hl4 (by decide) (by decide)) (q_oV ev62 (by omega) (by omega))  (q_upV ev62 (by omega))
      · have f64 := q_neV ev5 (show q_eqv ((0 : Int32)).toInt (0) by unfold q_eqv; decide) (q_n_eq g7)
        unfold m_X12_kern_130
        exact q_ok_some ⟨hG, (q_wd (show (0 : Int) ≤ (0 : Int32).toInt ∧ (0 : Int32).toInt ≤ (0 : Int) by decide) (by decide) (by decide))⟩
set_option maxHeartbeats 4000000 in
set_option maxRecDepth 100000 in
theorem s_X12_kern_45 {ρ : Nat → Nat} {L : List Nat} {n : Nat} (hn : 18446744073709551616 ≤ n) {S : q_S} (hI : q_Inv ρ L S) {o : Nat} (mo : o ∈ L) (ro : ρ o = 45) {p0 : Int32} {p1 : Int32} : q_ok (m_X12_kern n S o p0 p1) (fun r T => q_G ρ L M_X12_kern_45 S T ∧ (-32768 ≤ r.toInt ∧ r.toInt ≤ 32767)) := by
  have hG : q_G ρ L M_X12_kern_45 S S := q_G_refl hI
  unfold m_X12_kern
  have z0 : (0 : Int32).toInt = 0 := rfl
  refine q_ok_atS hG (q_trI mo ro) rfl (fun mo ro => ?_)
  have hG := u_45_I0 (x := (0 : Int32)) hG mo ro (by decide) (q_wd (show (0 : Int) ≤ (0 : Int32).toInt ∧ (0 : Int32).toInt ≤ (0 : Int) by decide) (by decide) (by decide))
  refine q_ok_if (q_b01V (show q_eqv ((0 : Int32)).toInt (0) by unfold q_eqv; decide) (by omega) (by omega)) ?_
  have hG := u_45_I8 (x := (0 : Int32)) hG mo ro (by decide) (q_wd (show (0 : Int) ≤ (0 : Int32).toInt ∧ (0 : Int32).toInt ≤ (0 : Int) by decide) (by decide) (by decide))
  refine q_ok_let (fun S1 eS1 => ?_)
  rw [← eS1] at hG
  refine q_ok_b (s_X12_find_45 hn hG.1 mo ro (q_wd (show (1801810542 : Int) ≤ (1801810542 : Int64).toInt ∧ (1801810542 : Int64).toInt ≤ (1801810542 : Int) by decide) (by decide) (by decide))) (fun r2 S3 h4 => ?_)
  obtain ⟨eS3, h4⟩ := h4
  replace eS3 := eS3.symm
  subst eS3
  have f5 := h4.1
  have e6 : r2 = q_fd (S1) o ((1801810542 : Int64)) := Int32.toInt_inj.mp (q_smE (h4.2))
  subst e6
  obtain ⟨v7, ev7⟩ := q_ev ((q_fd (S1) o ((1801810542 : Int64))).toInt)
  have f8 := q_rVI (x := q_fd (S1) o ((1801810542 : Int64))) ev7
  have f9 := q_bV ev7 f5
  refine q_ok_atS hG (q_trI mo ro) rfl (fun mo ro => ?_)
  have f13 : q_sm _ := g_45_I8 hG mo ro
  have e14 : q_I (S1) o 8 = (0 : Int32) := (Eq.trans (q_leI eS1) q_hitI)
  refine q_ok_b (s_X12_two_45 hn hG.1 mo ro (q_oV ev7 (by omega) (by omega)) (q_wd (show (10 : Int) ≤ (10 : Int64).toInt ∧ (10 : Int64).toInt ≤ (10 : Int) by decide) (by decide) (by decide))) (fun r10 S11 h12 => ?_)
  have hG := q_G_call hG h12.1 (by decide)
  have f15 := h12.2.1
  have f16 : q_sm _ := g_45_I8 hG mo ro
  obtain ⟨v17, ev17⟩ := q_ev ((q_I (S11) o 8).toInt)
  have f18 := q_bV ev17 f16
  obtain ⟨v19, ev19⟩ := q_ev ((q_I (S1) o 8).toInt)
  have f20 : v19 = (0) := q_eqVI e14 ev19 (show q_eqv ((0 : Int32)).toInt (0) by unfold q_eqv; decide)
  have f21 : v17 = 0 → v19 = 0 := q_to2 (fun x0 x1 => x0 = 0 → x1 = 0) ev17 ev19 ((q_smE (h12.2.2)))
  exact s_X12_kern_45_31 hn mo ro (p0 := p0) (p1 := p1) n _ _ _ _ _ _ hG (q_oV ev7 (by omega) (by omega)) (q_wd f15 (by decide) (by decide)) (q_wd (show (0 : Int) ≤ (0 : Int32).toInt ∧ (0 : Int32).toInt ≤ (0 : Int) by decide) (by decide) (by decide))  (q_upV (show q_eqv ((0 : Int32)).toInt (0) by unfold q_eqv; decide) (by omega))
