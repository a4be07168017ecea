def M_X12_place_45 : List Nat := [2891, 3392, 3456, 3520, 3584]
set_option maxHeartbeats 4000000 in
set_option maxRecDepth 100000 in
theorem s_X12_place_45_233 {ρ : Nat → Nat} {L : List Nat} {n : Nat} (hn : 18446744073709551616 ≤ n) {S0 : q_S} {o : Nat} (mo : o ∈ L) (ro : ρ o = 45) {p0 : Int32}  : ∀ (k : Nat) (S : q_S) (l2 : Int32) (l3 : Int32) (l4 : Int32), q_G ρ L M_X12_place_45 S0 S → (0 ≤ l4.toInt ∧ l4.toInt ≤ 120) → 2147483648 - l4.toInt ≤ (k : Int) → q_ok (m_X12_place_233 n k S (some o) l2 l3 l4) (fun _ T => q_G ρ L M_X12_place_45 S0 T) := by
  intro k
  induction k with
  | zero =>
    intro S l2 l3 l4 hG hl4 hm
    have f0 := q_rngI l4
    exfalso; omega
  | succ k ih =>
    intro S l2 l3 l4 hG hl4 hm
    rw [m_X12_place_233]
    have z0 : (0 : Int32).toInt = 0 := rfl
    refine q_ok_atS hG (q_trI mo ro) rfl (fun mo ro => ?_)
    have f1 : q_sm _ := g_45_I14 hG mo ro
    obtain ⟨v2, ev2⟩ := q_ev ((q_I (S) o 14).toInt)
    have f3 := q_bV ev2 f1
    refine q_ok_ite (fun g4 => ?_) (fun g4 => ?_)
    · have f5 := q_leV ev2 q_evr (q_p_ge g4)
      exact q_ok_some hG
    · have f6 := q_ltV q_evr ev2 (q_n_ge g4)
      have t7 := g_45_R15 hG mo ro
      refine q_ok_at hG t7 rfl (fun a8 ma8 ra8 ea8 => ?_)
      refine q_ok_if (q_inV (g_55_N hG ma8 ra8) q_evr (by omega) (by omega)) ?_
      refine q_ok_if (q_inV (g_55_N hG ma8 ra8) q_evr (by omega) (by omega)) ?_
      have hG := u_55_E (k := (l4).toNatClampNeg) (x := (q_I (S) a8 (l4).toNatClampNeg) + l2) hG ma8 ra8 (by decide)
      have t9 := g_45_R16 hG mo ro
      refine q_ok_at hG t9 rfl (fun a10 ma10 ra10 ea10 => ?_)
      refine q_ok_if (q_inV (g_56_N hG ma10 ra10) q_evr (by omega) (by omega)) ?_
      refine q_ok_if (q_inV (g_56_N hG ma10 ra10) q_evr (by omega) (by omega)) ?_
      have hG := u_56_E (k := (l4).toNatClampNeg) (x := (q_I (q_sI (S) a8 (l4).toNatClampNeg ((q_I (S) a8 (l4).toNatClampNeg) + l2)) a10 (l4).toNatClampNeg) + l3) hG ma10 ra10 (by decide)
      refine q_ok_let (fun S11 eS11 => ?_)
      rw [← eS11] at hG
      obtain ⟨v12, ev12⟩ := q_ev ((l4 + (1)).toInt)
      have f13 : v12 = l4.toInt + (1) := q_addVI ev12 q_evr (show q_eqv ((1 : Int32)).toInt (1) by unfold q_eqv; decide) (by omega) (by omega)
      exact ih _ _ _ _ hG (q_oV ev12 (by omega) (by omega))  (q_upV ev12 (by omega))
set_option maxHeartbeats 4000000 in
set_option maxRecDepth 100000 in
theorem s_X12_place_45_7 {ρ : Nat → Nat} {L : List Nat} {n : Nat} (hn : 18446744073709551616 ≤ n) {S0 : q_S} {o : Nat} (mo : o ∈ L) (ro : ρ o = 45) {p0 : Int32}  : ∀ (k : Nat) (S : q_S) (l1 : Int32) (l2 : Int32), q_G ρ L M_X12_place_45 S0 S → (0 ≤ l1.toInt ∧ l1.toInt ≤ 6) → (0 ≤ l2.toInt ∧ l2.toInt ≤ 120) → (((q_fE S o 32 (l1 : Int32).toNatClampNeg) &&& (2 : Int32)).toInt = 0 → 0 ≤ (q_fE S o 33 (l1 : Int32).toNatClampNeg).toInt ∧ 0 ≤ (q_fE S o 34 (l1 : Int32).toNatClampNeg).toInt) → 2147483648 - l2.toInt ≤ (k : Int) → q_ok (m_X12_place_7 n k S (some o) l1 l2) (fun _ T => q_G ρ L M_X12_place_45 S0 T) := by
  intro k
  induction k with
  | zero =>
    intro S l1 l2 hG hl1 hl2 hf0 hm
    have f0 := q_rngI l2
    exfalso; omega
  | succ k ih =>
    intro S l1 l2 hG hl1 hl2 hf0 hm
    rw [m_X12_place_7]
    have z0 : (0 : Int32).toInt = 0 := rfl
    have t1 := g_45_R32 hG mo ro
    obtain ⟨a2, ea2, ma2, ra2⟩ := id t1
    have f3 : q_sm _ := g_67_E hG ma2 ra2 (k := (l1).toNatClampNeg)
    have e4 : q_fE (S) o 32 ((l1 : Int32)).toNatClampNeg = q_I (S) a2 (l1).toNatClampNeg := q_fEe ea2
    have e5 : (q_fE (S) o 32 ((l1 : Int32)).toNatClampNeg) &&& (2 : Int32) = (q_I (S) a2 (l1).toNatClampNeg) &&& (2 : Int32) := congrArg (fun z : Int32 => z &&& (2 : Int32)) e4
    have t6 := g_45_R33 hG mo ro
    obtain ⟨a7, ea7, ma7, ra7⟩ := id t6
    have f8 : q_sm _ := g_68_E hG ma7 ra7 (k := (l1).toNatClampNeg)
    have e9 : q_fE (S) o 33 ((l1 : Int32)).toNatClampNeg = q_I (S) a7 (l1).toNatClampNeg := q_fEe ea7
    have t10 := g_45_R34 hG mo ro
    obtain ⟨a11, ea11, ma11, ra11⟩ := id t10
    have f12 : q_sm _ := g_69_E hG ma11 ra11 (k := (l1).toNatClampNeg)
    have e13 : q_fE (S) o 34 ((l1 : Int32)).toNatClampNeg = q_I (S) a11 (l1).toNatClampNeg := q_fEe ea11
    obtain ⟨v14, ev14⟩ := q_ev (((q_fE (S) o 32 ((l1 : Int32)).toNatClampNeg) &&& (2 : Int32)).toInt)
    obtain ⟨v15, ev15⟩ := q_ev (((q_I (S) a2 (l1).toNatClampNeg) &&& (2 : Int32)).toInt)
    have f16 := q_andRVI ev15 (show q_eqv ((2 : Int32)).toInt (2) by unfold q_eqv; decide) (by omega)
    have f17 : v14 = v15 := q_eqVI e5 ev14 ev15
    obtain ⟨v18, ev18⟩ := q_ev ((q_fE (S) o 33 ((l1 : Int32)).toNatClampNeg).toInt)
    obtain ⟨v19, ev19⟩ := q_ev ((q_I (S) a7 (l1).toNatClampNeg).toInt)
    have f20 := q_bV ev19 f8
    have f21 : v18 = v19 := q_eqVI e9 ev18 ev19
    obtain ⟨v22, ev22⟩ := q_ev ((q_fE (S) o 34 ((l1 : Int32)).toNatClampNeg).toInt)
    obtain ⟨v23, ev23⟩ := q_ev ((q_I (S) a11 (l1).toNatClampNeg).toInt)
    have f24 := q_bV ev23 f12
    have f25 : v22 = v23 := q_eqVI e13 ev22 ev23
    have f26 : v14 = 0 → 0 ≤ v18 ∧ 0 ≤ v22 := q_to3 (fun x0 x1 x2 => x0 = 0 → 0 ≤ x1 ∧ 0 ≤ x2) ev14 ev18 ev22 hf0
    refine q_ok_atS hG (q_trI mo ro) rfl (fun mo ro => ?_)
    have f27 : q_sm _ := g_45_I14 hG mo ro
    obtain ⟨v28, ev28⟩ := q_ev ((q_I (S) o 14).toInt)
    have f29 := q_bV ev28 f27
    refine q_ok_ite (fun g30 => ?_) (fun g30 => ?_)
    · have f31 := q_leV ev28 q_evr (q_p_ge g30)
      have t32 := g_45_R33 hG mo ro
      refine q_ok_atA hG ea7 ma7 ra7 rfl ?_
      refine q_ok_if (q_inV (g_68_N hG ma7 ra7) q_evr (by omega) (by omega)) ?_
      have t33 := g_45_R34 hG mo ro
      refine q_ok_atA hG ea11 ma11 ra11 rfl ?_
      refine q_ok_if (q_inV (g_69_N hG ma11 ra11) q_evr (by omega) (by omega)) ?_
      have t34 := g_45_R32 hG mo ro
      refine q_ok_atA hG ea2 ma2 ra2 rfl ?_
      refine q_ok_if (q_inV (g_67_N hG ma2 ra2) q_evr (by omega) (by omega)) ?_
      refine q_ok_ite (fun g35 => ?_) (fun g35 => ?_)
      · have f36 := q_eqV ev15 (show q_eqv ((0 : Int32)).toInt (0) by unfold q_eqv; decide) (q_p_eq g35)
        have t37 := g_45_R27 hG mo ro
        refine q_ok_at hG t37 rfl (fun a38 ma38 ra38 ea38 => ?_)
        refine q_ok_if (q_inV (g_62_N hG ma38 ra38) q_evr (by omega) (by omega)) ?_
        have f39 : q_sm _ := g_62_E hG ma38 ra38 (k := (l1).toNatClampNeg)
        have t40 := g_45_R33 hG mo ro
        refine q_ok_if (q_inV (g_68_N hG ma7 ra7) q_evr (by omega) (by omega)) ?_
        have t41 := g_45_R31 hG mo ro
        refine q_ok_at hG t41 rfl (fun a42 ma42 ra42 ea42 => ?_)
        refine q_ok_if (q_inV (g_66_N hG ma42 ra42) q_evr (by omega) (by omega)) ?_
        have f43 : q_sm _ := g_66_E hG ma42 ra42 (k := (l1).toNatClampNeg)
        have t44 := g_45_R34 hG mo ro
        refine q_ok_if (q_inV (g_69_N hG ma11 ra11) q_evr (by omega) (by omega)) ?_
        have t45 := g_45_R31 hG mo ro
        refine q_ok_if (q_inV (g_66_N hG ma42 ra42) q_evr (by omega) (by omega)) ?_
        obtain ⟨v46, ev46⟩ := q_ev (((q_I (S) a38 (l1).toNatClampNeg) + (q_I (S) a7 (l1).toNatClampNeg)).toInt)
        obtain ⟨v47, ev47⟩ := q_ev ((q_I (S) a38 (l1).toNatClampNeg).toInt)
        have f48 := q_bV ev47 f39
        have f49 : v46 = v47 + v19 := q_addVI ev46 ev47 ev19 (by omega) (by omega)
        obtain ⟨v50, ev50⟩ := q_ev ((q_I (S) a42 (l1).toNatClampNeg).toInt)
        have f51 := q_bV ev50 f43
        refine q_ok_ite (fun g52 => ?_) (fun g52 => ?_)
        · have f53 := q_leV ev50 ev46 (q_p_ge g52)
          unfold m_X12_place_181
          refine q_ok_atS hG (q_trI mo ro) rfl (fun mo ro => ?_)
          have t54 := g_45_R30 hG mo ro
          refine q_ok_at hG t54 rfl (fun a55 ma55 ra55 ea55 => ?_)
          refine q_ok_if (q_inV (g_65_N hG ma55 ra55) q_evr (by omega) (by omega)) ?_
          have f56 : q_sm _ := g_65_E hG ma55 ra55 (k := (l1).toNatClampNeg)
          refine q_ok_b (s_X12_tell_45 hn hG.1 mo ro (q_wd (show (3 : Int) ≤ (3 : Int32).toInt ∧ (3 : Int32).toInt ≤ (3 : Int) by decide) (by decide) (by decide)) (q_wd f56 (by decide) (by decide))) (fun r57 S58 h59 => ?_)
          have hG := q_G_call hG h59 (by decide)
          exact q_ok_some hG
        · have f60 := q_ltV ev46 ev50 (q_n_ge g52)
          obtain ⟨v61, ev61⟩ := q_ev (((q_I (S) a42 (l1).toNatClampNeg) + (q_I (S) a11 (l1).toNatClampNeg)).toInt)
          have f62 : v61 = v50 + v23 := q_addVI ev61 ev50 ev23 (by omega) (by omega)
          refine q_ok_ite (fun g63 => ?_) (fun g63 => ?_)
          · have f64 := q_ltV ev61 ev28 (q_p_lt g63)
            have t65 := g_45_R15 hG mo ro
            refine q_ok_at hG t65 rfl (fun a66 ma66 ra66 ea66 => ?_)
            refine q_ok_if (q_inV (g_55_N hG ma66 ra66) ev46 (by omega) (by omega)) ?_
            have t67 := g_45_R15 hG mo ro
            refine q_ok_if (q_inV (g_55_N hG ma66 ra66) ev61 (by omega) (by omega)) ?_
            have t68 := g_45_R16 hG mo ro
            refine q_ok_at hG t68 rfl (fun a69 ma69 ra69 ea69 => ?_)
            refine q_ok_if (q_inV (g_56_N hG ma69 ra69) ev46 (by omega) (by omega)) ?_
            have t70 := g_45_R16 hG mo ro
            refine q_ok_if (q_inV (g_56_N hG ma69 ra69) ev61 (by omega) (by omega)) ?_
            unfold m_X12_place_225
            refine q_ok_atS hG (q_trI mo ro) rfl (fun mo ro => ?_)
            have t71 := g_45_R31 hG mo ro
            refine q_ok_atA hG ea42 ma42 ra42 rfl ?_
            refine q_ok_if (q_inV (g_66_N hG ma42 ra42) q_evr (by omega) (by omega)) ?_
            exact s_X12_place_45_233 hn mo ro (p0 := p0) n _ _ _ _ hG (q_wd f43 (by decide) (by decide))  (q_upV ev50 (by omega))
          · have f72 := q_leV ev28 ev61 (q_n_lt g63)
            unfold m_X12_place_181
            refine q_ok_atS hG (q_trI mo ro) rfl (fun mo ro => ?_)
            have t73 := g_45_R30 hG mo ro
            refine q_ok_at hG t73 rfl (fun a74 ma74 ra74 ea74 => ?_)
            refine q_ok_if (q_inV (g_65_N hG ma74 ra74) q_evr (by omega) (by omega)) ?_
            have f75 : q_sm _ := g_65_E hG ma74 ra74 (k := (l1).toNatClampNeg)
            refine q_ok_b (s_X12_tell_45 hn hG.1 mo ro (q_wd (show (3 : Int) ≤ (3 : Int32).toInt ∧ (3 : Int32).toInt ≤ (3 : Int) by decide) (by decide) (by decide)) (q_wd f75 (by decide) (by decide))) (fun r76 S77 h78 => ?_)
            have hG := q_G_call hG h78 (by decide)
            exact q_ok_some hG
      · have f79 := q_neV ev15 (show q_eqv ((0 : Int32)).toInt (0) by unfold q_eqv; decide) (q_n_eq g35)
        unfold m_X12_place_225
        refine q_ok_atS hG (q_trI mo ro) rfl (fun mo ro => ?_)
        have t80 := g_45_R31 hG mo ro
        refine q_ok_at hG t80 rfl (fun a81 ma81 ra81 ea81 => ?_)
        refine q_ok_if (q_inV (g_66_N hG ma81 ra81) q_evr (by omega) (by omega)) ?_
        have f82 : q_sm _ := g_66_E hG ma81 ra81 (k := (l1).toNatClampNeg)
        obtain ⟨v83, ev83⟩ := q_ev ((q_I (S) a81 (l1).toNatClampNeg).toInt)
        have f84 := q_bV ev83 f82
        exact s_X12_place_45_233 hn mo ro (p0 := p0) n _ _ _ _ hG (q_wd f82 (by decide) (by decide))  (q_upV ev83 (by omega))
    · have f85 := q_ltV q_evr ev28 (q_n_ge g30)
      have t86 := g_45_R15 hG mo ro
      refine q_ok_at hG t86 rfl (fun a87 ma87 ra87 ea87 => ?_)
      refine q_ok_if (q_inV (g_55_N hG ma87 ra87) q_evr (by omega) (by omega)) ?_
      have t88 := g_45_R16 hG mo ro
      refine q_ok_at hG t88 rfl (fun a89 ma89 ra89 ea89 => ?_)
      refine q_ok_if (q_inV (g_56_N hG ma89 ra89) q_evr (by omega) (by omega)) ?_
      have t90 := g_45_R15 hG mo ro
      have t91 := g_45_R35 hG mo ro
      refine q_ok_at hG t91 rfl (fun a92 ma92 ra92 ea92 => ?_)
      obtain ⟨v93, ev93⟩ := q_ev (((4 : Int32) * l1).toInt)
      have f94 : v93 = (4) * l1.toInt := q_mulVI ev93 (show q_eqv ((4 : Int32)).toInt (4) by unfold q_eqv; decide) q_evr (by omega) (by omega)
      refine q_ok_if (q_inV (g_70_N hG ma92 ra92) ev93 (by omega) (by omega)) ?_
      have f95 : q_sm _ := g_70_E hG ma92 ra92 (k := ((4 : Int32) * l1).toNatClampNeg)
      have t96 := g_45_R35 hG mo ro
      obtain ⟨v97, ev97⟩ := q_ev ((((4 : Int32) * l1) + (2 : Int32)).toInt)
      have f98 : v97 = v93 + (2) := q_addVI ev97 ev93 (show q_eqv ((2 : Int32)).toInt (2) by unfold q_eqv; decide) (by omega) (by omega)
      refine q_ok_if (q_inV (g_70_N hG ma92 ra92) ev97 (by omega) (by omega)) ?_
      have f99 : q_sm _ := g_70_E hG ma92 ra92 (k := (((4 : Int32) * l1) + (2 : Int32)).toNatClampNeg)
      obtain ⟨v103, ev103⟩ := q_ev (((q_I (S) a87 (l2).toNatClampNeg).toInt64).toInt)
      obtain ⟨v104, ev104⟩ := q_ev ((q_I (S) a87 (l2).toNatClampNeg).toInt)
      have f105 := q_rVI (x := q_I (S) a87 (l2).toNatClampNeg) ev104
      have f106 : v103 = v104 := q_i2lV ev103 ev104
      obtain ⟨v107, ev107⟩ := q_ev (((q_I (S) a89 (l2).toNatClampNeg).toInt64).toInt)
      obtain ⟨v108, ev108⟩ := q_ev ((q_I (S) a89 (l2).toNatClampNeg).toInt)
      have f109 := q_rVI (x := q_I (S) a89 (l2).toNatClampNeg) ev108
      have f110 : v107 = v108 := q_i2lV ev107 ev108
      refine q_ok_b (s_X12_scaledBy hn hG.1 (q_wd (q_i2lB f95) (by decide) (by decide)) (q_oV ev103 (by omega) (by omega)) (q_wd (q_i2lB f99) (by decide) (by decide)) (q_oV ev107 (by omega) (by omega))) (fun r100 S101 h102 => ?_)
      have eS101 := h102
      replace eS101 := eS101.symm
      subst eS101
      refine q_ok_atA hG ea87 ma87 ra87 rfl ?_
      refine q_ok_if (q_inV (g_55_N hG ma87 ra87) q_evr (by omega) (by omega)) ?_
      have hG := u_55_E (k := (l2).toNatClampNeg) (x := r100) hG ma87 ra87 (by decide)
      refine q_ok_atS hG (q_trI mo ro) rfl (fun mo ro => ?_)
      have t111 := g_45_R16 hG mo ro
      have e112 : q_R (q_sI (S) a87 (l2).toNatClampNeg (r100)) o 16 = q_R (S) o 16 := q_skRI
      have t113 := g_45_R35 hG mo ro
      have e114 : q_R (q_sI (S) a87 (l2).toNatClampNeg (r100)) o 35 = q_R (S) o 35 := q_skRI
      refine q_ok_atA hG (Eq.trans e114 ea92) ma92 ra92 rfl ?_
      obtain ⟨v115, ev115⟩ := q_ev ((((4 : Int32) * l1) + (1 : Int32)).toInt)
      have f116 : v115 = v93 + (1) := q_addVI ev115 ev93 (show q_eqv ((1 : Int32)).toInt (1) by unfold q_eqv; decide) (by omega) (by omega)
      refine q_ok_if (q_inV (g_70_N hG ma92 ra92) ev115 (by omega) (by omega)) ?_
      have f117 : q_sm _ := g_70_E hG ma92 ra92 (k := (((4 : Int32) * l1) + (1 : Int32)).toNatClampNeg)
      have t118 := g_45_R35 hG mo ro
      obtain ⟨v119, ev119⟩ := q_ev ((((4 : Int32) * l1) + (3 : Int32)).toInt)
      have f120 : v119 = v93 + (3) := q_addVI ev119 ev93 (show q_eqv ((3 : Int32)).toInt (3) by unfold q_eqv; decide) (by omega) (by omega)
      refine q_ok_if (q_inV (g_70_N hG ma92 ra92) ev119 (by omega) (by omega)) ?_
      have f121 : q_sm _ := g_70_E hG ma92 ra92 (k := (((4 : Int32) * l1) + (3 : Int32)).toNatClampNeg)
      refine q_ok_b (s_X12_scaledBy hn hG.1 (q_wd (q_i2lB f117) (by decide) (by decide)) (q_oV ev103 (by omega) (by omega)) (q_wd (q_i2lB f121) (by decide) (by decide)) (q_oV ev107 (by omega) (by omega))) (fun r122 S123 h124 => ?_)
      have eS123 := h124
      replace eS123 := eS123.symm
      subst eS123
      refine q_ok_atA hG (Eq.trans e112 ea89) ma89 ra89 rfl ?_
      refine q_ok_if (q_inV (g_56_N hG ma89 ra89) q_evr (by omega) (by omega)) ?_
      have hG := u_56_E (k := (l2).toNatClampNeg) (x := r122) hG ma89 ra89 (by decide)
      obtain ⟨v125, ev125⟩ := q_ev ((l2 + (1)).toInt)
      have f126 : v125 = l2.toInt + (1) := q_addVI ev125 q_evr (show q_eqv ((1 : Int32)).toInt (1) by unfold q_eqv; decide) (by omega) (by omega)
      have t127 := g_45_R32 hG mo ro
      have e128 : q_R (q_sI (q_sI (S) a87 (l2).toNatClampNeg (r100)) a89 (l2).toNatClampNeg (r122)) o 32 = q_R (S) o 32 := (Eq.trans q_skRI q_skRI)
      have f129 : q_sm _ := g_67_E hG ma2 ra2 (k := (l1).toNatClampNeg)
      have e130 : q_I (q_sI (q_sI (S) a87 (l2).toNatClampNeg (r100)) a89 (l2).toNatClampNeg (r122)) a2 (l1).toNatClampNeg = q_I (S) a2 (l1).toNatClampNeg := (Eq.trans (q_fwI ra2 ra89 (by decide)) (q_fwI ra2 ra87 (by decide)))
      have e131 : q_fE (q_sI (q_sI (S) a87 (l2).toNatClampNeg (r100)) a89 (l2).toNatClampNeg (r122)) o 32 ((l1 : Int32)).toNatClampNeg = q_I (q_sI (q_sI (S) a87 (l2).toNatClampNeg (r100)) a89 (l2).toNatClampNeg (r122)) a2 (l1).toNatClampNeg := q_fEe (Eq.trans e128 ea2)
      have e132 : (q_fE (q_sI (q_sI (S) a87 (l2).toNatClampNeg (r100)) a89 (l2).toNatClampNeg (r122)) o 32 ((l1 : Int32)).toNatClampNeg) &&& (2 : Int32) = (q_I (S) a2 (l1).toNatClampNeg) &&& (2 : Int32) := congrArg (fun z : Int32 => z &&& (2 : Int32)) (Eq.trans e131 e130)
      have t133 := g_45_R33 hG mo ro
      have e134 : q_R (q_sI (q_sI (S) a87 (l2).toNatClampNeg (r100)) a89 (l2).toNatClampNeg (r122)) o 33 = q_R (S) o 33 := (Eq.trans q_skRI q_skRI)
      have f135 : q_sm _ := g_68_E hG ma7 ra7 (k := (l1).toNatClampNeg)
      have e136 : q_I (q_sI (q_sI (S) a87 (l2).toNatClampNeg (r100)) a89 (l2).toNatClampNeg (r122)) a7 (l1).toNatClampNeg = q_I (S) a7 (l1).toNatClampNeg := (Eq.trans (q_fwI ra7 ra89 (by decide)) (q_fwI ra7 ra87 (by decide)))
      have e137 : q_fE (q_sI (q_sI (S) a87 (l2).toNatClampNeg (r100)) a89 (l2).toNatClampNeg (r122)) o 33 ((l1 : Int32)).toNatClampNeg = q_I (q_sI (q_sI (S) a87 (l2).toNatClampNeg (r100)) a89 (l2).toNatClampNeg (r122)) a7 (l1).toNatClampNeg := q_fEe (Eq.trans e134 ea7)
      have t138 := g_45_R34 hG mo ro
      have e139 : q_R (q_sI (q_sI (S) a87 (l2).toNatClampNeg (r100)) a89 (l2).toNatClampNeg (r122)) o 34 = q_R (S) o 34 := (Eq.trans q_skRI q_skRI)
      have f140 : q_sm _ := g_69_E hG ma11 ra11 (k := (l1).toNatClampNeg)
      have e141 : q_I (q_sI (q_sI (S) a87 (l2).toNatClampNeg (r100)) a89 (l2).toNatClampNeg (r122)) a11 (l1).toNatClampNeg = q_I (S) a11 (l1).toNatClampNeg := (Eq.trans (q_fwI ra11 ra89 (by decide)) (q_fwI ra11 ra87 (by decide)))
      have e142 : q_fE (q_sI (q_sI (S) a87 (l2).toNatClampNeg (r100)) a89 (l2).toNatClampNeg (r122)) o 34 ((l1 : Int32)).toNatClampNeg = q_I (q_sI (q_sI (S) a87 (l2).toNatClampNeg (r100)) a89 (l2).toNatClampNeg (r122)) a11 (l1).toNatClampNeg := q_fEe (Eq.trans e139 ea11)
      obtain ⟨v143, ev143⟩ := q_ev (((q_fE (q_sI (q_sI (S) a87 (l2).toNatClampNeg (r100)) a89 (l2).toNatClampNeg (r122)) o 32 ((l1 : Int32)).toNatClampNeg) &&& (2 : Int32)).toInt)
      have f144 : v143 = v15 := q_eqVI e132 ev143 ev15
      obtain ⟨v145, ev145⟩ := q_ev ((q_fE (q_sI (q_sI (S) a87 (l2).toNatClampNeg (r100)) a89 (l2).toNatClampNeg (r122)) o 33 ((l1 : Int32)).toNatClampNeg).toInt)
      obtain ⟨v146, ev146⟩ := q_ev ((q_I (q_sI (q_sI (S) a87 (l2).toNatClampNeg (r100)) a89 (l2).toNatClampNeg (r122)) a7 (l1).toNatClampNeg).toInt)
      have f147 : v146 = v19 := q_eqVI e136 ev146 ev19
      have f148 : v145 = v146 := q_eqVI e137 ev145 ev146
      obtain ⟨v149, ev149⟩ := q_ev ((q_fE (q_sI (q_sI (S) a87 (l2).toNatClampNeg (r100)) a89 (l2).toNatClampNeg (r122)) o 34 ((l1 : Int32)).toNatClampNeg).toInt)
      obtain ⟨v150, ev150⟩ := q_ev ((q_I (q_sI (q_sI (S) a87 (l2).toNatClampNeg (r100)) a89 (l2).toNatClampNeg (r122)) a11 (l1).toNatClampNeg).toInt)
      have f151 : v150 = v23 := q_eqVI e141 ev150 ev23
      have f152 : v149 = v150 := q_eqVI e142 ev149 ev150
      exact ih _ _ _ hG (q_wd hl1 (by decide) (by decide)) (q_oV ev125 (by omega) (by omega)) (q_bw3 (fun x0 x1 x2 => x0 = 0 → 0 ≤ x1 ∧ 0 ≤ x2) ev143 ev145 ev149 (by omega))  (q_upV ev125 (by omega))
set_option maxHeartbeats 4000000 in
set_option maxRecDepth 100000 in
theorem s_X12_place_45 {ρ : Nat → Nat} {L : List Nat} {n : Nat} (hn : 18446744073709551616 ≤ n) {S : q_S} (hI : q_Inv ρ L S) {o : Nat} (mo : o ∈ L) (ro : ρ o = 45) {p0 : Int32} (hp0 : (0 ≤ p0.toInt ∧ p0.toInt ≤ 6)) (hq0 : ((q_fE S o 32 (p0 : Int32).toNatClampNeg) &&& (2 : Int32)).toInt = 0 → 0 ≤ (q_fE S o 33 (p0 : Int32).toNatClampNeg).toInt ∧ 0 ≤ (q_fE S o 34 (p0 : Int32).toNatClampNeg).toInt) : q_ok (m_X12_place n S o p0) (fun _ T => q_G ρ L M_X12_place_45 S T) := by
  have hG : q_G ρ L M_X12_place_45 S S := q_G_refl hI
  unfold m_X12_place
  have z0 : (0 : Int32).toInt = 0 := rfl
  have t1 := g_45_R32 hG mo ro
  obtain ⟨a2, ea2, ma2, ra2⟩ := id t1
  have f3 : q_sm _ := g_67_E hG ma2 ra2 (k := (p0).toNatClampNeg)
  have e4 : q_fE (S) o 32 ((p0 : Int32)).toNatClampNeg = q_I (S) a2 (p0).toNatClampNeg := q_fEe ea2
  have e5 : (q_fE (S) o 32 ((p0 : Int32)).toNatClampNeg) &&& (2 : Int32) = (q_I (S) a2 (p0).toNatClampNeg) &&& (2 : Int32) := congrArg (fun z : Int32 => z &&& (2 : Int32)) e4
  have t6 := g_45_R33 hG mo ro
  obtain ⟨a7, ea7, ma7, ra7⟩ := id t6
  have f8 : q_sm _ := g_68_E hG ma7 ra7 (k := (p0).toNatClampNeg)
  have e9 : q_fE (S) o 33 ((p0 : Int32)).toNatClampNeg = q_I (S) a7 (p0).toNatClampNeg := q_fEe ea7
  have t10 := g_45_R34 hG mo ro
  obtain ⟨a11, ea11, ma11, ra11⟩ := id t10
  have f12 : q_sm _ := g_69_E hG ma11 ra11 (k := (p0).toNatClampNeg)
  have e13 : q_fE (S) o 34 ((p0 : Int32)).toNatClampNeg = q_I (S) a11 (p0).toNatClampNeg := q_fEe ea11
  obtain ⟨v14, ev14⟩ := q_ev (((q_fE (S) o 32 ((p0 : Int32)).toNatClampNeg) &&& (2 : Int32)).toInt)
  obtain ⟨v15, ev15⟩ := q_ev (((q_I (S) a2 (p0).toNatClampNeg) &&& (2 : Int32)).toInt)
  have f16 := q_andRVI ev15 (show q_eqv ((2 : Int32)).toInt (2) by unfold q_eqv; decide) (by omega)
  have f17 : v14 = v15 := q_eqVI e5 ev14 ev15
  obtain ⟨v18, ev18⟩ := q_ev ((q_fE (S) o 33 ((p0 : Int32)).toNatClampNeg).toInt)
  obtain ⟨v19, ev19⟩ := q_ev ((q_I (S) a7 (p0).toNatClampNeg).toInt)
  have f20 := q_bV ev19 f8
  have f21 : v18 = v19 := q_eqVI e9 ev18 ev19
  obtain ⟨v22, ev22⟩ := q_ev ((q_fE (S) o 34 ((p0 : Int32)).toNatClampNeg).toInt)
  obtain ⟨v23, ev23⟩ := q_ev ((q_I (S) a11 (p0).toNatClampNeg).toInt)
  have f24 := q_bV ev23 f12
  have f25 : v22 = v23 := q_eqVI e13 ev22 ev23
  have f26 : v14 = 0 → 0 ≤ v18 ∧ 0 ≤ v22 := q_to3 (fun x0 x1 x2 => x0 = 0 → 0 ≤ x1 ∧ 0 ≤ x2) ev14 ev18 ev22 hq0
  refine q_ok_atS hG (q_trI mo ro) rfl (fun mo ro => ?_)
  have t27 := g_45_R31 hG mo ro
  refine q_ok_at hG t27 rfl (fun a28 ma28 ra28 ea28 => ?_)
  refine q_ok_if (q_inV (g_66_N hG ma28 ra28) q_evr (by omega) (by omega)) ?_
  have f29 : q_sm _ := g_66_E hG ma28 ra28 (k := (p0).toNatClampNeg)
  have t30 := g_45_R32 hG mo ro
  have e31 : q_fE (S) o 32 ((p0 : Int32)).toNatClampNeg = q_I (S) a2 (p0).toNatClampNeg := q_fEe ea2
  have e32 : (q_fE (S) o 32 ((p0 : Int32)).toNatClampNeg) &&& (2 : Int32) = (q_I (S) a2 (p0).toNatClampNeg) &&& (2 : Int32) := congrArg (fun z : Int32 => z &&& (2 : Int32)) e31
  have t33 := g_45_R33 hG mo ro
  have e34 : q_fE (S) o 33 ((p0 : Int32)).toNatClampNeg = q_I (S) a7 (p0).toNatClampNeg := q_fEe ea7
  have t35 := g_45_R34 hG mo ro
  have e36 : q_fE (S) o 34 ((p0 : Int32)).toNatClampNeg = q_I (S) a11 (p0).toNatClampNeg := q_fEe ea11
  obtain ⟨v37, ev37⟩ := q_ev ((q_I (S) a28 (p0).toNatClampNeg).toInt)
  have f38 := q_bV ev37 f29
  exact s_X12_place_45_7 hn mo ro (p0 := p0) n _ _ _ hG (q_wd hp0 (by decide) (by decide)) (q_wd f29 (by decide) (by decide)) (q_bw3 (fun x0 x1 x2 => x0 = 0 → 0 ≤ x1 ∧ 0 ≤ x2) ev14 ev18 ev22 (by omega))  (q_upV ev37 (by omega))
