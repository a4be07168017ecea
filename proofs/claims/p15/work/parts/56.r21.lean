def M_X12_write_45 : List Nat := [2880, 2888, 2901, 2902, 2903, 2918, 2921, 4608, 4672]
set_option maxHeartbeats 4000000 in
set_option maxRecDepth 100000 in
theorem s_X12_write_45_278 {ρ : Nat → Nat} {L : List Nat} {n : Nat} (hn : 18446744073709551616 ≤ n) {S0 : q_S} {o : Nat} (mo : o ∈ L) (ro : ρ o = 45)  {k205 : q_S → Option Nat → Int32 → Int32 → Int32 → Int32 → Int32 → Option (Int32 × q_S)} {B205 : Int} (hk205 : ∀ (S : q_S) (z1 : Int32) (z2 : Int32) (z3 : Int32) (z4 : Int32) (z5 : Int32), q_G ρ L M_X12_write_45 S0 S → (0 ≤ z1.toInt ∧ z1.toInt ≤ 23) → (0 ≤ z2.toInt ∧ z2.toInt ≤ 200) → (0 ≤ z3.toInt ∧ z3.toInt ≤ 1) → (0 ≤ z4.toInt ∧ z4.toInt ≤ 2408) → (0 ≤ z5.toInt ∧ z5.toInt ≤ 24) → (0 ≤ (q_fd S o (1735162214)).toInt) → 2147483648 - z5.toInt < B205 → q_ok (k205 S (some o) z1 z2 z3 z4 z5) (fun r T => q_G ρ L M_X12_write_45 S0 T ∧ (-1 ≤ r.toInt ∧ r.toInt ≤ 2400))) : ∀ (k : Nat) (S : q_S) (l1 : Int32) (l2 : Int32) (l4 : Int32) (l5 : Int32) (l6 : Int32) (l7 : Int32) (l8 : Int32) (l9 : Int32), q_G ρ L M_X12_write_45 S0 S → (0 ≤ l1.toInt ∧ l1.toInt ≤ 23) → (0 ≤ l2.toInt ∧ l2.toInt ≤ 200) → (0 ≤ l4.toInt ∧ l4.toInt ≤ 1) → (0 ≤ l5.toInt ∧ l5.toInt ≤ 2408) → (0 ≤ l6.toInt ∧ l6.toInt ≤ 23) → (0 ≤ l7.toInt ∧ l7.toInt ≤ 23) → (0 ≤ l8.toInt ∧ l8.toInt ≤ 2400) → (0 ≤ l9.toInt ∧ l9.toInt ≤ 1600) → (0 ≤ (q_fd S o (1735162214)).toInt) → 2147483648 - l6.toInt ≤ B205 → 2147483648 - l9.toInt ≤ (k : Int) → q_ok (m_X12_write_278 n k205 k S (some o) l1 l2 l4 l5 l6 l7 l8 l9) (fun r T => q_G ρ L M_X12_write_45 S0 T ∧ (-1 ≤ r.toInt ∧ r.toInt ≤ 2400)) := by
  intro k
  induction k with
  | zero =>
    intro S l1 l2 l4 l5 l6 l7 l8 l9 hG hl1 hl2 hl4 hl5 hl6 hl7 hl8 hl9 hf0 hm205 hm
    have f0 := q_rngI l9
    exfalso; omega
  | succ k ih =>
    intro S l1 l2 l4 l5 l6 l7 l8 l9 hG hl1 hl2 hl4 hl5 hl6 hl7 hl8 hl9 hf0 hm205 hm
    rw [m_X12_write_278]
    have z0 : (0 : Int32).toInt = 0 := rfl
    obtain ⟨v1, ev1⟩ := q_ev ((q_fd (S) o ((1735162214 : Int64))).toInt)
    have f2 := q_rVI (x := q_fd (S) o ((1735162214 : Int64))) ev1
    have f3 : 0 ≤ v1 := q_to1 (fun x0 => 0 ≤ x0) ev1 hf0
    refine q_ok_atS hG (q_trI mo ro) rfl (fun mo ro => ?_)
    have t4 := g_45_R7 hG mo ro
    refine q_ok_at hG t4 rfl (fun a5 ma5 ra5 ea5 => ?_)
    refine q_ok_if (q_inV (g_50_N hG ma5 ra5) q_evr (by omega) (by omega)) ?_
    have f6 : q_sm _ := g_50_E hG ma5 ra5 (k := (l7).toNatClampNeg)
    have t7 := g_45_R6 hG mo ro
    obtain ⟨a8, ea8, ma8, ra8⟩ := id t7
    have f9 : q_sm _ := g_49_E hG ma8 ra8 (k := (l7).toNatClampNeg)
    have t10 := g_45_R7 hG mo ro
    obtain ⟨v11, ev11⟩ := q_ev ((q_I (S) a8 (l7).toNatClampNeg).toInt)
    have f12 := q_bV ev11 f9
    obtain ⟨v13, ev13⟩ := q_ev ((q_I (S) a5 (l7).toNatClampNeg).toInt)
    have f14 := q_bV ev13 f6
    have f15 : v11 + v13 ≤ 1600 := q_to2 (fun x0 x1 => x0 + x1 ≤ 1600) ev11 ev13 (hG.1.2.2.2 a8 a5 ma8 ma5 ra8 ra5 _)
    refine q_ok_ite (fun g16 => ?_) (fun g16 => ?_)
    · have f17 := q_leV ev13 q_evr (q_p_ge g16)
      unfold m_X12_write_339
      refine q_ok_ite (fun g18 => ?_) (fun g18 => ?_)
      · have f19 := q_eqV q_evr q_evr (q_p_eq g18)
        unfold m_X12_write_355
        refine q_ok_atS hG (q_trI mo ro) rfl (fun mo ro => ?_)
        have t20 := g_45_R4 hG mo ro
        refine q_ok_at hG t20 rfl (fun a21 ma21 ra21 ea21 => ?_)
        refine q_ok_if (q_inV (g_47_N hG ma21 ra21) q_evr (by omega) (by omega)) ?_
        have f22 : q_sm _ := g_47_E hG ma21 ra21 (k := (l7).toNatClampNeg)
        obtain ⟨v26, ev26⟩ := q_ev (((12 : Int32) + ((16 : Int32) * l6)).toInt)
        obtain ⟨v27, ev27⟩ := q_ev (((16 : Int32) * l6).toInt)
        have f28 : v27 = (16) * l6.toInt := q_mulVI ev27 (show q_eqv ((16 : Int32)).toInt (16) by unfold q_eqv; decide) q_evr (by omega) (by omega)
        have f29 : v26 = (12) + v27 := q_addVI ev26 (show q_eqv ((12 : Int32)).toInt (12) by unfold q_eqv; decide) ev27 (by omega) (by omega)
        refine q_ok_b (s_X12_setFour_45 hn hG.1 mo ro (q_oV ev26 (by omega) (by omega)) (q_wd f22 (by decide) (by decide))) (fun r23 S24 h25 => ?_)
        have hG := q_G_call hG h25 (by decide)
        refine q_ok_atS hG (q_trI mo ro) rfl (fun mo ro => ?_)
        have f30 : q_sm _ := g_45_I38 hG mo ro
        refine q_ok_b (s_X12_sumWritten_45 hn hG.1 mo ro (q_wd hl8 (by decide) (by decide)) (q_wd f30 (by decide) (by decide))) (fun r31 S32 h33 => ?_)
        obtain ⟨eS32, h33⟩ := h33
        replace eS32 := eS32.symm
        subst eS32
        have f34 := h33
        refine q_ok_atS hG (q_trI mo ro) rfl (fun mo ro => ?_)
        obtain ⟨v38, ev38⟩ := q_ev (((16 : Int32) + ((16 : Int32) * l6)).toInt)
        have f39 : v38 = (16) + v27 := q_addVI ev38 (show q_eqv ((16 : Int32)).toInt (16) by unfold q_eqv; decide) ev27 (by omega) (by omega)
        refine q_ok_b (s_X12_setFour_45 hn hG.1 mo ro (q_oV ev38 (by omega) (by omega)) (q_wd f34 (by decide) (by decide))) (fun r35 S36 h37 => ?_)
        have hG := q_G_call hG h37 (by decide)
        refine q_ok_atS hG (q_trI mo ro) rfl (fun mo ro => ?_)
        obtain ⟨v43, ev43⟩ := q_ev (((20 : Int32) + ((16 : Int32) * l6)).toInt)
        have f44 : v43 = (20) + v27 := q_addVI ev43 (show q_eqv ((20 : Int32)).toInt (20) by unfold q_eqv; decide) ev27 (by omega) (by omega)
        refine q_ok_b (s_X12_setFour_45 hn hG.1 mo ro (q_oV ev43 (by omega) (by omega)) (q_wd (q_i2lB hl8) (by decide) (by decide))) (fun r40 S41 h42 => ?_)
        have hG := q_G_call hG h42 (by decide)
        refine q_ok_atS hG (q_trI mo ro) rfl (fun mo ro => ?_)
        have f45 : q_sm _ := g_45_I38 hG mo ro
        have e46 : q_I (S41) o 38 = q_I (S24) o 38 := (Eq.trans (q_unI h42 mo ro (by decide)) (q_unI h37 mo ro (by decide)))
        obtain ⟨v50, ev50⟩ := q_ev (((24 : Int32) + ((16 : Int32) * l6)).toInt)
        have f51 : v50 = (24) + v27 := q_addVI ev50 (show q_eqv ((24 : Int32)).toInt (24) by unfold q_eqv; decide) ev27 (by omega) (by omega)
        refine q_ok_b (s_X12_setFour_45 hn hG.1 mo ro (q_oV ev50 (by omega) (by omega)) (q_wd (q_i2lB (q_subBI (-2400) (2400) f45 hl8 (by decide) (by decide) (by decide) (by decide))) (by decide) (by decide))) (fun r47 S48 h49 => ?_)
        have hG := q_G_call hG h49 (by decide)
        have e52 : q_fd (S48) o ((1735162214 : Int64)) = q_fd (S) o ((1735162214 : Int64)) := (Eq.trans (q_fdU h49 mo ro (by decide) (by decide) (by decide)) (Eq.trans (q_fdU h42 mo ro (by decide) (by decide) (by decide)) (Eq.trans (q_fdU h37 mo ro (by decide) (by decide) (by decide)) (q_fdU h25 mo ro (by decide) (by decide) (by decide)))))
        obtain ⟨v53, ev53⟩ := q_ev ((q_fd (S48) o ((1735162214 : Int64))).toInt)
        have f54 : v53 = v1 := q_eqVI e52 ev53 ev1
        obtain ⟨v55, ev55⟩ := q_ev ((l6 + (1)).toInt)
        have f56 : v55 = l6.toInt + (1) := q_addVI ev55 q_evr (show q_eqv ((1 : Int32)).toInt (1) by unfold q_eqv; decide) (by omega) (by omega)
        exact hk205 _ _ _ _ _ _ hG (q_wd hl1 (by decide) (by decide)) (q_wd hl2 (by decide) (by decide)) (q_wd hl4 (by decide) (by decide)) (q_wd (q_addBI (8) (2408) hl8 (show (8 : Int) ≤ (8 : Int32).toInt ∧ (8 : Int32).toInt ≤ (8 : Int) by decide) (by decide) (by decide) (by decide) (by decide)) (by decide) (by decide)) (q_wd (q_addBI (1) (24) hl6 (show (1 : Int) ≤ (1 : Int32).toInt ∧ (1 : Int32).toInt ≤ (1 : Int) by decide) (by decide) (by decide) (by decide) (by decide)) (by decide) (by decide)) (q_bw1 (fun x0 => 0 ≤ x0) ev53 (by omega))  (q_upVl ev55 (by omega))
      · have f57 := q_neV q_evr q_evr (q_n_eq g18)
        unfold m_X12_write_355
        refine q_ok_atS hG (q_trI mo ro) rfl (fun mo ro => ?_)
        have t58 := g_45_R4 hG mo ro
        refine q_ok_at hG t58 rfl (fun a59 ma59 ra59 ea59 => ?_)
        refine q_ok_if (q_inV (g_47_N hG ma59 ra59) q_evr (by omega) (by omega)) ?_
        have f60 : q_sm _ := g_47_E hG ma59 ra59 (k := (l7).toNatClampNeg)
        obtain ⟨v64, ev64⟩ := q_ev (((12 : Int32) + ((16 : Int32) * l6)).toInt)
        obtain ⟨v65, ev65⟩ := q_ev (((16 : Int32) * l6).toInt)
        have f66 : v65 = (16) * l6.toInt := q_mulVI ev65 (show q_eqv ((16 : Int32)).toInt (16) by unfold q_eqv; decide) q_evr (by omega) (by omega)
        have f67 : v64 = (12) + v65 := q_addVI ev64 (show q_eqv ((12 : Int32)).toInt (12) by unfold q_eqv; decide) ev65 (by omega) (by omega)
        refine q_ok_b (s_X12_setFour_45 hn hG.1 mo ro (q_oV ev64 (by omega) (by omega)) (q_wd f60 (by decide) (by decide))) (fun r61 S62 h63 => ?_)
        have hG := q_G_call hG h63 (by decide)
        refine q_ok_atS hG (q_trI mo ro) rfl (fun mo ro => ?_)
        have f68 : q_sm _ := g_45_I38 hG mo ro
        refine q_ok_b (s_X12_sumWritten_45 hn hG.1 mo ro (q_wd hl8 (by decide) (by decide)) (q_wd f68 (by decide) (by decide))) (fun r69 S70 h71 => ?_)
        obtain ⟨eS70, h71⟩ := h71
        replace eS70 := eS70.symm
        subst eS70
        have f72 := h71
        refine q_ok_atS hG (q_trI mo ro) rfl (fun mo ro => ?_)
        obtain ⟨v76, ev76⟩ := q_ev (((16 : Int32) + ((16 : Int32) * l6)).toInt)
        have f77 : v76 = (16) + v65 := q_addVI ev76 (show q_eqv ((16 : Int32)).toInt (16) by unfold q_eqv; decide) ev65 (by omega) (by omega)
        refine q_ok_b (s_X12_setFour_45 hn hG.1 mo ro (q_oV ev76 (by omega) (by omega)) (q_wd f72 (by decide) (by decide))) (fun r73 S74 h75 => ?_)
        have hG := q_G_call hG h75 (by decide)
        refine q_ok_atS hG (q_trI mo ro) rfl (fun mo ro => ?_)
        obtain ⟨v81, ev81⟩ := q_ev (((20 : Int32) + ((16 : Int32) * l6)).toInt)
        have f82 : v81 = (20) + v65 := q_addVI ev81 (show q_eqv ((20 : Int32)).toInt (20) by unfold q_eqv; decide) ev65 (by omega) (by omega)
        refine q_ok_b (s_X12_setFour_45 hn hG.1 mo ro (q_oV ev81 (by omega) (by omega)) (q_wd (q_i2lB hl8) (by decide) (by decide))) (fun r78 S79 h80 => ?_)
        have hG := q_G_call hG h80 (by decide)
        refine q_ok_atS hG (q_trI mo ro) rfl (fun mo ro => ?_)
        have f83 : q_sm _ := g_45_I38 hG mo ro
        have e84 : q_I (S79) o 38 = q_I (S62) o 38 := (Eq.trans (q_unI h80 mo ro (by decide)) (q_unI h75 mo ro (by decide)))
        obtain ⟨v88, ev88⟩ := q_ev (((24 : Int32) + ((16 : Int32) * l6)).toInt)
        have f89 : v88 = (24) + v65 := q_addVI ev88 (show q_eqv ((24 : Int32)).toInt (24) by unfold q_eqv; decide) ev65 (by omega) (by omega)
        refine q_ok_b (s_X12_setFour_45 hn hG.1 mo ro (q_oV ev88 (by omega) (by omega)) (q_wd (q_i2lB (q_subBI (-2400) (2400) f83 hl8 (by decide) (by decide) (by decide) (by decide))) (by decide) (by decide))) (fun r85 S86 h87 => ?_)
        have hG := q_G_call hG h87 (by decide)
        have e90 : q_fd (S86) o ((1735162214 : Int64)) = q_fd (S) o ((1735162214 : Int64)) := (Eq.trans (q_fdU h87 mo ro (by decide) (by decide) (by decide)) (Eq.trans (q_fdU h80 mo ro (by decide) (by decide) (by decide)) (Eq.trans (q_fdU h75 mo ro (by decide) (by decide) (by decide)) (q_fdU h63 mo ro (by decide) (by decide) (by decide)))))
        obtain ⟨v91, ev91⟩ := q_ev ((q_fd (S86) o ((1735162214 : Int64))).toInt)
        have f92 : v91 = v1 := q_eqVI e90 ev91 ev1
        obtain ⟨v93, ev93⟩ := q_ev ((l6 + (1)).toInt)
        have f94 : v93 = l6.toInt + (1) := q_addVI ev93 q_evr (show q_eqv ((1 : Int32)).toInt (1) by unfold q_eqv; decide) (by omega) (by omega)
        exact hk205 _ _ _ _ _ _ hG (q_wd hl1 (by decide) (by decide)) (q_wd hl2 (by decide) (by decide)) (q_wd hl4 (by decide) (by decide)) (q_wd hl5 (by decide) (by decide)) (q_wd (q_addBI (1) (24) hl6 (show (1 : Int) ≤ (1 : Int32).toInt ∧ (1 : Int32).toInt ≤ (1 : Int) by decide) (by decide) (by decide) (by decide) (by decide)) (by decide) (by decide)) (q_bw1 (fun x0 => 0 ≤ x0) ev91 (by omega))  (q_upVl ev93 (by omega))
    · have f95 := q_ltV q_evr ev13 (q_n_ge g16)
      refine q_ok_ite (fun g96 => ?_) (fun g96 => ?_)
      · have f97 := q_eqV q_evr q_evr (q_p_eq g96)
        refine q_ok_ite (fun g98 => ?_) (fun g98 => ?_)
        · have f99 := q_ltV q_evr (show q_eqv ((8 : Int32)).toInt (8) by unfold q_eqv; decide) (q_p_lt g98)
          unfold m_X12_write_315
          refine q_ok_atS hG (q_trI mo ro) rfl (fun mo ro => ?_)
          have t100 := g_45_R1 hG mo ro
          have t101 := g_45_R6 hG mo ro
          refine q_ok_atA hG ea8 ma8 ra8 rfl ?_
          refine q_ok_if (q_inV (g_49_N hG ma8 ra8) q_evr (by omega) (by omega)) ?_
          refine q_ok_at hG t100 rfl (fun a102 ma102 ra102 ea102 => ?_)
          obtain ⟨v103, ev103⟩ := q_ev (((q_I (S) a8 (l7).toNatClampNeg) + l9).toInt)
          have f104 : v103 = v11 + l9.toInt := q_addVI ev103 ev11 q_evr (by omega) (by omega)
          refine q_ok_if (q_inV (g_46_N hG ma102 ra102) ev103 (by omega) (by omega)) ?_
          have f105 : q_sm _ := g_46_E hG ma102 ra102 (k := ((q_I (S) a8 (l7).toNatClampNeg) + l9).toNatClampNeg)
          unfold m_X12_write_330
          refine q_ok_atS hG (q_trI mo ro) rfl (fun mo ro => ?_)
          have f109 : q_sm _ := g_45_I41 hG mo ro
          have f110 : q_sm _ := g_45_I38 hG mo ro
          refine q_ok_b (s_X12_put_45 hn hG.1 mo ro (q_wd f105 (by decide) (by decide))) (fun r106 S107 h108 => ?_)
          have hG := q_G_call hG h108.1 (by decide)
          have f111 : q_sm _ := g_45_I41 hG mo ro
          obtain ⟨v112, ev112⟩ := q_ev ((q_I (S) o 41).toInt)
          have f113 := q_bV ev112 f109
          obtain ⟨v114, ev114⟩ := q_ev ((q_I (S107) o 41).toInt)
          have f115 := q_bV ev114 f111
          have f116 : v112 ≤ v114 := q_to2 (fun x0 x1 => x0 ≤ x1) ev112 ev114 ((q_smE (h108.2)).1)
          have f117 : q_sm _ := g_45_I38 hG mo ro
          obtain ⟨v118, ev118⟩ := q_ev ((q_I (S) o 38).toInt)
          have f119 := q_bV ev118 f110
          obtain ⟨v120, ev120⟩ := q_ev ((q_I (S107) o 38).toInt)
          have f121 := q_bV ev120 f117
          have f122 : v118 ≤ v120 := q_to2 (fun x0 x1 => x0 ≤ x1) ev118 ev120 ((q_smE (h108.2)).2.1)
          have f123 : v112 = 0 → v118 + 1 ≤ v114 + v120 := q_to4 (fun x0 x1 x2 x3 => x0 = 0 → x1 + 1 ≤ x2 + x3) ev112 ev118 ev114 ev120 ((q_smE (h108.2)).2.2)
          obtain ⟨v124, ev124⟩ := q_ev ((l9 + (1)).toInt)
          have f125 : v124 = l9.toInt + (1) := q_addVI ev124 q_evr (show q_eqv ((1 : Int32)).toInt (1) by unfold q_eqv; decide) (by omega) (by omega)
          have e126 : q_fd (S107) o ((1735162214 : Int64)) = q_fd (S) o ((1735162214 : Int64)) := (q_fdU h108.1 mo ro (by decide) (by decide) (by decide))
          obtain ⟨v127, ev127⟩ := q_ev ((q_fd (S107) o ((1735162214 : Int64))).toInt)
          have f128 : v127 = v1 := q_eqVI e126 ev127 ev1
          exact ih _ _ _ _ _ _ _ _ _ hG (q_wd hl1 (by decide) (by decide)) (q_wd hl2 (by decide) (by decide)) (q_wd hl4 (by decide) (by decide)) (q_wd hl5 (by decide) (by decide)) (q_wd hl6 (by decide) (by decide)) (q_wd hl7 (by decide) (by decide)) (q_wd hl8 (by decide) (by decide)) (q_oV ev124 (by omega) (by omega)) (q_bw1 (fun x0 => 0 ≤ x0) ev127 (by omega)) (q_upV q_evr (by omega)) (q_upV ev124 (by omega))
        · have f129 := q_leV (show q_eqv ((8 : Int32)).toInt (8) by unfold q_eqv; decide) q_evr (q_n_lt g98)
          refine q_ok_ite (fun g130 => ?_) (fun g130 => ?_)
          · have f131 := q_leV (show q_eqv ((12 : Int32)).toInt (12) by unfold q_eqv; decide) q_evr (q_p_ge g130)
            unfold m_X12_write_315
            refine q_ok_atS hG (q_trI mo ro) rfl (fun mo ro => ?_)
            have t132 := g_45_R1 hG mo ro
            have t133 := g_45_R6 hG mo ro
            refine q_ok_atA hG ea8 ma8 ra8 rfl ?_
            refine q_ok_if (q_inV (g_49_N hG ma8 ra8) q_evr (by omega) (by omega)) ?_
            refine q_ok_at hG t132 rfl (fun a134 ma134 ra134 ea134 => ?_)
            obtain ⟨v135, ev135⟩ := q_ev (((q_I (S) a8 (l7).toNatClampNeg) + l9).toInt)
            have f136 : v135 = v11 + l9.toInt := q_addVI ev135 ev11 q_evr (by omega) (by omega)
            refine q_ok_if (q_inV (g_46_N hG ma134 ra134) ev135 (by omega) (by omega)) ?_
            have f137 : q_sm _ := g_46_E hG ma134 ra134 (k := ((q_I (S) a8 (l7).toNatClampNeg) + l9).toNatClampNeg)
            unfold m_X12_write_330
            refine q_ok_atS hG (q_trI mo ro) rfl (fun mo ro => ?_)
            have f141 : q_sm _ := g_45_I41 hG mo ro
            have f142 : q_sm _ := g_45_I38 hG mo ro
            refine q_ok_b (s_X12_put_45 hn hG.1 mo ro (q_wd f137 (by decide) (by decide))) (fun r138 S139 h140 => ?_)
            have hG := q_G_call hG h140.1 (by decide)
            have f143 : q_sm _ := g_45_I41 hG mo ro
            obtain ⟨v144, ev144⟩ := q_ev ((q_I (S) o 41).toInt)
            have f145 := q_bV ev144 f141
            obtain ⟨v146, ev146⟩ := q_ev ((q_I (S139) o 41).toInt)
            have f147 := q_bV ev146 f143
            have f148 : v144 ≤ v146 := q_to2 (fun x0 x1 => x0 ≤ x1) ev144 ev146 ((q_smE (h140.2)).1)
            have f149 : q_sm _ := g_45_I38 hG mo ro
            obtain ⟨v150, ev150⟩ := q_ev ((q_I (S) o 38).toInt)
            have f151 := q_bV ev150 f142
            obtain ⟨v152, ev152⟩ := q_ev ((q_I (S139) o 38).toInt)
            have f153 := q_bV ev152 f149
            have f154 : v150 ≤ v152 := q_to2 (fun x0 x1 => x0 ≤ x1) ev150 ev152 ((q_smE (h140.2)).2.1)
            have f155 : v144 = 0 → v150 + 1 ≤ v146 + v152 := q_to4 (fun x0 x1 x2 x3 => x0 = 0 → x1 + 1 ≤ x2 + x3) ev144 ev150 ev146 ev152 ((q_smE (h140.2)).2.2)
            obtain ⟨v156, ev156⟩ := q_ev ((l9 + (1)).toInt)
            have f157 : v156 = l9.toInt + (1) := q_addVI ev156 q_evr (show q_eqv ((1 : Int32)).toInt (1) by unfold q_eqv; decide) (by omega) (by omega)
            have e158 : q_fd (S139) o ((1735162214 : Int64)) = q_fd (S) o ((1735162214 : Int64)) := (q_fdU h140.1 mo ro (by decide) (by decide) (by decide))
            obtain ⟨v159, ev159⟩ := q_ev ((q_fd (S139) o ((1735162214 : Int64))).toInt)
            have f160 : v159 = v1 := q_eqVI e158 ev159 ev1
            exact ih _ _ _ _ _ _ _ _ _ hG (q_wd hl1 (by decide) (by decide)) (q_wd hl2 (by decide) (by decide)) (q_wd hl4 (by decide) (by decide)) (q_wd hl5 (by decide) (by decide)) (q_wd hl6 (by decide) (by decide)) (q_wd hl7 (by decide) (by decide)) (q_wd hl8 (by decide) (by decide)) (q_oV ev156 (by omega) (by omega)) (q_bw1 (fun x0 => 0 ≤ x0) ev159 (by omega)) (q_upV q_evr (by omega)) (q_upV ev156 (by omega))
          · have f161 := q_ltV q_evr (show q_eqv ((12 : Int32)).toInt (12) by unfold q_eqv; decide) (q_n_ge g130)
            unfold m_X12_write_330
            refine q_ok_atS hG (q_trI mo ro) rfl (fun mo ro => ?_)
            have f165 : q_sm _ := g_45_I41 hG mo ro
            have f166 : q_sm _ := g_45_I38 hG mo ro
            refine q_ok_b (s_X12_put_45 hn hG.1 mo ro (q_wd (show (0 : Int) ≤ (0 : Int32).toInt ∧ (0 : Int32).toInt ≤ (0 : Int) by decide) (by decide) (by decide))) (fun r162 S163 h164 => ?_)
            have hG := q_G_call hG h164.1 (by decide)
            have f167 : q_sm _ := g_45_I41 hG mo ro
            obtain ⟨v168, ev168⟩ := q_ev ((q_I (S) o 41).toInt)
            have f169 := q_bV ev168 f165
            obtain ⟨v170, ev170⟩ := q_ev ((q_I (S163) o 41).toInt)
            have f171 := q_bV ev170 f167
            have f172 : v168 ≤ v170 := q_to2 (fun x0 x1 => x0 ≤ x1) ev168 ev170 ((q_smE (h164.2)).1)
            have f173 : q_sm _ := g_45_I38 hG mo ro
            obtain ⟨v174, ev174⟩ := q_ev ((q_I (S) o 38).toInt)
            have f175 := q_bV ev174 f166
            obtain ⟨v176, ev176⟩ := q_ev ((q_I (S163) o 38).toInt)
            have f177 := q_bV ev176 f173
            have f178 : v174 ≤ v176 := q_to2 (fun x0 x1 => x0 ≤ x1) ev174 ev176 ((q_smE (h164.2)).2.1)
            have f179 : v168 = 0 → v174 + 1 ≤ v170 + v176 := q_to4 (fun x0 x1 x2 x3 => x0 = 0 → x1 + 1 ≤ x2 + x3) ev168 ev174 ev170 ev176 ((q_smE (h164.2)).2.2)
            obtain ⟨v180, ev180⟩ := q_ev ((l9 + (1)).toInt)
            have f181 : v180 = l9.toInt + (1) := q_addVI ev180 q_evr (show q_eqv ((1 : Int32)).toInt (1) by unfold q_eqv; decide) (by omega) (by omega)
            have e182 : q_fd (S163) o ((1735162214 : Int64)) = q_fd (S) o ((1735162214 : Int64)) := (q_fdU h164.1 mo ro (by decide) (by decide) (by decide))
            obtain ⟨v183, ev183⟩ := q_ev ((q_fd (S163) o ((1735162214 : Int64))).toInt)
            have f184 : v183 = v1 := q_eqVI e182 ev183 ev1
            exact ih _ _ _ _ _ _ _ _ _ hG (q_wd hl1 (by decide) (by decide)) (q_wd hl2 (by decide) (by decide)) (q_wd hl4 (by decide) (by decide)) (q_wd hl5 (by decide) (by decide)) (q_wd hl6 (by decide) (by decide)) (q_wd hl7 (by decide) (by decide)) (q_wd hl8 (by decide) (by decide)) (q_oV ev180 (by omega) (by omega)) (q_bw1 (fun x0 => 0 ≤ x0) ev183 (by omega)) (q_upV q_evr (by omega)) (q_upV ev180 (by omega))
      · have f185 := q_neV q_evr q_evr (q_n_eq g96)
        unfold m_X12_write_315
        refine q_ok_atS hG (q_trI mo ro) rfl (fun mo ro => ?_)
        have t186 := g_45_R1 hG mo ro
        have t187 := g_45_R6 hG mo ro
        refine q_ok_atA hG ea8 ma8 ra8 rfl ?_
        refine q_ok_if (q_inV (g_49_N hG ma8 ra8) q_evr (by omega) (by omega)) ?_
        refine q_ok_at hG t186 rfl (fun a188 ma188 ra188 ea188 => ?_)
        obtain ⟨v189, ev189⟩ := q_ev (((q_I (S) a8 (l7).toNatClampNeg) + l9).toInt)
        have f190 : v189 = v11 + l9.toInt := q_addVI ev189 ev11 q_evr (by omega) (by omega)
        refine q_ok_if (q_inV (g_46_N hG ma188 ra188) ev189 (by omega) (by omega)) ?_
        have f191 : q_sm _ := g_46_E hG ma188 ra188 (k := ((q_I (S) a8 (l7).toNatClampNeg) + l9).toNatClampNeg)
        unfold m_X12_write_330
        refine q_ok_atS hG (q_trI mo ro) rfl (fun mo ro => ?_)
        have f195 : q_sm _ := g_45_I41 hG mo ro
        have f196 : q_sm _ := g_45_I38 hG mo ro
        refine q_ok_b (s_X12_put_45 hn hG.1 mo ro (q_wd f191 (by decide) (by decide))) (fun r192 S193 h194 => ?_)
        have hG := q_G_call hG h194.1 (by decide)
        have f197 : q_sm _ := g_45_I41 hG mo ro
        obtain ⟨v198, ev198⟩ := q_ev ((q_I (S) o 41).toInt)
        have f199 := q_bV ev198 f195
        obtain ⟨v200, ev200⟩ := q_ev ((q_I (S193) o 41).toInt)
        have f201 := q_bV ev200 f197
        have f202 : v198 ≤ v200 := q_to2 (fun x0 x1 => x0 ≤ x1) ev198 ev200 ((q_smE (h194.2)).1)
        have f203 : q_sm _ := g_45_I38 hG mo ro
        obtain ⟨v204, ev204⟩ := q_ev ((q_I (S) o 38).toInt)
        have f205 := q_bV ev204 f196
        obtain ⟨v206, ev206⟩ := q_ev ((q_I (S193) o 38).toInt)
        have f207 := q_bV ev206 f203
        have f208 : v204 ≤ v206 := q_to2 (fun x0 x1 => x0 ≤ x1) ev204 ev206 ((q_smE (h194.2)).2.1)
        have f209 : v198 = 0 → v204 + 1 ≤ v200 + v206 := q_to4 (fun x0 x1 x2 x3 => x0 = 0 → x1 + 1 ≤ x2 + x3) ev198 ev204 ev200 ev206 ((q_smE (h194.2)).2.2)
        obtain ⟨v210, ev210⟩ := q_ev ((l9 + (1)).toInt)
        have f211 : v210 = l9.toInt + (1) := q_addVI ev210 q_evr (show q_eqv ((1 : Int32)).toInt (1) by unfold q_eqv; decide) (by omega) (by omega)
        have e212 : q_fd (S193) o ((1735162214 : Int64)) = q_fd (S) o ((1735162214 : Int64)) := (q_fdU h194.1 mo ro (by decide) (by decide) (by decide))
        obtain ⟨v213, ev213⟩ := q_ev ((q_fd (S193) o ((1735162214 : Int64))).toInt)
        have f214 : v213 = v1 := q_eqVI e212 ev213 ev1
        exact ih _ _ _ _ _ _ _ _ _ hG (q_wd hl1 (by decide) (by decide)) (q_wd hl2 (by decide) (by decide)) (q_wd hl4 (by decide) (by decide)) (q_wd hl5 (by decide) (by decide)) (q_wd hl6 (by decide) (by decide)) (q_wd hl7 (by decide) (by decide)) (q_wd hl8 (by decide) (by decide)) (q_oV ev210 (by omega) (by omega)) (q_bw1 (fun x0 => 0 ≤ x0) ev213 (by omega)) (q_upV q_evr (by omega)) (q_upV ev210 (by omega))
set_option maxHeartbeats 4000000 in
set_option maxRecDepth 100000 in
theorem s_X12_write_45_205 {ρ : Nat → Nat} {L : List Nat} {n : Nat} (hn : 18446744073709551616 ≤ n) {S0 : q_S} {o : Nat} (mo : o ∈ L) (ro : ρ o = 45)  : ∀ (k : Nat) (S : q_S) (l1 : Int32) (l2 : Int32) (l4 : Int32) (l5 : Int32) (l6 : Int32), q_G ρ L M_X12_write_45 S0 S → (0 ≤ l1.toInt ∧ l1.toInt ≤ 23) → (0 ≤ l2.toInt ∧ l2.toInt ≤ 200) → (0 ≤ l4.toInt ∧ l4.toInt ≤ 1) → (0 ≤ l5.toInt ∧ l5.toInt ≤ 2408) → (0 ≤ l6.toInt ∧ l6.toInt ≤ 24) → (0 ≤ (q_fd S o (1735162214)).toInt) → 2147483648 - l6.toInt ≤ (k : Int) → q_ok (m_X12_write_205 n k S (some o) l1 l2 l4 l5 l6) (fun r T => q_G ρ L M_X12_write_45 S0 T ∧ (-1 ≤ r.toInt ∧ r.toInt ≤ 2400)) := by
  intro k
  induction k with
  | zero =>
    intro S l1 l2 l4 l5 l6 hG hl1 hl2 hl4 hl5 hl6 hf0 hm
    have f0 := q_rngI l6
    exfalso; omega
  | succ k ih =>
    intro S l1 l2 l4 l5 l6 hG hl1 hl2 hl4 hl5 hl6 hf0 hm
    rw [m_X12_write_205]
    have z0 : (0 : Int32).toInt = 0 := rfl
    obtain ⟨v1, ev1⟩ := q_ev ((q_fd (S) o ((1735162214 : Int64))).toInt)
    have f2 := q_rVI (x := q_fd (S) o ((1735162214 : Int64))) ev1
    have f3 : 0 ≤ v1 := q_to1 (fun x0 => 0 ≤ x0) ev1 hf0
    refine q_ok_atS hG (q_trI mo ro) rfl (fun mo ro => ?_)
    have f4 : q_sm _ := g_45_I3 hG mo ro
    obtain ⟨v5, ev5⟩ := q_ev ((q_I (S) o 3).toInt)
    have f6 := q_bV ev5 f4
    refine q_ok_ite (fun g7 => ?_) (fun g7 => ?_)
    · have f8 := q_leV ev5 q_evr (q_p_ge g7)
      refine q_ok_b (s_X12_even_45 hn hG.1 mo ro) (fun r9 S10 h11 => ?_)
      have hG := q_G_call hG h11 (by decide)
      refine q_ok_atS hG (q_trI mo ro) rfl (fun mo ro => ?_)
      have f12 : q_sm _ := g_45_I41 hG mo ro
      obtain ⟨v13, ev13⟩ := q_ev ((q_I (S10) o 41).toInt)
      have f14 := q_bV ev13 f12
      refine q_ok_ite (fun g15 => ?_) (fun g15 => ?_)
      · have f16 := q_eqV ev13 (show q_eqv ((0 : Int32)).toInt (0) by unfold q_eqv; decide) (q_p_eq g15)
        have f17 : q_sm _ := g_45_I38 hG mo ro
        refine q_ok_b (s_X12_sumWritten_45 hn hG.1 mo ro (q_wd (show (0 : Int) ≤ (0 : Int32).toInt ∧ (0 : Int32).toInt ≤ (0 : Int) by decide) (by decide) (by decide)) (q_wd f17 (by decide) (by decide))) (fun r18 S19 h20 => ?_)
        obtain ⟨eS19, h20⟩ := h20
        replace eS19 := eS19.symm
        subst eS19
        have f21 := h20
        refine q_ok_atS hG (q_trI mo ro) rfl (fun mo ro => ?_)
        obtain ⟨v25, ev25⟩ := q_ev ((((2981146554 : Int64) - r18) &&& (4294967295 : Int64)).toInt)
        have f26 := q_andRVJ ev25 (show q_eqv ((4294967295 : Int64)).toInt (4294967295) by unfold q_eqv; decide) (by omega)
        refine q_ok_b (s_X12_setFour_45 hn hG.1 mo ro (q_wd hl5 (by decide) (by decide)) (q_oV ev25 (by omega) (by omega))) (fun r22 S23 h24 => ?_)
        have hG := q_G_call hG h24 (by decide)
        refine q_ok_atS hG (q_trI mo ro) rfl (fun mo ro => ?_)
        have f27 : q_sm _ := g_45_I38 hG mo ro
        have e28 : q_I (S23) o 38 = q_I (S10) o 38 := (q_unI h24 mo ro (by decide))
        exact q_ok_some ⟨hG, (q_wd f27 (by decide) (by decide))⟩
      · have f29 := q_neV ev13 (show q_eqv ((0 : Int32)).toInt (0) by unfold q_eqv; decide) (q_n_eq g15)
        have hG := u_45_I38 (x := (0 : Int32)) hG mo ro (by decide) (q_wd (show (0 : Int) ≤ (0 : Int32).toInt ∧ (0 : Int32).toInt ≤ (0 : Int) by decide) (by decide) (by decide))
        exact q_ok_some ⟨hG, (q_wd (show (-1 : Int) ≤ (-1 : Int32).toInt ∧ (-1 : Int32).toInt ≤ (-1 : Int) by decide) (by decide) (by decide))⟩
    · have f30 := q_ltV q_evr ev5 (q_n_ge g7)
      have t31 := g_45_R40 hG mo ro
      refine q_ok_at hG t31 rfl (fun a32 ma32 ra32 ea32 => ?_)
      refine q_ok_if (q_inV (g_73_N hG ma32 ra32) q_evr (by omega) (by omega)) ?_
      have f33 : q_sm _ := g_73_E hG ma32 ra32 (k := (l6).toNatClampNeg)
      refine q_ok_b (s_X12_even_45 hn hG.1 mo ro) (fun r34 S35 h36 => ?_)
      have hG := q_G_call hG h36 (by decide)
      refine q_ok_atS hG (q_trI mo ro) rfl (fun mo ro => ?_)
      have f37 : q_sm _ := g_45_I38 hG mo ro
      refine q_ok_b (s_X12_find_45 hn hG.1 mo ro (q_wd (show (1735162214 : Int) ≤ (1735162214 : Int64).toInt ∧ (1735162214 : Int64).toInt ≤ (1735162214 : Int) by decide) (by decide) (by decide))) (fun r38 S39 h40 => ?_)
      obtain ⟨eS39, h40⟩ := h40
      replace eS39 := eS39.symm
      subst eS39
      have f41 := h40.1
      have e42 : r38 = q_fd (S35) o ((1735162214 : Int64)) := Int32.toInt_inj.mp (q_smE (h40.2))
      subst e42
      have e43 : q_fd (S35) o ((1735162214 : Int64)) = q_fd (S) o ((1735162214 : Int64)) := (q_fdU h36 mo ro (by decide) (by decide) (by decide))
      obtain ⟨v44, ev44⟩ := q_ev ((q_fd (S35) o ((1735162214 : Int64))).toInt)
      have f45 : v44 = v1 := q_eqVI e43 ev44 ev1
      have f46 := q_bV ev44 f41
      obtain ⟨v47, ev47⟩ := q_ev ((q_I (S) a32 (l6).toNatClampNeg).toInt)
      have f48 := q_bV ev47 f33
      refine q_ok_ite (fun g49 => ?_) (fun g49 => ?_)
      · have f50 := q_eqV ev47 ev44 (q_p_eq g49)
        refine q_ok_atS hG (q_trI mo ro) rfl (fun mo ro => ?_)
        refine q_ok_b (s_X12_putGlyf_45 hn hG.1 mo ro (q_wd hl2 (by decide) (by decide)) (q_bw1 (fun x0 => 0 ≤ x0) ev44 (by omega))) (fun r51 S52 h53 => ?_)
        have hG := q_G_call hG h53 (by decide)
        unfold m_X12_write_339
        refine q_ok_ite (fun g54 => ?_) (fun g54 => ?_)
        · have f55 := q_eqV ev47 q_evr (q_p_eq g54)
          unfold m_X12_write_355
          refine q_ok_atS hG (q_trI mo ro) rfl (fun mo ro => ?_)
          have t56 := g_45_R4 hG mo ro
          refine q_ok_at hG t56 rfl (fun a57 ma57 ra57 ea57 => ?_)
          refine q_ok_if (q_inV (g_47_N hG ma57 ra57) ev47 (by omega) (by omega)) ?_
          have f58 : q_sm _ := g_47_E hG ma57 ra57 (k := (q_I (S) a32 (l6).toNatClampNeg).toNatClampNeg)
          obtain ⟨v62, ev62⟩ := q_ev (((12 : Int32) + ((16 : Int32) * l6)).toInt)
          obtain ⟨v63, ev63⟩ := q_ev (((16 : Int32) * l6).toInt)
          have f64 : v63 = (16) * l6.toInt := q_mulVI ev63 (show q_eqv ((16 : Int32)).toInt (16) by unfold q_eqv; decide) q_evr (by omega) (by omega)
          have f65 : v62 = (12) + v63 := q_addVI ev62 (show q_eqv ((12 : Int32)).toInt (12) by unfold q_eqv; decide) ev63 (by omega) (by omega)
          refine q_ok_b (s_X12_setFour_45 hn hG.1 mo ro (q_oV ev62 (by omega) (by omega)) (q_wd f58 (by decide) (by decide))) (fun r59 S60 h61 => ?_)
          have hG := q_G_call hG h61 (by decide)
          refine q_ok_atS hG (q_trI mo ro) rfl (fun mo ro => ?_)
          have f66 : q_sm _ := g_45_I38 hG mo ro
          refine q_ok_b (s_X12_sumWritten_45 hn hG.1 mo ro (q_wd f37 (by decide) (by decide)) (q_wd f66 (by decide) (by decide))) (fun r67 S68 h69 => ?_)
          obtain ⟨eS68, h69⟩ := h69
          replace eS68 := eS68.symm
          subst eS68
          have f70 := h69
          refine q_ok_atS hG (q_trI mo ro) rfl (fun mo ro => ?_)
          obtain ⟨v74, ev74⟩ := q_ev (((16 : Int32) + ((16 : Int32) * l6)).toInt)
          have f75 : v74 = (16) + v63 := q_addVI ev74 (show q_eqv ((16 : Int32)).toInt (16) by unfold q_eqv; decide) ev63 (by omega) (by omega)
          refine q_ok_b (s_X12_setFour_45 hn hG.1 mo ro (q_oV ev74 (by omega) (by omega)) (q_wd f70 (by decide) (by decide))) (fun r71 S72 h73 => ?_)
          have hG := q_G_call hG h73 (by decide)
          refine q_ok_atS hG (q_trI mo ro) rfl (fun mo ro => ?_)
          obtain ⟨v79, ev79⟩ := q_ev (((20 : Int32) + ((16 : Int32) * l6)).toInt)
          have f80 : v79 = (20) + v63 := q_addVI ev79 (show q_eqv ((20 : Int32)).toInt (20) by unfold q_eqv; decide) ev63 (by omega) (by omega)
          refine q_ok_b (s_X12_setFour_45 hn hG.1 mo ro (q_oV ev79 (by omega) (by omega)) (q_wd (q_i2lB f37) (by decide) (by decide))) (fun r76 S77 h78 => ?_)
          have hG := q_G_call hG h78 (by decide)
          refine q_ok_atS hG (q_trI mo ro) rfl (fun mo ro => ?_)
          have f81 : q_sm _ := g_45_I38 hG mo ro
          have e82 : q_I (S77) o 38 = q_I (S60) o 38 := (Eq.trans (q_unI h78 mo ro (by decide)) (q_unI h73 mo ro (by decide)))
          obtain ⟨v86, ev86⟩ := q_ev (((24 : Int32) + ((16 : Int32) * l6)).toInt)
          have f87 : v86 = (24) + v63 := q_addVI ev86 (show q_eqv ((24 : Int32)).toInt (24) by unfold q_eqv; decide) ev63 (by omega) (by omega)
          refine q_ok_b (s_X12_setFour_45 hn hG.1 mo ro (q_oV ev86 (by omega) (by omega)) (q_wd (q_i2lB (q_subBI (-2400) (2400) f81 f37 (by decide) (by decide) (by decide) (by decide))) (by decide) (by decide))) (fun r83 S84 h85 => ?_)
          have hG := q_G_call hG h85 (by decide)
          obtain ⟨v88, ev88⟩ := q_ev ((l6 + (1)).toInt)
          have f89 : v88 = l6.toInt + (1) := q_addVI ev88 q_evr (show q_eqv ((1 : Int32)).toInt (1) by unfold q_eqv; decide) (by omega) (by omega)
          have e90 : q_fd (S84) o ((1735162214 : Int64)) = q_fd (S35) o ((1735162214 : Int64)) := (Eq.trans (q_fdU h85 mo ro (by decide) (by decide) (by decide)) (Eq.trans (q_fdU h78 mo ro (by decide) (by decide) (by decide)) (Eq.trans (q_fdU h73 mo ro (by decide) (by decide) (by decide)) (Eq.trans (q_fdU h61 mo ro (by decide) (by decide) (by decide)) (q_fdU h53 mo ro (by decide) (by decide) (by decide))))))
          obtain ⟨v91, ev91⟩ := q_ev ((q_fd (S84) o ((1735162214 : Int64))).toInt)
          have f92 : v91 = v44 := q_eqVI e90 ev91 ev44
          exact ih _ _ _ _ _ _ hG (q_wd hl1 (by decide) (by decide)) (q_wd hl2 (by decide) (by decide)) (q_wd hl4 (by decide) (by decide)) (q_wd (q_addBI (8) (2408) f37 (show (8 : Int) ≤ (8 : Int32).toInt ∧ (8 : Int32).toInt ≤ (8 : Int) by decide) (by decide) (by decide) (by decide) (by decide)) (by decide) (by decide)) (q_oV ev88 (by omega) (by omega)) (q_bw1 (fun x0 => 0 ≤ x0) ev91 (by omega))  (q_upV ev88 (by omega))
        · have f93 := q_neV ev47 q_evr (q_n_eq g54)
          unfold m_X12_write_355
          refine q_ok_atS hG (q_trI mo ro) rfl (fun mo ro => ?_)
          have t94 := g_45_R4 hG mo ro
          refine q_ok_at hG t94 rfl (fun a95 ma95 ra95 ea95 => ?_)
          refine q_ok_if (q_inV (g_47_N hG ma95 ra95) ev47 (by omega) (by omega)) ?_
          have f96 : q_sm _ := g_47_E hG ma95 ra95 (k := (q_I (S) a32 (l6).toNatClampNeg).toNatClampNeg)
          obtain ⟨v100, ev100⟩ := q_ev (((12 : Int32) + ((16 : Int32) * l6)).toInt)
          obtain ⟨v101, ev101⟩ := q_ev (((16 : Int32) * l6).toInt)
          have f102 : v101 = (16) * l6.toInt := q_mulVI ev101 (show q_eqv ((16 : Int32)).toInt (16) by unfold q_eqv; decide) q_evr (by omega) (by omega)
          have f103 : v100 = (12) + v101 := q_addVI ev100 (show q_eqv ((12 : Int32)).toInt (12) by unfold q_eqv; decide) ev101 (by omega) (by omega)
          refine q_ok_b (s_X12_setFour_45 hn hG.1 mo ro (q_oV ev100 (by omega) (by omega)) (q_wd f96 (by decide) (by decide))) (fun r97 S98 h99 => ?_)
          have hG := q_G_call hG h99 (by decide)
          refine q_ok_atS hG (q_trI mo ro) rfl (fun mo ro => ?_)
          have f104 : q_sm _ := g_45_I38 hG mo ro
          refine q_ok_b (s_X12_sumWritten_45 hn hG.1 mo ro (q_wd f37 (by decide) (by decide)) (q_wd f104 (by decide) (by decide))) (fun r105 S106 h107 => ?_)
          obtain ⟨eS106, h107⟩ := h107
          replace eS106 := eS106.symm
          subst eS106
          have f108 := h107
          refine q_ok_atS hG (q_trI mo ro) rfl (fun mo ro => ?_)
          obtain ⟨v112, ev112⟩ := q_ev (((16 : Int32) + ((16 : Int32) * l6)).toInt)
          have f113 : v112 = (16) + v101 := q_addVI ev112 (show q_eqv ((16 : Int32)).toInt (16) by unfold q_eqv; decide) ev101 (by omega) (by omega)
          refine q_ok_b (s_X12_setFour_45 hn hG.1 mo ro (q_oV ev112 (by omega) (by omega)) (q_wd f108 (by decide) (by decide))) (fun r109 S110 h111 => ?_)
          have hG := q_G_call hG h111 (by decide)
          refine q_ok_atS hG (q_trI mo ro) rfl (fun mo ro => ?_)
          obtain ⟨v117, ev117⟩ := q_ev (((20 : Int32) + ((16 : Int32) * l6)).toInt)
          have f118 : v117 = (20) + v101 := q_addVI ev117 (show q_eqv ((20 : Int32)).toInt (20) by unfold q_eqv; decide) ev101 (by omega) (by omega)
          refine q_ok_b (s_X12_setFour_45 hn hG.1 mo ro (q_oV ev117 (by omega) (by omega)) (q_wd (q_i2lB f37) (by decide) (by decide))) (fun r114 S115 h116 => ?_)
          have hG := q_G_call hG h116 (by decide)
          refine q_ok_atS hG (q_trI mo ro) rfl (fun mo ro => ?_)
          have f119 : q_sm _ := g_45_I38 hG mo ro
          have e120 : q_I (S115) o 38 = q_I (S98) o 38 := (Eq.trans (q_unI h116 mo ro (by decide)) (q_unI h111 mo ro (by decide)))
          obtain ⟨v124, ev124⟩ := q_ev (((24 : Int32) + ((16 : Int32) * l6)).toInt)
          have f125 : v124 = (24) + v101 := q_addVI ev124 (show q_eqv ((24 : Int32)).toInt (24) by unfold q_eqv; decide) ev101 (by omega) (by omega)
          refine q_ok_b (s_X12_setFour_45 hn hG.1 mo ro (q_oV ev124 (by omega) (by omega)) (q_wd (q_i2lB (q_subBI (-2400) (2400) f119 f37 (by decide) (by decide) (by decide) (by decide))) (by decide) (by decide))) (fun r121 S122 h123 => ?_)
          have hG := q_G_call hG h123 (by decide)
          obtain ⟨v126, ev126⟩ := q_ev ((l6 + (1)).toInt)
          have f127 : v126 = l6.toInt + (1) := q_addVI ev126 q_evr (show q_eqv ((1 : Int32)).toInt (1) by unfold q_eqv; decide) (by omega) (by omega)
          have e128 : q_fd (S122) o ((1735162214 : Int64)) = q_fd (S35) o ((1735162214 : Int64)) := (Eq.trans (q_fdU h123 mo ro (by decide) (by decide) (by decide)) (Eq.trans (q_fdU h116 mo ro (by decide) (by decide) (by decide)) (Eq.trans (q_fdU h111 mo ro (by decide) (by decide) (by decide)) (Eq.trans (q_fdU h99 mo ro (by decide) (by decide) (by decide)) (q_fdU h53 mo ro (by decide) (by decide) (by decide))))))
          obtain ⟨v129, ev129⟩ := q_ev ((q_fd (S122) o ((1735162214 : Int64))).toInt)
          have f130 : v129 = v44 := q_eqVI e128 ev129 ev44
          exact ih _ _ _ _ _ _ hG (q_wd hl1 (by decide) (by decide)) (q_wd hl2 (by decide) (by decide)) (q_wd hl4 (by decide) (by decide)) (q_wd hl5 (by decide) (by decide)) (q_oV ev126 (by omega) (by omega)) (q_bw1 (fun x0 => 0 ≤ x0) ev129 (by omega))  (q_upV ev126 (by omega))
      · have f131 := q_neV ev47 ev44 (q_n_eq g49)
        refine q_ok_atS hG (q_trI mo ro) rfl (fun mo ro => ?_)
        refine q_ok_b (s_X12_find_45 hn hG.1 mo ro (q_wd (show (1819239265 : Int) ≤ (1819239265 : Int64).toInt ∧ (1819239265 : Int64).toInt ≤ (1819239265 : Int) by decide) (by decide) (by decide))) (fun r132 S133 h134 => ?_)
        obtain ⟨eS133, h134⟩ := h134
        replace eS133 := eS133.symm
        subst eS133
        have f135 := h134.1
        have e136 : r132 = q_fd (S35) o ((1819239265 : Int64)) := Int32.toInt_inj.mp (q_smE (h134.2))
        subst e136
        obtain ⟨v137, ev137⟩ := q_ev ((q_fd (S35) o ((1819239265 : Int64))).toInt)
        have f138 := q_rVI (x := q_fd (S35) o ((1819239265 : Int64))) ev137
        have f139 := q_bV ev137 f135
        refine q_ok_ite (fun g140 => ?_) (fun g140 => ?_)
        · have f141 := q_eqV ev47 ev137 (q_p_eq g140)
          refine q_ok_atS hG (q_trI mo ro) rfl (fun mo ro => ?_)
          refine q_ok_b (s_X12_putLoca_45 hn hG.1 mo ro (q_wd hl2 (by decide) (by decide)) (q_wd hl4 (by decide) (by decide)) (q_bw1 (fun x0 => 0 ≤ x0) ev44 (by omega))) (fun r142 S143 h144 => ?_)
          have hG := q_G_call hG h144 (by decide)
          unfold m_X12_write_339
          refine q_ok_ite (fun g145 => ?_) (fun g145 => ?_)
          · have f146 := q_eqV ev47 q_evr (q_p_eq g145)
            unfold m_X12_write_355
            refine q_ok_atS hG (q_trI mo ro) rfl (fun mo ro => ?_)
            have t147 := g_45_R4 hG mo ro
            refine q_ok_at hG t147 rfl (fun a148 ma148 ra148 ea148 => ?_)
            refine q_ok_if (q_inV (g_47_N hG ma148 ra148) ev47 (by omega) (by omega)) ?_
            have f149 : q_sm _ := g_47_E hG ma148 ra148 (k := (q_I (S) a32 (l6).toNatClampNeg).toNatClampNeg)
            obtain ⟨v153, ev153⟩ := q_ev (((12 : Int32) + ((16 : Int32) * l6)).toInt)
            obtain ⟨v154, ev154⟩ := q_ev (((16 : Int32) * l6).toInt)
            have f155 : v154 = (16) * l6.toInt := q_mulVI ev154 (show q_eqv ((16 : Int32)).toInt (16) by unfold q_eqv; decide) q_evr (by omega) (by omega)
            have f156 : v153 = (12) + v154 := q_addVI ev153 (show q_eqv ((12 : Int32)).toInt (12) by unfold q_eqv; decide) ev154 (by omega) (by omega)
            refine q_ok_b (s_X12_setFour_45 hn hG.1 mo ro (q_oV ev153 (by omega) (by omega)) (q_wd f149 (by decide) (by decide))) (fun r150 S151 h152 => ?_)
            have hG := q_G_call hG h152 (by decide)
            refine q_ok_atS hG (q_trI mo ro) rfl (fun mo ro => ?_)
            have f157 : q_sm _ := g_45_I38 hG mo ro
            refine q_ok_b (s_X12_sumWritten_45 hn hG.1 mo ro (q_wd f37 (by decide) (by decide)) (q_wd f157 (by decide) (by decide))) (fun r158 S159 h160 => ?_)
            obtain ⟨eS159, h160⟩ := h160
            replace eS159 := eS159.symm
            subst eS159
            have f161 := h160
            refine q_ok_atS hG (q_trI mo ro) rfl (fun mo ro => ?_)
            obtain ⟨v165, ev165⟩ := q_ev (((16 : Int32) + ((16 : Int32) * l6)).toInt)
            have f166 : v165 = (16) + v154 := q_addVI ev165 (show q_eqv ((16 : Int32)).toInt (16) by unfold q_eqv; decide) ev154 (by omega) (by omega)
            refine q_ok_b (s_X12_setFour_45 hn hG.1 mo ro (q_oV ev165 (by omega) (by omega)) (q_wd f161 (by decide) (by decide))) (fun r162 S163 h164 => ?_)
            have hG := q_G_call hG h164 (by decide)
            refine q_ok_atS hG (q_trI mo ro) rfl (fun mo ro => ?_)
            obtain ⟨v170, ev170⟩ := q_ev (((20 : Int32) + ((16 : Int32) * l6)).toInt)
            have f171 : v170 = (20) + v154 := q_addVI ev170 (show q_eqv ((20 : Int32)).toInt (20) by unfold q_eqv; decide) ev154 (by omega) (by omega)
            refine q_ok_b (s_X12_setFour_45 hn hG.1 mo ro (q_oV ev170 (by omega) (by omega)) (q_wd (q_i2lB f37) (by decide) (by decide))) (fun r167 S168 h169 => ?_)
            have hG := q_G_call hG h169 (by decide)
            refine q_ok_atS hG (q_trI mo ro) rfl (fun mo ro => ?_)
            have f172 : q_sm _ := g_45_I38 hG mo ro
            have e173 : q_I (S168) o 38 = q_I (S151) o 38 := (Eq.trans (q_unI h169 mo ro (by decide)) (q_unI h164 mo ro (by decide)))
            obtain ⟨v177, ev177⟩ := q_ev (((24 : Int32) + ((16 : Int32) * l6)).toInt)
            have f178 : v177 = (24) + v154 := q_addVI ev177 (show q_eqv ((24 : Int32)).toInt (24) by unfold q_eqv; decide) ev154 (by omega) (by omega)
            refine q_ok_b (s_X12_setFour_45 hn hG.1 mo ro (q_oV ev177 (by omega) (by omega)) (q_wd (q_i2lB (q_subBI (-2400) (2400) f172 f37 (by decide) (by decide) (by decide) (by decide))) (by decide) (by decide))) (fun r174 S175 h176 => ?_)
            have hG := q_G_call hG h176 (by decide)
            obtain ⟨v179, ev179⟩ := q_ev ((l6 + (1)).toInt)
            have f180 : v179 = l6.toInt + (1) := q_addVI ev179 q_evr (show q_eqv ((1 : Int32)).toInt (1) by unfold q_eqv; decide) (by omega) (by omega)
            have e181 : q_fd (S175) o ((1735162214 : Int64)) = q_fd (S35) o ((1735162214 : Int64)) := (Eq.trans (q_fdU h176 mo ro (by decide) (by decide) (by decide)) (Eq.trans (q_fdU h169 mo ro (by decide) (by decide) (by decide)) (Eq.trans (q_fdU h164 mo ro (by decide) (by decide) (by decide)) (Eq.trans (q_fdU h152 mo ro (by decide) (by decide) (by decide)) (q_fdU h144 mo ro (by decide) (by decide) (by decide))))))
            obtain ⟨v182, ev182⟩ := q_ev ((q_fd (S175) o ((1735162214 : Int64))).toInt)
            have f183 : v182 = v44 := q_eqVI e181 ev182 ev44
            exact ih _ _ _ _ _ _ hG (q_wd hl1 (by decide) (by decide)) (q_wd hl2 (by decide) (by decide)) (q_wd hl4 (by decide) (by decide)) (q_wd (q_addBI (8) (2408) f37 (show (8 : Int) ≤ (8 : Int32).toInt ∧ (8 : Int32).toInt ≤ (8 : Int) by decide) (by decide) (by decide) (by decide) (by decide)) (by decide) (by decide)) (q_oV ev179 (by omega) (by omega)) (q_bw1 (fun x0 => 0 ≤ x0) ev182 (by omega))  (q_upV ev179 (by omega))
          · have f184 := q_neV ev47 q_evr (q_n_eq g145)
            unfold m_X12_write_355
            refine q_ok_atS hG (q_trI mo ro) rfl (fun mo ro => ?_)
            have t185 := g_45_R4 hG mo ro
            refine q_ok_at hG t185 rfl (fun a186 ma186 ra186 ea186 => ?_)
            refine q_ok_if (q_inV (g_47_N hG ma186 ra186) ev47 (by omega) (by omega)) ?_
            have f187 : q_sm _ := g_47_E hG ma186 ra186 (k := (q_I (S) a32 (l6).toNatClampNeg).toNatClampNeg)
            obtain ⟨v191, ev191⟩ := q_ev (((12 : Int32) + ((16 : Int32) * l6)).toInt)
            obtain ⟨v192, ev192⟩ := q_ev (((16 : Int32) * l6).toInt)
            have f193 : v192 = (16) * l6.toInt := q_mulVI ev192 (show q_eqv ((16 : Int32)).toInt (16) by unfold q_eqv; decide) q_evr (by omega) (by omega)
            have f194 : v191 = (12) + v192 := q_addVI ev191 (show q_eqv ((12 : Int32)).toInt (12) by unfold q_eqv; decide) ev192 (by omega) (by omega)
            refine q_ok_b (s_X12_setFour_45 hn hG.1 mo ro (q_oV ev191 (by omega) (by omega)) (q_wd f187 (by decide) (by decide))) (fun r188 S189 h190 => ?_)
            have hG := q_G_call hG h190 (by decide)
            refine q_ok_atS hG (q_trI mo ro) rfl (fun mo ro => ?_)
            have f195 : q_sm _ := g_45_I38 hG mo ro
            refine q_ok_b (s_X12_sumWritten_45 hn hG.1 mo ro (q_wd f37 (by decide) (by decide)) (q_wd f195 (by decide) (by decide))) (fun r196 S197 h198 => ?_)
            obtain ⟨eS197, h198⟩ := h198
            replace eS197 := eS197.symm
            subst eS197
            have f199 := h198
            refine q_ok_atS hG (q_trI mo ro) rfl (fun mo ro => ?_)
            obtain ⟨v203, ev203⟩ := q_ev (((16 : Int32) + ((16 : Int32) * l6)).toInt)
            have f204 : v203 = (16) + v192 := q_addVI ev203 (show q_eqv ((16 : Int32)).toInt (16) by unfold q_eqv; decide) ev192 (by omega) (by omega)
            refine q_ok_b (s_X12_setFour_45 hn hG.1 mo ro (q_oV ev203 (by omega) (by omega)) (q_wd f199 (by decide) (by decide))) (fun r200 S201 h202 => ?_)
            have hG := q_G_call hG h202 (by decide)
            refine q_ok_atS hG (q_trI mo ro) rfl (fun mo ro => ?_)
            obtain ⟨v208, ev208⟩ := q_ev (((20 : Int32) + ((16 : Int32) * l6)).toInt)
            have f209 : v208 = (20) + v192 := q_addVI ev208 (show q_eqv ((20 : Int32)).toInt (20) by unfold q_eqv; decide) ev192 (by omega) (by omega)
            refine q_ok_b (s_X12_setFour_45 hn hG.1 mo ro (q_oV ev208 (by omega) (by omega)) (q_wd (q_i2lB f37) (by decide) (by decide))) (fun r205 S206 h207 => ?_)
            have hG := q_G_call hG h207 (by decide)
            refine q_ok_atS hG (q_trI mo ro) rfl (fun mo ro => ?_)
            have f210 : q_sm _ := g_45_I38 hG mo ro
            have e211 : q_I (S206) o 38 = q_I (S189) o 38 := (Eq.trans (q_unI h207 mo ro (by decide)) (q_unI h202 mo ro (by decide)))
            obtain ⟨v215, ev215⟩ := q_ev (((24 : Int32) + ((16 : Int32) * l6)).toInt)
            have f216 : v215 = (24) + v192 := q_addVI ev215 (show q_eqv ((24 : Int32)).toInt (24) by unfold q_eqv; decide) ev192 (by omega) (by omega)
            refine q_ok_b (s_X12_setFour_45 hn hG.1 mo ro (q_oV ev215 (by omega) (by omega)) (q_wd (q_i2lB (q_subBI (-2400) (2400) f210 f37 (by decide) (by decide) (by decide) (by decide))) (by decide) (by decide))) (fun r212 S213 h214 => ?_)
            have hG := q_G_call hG h214 (by decide)
            obtain ⟨v217, ev217⟩ := q_ev ((l6 + (1)).toInt)
            have f218 : v217 = l6.toInt + (1) := q_addVI ev217 q_evr (show q_eqv ((1 : Int32)).toInt (1) by unfold q_eqv; decide) (by omega) (by omega)
            have e219 : q_fd (S213) o ((1735162214 : Int64)) = q_fd (S35) o ((1735162214 : Int64)) := (Eq.trans (q_fdU h214 mo ro (by decide) (by decide) (by decide)) (Eq.trans (q_fdU h207 mo ro (by decide) (by decide) (by decide)) (Eq.trans (q_fdU h202 mo ro (by decide) (by decide) (by decide)) (Eq.trans (q_fdU h190 mo ro (by decide) (by decide) (by decide)) (q_fdU h144 mo ro (by decide) (by decide) (by decide))))))
            obtain ⟨v220, ev220⟩ := q_ev ((q_fd (S213) o ((1735162214 : Int64))).toInt)
            have f221 : v220 = v44 := q_eqVI e219 ev220 ev44
            exact ih _ _ _ _ _ _ hG (q_wd hl1 (by decide) (by decide)) (q_wd hl2 (by decide) (by decide)) (q_wd hl4 (by decide) (by decide)) (q_wd hl5 (by decide) (by decide)) (q_oV ev217 (by omega) (by omega)) (q_bw1 (fun x0 => 0 ≤ x0) ev220 (by omega))  (q_upV ev217 (by omega))
        · have f222 := q_neV ev47 ev137 (q_n_eq g140)
          exact s_X12_write_45_278 hn mo ro (B205 := (k : Int) + 1) (fun S9 z1 z2 z3 z4 z5 hG9 hz1 hz2 hz3 hz4 hz5 hzf0  hm9 => ih S9 z1 z2 z3 z4 z5 hG9 hz1 hz2 hz3 hz4 hz5 hzf0  (by omega)) n _ _ _ _ _ _ _ _ _ hG (q_wd hl1 (by decide) (by decide)) (q_wd hl2 (by decide) (by decide)) (q_wd hl4 (by decide) (by decide)) (q_wd hl5 (by decide) (by decide)) (q_oV q_evr (by omega) (by omega)) (q_wd f33 (by decide) (by decide)) (q_wd f37 (by decide) (by decide)) (q_wd (show (0 : Int) ≤ (0 : Int32).toInt ∧ (0 : Int32).toInt ≤ (0 : Int) by decide) (by decide) (by decide)) (q_bw1 (fun x0 => 0 ≤ x0) ev44 (by omega)) (q_upV q_evr (by omega)) (q_upV (show q_eqv ((0 : Int32)).toInt (0) by unfold q_eqv; decide) (by omega))
set_option maxHeartbeats 4000000 in
set_option maxRecDepth 100000 in
theorem s_X12_write_45_176 {ρ : Nat → Nat} {L : List Nat} {n : Nat} (hn : 18446744073709551616 ≤ n) {S0 : q_S} {o : Nat} (mo : o ∈ L) (ro : ρ o = 45)  : ∀ (k : Nat) (S : q_S) (l1 : Int32) (l2 : Int32) (l4 : Int32) (l5 : Int32), q_G ρ L M_X12_write_45 S0 S → (0 ≤ l1.toInt ∧ l1.toInt ≤ 23) → (0 ≤ l2.toInt ∧ l2.toInt ≤ 200) → (0 ≤ l4.toInt ∧ l4.toInt ≤ 1) → (0 ≤ l5.toInt ∧ l5.toInt ≤ 960) → (0 ≤ (q_fd S o (1735162214)).toInt) → 2147483648 - l5.toInt ≤ (k : Int) → q_ok (m_X12_write_176 n k S (some o) l1 l2 l4 l5) (fun r T => q_G ρ L M_X12_write_45 S0 T ∧ (-1 ≤ r.toInt ∧ r.toInt ≤ 2400)) := by
  intro k
  induction k with
  | zero =>
    intro S l1 l2 l4 l5 hG hl1 hl2 hl4 hl5 hf0 hm
    have f0 := q_rngI l5
    exfalso; omega
  | succ k ih =>
    intro S l1 l2 l4 l5 hG hl1 hl2 hl4 hl5 hf0 hm
    rw [m_X12_write_176]
    have z0 : (0 : Int32).toInt = 0 := rfl
    obtain ⟨v1, ev1⟩ := q_ev ((q_fd (S) o ((1735162214 : Int64))).toInt)
    have f2 := q_rVI (x := q_fd (S) o ((1735162214 : Int64))) ev1
    have f3 : 0 ≤ v1 := q_to1 (fun x0 => 0 ≤ x0) ev1 hf0
    refine q_ok_atS hG (q_trI mo ro) rfl (fun mo ro => ?_)
    have f4 : q_sm _ := g_45_I3 hG mo ro
    obtain ⟨v5, ev5⟩ := q_ev (((16 : Int32) * (q_I (S) o 3)).toInt)
    obtain ⟨v6, ev6⟩ := q_ev ((q_I (S) o 3).toInt)
    have f7 := q_bV ev6 f4
    have f8 : v5 = (16) * v6 := q_mulVI ev5 (show q_eqv ((16 : Int32)).toInt (16) by unfold q_eqv; decide) ev6 (by omega) (by omega)
    refine q_ok_ite (fun g9 => ?_) (fun g9 => ?_)
    · have f10 := q_leV ev5 q_evr (q_p_ge g9)
      exact s_X12_write_45_205 hn mo ro n _ _ _ _ _ _ hG (q_wd hl1 (by decide) (by decide)) (q_wd hl2 (by decide) (by decide)) (q_wd hl4 (by decide) (by decide)) (q_wd (show (0 : Int) ≤ (0 : Int32).toInt ∧ (0 : Int32).toInt ≤ (0 : Int) by decide) (by decide) (by decide)) (q_wd (show (0 : Int) ≤ (0 : Int32).toInt ∧ (0 : Int32).toInt ≤ (0 : Int) by decide) (by decide) (by decide)) (q_bw1 (fun x0 => 0 ≤ x0) ev1 (by omega))  (q_upV (show q_eqv ((0 : Int32)).toInt (0) by unfold q_eqv; decide) (by omega))
    · have f11 := q_ltV q_evr ev5 (q_n_ge g9)
      have f15 : q_sm _ := g_45_I41 hG mo ro
      have f16 : q_sm _ := g_45_I38 hG mo ro
      refine q_ok_b (s_X12_put_45 hn hG.1 mo ro (q_wd (show (0 : Int) ≤ (0 : Int32).toInt ∧ (0 : Int32).toInt ≤ (0 : Int) by decide) (by decide) (by decide))) (fun r12 S13 h14 => ?_)
      have hG := q_G_call hG h14.1 (by decide)
      have f17 : q_sm _ := g_45_I41 hG mo ro
      obtain ⟨v18, ev18⟩ := q_ev ((q_I (S) o 41).toInt)
      have f19 := q_bV ev18 f15
      obtain ⟨v20, ev20⟩ := q_ev ((q_I (S13) o 41).toInt)
      have f21 := q_bV ev20 f17
      have f22 : v18 ≤ v20 := q_to2 (fun x0 x1 => x0 ≤ x1) ev18 ev20 ((q_smE (h14.2)).1)
      have f23 : q_sm _ := g_45_I38 hG mo ro
      obtain ⟨v24, ev24⟩ := q_ev ((q_I (S) o 38).toInt)
      have f25 := q_bV ev24 f16
      obtain ⟨v26, ev26⟩ := q_ev ((q_I (S13) o 38).toInt)
      have f27 := q_bV ev26 f23
      have f28 : v24 ≤ v26 := q_to2 (fun x0 x1 => x0 ≤ x1) ev24 ev26 ((q_smE (h14.2)).2.1)
      have f29 : v18 = 0 → v24 + 1 ≤ v20 + v26 := q_to4 (fun x0 x1 x2 x3 => x0 = 0 → x1 + 1 ≤ x2 + x3) ev18 ev24 ev20 ev26 ((q_smE (h14.2)).2.2)
      obtain ⟨v30, ev30⟩ := q_ev ((l5 + (1)).toInt)
      have f31 : v30 = l5.toInt + (1) := q_addVI ev30 q_evr (show q_eqv ((1 : Int32)).toInt (1) by unfold q_eqv; decide) (by omega) (by omega)
      have e32 : q_fd (S13) o ((1735162214 : Int64)) = q_fd (S) o ((1735162214 : Int64)) := (q_fdU h14.1 mo ro (by decide) (by decide) (by decide))
      obtain ⟨v33, ev33⟩ := q_ev ((q_fd (S13) o ((1735162214 : Int64))).toInt)
      have f34 : v33 = v1 := q_eqVI e32 ev33 ev1
      exact ih _ _ _ _ _ hG (q_wd hl1 (by decide) (by decide)) (q_wd hl2 (by decide) (by decide)) (q_wd hl4 (by decide) (by decide)) (q_oV ev30 (by omega) (by omega)) (q_bw1 (fun x0 => 0 ≤ x0) ev33 (by omega))  (q_upV ev30 (by omega))
set_option maxHeartbeats 4000000 in
set_option maxRecDepth 100000 in
theorem s_X12_write_45_149 {ρ : Nat → Nat} {L : List Nat} {n : Nat} (hn : 18446744073709551616 ≤ n) {S0 : q_S} {o : Nat} (mo : o ∈ L) (ro : ρ o = 45)  : ∀ (k : Nat) (S : q_S) (l1 : Int32) (l2 : Int32) (l4 : Int32) (l5 : Int32), q_G ρ L M_X12_write_45 S0 S → (0 ≤ l1.toInt ∧ l1.toInt ≤ 23) → (0 ≤ l2.toInt ∧ l2.toInt ≤ 200) → (0 ≤ l4.toInt ∧ l4.toInt ≤ 1) → (0 ≤ l5.toInt ∧ l5.toInt ≤ 23) → (0 ≤ (q_fd S o (1735162214)).toInt) → 2147483648 - l5.toInt ≤ (k : Int) → q_ok (m_X12_write_149 n k S (some o) l1 l2 l4 l5) (fun r T => q_G ρ L M_X12_write_45 S0 T ∧ (-1 ≤ r.toInt ∧ r.toInt ≤ 2400)) := by
  intro k
  induction k with
  | zero =>
    intro S l1 l2 l4 l5 hG hl1 hl2 hl4 hl5 hf0 hm
    have f0 := q_rngI l5
    exfalso; omega
  | succ k ih =>
    intro S l1 l2 l4 l5 hG hl1 hl2 hl4 hl5 hf0 hm
    rw [m_X12_write_149]
    have z0 : (0 : Int32).toInt = 0 := rfl
    obtain ⟨v1, ev1⟩ := q_ev ((q_fd (S) o ((1735162214 : Int64))).toInt)
    have f2 := q_rVI (x := q_fd (S) o ((1735162214 : Int64))) ev1
    have f3 : 0 ≤ v1 := q_to1 (fun x0 => 0 ≤ x0) ev1 hf0
    refine q_ok_ite (fun g4 => ?_) (fun g4 => ?_)
    · have f5 := q_leV (show q_eqv ((12 : Int32)).toInt (12) by unfold q_eqv; decide) q_evr (q_p_ge g4)
      exact s_X12_write_45_176 hn mo ro n _ _ _ _ _ hG (q_wd hl1 (by decide) (by decide)) (q_wd hl2 (by decide) (by decide)) (q_wd hl4 (by decide) (by decide)) (q_wd (show (0 : Int) ≤ (0 : Int32).toInt ∧ (0 : Int32).toInt ≤ (0 : Int) by decide) (by decide) (by decide)) (q_bw1 (fun x0 => 0 ≤ x0) ev1 (by omega))  (q_upV (show q_eqv ((0 : Int32)).toInt (0) by unfold q_eqv; decide) (by omega))
    · have f6 := q_ltV q_evr (show q_eqv ((12 : Int32)).toInt (12) by unfold q_eqv; decide) (q_n_ge g4)
      refine q_ok_atS hG (q_trI mo ro) rfl (fun mo ro => ?_)
      have t7 := g_45_R1 hG mo ro
      refine q_ok_at hG t7 rfl (fun a8 ma8 ra8 ea8 => ?_)
      refine q_ok_if (q_inV (g_46_N hG ma8 ra8) q_evr (by omega) (by omega)) ?_
      have f9 : q_sm _ := g_46_E hG ma8 ra8 (k := (l5).toNatClampNeg)
      have f13 : q_sm _ := g_45_I41 hG mo ro
      have f14 : q_sm _ := g_45_I38 hG mo ro
      refine q_ok_b (s_X12_put_45 hn hG.1 mo ro (q_wd f9 (by decide) (by decide))) (fun r10 S11 h12 => ?_)
      have hG := q_G_call hG h12.1 (by decide)
      have f15 : q_sm _ := g_45_I41 hG mo ro
      obtain ⟨v16, ev16⟩ := q_ev ((q_I (S) o 41).toInt)
      have f17 := q_bV ev16 f13
      obtain ⟨v18, ev18⟩ := q_ev ((q_I (S11) o 41).toInt)
      have f19 := q_bV ev18 f15
      have f20 : v16 ≤ v18 := q_to2 (fun x0 x1 => x0 ≤ x1) ev16 ev18 ((q_smE (h12.2)).1)
      have f21 : q_sm _ := g_45_I38 hG mo ro
      obtain ⟨v22, ev22⟩ := q_ev ((q_I (S) o 38).toInt)
      have f23 := q_bV ev22 f14
      obtain ⟨v24, ev24⟩ := q_ev ((q_I (S11) o 38).toInt)
      have f25 := q_bV ev24 f21
      have f26 : v22 ≤ v24 := q_to2 (fun x0 x1 => x0 ≤ x1) ev22 ev24 ((q_smE (h12.2)).2.1)
      have f27 : v16 = 0 → v22 + 1 ≤ v18 + v24 := q_to4 (fun x0 x1 x2 x3 => x0 = 0 → x1 + 1 ≤ x2 + x3) ev16 ev22 ev18 ev24 ((q_smE (h12.2)).2.2)
      obtain ⟨v28, ev28⟩ := q_ev ((l5 + (1)).toInt)
      have f29 : v28 = l5.toInt + (1) := q_addVI ev28 q_evr (show q_eqv ((1 : Int32)).toInt (1) by unfold q_eqv; decide) (by omega) (by omega)
      have e30 : q_fd (S11) o ((1735162214 : Int64)) = q_fd (S) o ((1735162214 : Int64)) := (q_fdU h12.1 mo ro (by decide) (by decide) (by decide))
      obtain ⟨v31, ev31⟩ := q_ev ((q_fd (S11) o ((1735162214 : Int64))).toInt)
      have f32 : v31 = v1 := q_eqVI e30 ev31 ev1
      exact ih _ _ _ _ _ hG (q_wd hl1 (by decide) (by decide)) (q_wd hl2 (by decide) (by decide)) (q_wd hl4 (by decide) (by decide)) (q_oV ev28 (by omega) (by omega)) (q_bw1 (fun x0 => 0 ≤ x0) ev31 (by omega))  (q_upV ev28 (by omega))
set_option maxHeartbeats 4000000 in
set_option maxRecDepth 100000 in
theorem s_X12_write_45 {ρ : Nat → Nat} {L : List Nat} {n : Nat} (hn : 18446744073709551616 ≤ n) {S : q_S} (hI : q_Inv ρ L S) {o : Nat} (mo : o ∈ L) (ro : ρ o = 45) : q_ok (m_X12_write n S o) (fun r T => q_G ρ L M_X12_write_45 S T ∧ (-1 ≤ r.toInt ∧ r.toInt ≤ 2400)) := by
  have hG : q_G ρ L M_X12_write_45 S S := q_G_refl hI
  unfold m_X12_write
  have z0 : (0 : Int32).toInt = 0 := rfl
  refine q_ok_atS hG (q_trI mo ro) rfl (fun mo ro => ?_)
  have hG := u_45_I0 (x := (0 : Int32)) hG mo ro (by decide) (q_wd (show (0 : Int) ≤ (0 : Int32).toInt ∧ (0 : Int32).toInt ≤ (0 : Int) by decide) (by decide) (by decide))
  have hG := u_45_I38 (x := (0 : Int32)) hG mo ro (by decide) (q_wd (show (0 : Int) ≤ (0 : Int32).toInt ∧ (0 : Int32).toInt ≤ (0 : Int) by decide) (by decide) (by decide))
  refine q_ok_let (fun S1 eS1 => ?_)
  rw [← eS1] at hG
  refine q_ok_if (q_b01V (show q_eqv ((0 : Int32)).toInt (0) by unfold q_eqv; decide) (by omega) (by omega)) ?_
  have hG := u_45_I41 (x := (0 : Int32)) hG mo ro (by decide) (q_wd (show (0 : Int) ≤ (0 : Int32).toInt ∧ (0 : Int32).toInt ≤ (0 : Int) by decide) (by decide) (by decide))
  refine q_ok_if (q_b01V (show q_eqv ((0 : Int32)).toInt (0) by unfold q_eqv; decide) (by omega) (by omega)) ?_
  have hG := u_45_I8 (x := (0 : Int32)) hG mo ro (by decide) (q_wd (show (0 : Int) ≤ (0 : Int32).toInt ∧ (0 : Int32).toInt ≤ (0 : Int) by decide) (by decide) (by decide))
  refine q_ok_let (fun S2 eS2 => ?_)
  rw [← eS2] at hG
  refine q_ok_b (s_X12_find_45 hn hG.1 mo ro (q_wd (show (1751474532 : Int) ≤ (1751474532 : Int64).toInt ∧ (1751474532 : Int64).toInt ≤ (1751474532 : Int) by decide) (by decide) (by decide))) (fun r3 S4 h5 => ?_)
  obtain ⟨eS4, h5⟩ := h5
  replace eS4 := eS4.symm
  subst eS4
  have f6 := h5.1
  have e7 : r3 = q_fd (S2) o ((1751474532 : Int64)) := Int32.toInt_inj.mp (q_smE (h5.2))
  subst e7
  obtain ⟨v8, ev8⟩ := q_ev ((q_fd (S2) o ((1751474532 : Int64))).toInt)
  have f9 := q_rVI (x := q_fd (S2) o ((1751474532 : Int64))) ev8
  have f10 := q_bV ev8 f6
  refine q_ok_atS hG (q_trI mo ro) rfl (fun mo ro => ?_)
  refine q_ok_b (s_X12_find_45 hn hG.1 mo ro (q_wd (show (1835104368 : Int) ≤ (1835104368 : Int64).toInt ∧ (1835104368 : Int64).toInt ≤ (1835104368 : Int) by decide) (by decide) (by decide))) (fun r11 S12 h13 => ?_)
  obtain ⟨eS12, h13⟩ := h13
  replace eS12 := eS12.symm
  subst eS12
  have f14 := h13.1
  have e15 : r11 = q_fd (S2) o ((1835104368 : Int64)) := Int32.toInt_inj.mp (q_smE (h13.2))
  subst e15
  obtain ⟨v16, ev16⟩ := q_ev ((q_fd (S2) o ((1835104368 : Int64))).toInt)
  have f17 := q_rVI (x := q_fd (S2) o ((1835104368 : Int64))) ev16
  have f18 := q_bV ev16 f14
  refine q_ok_atS hG (q_trI mo ro) rfl (fun mo ro => ?_)
  have f22 : q_sm _ := g_45_I8 hG mo ro
  have e23 : q_I (S2) o 8 = (0 : Int32) := (Eq.trans (q_leI eS2) q_hitI)
  refine q_ok_b (s_X12_two_45 hn hG.1 mo ro (q_oV ev16 (by omega) (by omega)) (q_wd (show (4 : Int) ≤ (4 : Int64).toInt ∧ (4 : Int64).toInt ≤ (4 : Int) by decide) (by decide) (by decide))) (fun r19 S20 h21 => ?_)
  have hG := q_G_call hG h21.1 (by decide)
  have f24 := h21.2.1
  have f25 : q_sm _ := g_45_I8 hG mo ro
  obtain ⟨v26, ev26⟩ := q_ev ((q_I (S20) o 8).toInt)
  have f27 := q_bV ev26 f25
  obtain ⟨v28, ev28⟩ := q_ev ((q_I (S2) o 8).toInt)
  have f29 : v28 = (0) := q_eqVI e23 ev28 (show q_eqv ((0 : Int32)).toInt (0) by unfold q_eqv; decide)
  have f30 : v26 = 0 → v28 = 0 := q_to2 (fun x0 x1 => x0 = 0 → x1 = 0) ev26 ev28 ((q_smE (h21.2.2)))
  refine q_ok_atS hG (q_trI mo ro) rfl (fun mo ro => ?_)
  refine q_ok_ite (fun g31 => ?_) (fun g31 => ?_)
  · have f32 := q_eqV ev26 (show q_eqv ((0 : Int32)).toInt (0) by unfold q_eqv; decide) (q_p_eq g31)
    refine q_ok_ite (fun g33 => ?_) (fun g33 => ?_)
    · have f34 := q_leV q_evr (show q_eqv ((200 : Int32)).toInt (200) by unfold q_eqv; decide) (q_p_le g33)
      unfold m_X12_write_61
      unfold m_X12_write_62
      refine q_ok_ite (fun g35 => ?_) (fun g35 => ?_)
      · have f36 := q_eqV ev8 (show q_eqv ((-1 : Int32)).toInt (-1) by unfold q_eqv; decide) (q_p_eq g35)
        unfold m_X12_write_116
        exact q_ok_some ⟨hG, (q_wd (show (-1 : Int) ≤ (-1 : Int32).toInt ∧ (-1 : Int32).toInt ≤ (-1 : Int) by decide) (by decide) (by decide))⟩
      · have f37 := q_neV ev8 (show q_eqv ((-1 : Int32)).toInt (-1) by unfold q_eqv; decide) (q_n_eq g35)
        refine q_ok_atS hG (q_trI mo ro) rfl (fun mo ro => ?_)
        refine q_ok_b (s_X12_find_45 hn hG.1 mo ro (q_wd (show (1835104368 : Int) ≤ (1835104368 : Int64).toInt ∧ (1835104368 : Int64).toInt ≤ (1835104368 : Int) by decide) (by decide) (by decide))) (fun r38 S39 h40 => ?_)
        obtain ⟨eS39, h40⟩ := h40
        replace eS39 := eS39.symm
        subst eS39
        have f41 := h40.1
        have e42 : r38 = q_fd (S20) o ((1835104368 : Int64)) := Int32.toInt_inj.mp (q_smE (h40.2))
        subst e42
        have e43 : q_fd (S20) o ((1835104368 : Int64)) = q_fd (S2) o ((1835104368 : Int64)) := (q_fdU h21.1 mo ro (by decide) (by decide) (by decide))
        obtain ⟨v44, ev44⟩ := q_ev ((q_fd (S20) o ((1835104368 : Int64))).toInt)
        have f45 : v44 = v16 := q_eqVI e43 ev44 ev16
        have f46 := q_bV ev44 f41
        refine q_ok_ite (fun g47 => ?_) (fun g47 => ?_)
        · have f48 := q_eqV ev44 (show q_eqv ((-1 : Int32)).toInt (-1) by unfold q_eqv; decide) (q_p_eq g47)
          unfold m_X12_write_116
          exact q_ok_some ⟨hG, (q_wd (show (-1 : Int) ≤ (-1 : Int32).toInt ∧ (-1 : Int32).toInt ≤ (-1 : Int) by decide) (by decide) (by decide))⟩
        · have f49 := q_neV ev44 (show q_eqv ((-1 : Int32)).toInt (-1) by unfold q_eqv; decide) (q_n_eq g47)
          refine q_ok_atS hG (q_trI mo ro) rfl (fun mo ro => ?_)
          refine q_ok_b (s_X12_find_45 hn hG.1 mo ro (q_wd (show (1819239265 : Int) ≤ (1819239265 : Int64).toInt ∧ (1819239265 : Int64).toInt ≤ (1819239265 : Int) by decide) (by decide) (by decide))) (fun r50 S51 h52 => ?_)
          obtain ⟨eS51, h52⟩ := h52
          replace eS51 := eS51.symm
          subst eS51
          have f53 := h52.1
          have e54 : r50 = q_fd (S20) o ((1819239265 : Int64)) := Int32.toInt_inj.mp (q_smE (h52.2))
          subst e54
          obtain ⟨v55, ev55⟩ := q_ev ((q_fd (S20) o ((1819239265 : Int64))).toInt)
          have f56 := q_rVI (x := q_fd (S20) o ((1819239265 : Int64))) ev55
          have f57 := q_bV ev55 f53
          refine q_ok_ite (fun g58 => ?_) (fun g58 => ?_)
          · have f59 := q_eqV ev55 (show q_eqv ((-1 : Int32)).toInt (-1) by unfold q_eqv; decide) (q_p_eq g58)
            unfold m_X12_write_116
            exact q_ok_some ⟨hG, (q_wd (show (-1 : Int) ≤ (-1 : Int32).toInt ∧ (-1 : Int32).toInt ≤ (-1 : Int) by decide) (by decide) (by decide))⟩
          · have f60 := q_neV ev55 (show q_eqv ((-1 : Int32)).toInt (-1) by unfold q_eqv; decide) (q_n_eq g58)
            refine q_ok_atS hG (q_trI mo ro) rfl (fun mo ro => ?_)
            refine q_ok_b (s_X12_find_45 hn hG.1 mo ro (q_wd (show (1735162214 : Int) ≤ (1735162214 : Int64).toInt ∧ (1735162214 : Int64).toInt ≤ (1735162214 : Int) by decide) (by decide) (by decide))) (fun r61 S62 h63 => ?_)
            obtain ⟨eS62, h63⟩ := h63
            replace eS62 := eS62.symm
            subst eS62
            have f64 := h63.1
            have e65 : r61 = q_fd (S20) o ((1735162214 : Int64)) := Int32.toInt_inj.mp (q_smE (h63.2))
            subst e65
            obtain ⟨v66, ev66⟩ := q_ev ((q_fd (S20) o ((1735162214 : Int64))).toInt)
            have f67 := q_rVI (x := q_fd (S20) o ((1735162214 : Int64))) ev66
            have f68 := q_bV ev66 f64
            refine q_ok_ite (fun g69 => ?_) (fun g69 => ?_)
            · have f70 := q_eqV ev66 (show q_eqv ((-1 : Int32)).toInt (-1) by unfold q_eqv; decide) (q_p_eq g69)
              unfold m_X12_write_116
              exact q_ok_some ⟨hG, (q_wd (show (-1 : Int) ≤ (-1 : Int32).toInt ∧ (-1 : Int32).toInt ≤ (-1 : Int) by decide) (by decide) (by decide))⟩
            · have f71 := q_neV ev66 (show q_eqv ((-1 : Int32)).toInt (-1) by unfold q_eqv; decide) (q_n_eq g69)
              refine q_ok_atS hG (q_trI mo ro) rfl (fun mo ro => ?_)
              have t72 := g_45_R7 hG mo ro
              refine q_ok_at hG t72 rfl (fun a73 ma73 ra73 ea73 => ?_)
              refine q_ok_if (q_inV (g_50_N hG ma73 ra73) ev8 (by omega) (by omega)) ?_
              have f74 : q_sm _ := g_50_E hG ma73 ra73 (k := (q_fd (S2) o ((1751474532 : Int64))).toNatClampNeg)
              have t75 := g_45_R6 hG mo ro
              obtain ⟨a76, ea76, ma76, ra76⟩ := id t75
              have f77 : q_sm _ := g_49_E hG ma76 ra76 (k := (q_fd (S2) o ((1751474532 : Int64))).toNatClampNeg)
              have t78 := g_45_R7 hG mo ro
              obtain ⟨v79, ev79⟩ := q_ev ((q_I (S20) a76 (q_fd (S2) o ((1751474532 : Int64))).toNatClampNeg).toInt)
              have f80 := q_bV ev79 f77
              obtain ⟨v81, ev81⟩ := q_ev ((q_I (S20) a73 (q_fd (S2) o ((1751474532 : Int64))).toNatClampNeg).toInt)
              have f82 := q_bV ev81 f74
              have f83 : v79 + v81 ≤ 1600 := q_to2 (fun x0 x1 => x0 + x1 ≤ 1600) ev79 ev81 (hG.1.2.2.2 a76 a73 ma76 ma73 ra76 ra73 _)
              refine q_ok_ite (fun g84 => ?_) (fun g84 => ?_)
              · have f85 := q_ltV ev81 (show q_eqv ((52 : Int32)).toInt (52) by unfold q_eqv; decide) (q_p_lt g84)
                unfold m_X12_write_116
                exact q_ok_some ⟨hG, (q_wd (show (-1 : Int) ≤ (-1 : Int32).toInt ∧ (-1 : Int32).toInt ≤ (-1 : Int) by decide) (by decide) (by decide))⟩
              · have f86 := q_leV (show q_eqv ((52 : Int32)).toInt (52) by unfold q_eqv; decide) ev81 (q_n_lt g84)
                refine q_ok_ite (fun g87 => ?_) (fun g87 => ?_)
                · have f88 := q_eqV (show q_eqv ((0 : Int32)).toInt (0) by unfold q_eqv; decide) (show q_eqv ((0 : Int32)).toInt (0) by unfold q_eqv; decide) (q_p_eq g87)
                  refine q_ok_b (s_X12_signs_45 hn hG.1 mo ro) (fun r89 S90 h91 => ?_)
                  have hG := q_G_call hG h91.1 (by decide)
                  have f92 := h91.2
                  refine q_ok_atS hG (q_trI mo ro) rfl (fun mo ro => ?_)
                  have f96 : q_sm _ := g_45_I8 hG mo ro
                  refine q_ok_b (s_X12_two_45 hn hG.1 mo ro (q_oV ev8 (by omega) (by omega)) (q_wd (show (50 : Int) ≤ (50 : Int64).toInt ∧ (50 : Int64).toInt ≤ (50 : Int) by decide) (by decide) (by decide))) (fun r93 S94 h95 => ?_)
                  have hG := q_G_call hG h95.1 (by decide)
                  have f97 := h95.2.1
                  have f98 : q_sm _ := g_45_I8 hG mo ro
                  obtain ⟨v99, ev99⟩ := q_ev ((q_I (S94) o 8).toInt)
                  have f100 := q_bV ev99 f98
                  obtain ⟨v101, ev101⟩ := q_ev ((q_I (S90) o 8).toInt)
                  have f102 := q_bV ev101 f96
                  have f103 : v99 = 0 → v101 = 0 := q_to2 (fun x0 x1 => x0 = 0 → x1 = 0) ev99 ev101 ((q_smE (h95.2.2)))
                  refine q_ok_ite (fun g104 => ?_) (fun g104 => ?_)
                  · have f105 := q_eqV q_evr (show q_eqv ((1 : Int32)).toInt (1) by unfold q_eqv; decide) (q_p_eq g104)
                    unfold m_X12_write_140
                    refine q_ok_atS hG (q_trI mo ro) rfl (fun mo ro => ?_)
                    refine q_ok_b (s_X12_sort_45 hn hG.1 mo ro) (fun r106 S107 h108 => ?_)
                    have hG := q_G_call hG h108 (by decide)
                    have e109 : q_fd (S107) o ((1735162214 : Int64)) = q_fd (S20) o ((1735162214 : Int64)) := (Eq.trans (q_fdU h108 mo ro (by decide) (by decide) (by decide)) (Eq.trans (q_fdU h95.1 mo ro (by decide) (by decide) (by decide)) (q_fdU h91.1 mo ro (by decide) (by decide) (by decide))))
                    obtain ⟨v110, ev110⟩ := q_ev ((q_fd (S107) o ((1735162214 : Int64))).toInt)
                    have f111 : v110 = v66 := q_eqVI e109 ev110 ev66
                    exact s_X12_write_45_149 hn mo ro n _ _ _ _ _ hG (q_oV ev8 (by omega) (by omega)) (q_wd f92 (by decide) (by decide)) (q_wd (show (1 : Int) ≤ (1 : Int32).toInt ∧ (1 : Int32).toInt ≤ (1 : Int) by decide) (by decide) (by decide)) (q_wd (show (0 : Int) ≤ (0 : Int32).toInt ∧ (0 : Int32).toInt ≤ (0 : Int) by decide) (by decide) (by decide)) (q_bw1 (fun x0 => 0 ≤ x0) ev110 (by omega))  (q_upV (show q_eqv ((0 : Int32)).toInt (0) by unfold q_eqv; decide) (by omega))
                  · have f112 := q_neV q_evr (show q_eqv ((1 : Int32)).toInt (1) by unfold q_eqv; decide) (q_n_eq g104)
                    unfold m_X12_write_140
                    refine q_ok_atS hG (q_trI mo ro) rfl (fun mo ro => ?_)
                    refine q_ok_b (s_X12_sort_45 hn hG.1 mo ro) (fun r113 S114 h115 => ?_)
                    have hG := q_G_call hG h115 (by decide)
                    have e116 : q_fd (S114) o ((1735162214 : Int64)) = q_fd (S20) o ((1735162214 : Int64)) := (Eq.trans (q_fdU h115 mo ro (by decide) (by decide) (by decide)) (Eq.trans (q_fdU h95.1 mo ro (by decide) (by decide) (by decide)) (q_fdU h91.1 mo ro (by decide) (by decide) (by decide))))
                    obtain ⟨v117, ev117⟩ := q_ev ((q_fd (S114) o ((1735162214 : Int64))).toInt)
                    have f118 : v117 = v66 := q_eqVI e116 ev117 ev66
                    exact s_X12_write_45_149 hn mo ro n _ _ _ _ _ hG (q_oV ev8 (by omega) (by omega)) (q_wd f92 (by decide) (by decide)) (q_wd (show (0 : Int) ≤ (0 : Int32).toInt ∧ (0 : Int32).toInt ≤ (0 : Int) by decide) (by decide) (by decide)) (q_wd (show (0 : Int) ≤ (0 : Int32).toInt ∧ (0 : Int32).toInt ≤ (0 : Int) by decide) (by decide) (by decide)) (q_bw1 (fun x0 => 0 ≤ x0) ev117 (by omega))  (q_upV (show q_eqv ((0 : Int32)).toInt (0) by unfold q_eqv; decide) (by omega))
                · have f119 := q_neV (show q_eqv ((0 : Int32)).toInt (0) by unfold q_eqv; decide) (show q_eqv ((0 : Int32)).toInt (0) by unfold q_eqv; decide) (q_n_eq g87)
                  exfalso; omega
    · have f120 := q_ltV (show q_eqv ((200 : Int32)).toInt (200) by unfold q_eqv; decide) q_evr (q_n_le g33)
      unfold m_X12_write_62
      refine q_ok_ite (fun g121 => ?_) (fun g121 => ?_)
      · have f122 := q_eqV ev8 (show q_eqv ((-1 : Int32)).toInt (-1) by unfold q_eqv; decide) (q_p_eq g121)
        unfold m_X12_write_116
        exact q_ok_some ⟨hG, (q_wd (show (-1 : Int) ≤ (-1 : Int32).toInt ∧ (-1 : Int32).toInt ≤ (-1 : Int) by decide) (by decide) (by decide))⟩
      · have f123 := q_neV ev8 (show q_eqv ((-1 : Int32)).toInt (-1) by unfold q_eqv; decide) (q_n_eq g121)
        refine q_ok_atS hG (q_trI mo ro) rfl (fun mo ro => ?_)
        refine q_ok_b (s_X12_find_45 hn hG.1 mo ro (q_wd (show (1835104368 : Int) ≤ (1835104368 : Int64).toInt ∧ (1835104368 : Int64).toInt ≤ (1835104368 : Int) by decide) (by decide) (by decide))) (fun r124 S125 h126 => ?_)
        obtain ⟨eS125, h126⟩ := h126
        replace eS125 := eS125.symm
        subst eS125
        have f127 := h126.1
        have e128 : r124 = q_fd (S20) o ((1835104368 : Int64)) := Int32.toInt_inj.mp (q_smE (h126.2))
        subst e128
        have e129 : q_fd (S20) o ((1835104368 : Int64)) = q_fd (S2) o ((1835104368 : Int64)) := (q_fdU h21.1 mo ro (by decide) (by decide) (by decide))
        obtain ⟨v130, ev130⟩ := q_ev ((q_fd (S20) o ((1835104368 : Int64))).toInt)
        have f131 : v130 = v16 := q_eqVI e129 ev130 ev16
        have f132 := q_bV ev130 f127
        refine q_ok_ite (fun g133 => ?_) (fun g133 => ?_)
        · have f134 := q_eqV ev130 (show q_eqv ((-1 : Int32)).toInt (-1) by unfold q_eqv; decide) (q_p_eq g133)
          unfold m_X12_write_116
          exact q_ok_some ⟨hG, (q_wd (show (-1 : Int) ≤ (-1 : Int32).toInt ∧ (-1 : Int32).toInt ≤ (-1 : Int) by decide) (by decide) (by decide))⟩
        · have f135 := q_neV ev130 (show q_eqv ((-1 : Int32)).toInt (-1) by unfold q_eqv; decide) (q_n_eq g133)
          refine q_ok_atS hG (q_trI mo ro) rfl (fun mo ro => ?_)
          refine q_ok_b (s_X12_find_45 hn hG.1 mo ro (q_wd (show (1819239265 : Int) ≤ (1819239265 : Int64).toInt ∧ (1819239265 : Int64).toInt ≤ (1819239265 : Int) by decide) (by decide) (by decide))) (fun r136 S137 h138 => ?_)
          obtain ⟨eS137, h138⟩ := h138
          replace eS137 := eS137.symm
          subst eS137
          have f139 := h138.1
          have e140 : r136 = q_fd (S20) o ((1819239265 : Int64)) := Int32.toInt_inj.mp (q_smE (h138.2))
          subst e140
          obtain ⟨v141, ev141⟩ := q_ev ((q_fd (S20) o ((1819239265 : Int64))).toInt)
          have f142 := q_rVI (x := q_fd (S20) o ((1819239265 : Int64))) ev141
          have f143 := q_bV ev141 f139
          refine q_ok_ite (fun g144 => ?_) (fun g144 => ?_)
          · have f145 := q_eqV ev141 (show q_eqv ((-1 : Int32)).toInt (-1) by unfold q_eqv; decide) (q_p_eq g144)
            unfold m_X12_write_116
            exact q_ok_some ⟨hG, (q_wd (show (-1 : Int) ≤ (-1 : Int32).toInt ∧ (-1 : Int32).toInt ≤ (-1 : Int) by decide) (by decide) (by decide))⟩
          · have f146 := q_neV ev141 (show q_eqv ((-1 : Int32)).toInt (-1) by unfold q_eqv; decide) (q_n_eq g144)
            refine q_ok_atS hG (q_trI mo ro) rfl (fun mo ro => ?_)
            refine q_ok_b (s_X12_find_45 hn hG.1 mo ro (q_wd (show (1735162214 : Int) ≤ (1735162214 : Int64).toInt ∧ (1735162214 : Int64).toInt ≤ (1735162214 : Int) by decide) (by decide) (by decide))) (fun r147 S148 h149 => ?_)
            obtain ⟨eS148, h149⟩ := h149
            replace eS148 := eS148.symm
            subst eS148
            have f150 := h149.1
            have e151 : r147 = q_fd (S20) o ((1735162214 : Int64)) := Int32.toInt_inj.mp (q_smE (h149.2))
            subst e151
            obtain ⟨v152, ev152⟩ := q_ev ((q_fd (S20) o ((1735162214 : Int64))).toInt)
            have f153 := q_rVI (x := q_fd (S20) o ((1735162214 : Int64))) ev152
            have f154 := q_bV ev152 f150
            refine q_ok_ite (fun g155 => ?_) (fun g155 => ?_)
            · have f156 := q_eqV ev152 (show q_eqv ((-1 : Int32)).toInt (-1) by unfold q_eqv; decide) (q_p_eq g155)
              unfold m_X12_write_116
              exact q_ok_some ⟨hG, (q_wd (show (-1 : Int) ≤ (-1 : Int32).toInt ∧ (-1 : Int32).toInt ≤ (-1 : Int) by decide) (by decide) (by decide))⟩
            · have f157 := q_neV ev152 (show q_eqv ((-1 : Int32)).toInt (-1) by unfold q_eqv; decide) (q_n_eq g155)
              refine q_ok_atS hG (q_trI mo ro) rfl (fun mo ro => ?_)
              have t158 := g_45_R7 hG mo ro
              refine q_ok_at hG t158 rfl (fun a159 ma159 ra159 ea159 => ?_)
              refine q_ok_if (q_inV (g_50_N hG ma159 ra159) ev8 (by omega) (by omega)) ?_
              have f160 : q_sm _ := g_50_E hG ma159 ra159 (k := (q_fd (S2) o ((1751474532 : Int64))).toNatClampNeg)
              have t161 := g_45_R6 hG mo ro
              obtain ⟨a162, ea162, ma162, ra162⟩ := id t161
              have f163 : q_sm _ := g_49_E hG ma162 ra162 (k := (q_fd (S2) o ((1751474532 : Int64))).toNatClampNeg)
              have t164 := g_45_R7 hG mo ro
              obtain ⟨v165, ev165⟩ := q_ev ((q_I (S20) a162 (q_fd (S2) o ((1751474532 : Int64))).toNatClampNeg).toInt)
              have f166 := q_bV ev165 f163
              obtain ⟨v167, ev167⟩ := q_ev ((q_I (S20) a159 (q_fd (S2) o ((1751474532 : Int64))).toNatClampNeg).toInt)
              have f168 := q_bV ev167 f160
              have f169 : v165 + v167 ≤ 1600 := q_to2 (fun x0 x1 => x0 + x1 ≤ 1600) ev165 ev167 (hG.1.2.2.2 a162 a159 ma162 ma159 ra162 ra159 _)
              refine q_ok_ite (fun g170 => ?_) (fun g170 => ?_)
              · have f171 := q_ltV ev167 (show q_eqv ((52 : Int32)).toInt (52) by unfold q_eqv; decide) (q_p_lt g170)
                unfold m_X12_write_116
                exact q_ok_some ⟨hG, (q_wd (show (-1 : Int) ≤ (-1 : Int32).toInt ∧ (-1 : Int32).toInt ≤ (-1 : Int) by decide) (by decide) (by decide))⟩
              · have f172 := q_leV (show q_eqv ((52 : Int32)).toInt (52) by unfold q_eqv; decide) ev167 (q_n_lt g170)
                refine q_ok_ite (fun g173 => ?_) (fun g173 => ?_)
                · have f174 := q_eqV (show q_eqv ((1 : Int32)).toInt (1) by unfold q_eqv; decide) (show q_eqv ((0 : Int32)).toInt (0) by unfold q_eqv; decide) (q_p_eq g173)
                  exfalso; omega
                · have f175 := q_neV (show q_eqv ((1 : Int32)).toInt (1) by unfold q_eqv; decide) (show q_eqv ((0 : Int32)).toInt (0) by unfold q_eqv; decide) (q_n_eq g173)
                  unfold m_X12_write_116
                  exact q_ok_some ⟨hG, (q_wd (show (-1 : Int) ≤ (-1 : Int32).toInt ∧ (-1 : Int32).toInt ≤ (-1 : Int) by decide) (by decide) (by decide))⟩
  · have f176 := q_neV ev26 (show q_eqv ((0 : Int32)).toInt (0) by unfold q_eqv; decide) (q_n_eq g31)
    unfold m_X12_write_61
    unfold m_X12_write_62
    refine q_ok_ite (fun g177 => ?_) (fun g177 => ?_)
    · have f178 := q_eqV ev8 (show q_eqv ((-1 : Int32)).toInt (-1) by unfold q_eqv; decide) (q_p_eq g177)
      unfold m_X12_write_116
      exact q_ok_some ⟨hG, (q_wd (show (-1 : Int) ≤ (-1 : Int32).toInt ∧ (-1 : Int32).toInt ≤ (-1 : Int) by decide) (by decide) (by decide))⟩
    · have f179 := q_neV ev8 (show q_eqv ((-1 : Int32)).toInt (-1) by unfold q_eqv; decide) (q_n_eq g177)
      refine q_ok_atS hG (q_trI mo ro) rfl (fun mo ro => ?_)
      refine q_ok_b (s_X12_find_45 hn hG.1 mo ro (q_wd (show (1835104368 : Int) ≤ (1835104368 : Int64).toInt ∧ (1835104368 : Int64).toInt ≤ (1835104368 : Int) by decide) (by decide) (by decide))) (fun r180 S181 h182 => ?_)
      obtain ⟨eS181, h182⟩ := h182
      replace eS181 := eS181.symm
      subst eS181
      have f183 := h182.1
      have e184 : r180 = q_fd (S20) o ((1835104368 : Int64)) := Int32.toInt_inj.mp (q_smE (h182.2))
      subst e184
      have e185 : q_fd (S20) o ((1835104368 : Int64)) = q_fd (S2) o ((1835104368 : Int64)) := (q_fdU h21.1 mo ro (by decide) (by decide) (by decide))
      obtain ⟨v186, ev186⟩ := q_ev ((q_fd (S20) o ((1835104368 : Int64))).toInt)
      have f187 : v186 = v16 := q_eqVI e185 ev186 ev16
      have f188 := q_bV ev186 f183
      refine q_ok_ite (fun g189 => ?_) (fun g189 => ?_)
      · have f190 := q_eqV ev186 (show q_eqv ((-1 : Int32)).toInt (-1) by unfold q_eqv; decide) (q_p_eq g189)
        unfold m_X12_write_116
        exact q_ok_some ⟨hG, (q_wd (show (-1 : Int) ≤ (-1 : Int32).toInt ∧ (-1 : Int32).toInt ≤ (-1 : Int) by decide) (by decide) (by decide))⟩
      · have f191 := q_neV ev186 (show q_eqv ((-1 : Int32)).toInt (-1) by unfold q_eqv; decide) (q_n_eq g189)
        refine q_ok_atS hG (q_trI mo ro) rfl (fun mo ro => ?_)
        refine q_ok_b (s_X12_find_45 hn hG.1 mo ro (q_wd (show (1819239265 : Int) ≤ (1819239265 : Int64).toInt ∧ (1819239265 : Int64).toInt ≤ (1819239265 : Int) by decide) (by decide) (by decide))) (fun r192 S193 h194 => ?_)
        obtain ⟨eS193, h194⟩ := h194
        replace eS193 := eS193.symm
        subst eS193
        have f195 := h194.1
        have e196 : r192 = q_fd (S20) o ((1819239265 : Int64)) := Int32.toInt_inj.mp (q_smE (h194.2))
        subst e196
        obtain ⟨v197, ev197⟩ := q_ev ((q_fd (S20) o ((1819239265 : Int64))).toInt)
        have f198 := q_rVI (x := q_fd (S20) o ((1819239265 : Int64))) ev197
        have f199 := q_bV ev197 f195
        refine q_ok_ite (fun g200 => ?_) (fun g200 => ?_)
        · have f201 := q_eqV ev197 (show q_eqv ((-1 : Int32)).toInt (-1) by unfold q_eqv; decide) (q_p_eq g200)
          unfold m_X12_write_116
          exact q_ok_some ⟨hG, (q_wd (show (-1 : Int) ≤ (-1 : Int32).toInt ∧ (-1 : Int32).toInt ≤ (-1 : Int) by decide) (by decide) (by decide))⟩
        · have f202 := q_neV ev197 (show q_eqv ((-1 : Int32)).toInt (-1) by unfold q_eqv; decide) (q_n_eq g200)
          refine q_ok_atS hG (q_trI mo ro) rfl (fun mo ro => ?_)
          refine q_ok_b (s_X12_find_45 hn hG.1 mo ro (q_wd (show (1735162214 : Int) ≤ (1735162214 : Int64).toInt ∧ (1735162214 : Int64).toInt ≤ (1735162214 : Int) by decide) (by decide) (by decide))) (fun r203 S204 h205 => ?_)
          obtain ⟨eS204, h205⟩ := h205
          replace eS204 := eS204.symm
          subst eS204
          have f206 := h205.1
          have e207 : r203 = q_fd (S20) o ((1735162214 : Int64)) := Int32.toInt_inj.mp (q_smE (h205.2))
          subst e207
          obtain ⟨v208, ev208⟩ := q_ev ((q_fd (S20) o ((1735162214 : Int64))).toInt)
          have f209 := q_rVI (x := q_fd (S20) o ((1735162214 : Int64))) ev208
          have f210 := q_bV ev208 f206
          refine q_ok_ite (fun g211 => ?_) (fun g211 => ?_)
          · have f212 := q_eqV ev208 (show q_eqv ((-1 : Int32)).toInt (-1) by unfold q_eqv; decide) (q_p_eq g211)
            unfold m_X12_write_116
            exact q_ok_some ⟨hG, (q_wd (show (-1 : Int) ≤ (-1 : Int32).toInt ∧ (-1 : Int32).toInt ≤ (-1 : Int) by decide) (by decide) (by decide))⟩
          · have f213 := q_neV ev208 (show q_eqv ((-1 : Int32)).toInt (-1) by unfold q_eqv; decide) (q_n_eq g211)
            refine q_ok_atS hG (q_trI mo ro) rfl (fun mo ro => ?_)
            have t214 := g_45_R7 hG mo ro
            refine q_ok_at hG t214 rfl (fun a215 ma215 ra215 ea215 => ?_)
            refine q_ok_if (q_inV (g_50_N hG ma215 ra215) ev8 (by omega) (by omega)) ?_
            have f216 : q_sm _ := g_50_E hG ma215 ra215 (k := (q_fd (S2) o ((1751474532 : Int64))).toNatClampNeg)
            have t217 := g_45_R6 hG mo ro
            obtain ⟨a218, ea218, ma218, ra218⟩ := id t217
            have f219 : q_sm _ := g_49_E hG ma218 ra218 (k := (q_fd (S2) o ((1751474532 : Int64))).toNatClampNeg)
            have t220 := g_45_R7 hG mo ro
            obtain ⟨v221, ev221⟩ := q_ev ((q_I (S20) a218 (q_fd (S2) o ((1751474532 : Int64))).toNatClampNeg).toInt)
            have f222 := q_bV ev221 f219
            obtain ⟨v223, ev223⟩ := q_ev ((q_I (S20) a215 (q_fd (S2) o ((1751474532 : Int64))).toNatClampNeg).toInt)
            have f224 := q_bV ev223 f216
            have f225 : v221 + v223 ≤ 1600 := q_to2 (fun x0 x1 => x0 + x1 ≤ 1600) ev221 ev223 (hG.1.2.2.2 a218 a215 ma218 ma215 ra218 ra215 _)
            refine q_ok_ite (fun g226 => ?_) (fun g226 => ?_)
            · have f227 := q_ltV ev223 (show q_eqv ((52 : Int32)).toInt (52) by unfold q_eqv; decide) (q_p_lt g226)
              unfold m_X12_write_116
              exact q_ok_some ⟨hG, (q_wd (show (-1 : Int) ≤ (-1 : Int32).toInt ∧ (-1 : Int32).toInt ≤ (-1 : Int) by decide) (by decide) (by decide))⟩
            · have f228 := q_leV (show q_eqv ((52 : Int32)).toInt (52) by unfold q_eqv; decide) ev223 (q_n_lt g226)
              refine q_ok_ite (fun g229 => ?_) (fun g229 => ?_)
              · have f230 := q_eqV (show q_eqv ((0 : Int32)).toInt (0) by unfold q_eqv; decide) (show q_eqv ((0 : Int32)).toInt (0) by unfold q_eqv; decide) (q_p_eq g229)
                refine q_ok_b (s_X12_signs_45 hn hG.1 mo ro) (fun r231 S232 h233 => ?_)
                have hG := q_G_call hG h233.1 (by decide)
                have f234 := h233.2
                refine q_ok_atS hG (q_trI mo ro) rfl (fun mo ro => ?_)
                have f238 : q_sm _ := g_45_I8 hG mo ro
                refine q_ok_b (s_X12_two_45 hn hG.1 mo ro (q_oV ev8 (by omega) (by omega)) (q_wd (show (50 : Int) ≤ (50 : Int64).toInt ∧ (50 : Int64).toInt ≤ (50 : Int) by decide) (by decide) (by decide))) (fun r235 S236 h237 => ?_)
                have hG := q_G_call hG h237.1 (by decide)
                have f239 := h237.2.1
                have f240 : q_sm _ := g_45_I8 hG mo ro
                obtain ⟨v241, ev241⟩ := q_ev ((q_I (S236) o 8).toInt)
                have f242 := q_bV ev241 f240
                obtain ⟨v243, ev243⟩ := q_ev ((q_I (S232) o 8).toInt)
                have f244 := q_bV ev243 f238
                have f245 : v241 = 0 → v243 = 0 := q_to2 (fun x0 x1 => x0 = 0 → x1 = 0) ev241 ev243 ((q_smE (h237.2.2)))
                refine q_ok_ite (fun g246 => ?_) (fun g246 => ?_)
                · have f247 := q_eqV q_evr (show q_eqv ((1 : Int32)).toInt (1) by unfold q_eqv; decide) (q_p_eq g246)
                  unfold m_X12_write_140
                  refine q_ok_atS hG (q_trI mo ro) rfl (fun mo ro => ?_)
                  refine q_ok_b (s_X12_sort_45 hn hG.1 mo ro) (fun r248 S249 h250 => ?_)
                  have hG := q_G_call hG h250 (by decide)
                  have e251 : q_fd (S249) o ((1735162214 : Int64)) = q_fd (S20) o ((1735162214 : Int64)) := (Eq.trans (q_fdU h250 mo ro (by decide) (by decide) (by decide)) (Eq.trans (q_fdU h237.1 mo ro (by decide) (by decide) (by decide)) (q_fdU h233.1 mo ro (by decide) (by decide) (by decide))))
                  obtain ⟨v252, ev252⟩ := q_ev ((q_fd (S249) o ((1735162214 : Int64))).toInt)
                  have f253 : v252 = v208 := q_eqVI e251 ev252 ev208
                  exact s_X12_write_45_149 hn mo ro n _ _ _ _ _ hG (q_oV ev8 (by omega) (by omega)) (q_wd f234 (by decide) (by decide)) (q_wd (show (1 : Int) ≤ (1 : Int32).toInt ∧ (1 : Int32).toInt ≤ (1 : Int) by decide) (by decide) (by decide)) (q_wd (show (0 : Int) ≤ (0 : Int32).toInt ∧ (0 : Int32).toInt ≤ (0 : Int) by decide) (by decide) (by decide)) (q_bw1 (fun x0 => 0 ≤ x0) ev252 (by omega))  (q_upV (show q_eqv ((0 : Int32)).toInt (0) by unfold q_eqv; decide) (by omega))
                · have f254 := q_neV q_evr (show q_eqv ((1 : Int32)).toInt (1) by unfold q_eqv; decide) (q_n_eq g246)
                  unfold m_X12_write_140
                  refine q_ok_atS hG (q_trI mo ro) rfl (fun mo ro => ?_)
                  refine q_ok_b (s_X12_sort_45 hn hG.1 mo ro) (fun r255 S256 h257 => ?_)
                  have hG := q_G_call hG h257 (by decide)
                  have e258 : q_fd (S256) o ((1735162214 : Int64)) = q_fd (S20) o ((1735162214 : Int64)) := (Eq.trans (q_fdU h257 mo ro (by decide) (by decide) (by decide)) (Eq.trans (q_fdU h237.1 mo ro (by decide) (by decide) (by decide)) (q_fdU h233.1 mo ro (by decide) (by decide) (by decide))))
                  obtain ⟨v259, ev259⟩ := q_ev ((q_fd (S256) o ((1735162214 : Int64))).toInt)
                  have f260 : v259 = v208 := q_eqVI e258 ev259 ev208
                  exact s_X12_write_45_149 hn mo ro n _ _ _ _ _ hG (q_oV ev8 (by omega) (by omega)) (q_wd f234 (by decide) (by decide)) (q_wd (show (0 : Int) ≤ (0 : Int32).toInt ∧ (0 : Int32).toInt ≤ (0 : Int) by decide) (by decide) (by decide)) (q_wd (show (0 : Int) ≤ (0 : Int32).toInt ∧ (0 : Int32).toInt ≤ (0 : Int) by decide) (by decide) (by decide)) (q_bw1 (fun x0 => 0 ≤ x0) ev259 (by omega))  (q_upV (show q_eqv ((0 : Int32)).toInt (0) by unfold q_eqv; decide) (by omega))
              · have f261 := q_neV (show q_eqv ((0 : Int32)).toInt (0) by unfold q_eqv; decide) (show q_eqv ((0 : Int32)).toInt (0) by unfold q_eqv; decide) (q_n_eq g229)
                exfalso; omega
