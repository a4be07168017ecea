def M_X12_goRound_45 : List Nat := [2916, 4544]
set_option maxHeartbeats 4000000 in
set_option maxRecDepth 100000 in
theorem s_X12_goRound_45_148 {ρ : Nat → Nat} {L : List Nat} {n : Nat} (hn : 18446744073709551616 ≤ n) {S0 : q_S} {o : Nat} (mo : o ∈ L) (ro : ρ o = 45) {p0 : Int32} {p1 : Int32} {p2 : Int32}  : ∀ (k : Nat) (S : q_S) (l1 : Int32) (l2 : Int32) (l3 : Int32) (l6 : Int32) (l7 : Int32) (l8 : Int32) (l9 : Int32), q_G ρ L M_X12_goRound_45 S0 S → (0 ≤ l1.toInt ∧ l1.toInt ≤ 119) → (0 ≤ l2.toInt ∧ l2.toInt ≤ 118) → (2 ≤ l3.toInt ∧ l3.toInt ≤ 120) → (0 ≤ l8.toInt ∧ l8.toInt ≤ 300) → (2 ≤ l9.toInt ∧ l9.toInt ≤ 300) → ((l2).toInt = (p1).toInt) → ((l3).toInt = (p2).toInt) → ((l2).toInt + (l3).toInt ≤ 120) → ((l3).toInt ≤ (l9).toInt) → ((l9).toInt - (l3).toInt ≤ (l8).toInt) → ((q_I S o 36).toInt ≤ (l2).toInt + (l3).toInt) → ((l8).toInt < (l9).toInt → (q_I S o 36).toInt ≤ (l2).toInt + (l8).toInt - ((l9).toInt - (l3).toInt)) → ((l9).toInt ≤ 2 * (l3).toInt) → 2147483648 - l8.toInt ≤ (k : Int) → q_ok (m_X12_goRound_148 n k S (some o) l1 l2 l3 l6 l7 l8 l9) (fun _ T => q_G ρ L M_X12_goRound_45 S0 T ∧ q_sm (((q_I T o 36).toInt ≤ (p1).toInt + (p2).toInt))) := by
  intro k
  induction k with
  | zero =>
    intro S l1 l2 l3 l6 l7 l8 l9 hG hl1 hl2 hl3 hl8 hl9 hf0 hf1 hf2 hf3 hf4 hf5 hf6 hf7 hm
    have f0 := q_rngI l8
    exfalso; omega
  | succ k ih =>
    intro S l1 l2 l3 l6 l7 l8 l9 hG hl1 hl2 hl3 hl8 hl9 hf0 hf1 hf2 hf3 hf4 hf5 hf6 hf7 hm
    rw [m_X12_goRound_148]
    have z0 : (0 : Int32).toInt = 0 := rfl
    have f1 := q_rVI (x := p1) q_evr
    have f2 : l2.toInt = p1.toInt := q_to2 (fun x0 x1 => x0 = x1) q_evr q_evr hf0
    have f3 := q_rVI (x := p2) q_evr
    have f4 : l3.toInt = p2.toInt := q_to2 (fun x0 x1 => x0 = x1) q_evr q_evr hf1
    have f5 : l2.toInt + l3.toInt ≤ 120 := q_to2 (fun x0 x1 => x0 + x1 ≤ 120) q_evr q_evr hf2
    have f6 : l3.toInt ≤ l9.toInt := q_to2 (fun x0 x1 => x0 ≤ x1) q_evr q_evr hf3
    have f7 : l9.toInt - l3.toInt ≤ l8.toInt := q_to3 (fun x0 x1 x2 => x0 - x1 ≤ x2) q_evr q_evr q_evr hf4
    have f8 : q_sm _ := g_45_I36 hG mo ro
    obtain ⟨v9, ev9⟩ := q_ev ((q_I (S) o 36).toInt)
    have f10 := q_bV ev9 f8
    have f11 : v9 ≤ l2.toInt + l3.toInt := q_to3 (fun x0 x1 x2 => x0 ≤ x1 + x2) ev9 q_evr q_evr hf5
    have f12 : l8.toInt < l9.toInt → v9 ≤ l2.toInt + l8.toInt - (l9.toInt - l3.toInt) := q_to5 (fun x0 x1 x2 x3 x4 => x0 < x1 → x2 ≤ x3 + x0 - (x1 - x4)) q_evr q_evr ev9 q_evr q_evr hf6
    have f13 : l9.toInt ≤ 2 * l3.toInt := q_to2 (fun x0 x1 => x0 ≤ 2 * x1) q_evr q_evr hf7
    refine q_ok_ite (fun g14 => ?_) (fun g14 => ?_)
    · have f15 := q_leV q_evr q_evr (q_p_ge g14)
      exact q_ok_some ⟨hG, (q_smI (q_bw3 (fun x0 x1 x2 => x0 ≤ x1 + x2) ev9 q_evr q_evr (by omega)))⟩
    · have f16 := q_ltV q_evr q_evr (q_n_ge g14)
      refine q_ok_if (q_ne0VI q_evr (by omega)) ?_
      refine q_ok_if (q_ne0VI q_evr (by omega)) ?_
      refine q_ok_atS hG (q_trI mo ro) rfl (fun mo ro => ?_)
      have t17 := g_45_R17 hG mo ro
      refine q_ok_at hG t17 rfl (fun a18 ma18 ra18 ea18 => ?_)
      obtain ⟨v19, ev19⟩ := q_ev ((l2 + (l8 - l8 / l3 * l3)).toInt)
      obtain ⟨v20, ev20⟩ := q_ev ((l8 - l8 / l3 * l3).toInt)
      have f21 := q_remBI ev20 q_evr q_evr (by omega) (by omega)
      have f22 : v19 = l2.toInt + v20 := q_addVI ev19 q_evr ev20 (by omega) (by omega)
      refine q_ok_if (q_inV (g_57_N hG ma18 ra18) ev19 (by omega) (by omega)) ?_
      have f23 : q_sm _ := g_57_E hG ma18 ra18 (k := (l2 + (l8 - l8 / l3 * l3)).toNatClampNeg)
      obtain ⟨v24, ev24⟩ := q_ev ((q_I (S) a18 (l2 + (l8 - l8 / l3 * l3)).toNatClampNeg).toInt)
      have f25 := q_bV ev24 f23
      refine q_ok_ite (fun g26 => ?_) (fun g26 => ?_)
      · have f27 := q_eqV ev24 (show q_eqv ((0 : Int32)).toInt (0) by unfold q_eqv; decide) (q_p_eq g26)
        unfold m_X12_goRound_188
        refine q_ok_ite (fun g28 => ?_) (fun g28 => ?_)
        · have f29 := q_eqV (show q_eqv ((1 : Int32)).toInt (1) by unfold q_eqv; decide) (show q_eqv ((0 : Int32)).toInt (0) by unfold q_eqv; decide) (q_p_eq g28)
          exfalso; omega
        · have f30 := q_neV (show q_eqv ((1 : Int32)).toInt (1) by unfold q_eqv; decide) (show q_eqv ((0 : Int32)).toInt (0) by unfold q_eqv; decide) (q_n_eq g28)
          refine q_ok_atS hG (q_trI mo ro) rfl (fun mo ro => ?_)
          have t31 := g_45_R17 hG mo ro
          refine q_ok_atA hG ea18 ma18 ra18 rfl ?_
          obtain ⟨v32, ev32⟩ := q_ev ((l2 + ((l8 + (1 : Int32)) - (l8 + (1 : Int32)) / l3 * l3)).toInt)
          obtain ⟨v33, ev33⟩ := q_ev (((l8 + (1 : Int32)) - (l8 + (1 : Int32)) / l3 * l3).toInt)
          obtain ⟨v34, ev34⟩ := q_ev ((l8 + (1 : Int32)).toInt)
          have f35 : v34 = l8.toInt + (1) := q_addVI ev34 q_evr (show q_eqv ((1 : Int32)).toInt (1) by unfold q_eqv; decide) (by omega) (by omega)
          have f36 := q_remBI ev33 ev34 q_evr (by omega) (by omega)
          have f37 : v32 = l2.toInt + v33 := q_addVI ev32 q_evr ev33 (by omega) (by omega)
          refine q_ok_if (q_inV (g_57_N hG ma18 ra18) ev32 (by omega) (by omega)) ?_
          have f38 : q_sm _ := g_57_E hG ma18 ra18 (k := (l2 + ((l8 + (1 : Int32)) - (l8 + (1 : Int32)) / l3 * l3)).toNatClampNeg)
          obtain ⟨v39, ev39⟩ := q_ev ((q_I (S) a18 (l2 + ((l8 + (1 : Int32)) - (l8 + (1 : Int32)) / l3 * l3)).toNatClampNeg).toInt)
          have f40 := q_bV ev39 f38
          refine q_ok_ite (fun g41 => ?_) (fun g41 => ?_)
          · have f42 := q_eqV ev39 (show q_eqv ((0 : Int32)).toInt (0) by unfold q_eqv; decide) (q_p_eq g41)
            have t43 := g_45_R15 hG mo ro
            refine q_ok_at hG t43 rfl (fun a44 ma44 ra44 ea44 => ?_)
            refine q_ok_if (q_inV (g_55_N hG ma44 ra44) ev19 (by omega) (by omega)) ?_
            have t45 := g_45_R15 hG mo ro
            refine q_ok_if (q_inV (g_55_N hG ma44 ra44) ev32 (by omega) (by omega)) ?_
            unfold m_X12_goRound_244
            refine q_ok_ite (fun g46 => ?_) (fun g46 => ?_)
            · have f47 := q_eqV (show q_eqv ((1 : Int32)).toInt (1) by unfold q_eqv; decide) (show q_eqv ((0 : Int32)).toInt (0) by unfold q_eqv; decide) (q_p_eq g46)
              exfalso; omega
            · have f48 := q_neV (show q_eqv ((1 : Int32)).toInt (1) by unfold q_eqv; decide) (show q_eqv ((0 : Int32)).toInt (0) by unfold q_eqv; decide) (q_n_eq g46)
              refine q_ok_atS hG (q_trI mo ro) rfl (fun mo ro => ?_)
              have t49 := g_45_R17 hG mo ro
              refine q_ok_atA hG ea18 ma18 ra18 rfl ?_
              refine q_ok_if (q_inV (g_57_N hG ma18 ra18) ev32 (by omega) (by omega)) ?_
              refine q_ok_ite (fun g50 => ?_) (fun g50 => ?_)
              · have f51 := q_eqV ev39 (show q_eqv ((0 : Int32)).toInt (0) by unfold q_eqv; decide) (q_p_eq g50)
                have t52 := g_45_R16 hG mo ro
                refine q_ok_at hG t52 rfl (fun a53 ma53 ra53 ea53 => ?_)
                refine q_ok_if (q_inV (g_56_N hG ma53 ra53) ev19 (by omega) (by omega)) ?_
                have t54 := g_45_R16 hG mo ro
                refine q_ok_if (q_inV (g_56_N hG ma53 ra53) ev32 (by omega) (by omega)) ?_
                unfold m_X12_goRound_300
                refine q_ok_atS hG (q_trI mo ro) rfl (fun mo ro => ?_)
                have t55 := g_45_R15 hG mo ro
                refine q_ok_atA hG ea44 ma44 ra44 rfl ?_
                refine q_ok_if (q_inV (g_55_N hG ma44 ra44) ev19 (by omega) (by omega)) ?_
                have t56 := g_45_R16 hG mo ro
                refine q_ok_atA hG ea53 ma53 ra53 rfl ?_
                refine q_ok_if (q_inV (g_56_N hG ma53 ra53) ev19 (by omega) (by omega)) ?_
                refine q_ok_b (s_X12_piece_45 hn hG.1 mo ro (q_wd hl1 (by decide) (by decide)) (q_wd (show (1 : Int) ≤ (1 : Int32).toInt ∧ (1 : Int32).toInt ≤ (1 : Int) by decide) (by decide) (by decide)) (q_bw1 (fun x0 => x0 ≤ 119) ev9 (by omega))) (fun r57 S58 h59 => ?_)
                have hG := q_G_call hG h59.1 (by decide)
                have f60 : q_sm _ := g_45_I36 hG mo ro
                obtain ⟨v61, ev61⟩ := q_ev ((q_I (S58) o 36).toInt)
                have f62 := q_bV ev61 f60
                have f63 : v61 = v9 + 1 := q_to2 (fun x0 x1 => x0 = x1 + 1) ev61 ev9 ((q_smE (h59.2)))
                refine q_ok_ite (fun g64 => ?_) (fun g64 => ?_)
                · have f65 := q_eqV (show q_eqv ((1 : Int32)).toInt (1) by unfold q_eqv; decide) (show q_eqv ((0 : Int32)).toInt (0) by unfold q_eqv; decide) (q_p_eq g64)
                  exfalso; omega
                · have f66 := q_neV (show q_eqv ((1 : Int32)).toInt (1) by unfold q_eqv; decide) (show q_eqv ((0 : Int32)).toInt (0) by unfold q_eqv; decide) (q_n_eq g64)
                  refine q_ok_atS hG (q_trI mo ro) rfl (fun mo ro => ?_)
                  have t67 := g_45_R17 hG mo ro
                  have e68 : q_R (S58) o 17 = q_R (S) o 17 := (q_unR h59.1 mo ro (by decide))
                  refine q_ok_atA hG (Eq.trans e68 ea18) ma18 ra18 rfl ?_
                  refine q_ok_if (q_inV (g_57_N hG ma18 ra18) ev32 (by omega) (by omega)) ?_
                  have f69 : q_sm _ := g_57_E hG ma18 ra18 (k := (l2 + ((l8 + (1 : Int32)) - (l8 + (1 : Int32)) / l3 * l3)).toNatClampNeg)
                  have e70 : q_I (S58) a18 (l2 + ((l8 + (1 : Int32)) - (l8 + (1 : Int32)) / l3 * l3)).toNatClampNeg = q_I (S) a18 (l2 + ((l8 + (1 : Int32)) - (l8 + (1 : Int32)) / l3 * l3)).toNatClampNeg := (q_unIA h59.1 ma18 ra18 (by decide) (by decide))
                  obtain ⟨v71, ev71⟩ := q_ev ((q_I (S58) a18 (l2 + ((l8 + (1 : Int32)) - (l8 + (1 : Int32)) / l3 * l3)).toNatClampNeg).toInt)
                  have f72 : v71 = v39 := q_eqVI e70 ev71 ev39
                  refine q_ok_ite (fun g73 => ?_) (fun g73 => ?_)
                  · have f74 := q_eqV ev71 (show q_eqv ((0 : Int32)).toInt (0) by unfold q_eqv; decide) (q_p_eq g73)
                    unfold m_X12_goRound_364
                    unfold m_X12_goRound_365
                    exact ih _ _ _ _ _ _ _ _ hG (q_wd hl1 (by decide) (by decide)) (q_wd hl2 (by decide) (by decide)) (q_wd hl3 (by decide) (by decide)) (q_oV ev34 (by omega) (by omega)) (q_wd hl9 (by decide) (by decide)) (q_bw2 (fun x0 x1 => x0 = x1) q_evr q_evr (by omega)) (q_bw2 (fun x0 x1 => x0 = x1) q_evr q_evr (by omega)) (q_bw2 (fun x0 x1 => x0 + x1 ≤ 120) q_evr q_evr (by omega)) (q_bw2 (fun x0 x1 => x0 ≤ x1) q_evr q_evr (by omega)) (q_bw3 (fun x0 x1 x2 => x0 - x1 ≤ x2) q_evr q_evr ev34 (by omega)) (q_bw3 (fun x0 x1 x2 => x0 ≤ x1 + x2) ev61 q_evr q_evr (by omega)) (q_bw5 (fun x0 x1 x2 x3 x4 => x0 < x1 → x2 ≤ x3 + x0 - (x1 - x4)) ev34 q_evr ev61 q_evr q_evr (by omega)) (q_bw2 (fun x0 x1 => x0 ≤ 2 * x1) q_evr q_evr (by omega))  (q_upV ev34 (by omega))
                  · have f75 := q_neV ev71 (show q_eqv ((0 : Int32)).toInt (0) by unfold q_eqv; decide) (q_n_eq g73)
                    exfalso; omega
              · have f76 := q_neV ev39 (show q_eqv ((0 : Int32)).toInt (0) by unfold q_eqv; decide) (q_n_eq g50)
                exfalso; omega
          · have f77 := q_neV ev39 (show q_eqv ((0 : Int32)).toInt (0) by unfold q_eqv; decide) (q_n_eq g41)
            have t78 := g_45_R15 hG mo ro
            refine q_ok_at hG t78 rfl (fun a79 ma79 ra79 ea79 => ?_)
            refine q_ok_if (q_inV (g_55_N hG ma79 ra79) ev32 (by omega) (by omega)) ?_
            unfold m_X12_goRound_244
            refine q_ok_ite (fun g80 => ?_) (fun g80 => ?_)
            · have f81 := q_eqV (show q_eqv ((1 : Int32)).toInt (1) by unfold q_eqv; decide) (show q_eqv ((0 : Int32)).toInt (0) by unfold q_eqv; decide) (q_p_eq g80)
              exfalso; omega
            · have f82 := q_neV (show q_eqv ((1 : Int32)).toInt (1) by unfold q_eqv; decide) (show q_eqv ((0 : Int32)).toInt (0) by unfold q_eqv; decide) (q_n_eq g80)
              refine q_ok_atS hG (q_trI mo ro) rfl (fun mo ro => ?_)
              have t83 := g_45_R17 hG mo ro
              refine q_ok_atA hG ea18 ma18 ra18 rfl ?_
              refine q_ok_if (q_inV (g_57_N hG ma18 ra18) ev32 (by omega) (by omega)) ?_
              refine q_ok_ite (fun g84 => ?_) (fun g84 => ?_)
              · have f85 := q_eqV ev39 (show q_eqv ((0 : Int32)).toInt (0) by unfold q_eqv; decide) (q_p_eq g84)
                exfalso; omega
              · have f86 := q_neV ev39 (show q_eqv ((0 : Int32)).toInt (0) by unfold q_eqv; decide) (q_n_eq g84)
                have t87 := g_45_R16 hG mo ro
                refine q_ok_at hG t87 rfl (fun a88 ma88 ra88 ea88 => ?_)
                refine q_ok_if (q_inV (g_56_N hG ma88 ra88) ev32 (by omega) (by omega)) ?_
                unfold m_X12_goRound_300
                refine q_ok_atS hG (q_trI mo ro) rfl (fun mo ro => ?_)
                have t89 := g_45_R15 hG mo ro
                refine q_ok_atA hG ea79 ma79 ra79 rfl ?_
                refine q_ok_if (q_inV (g_55_N hG ma79 ra79) ev19 (by omega) (by omega)) ?_
                have t90 := g_45_R16 hG mo ro
                refine q_ok_atA hG ea88 ma88 ra88 rfl ?_
                refine q_ok_if (q_inV (g_56_N hG ma88 ra88) ev19 (by omega) (by omega)) ?_
                refine q_ok_b (s_X12_piece_45 hn hG.1 mo ro (q_wd hl1 (by decide) (by decide)) (q_wd (show (1 : Int) ≤ (1 : Int32).toInt ∧ (1 : Int32).toInt ≤ (1 : Int) by decide) (by decide) (by decide)) (q_bw1 (fun x0 => x0 ≤ 119) ev9 (by omega))) (fun r91 S92 h93 => ?_)
                have hG := q_G_call hG h93.1 (by decide)
                have f94 : q_sm _ := g_45_I36 hG mo ro
                obtain ⟨v95, ev95⟩ := q_ev ((q_I (S92) o 36).toInt)
                have f96 := q_bV ev95 f94
                have f97 : v95 = v9 + 1 := q_to2 (fun x0 x1 => x0 = x1 + 1) ev95 ev9 ((q_smE (h93.2)))
                refine q_ok_ite (fun g98 => ?_) (fun g98 => ?_)
                · have f99 := q_eqV (show q_eqv ((1 : Int32)).toInt (1) by unfold q_eqv; decide) (show q_eqv ((0 : Int32)).toInt (0) by unfold q_eqv; decide) (q_p_eq g98)
                  exfalso; omega
                · have f100 := q_neV (show q_eqv ((1 : Int32)).toInt (1) by unfold q_eqv; decide) (show q_eqv ((0 : Int32)).toInt (0) by unfold q_eqv; decide) (q_n_eq g98)
                  refine q_ok_atS hG (q_trI mo ro) rfl (fun mo ro => ?_)
                  have t101 := g_45_R17 hG mo ro
                  have e102 : q_R (S92) o 17 = q_R (S) o 17 := (q_unR h93.1 mo ro (by decide))
                  refine q_ok_atA hG (Eq.trans e102 ea18) ma18 ra18 rfl ?_
                  refine q_ok_if (q_inV (g_57_N hG ma18 ra18) ev32 (by omega) (by omega)) ?_
                  have f103 : q_sm _ := g_57_E hG ma18 ra18 (k := (l2 + ((l8 + (1 : Int32)) - (l8 + (1 : Int32)) / l3 * l3)).toNatClampNeg)
                  have e104 : q_I (S92) a18 (l2 + ((l8 + (1 : Int32)) - (l8 + (1 : Int32)) / l3 * l3)).toNatClampNeg = q_I (S) a18 (l2 + ((l8 + (1 : Int32)) - (l8 + (1 : Int32)) / l3 * l3)).toNatClampNeg := (q_unIA h93.1 ma18 ra18 (by decide) (by decide))
                  obtain ⟨v105, ev105⟩ := q_ev ((q_I (S92) a18 (l2 + ((l8 + (1 : Int32)) - (l8 + (1 : Int32)) / l3 * l3)).toNatClampNeg).toInt)
                  have f106 : v105 = v39 := q_eqVI e104 ev105 ev39
                  refine q_ok_ite (fun g107 => ?_) (fun g107 => ?_)
                  · have f108 := q_eqV ev105 (show q_eqv ((0 : Int32)).toInt (0) by unfold q_eqv; decide) (q_p_eq g107)
                    exfalso; omega
                  · have f109 := q_neV ev105 (show q_eqv ((0 : Int32)).toInt (0) by unfold q_eqv; decide) (q_n_eq g107)
                    unfold m_X12_goRound_365
                    obtain ⟨v110, ev110⟩ := q_ev ((l8 + (2 : Int32)).toInt)
                    have f111 : v110 = l8.toInt + (2) := q_addVI ev110 q_evr (show q_eqv ((2 : Int32)).toInt (2) by unfold q_eqv; decide) (by omega) (by omega)
                    exact ih _ _ _ _ _ _ _ _ hG (q_wd hl1 (by decide) (by decide)) (q_wd hl2 (by decide) (by decide)) (q_wd hl3 (by decide) (by decide)) (q_oV ev110 (by omega) (by omega)) (q_wd hl9 (by decide) (by decide)) (q_bw2 (fun x0 x1 => x0 = x1) q_evr q_evr (by omega)) (q_bw2 (fun x0 x1 => x0 = x1) q_evr q_evr (by omega)) (q_bw2 (fun x0 x1 => x0 + x1 ≤ 120) q_evr q_evr (by omega)) (q_bw2 (fun x0 x1 => x0 ≤ x1) q_evr q_evr (by omega)) (q_bw3 (fun x0 x1 x2 => x0 - x1 ≤ x2) q_evr q_evr ev110 (by omega)) (q_bw3 (fun x0 x1 x2 => x0 ≤ x1 + x2) ev95 q_evr q_evr (by omega)) (q_bw5 (fun x0 x1 x2 x3 x4 => x0 < x1 → x2 ≤ x3 + x0 - (x1 - x4)) ev110 q_evr ev95 q_evr q_evr (by omega)) (q_bw2 (fun x0 x1 => x0 ≤ 2 * x1) q_evr q_evr (by omega))  (q_upV ev110 (by omega))
      · have f112 := q_neV ev24 (show q_eqv ((0 : Int32)).toInt (0) by unfold q_eqv; decide) (q_n_eq g26)
        unfold m_X12_goRound_188
        refine q_ok_ite (fun g113 => ?_) (fun g113 => ?_)
        · have f114 := q_eqV (show q_eqv ((0 : Int32)).toInt (0) by unfold q_eqv; decide) (show q_eqv ((0 : Int32)).toInt (0) by unfold q_eqv; decide) (q_p_eq g113)
          refine q_ok_atS hG (q_trI mo ro) rfl (fun mo ro => ?_)
          have t115 := g_45_R15 hG mo ro
          refine q_ok_at hG t115 rfl (fun a116 ma116 ra116 ea116 => ?_)
          refine q_ok_if (q_inV (g_55_N hG ma116 ra116) ev19 (by omega) (by omega)) ?_
          unfold m_X12_goRound_244
          refine q_ok_ite (fun g117 => ?_) (fun g117 => ?_)
          · have f118 := q_eqV (show q_eqv ((0 : Int32)).toInt (0) by unfold q_eqv; decide) (show q_eqv ((0 : Int32)).toInt (0) by unfold q_eqv; decide) (q_p_eq g117)
            refine q_ok_atS hG (q_trI mo ro) rfl (fun mo ro => ?_)
            have t119 := g_45_R16 hG mo ro
            refine q_ok_at hG t119 rfl (fun a120 ma120 ra120 ea120 => ?_)
            refine q_ok_if (q_inV (g_56_N hG ma120 ra120) ev19 (by omega) (by omega)) ?_
            unfold m_X12_goRound_300
            refine q_ok_atS hG (q_trI mo ro) rfl (fun mo ro => ?_)
            have t121 := g_45_R15 hG mo ro
            refine q_ok_atA hG ea116 ma116 ra116 rfl ?_
            refine q_ok_if (q_inV (g_55_N hG ma116 ra116) ev19 (by omega) (by omega)) ?_
            have t122 := g_45_R16 hG mo ro
            refine q_ok_atA hG ea120 ma120 ra120 rfl ?_
            refine q_ok_if (q_inV (g_56_N hG ma120 ra120) ev19 (by omega) (by omega)) ?_
            refine q_ok_b (s_X12_piece_45 hn hG.1 mo ro (q_wd hl1 (by decide) (by decide)) (q_wd (show (0 : Int) ≤ (0 : Int32).toInt ∧ (0 : Int32).toInt ≤ (0 : Int) by decide) (by decide) (by decide)) (q_bw1 (fun x0 => x0 ≤ 119) ev9 (by omega))) (fun r123 S124 h125 => ?_)
            have hG := q_G_call hG h125.1 (by decide)
            have f126 : q_sm _ := g_45_I36 hG mo ro
            obtain ⟨v127, ev127⟩ := q_ev ((q_I (S124) o 36).toInt)
            have f128 := q_bV ev127 f126
            have f129 : v127 = v9 + 1 := q_to2 (fun x0 x1 => x0 = x1 + 1) ev127 ev9 ((q_smE (h125.2)))
            refine q_ok_ite (fun g130 => ?_) (fun g130 => ?_)
            · have f131 := q_eqV (show q_eqv ((0 : Int32)).toInt (0) by unfold q_eqv; decide) (show q_eqv ((0 : Int32)).toInt (0) by unfold q_eqv; decide) (q_p_eq g130)
              unfold m_X12_goRound_364
              unfold m_X12_goRound_365
              obtain ⟨v132, ev132⟩ := q_ev ((l8 + (1 : Int32)).toInt)
              have f133 : v132 = l8.toInt + (1) := q_addVI ev132 q_evr (show q_eqv ((1 : Int32)).toInt (1) by unfold q_eqv; decide) (by omega) (by omega)
              exact ih _ _ _ _ _ _ _ _ hG (q_wd hl1 (by decide) (by decide)) (q_wd hl2 (by decide) (by decide)) (q_wd hl3 (by decide) (by decide)) (q_oV ev132 (by omega) (by omega)) (q_wd hl9 (by decide) (by decide)) (q_bw2 (fun x0 x1 => x0 = x1) q_evr q_evr (by omega)) (q_bw2 (fun x0 x1 => x0 = x1) q_evr q_evr (by omega)) (q_bw2 (fun x0 x1 => x0 + x1 ≤ 120) q_evr q_evr (by omega)) (q_bw2 (fun x0 x1 => x0 ≤ x1) q_evr q_evr (by omega)) (q_bw3 (fun x0 x1 x2 => x0 - x1 ≤ x2) q_evr q_evr ev132 (by omega)) (q_bw3 (fun x0 x1 x2 => x0 ≤ x1 + x2) ev127 q_evr q_evr (by omega)) (q_bw5 (fun x0 x1 x2 x3 x4 => x0 < x1 → x2 ≤ x3 + x0 - (x1 - x4)) ev132 q_evr ev127 q_evr q_evr (by omega)) (q_bw2 (fun x0 x1 => x0 ≤ 2 * x1) q_evr q_evr (by omega))  (q_upV ev132 (by omega))
            · have f134 := q_neV (show q_eqv ((0 : Int32)).toInt (0) by unfold q_eqv; decide) (show q_eqv ((0 : Int32)).toInt (0) by unfold q_eqv; decide) (q_n_eq g130)
              exfalso; omega
          · have f135 := q_neV (show q_eqv ((0 : Int32)).toInt (0) by unfold q_eqv; decide) (show q_eqv ((0 : Int32)).toInt (0) by unfold q_eqv; decide) (q_n_eq g117)
            exfalso; omega
        · have f136 := q_neV (show q_eqv ((0 : Int32)).toInt (0) by unfold q_eqv; decide) (show q_eqv ((0 : Int32)).toInt (0) by unfold q_eqv; decide) (q_n_eq g113)
          exfalso; omega
set_option maxHeartbeats 4000000 in
set_option maxRecDepth 100000 in
theorem s_X12_goRound_45_3 {ρ : Nat → Nat} {L : List Nat} {n : Nat} (hn : 18446744073709551616 ≤ n) {S0 : q_S} {o : Nat} (mo : o ∈ L) (ro : ρ o = 45) {p0 : Int32} {p1 : Int32} {p2 : Int32}  : ∀ (k : Nat) (S : q_S) (l1 : Int32) (l2 : Int32) (l3 : Int32) (l4 : Int32), q_G ρ L M_X12_goRound_45 S0 S → (0 ≤ l1.toInt ∧ l1.toInt ≤ 119) → (0 ≤ l2.toInt ∧ l2.toInt ≤ 118) → (2 ≤ l3.toInt ∧ l3.toInt ≤ 120) → (0 ≤ l4.toInt ∧ l4.toInt ≤ 120) → ((q_I S o 36).toInt ≤ (l2).toInt) → ((l2).toInt = (p1).toInt) → ((l3).toInt = (p2).toInt) → ((l2).toInt + (l3).toInt ≤ 120) → ((l4).toInt ≤ (l3).toInt) → 2147483648 - l4.toInt ≤ (k : Int) → q_ok (m_X12_goRound_3 n k S (some o) l1 l2 l3 l4) (fun _ T => q_G ρ L M_X12_goRound_45 S0 T ∧ q_sm (((q_I T o 36).toInt ≤ (p1).toInt + (p2).toInt))) := by
  intro k
  induction k with
  | zero =>
    intro S l1 l2 l3 l4 hG hl1 hl2 hl3 hl4 hf0 hf1 hf2 hf3 hf4 hm
    have f0 := q_rngI l4
    exfalso; omega
  | succ k ih =>
    intro S l1 l2 l3 l4 hG hl1 hl2 hl3 hl4 hf0 hf1 hf2 hf3 hf4 hm
    rw [m_X12_goRound_3]
    have z0 : (0 : Int32).toInt = 0 := rfl
    have f1 : q_sm _ := g_45_I36 hG mo ro
    obtain ⟨v2, ev2⟩ := q_ev ((q_I (S) o 36).toInt)
    have f3 := q_bV ev2 f1
    have f4 : v2 ≤ l2.toInt := q_to2 (fun x0 x1 => x0 ≤ x1) ev2 q_evr hf0
    have f5 := q_rVI (x := p1) q_evr
    have f6 : l2.toInt = p1.toInt := q_to2 (fun x0 x1 => x0 = x1) q_evr q_evr hf1
    have f7 := q_rVI (x := p2) q_evr
    have f8 : l3.toInt = p2.toInt := q_to2 (fun x0 x1 => x0 = x1) q_evr q_evr hf2
    have f9 : l2.toInt + l3.toInt ≤ 120 := q_to2 (fun x0 x1 => x0 + x1 ≤ 120) q_evr q_evr hf3
    have f10 : l4.toInt ≤ l3.toInt := q_to2 (fun x0 x1 => x0 ≤ x1) q_evr q_evr hf4
    refine q_ok_ite (fun g11 => ?_) (fun g11 => ?_)
    · have f12 := q_leV q_evr q_evr (q_p_ge g11)
      unfold m_X12_goRound_27
      refine q_ok_ite (fun g13 => ?_) (fun g13 => ?_)
      · have f14 := q_eqV q_evr q_evr (q_p_eq g13)
        unfold m_X12_goRound_38
        refine q_ok_ite (fun g15 => ?_) (fun g15 => ?_)
        · have f16 := q_eqV (show q_eqv ((1 : Int32)).toInt (1) by unfold q_eqv; decide) (show q_eqv ((0 : Int32)).toInt (0) by unfold q_eqv; decide) (q_p_eq g15)
          exfalso; omega
        · have f17 := q_neV (show q_eqv ((1 : Int32)).toInt (1) by unfold q_eqv; decide) (show q_eqv ((0 : Int32)).toInt (0) by unfold q_eqv; decide) (q_n_eq g15)
          refine q_ok_atS hG (q_trI mo ro) rfl (fun mo ro => ?_)
          have t18 := g_45_R15 hG mo ro
          refine q_ok_at hG t18 rfl (fun a19 ma19 ra19 ea19 => ?_)
          refine q_ok_if (q_inV (g_55_N hG ma19 ra19) q_evr (by omega) (by omega)) ?_
          have t20 := g_45_R15 hG mo ro
          obtain ⟨v21, ev21⟩ := q_ev (((l2 + l3) - (1 : Int32)).toInt)
          obtain ⟨v22, ev22⟩ := q_ev ((l2 + l3).toInt)
          have f23 : v22 = l2.toInt + l3.toInt := q_addVI ev22 q_evr q_evr (by omega) (by omega)
          have f24 : v21 = v22 - (1) := q_subVI ev21 ev22 (show q_eqv ((1 : Int32)).toInt (1) by unfold q_eqv; decide) (by omega) (by omega)
          refine q_ok_if (q_inV (g_55_N hG ma19 ra19) ev21 (by omega) (by omega)) ?_
          unfold m_X12_goRound_76
          refine q_ok_ite (fun g25 => ?_) (fun g25 => ?_)
          · have f26 := q_eqV (show q_eqv ((1 : Int32)).toInt (1) by unfold q_eqv; decide) (show q_eqv ((0 : Int32)).toInt (0) by unfold q_eqv; decide) (q_p_eq g25)
            exfalso; omega
          · have f27 := q_neV (show q_eqv ((1 : Int32)).toInt (1) by unfold q_eqv; decide) (show q_eqv ((0 : Int32)).toInt (0) by unfold q_eqv; decide) (q_n_eq g25)
            refine q_ok_atS hG (q_trI mo ro) rfl (fun mo ro => ?_)
            have t28 := g_45_R16 hG mo ro
            refine q_ok_at hG t28 rfl (fun a29 ma29 ra29 ea29 => ?_)
            refine q_ok_if (q_inV (g_56_N hG ma29 ra29) q_evr (by omega) (by omega)) ?_
            have t30 := g_45_R16 hG mo ro
            refine q_ok_if (q_inV (g_56_N hG ma29 ra29) ev21 (by omega) (by omega)) ?_
            unfold m_X12_goRound_114
            refine q_ok_ite (fun g31 => ?_) (fun g31 => ?_)
            · have f32 := q_eqV (show q_eqv ((1 : Int32)).toInt (1) by unfold q_eqv; decide) (show q_eqv ((0 : Int32)).toInt (0) by unfold q_eqv; decide) (q_p_eq g31)
              exfalso; omega
            · have f33 := q_neV (show q_eqv ((1 : Int32)).toInt (1) by unfold q_eqv; decide) (show q_eqv ((0 : Int32)).toInt (0) by unfold q_eqv; decide) (q_n_eq g31)
              unfold m_X12_goRound_129
              refine q_ok_ite (fun g34 => ?_) (fun g34 => ?_)
              · have f35 := q_eqV (show q_eqv ((1 : Int32)).toInt (1) by unfold q_eqv; decide) (show q_eqv ((0 : Int32)).toInt (0) by unfold q_eqv; decide) (q_p_eq g34)
                exfalso; omega
              · have f36 := q_neV (show q_eqv ((1 : Int32)).toInt (1) by unfold q_eqv; decide) (show q_eqv ((0 : Int32)).toInt (0) by unfold q_eqv; decide) (q_n_eq g34)
                unfold m_X12_goRound_146
                exact s_X12_goRound_45_148 hn mo ro (p0 := p0) (p1 := p1) (p2 := p2) n _ _ _ _ _ _ _ _ hG (q_wd hl1 (by decide) (by decide)) (q_wd hl2 (by decide) (by decide)) (q_wd hl3 (by decide) (by decide)) (q_wd (show (0 : Int) ≤ (0 : Int32).toInt ∧ (0 : Int32).toInt ≤ (0 : Int) by decide) (by decide) (by decide)) (q_wd hl3 (by decide) (by decide)) (q_bw2 (fun x0 x1 => x0 = x1) q_evr q_evr (by omega)) (q_bw2 (fun x0 x1 => x0 = x1) q_evr q_evr (by omega)) (q_bw2 (fun x0 x1 => x0 + x1 ≤ 120) q_evr q_evr (by omega)) (q_bw2 (fun x0 x1 => x0 ≤ x1) q_evr q_evr (by omega)) (q_bw3 (fun x0 x1 x2 => x0 - x1 ≤ x2) q_evr q_evr (show q_eqv ((0 : Int32)).toInt (0) by unfold q_eqv; decide) (by omega)) (q_bw3 (fun x0 x1 x2 => x0 ≤ x1 + x2) ev2 q_evr q_evr (by omega)) (q_bw5 (fun x0 x1 x2 x3 x4 => x0 < x1 → x2 ≤ x3 + x0 - (x1 - x4)) (show q_eqv ((0 : Int32)).toInt (0) by unfold q_eqv; decide) q_evr ev2 q_evr q_evr (by omega)) (q_bw2 (fun x0 x1 => x0 ≤ 2 * x1) q_evr q_evr (by omega))  (q_upV (show q_eqv ((0 : Int32)).toInt (0) by unfold q_eqv; decide) (by omega))
      · have f37 := q_neV q_evr q_evr (q_n_eq g13)
        unfold m_X12_goRound_38
        refine q_ok_ite (fun g38 => ?_) (fun g38 => ?_)
        · have f39 := q_eqV (show q_eqv ((0 : Int32)).toInt (0) by unfold q_eqv; decide) (show q_eqv ((0 : Int32)).toInt (0) by unfold q_eqv; decide) (q_p_eq g38)
          refine q_ok_atS hG (q_trI mo ro) rfl (fun mo ro => ?_)
          have t40 := g_45_R15 hG mo ro
          refine q_ok_at hG t40 rfl (fun a41 ma41 ra41 ea41 => ?_)
          obtain ⟨v42, ev42⟩ := q_ev ((l2 + l4).toInt)
          have f43 : v42 = l2.toInt + l4.toInt := q_addVI ev42 q_evr q_evr (by omega) (by omega)
          refine q_ok_if (q_inV (g_55_N hG ma41 ra41) ev42 (by omega) (by omega)) ?_
          unfold m_X12_goRound_76
          refine q_ok_ite (fun g44 => ?_) (fun g44 => ?_)
          · have f45 := q_eqV (show q_eqv ((0 : Int32)).toInt (0) by unfold q_eqv; decide) (show q_eqv ((0 : Int32)).toInt (0) by unfold q_eqv; decide) (q_p_eq g44)
            refine q_ok_atS hG (q_trI mo ro) rfl (fun mo ro => ?_)
            have t46 := g_45_R16 hG mo ro
            refine q_ok_at hG t46 rfl (fun a47 ma47 ra47 ea47 => ?_)
            refine q_ok_if (q_inV (g_56_N hG ma47 ra47) ev42 (by omega) (by omega)) ?_
            unfold m_X12_goRound_114
            refine q_ok_ite (fun g48 => ?_) (fun g48 => ?_)
            · have f49 := q_eqV (show q_eqv ((0 : Int32)).toInt (0) by unfold q_eqv; decide) (show q_eqv ((0 : Int32)).toInt (0) by unfold q_eqv; decide) (q_p_eq g48)
              unfold m_X12_goRound_129
              refine q_ok_ite (fun g50 => ?_) (fun g50 => ?_)
              · have f51 := q_eqV (show q_eqv ((0 : Int32)).toInt (0) by unfold q_eqv; decide) (show q_eqv ((0 : Int32)).toInt (0) by unfold q_eqv; decide) (q_p_eq g50)
                unfold m_X12_goRound_146
                obtain ⟨v52, ev52⟩ := q_ev (((l4 + l3) + (1 : Int32)).toInt)
                obtain ⟨v53, ev53⟩ := q_ev ((l4 + l3).toInt)
                have f54 : v53 = l4.toInt + l3.toInt := q_addVI ev53 q_evr q_evr (by omega) (by omega)
                have f55 : v52 = v53 + (1) := q_addVI ev52 ev53 (show q_eqv ((1 : Int32)).toInt (1) by unfold q_eqv; decide) (by omega) (by omega)
                obtain ⟨v56, ev56⟩ := q_ev ((l4 + (1 : Int32)).toInt)
                have f57 : v56 = l4.toInt + (1) := q_addVI ev56 q_evr (show q_eqv ((1 : Int32)).toInt (1) by unfold q_eqv; decide) (by omega) (by omega)
                exact s_X12_goRound_45_148 hn mo ro (p0 := p0) (p1 := p1) (p2 := p2) n _ _ _ _ _ _ _ _ hG (q_wd hl1 (by decide) (by decide)) (q_wd hl2 (by decide) (by decide)) (q_wd hl3 (by decide) (by decide)) (q_wd (q_addBI (1) (121) hl4 (show (1 : Int) ≤ (1 : Int32).toInt ∧ (1 : Int32).toInt ≤ (1 : Int) by decide) (by decide) (by decide) (by decide) (by decide)) (by decide) (by decide)) (q_wd (q_addBI (3) (241) (q_addBI (2) (240) hl4 hl3 (by decide) (by decide) (by decide) (by decide)) (show (1 : Int) ≤ (1 : Int32).toInt ∧ (1 : Int32).toInt ≤ (1 : Int) by decide) (by decide) (by decide) (by decide) (by decide)) (by decide) (by decide)) (q_bw2 (fun x0 x1 => x0 = x1) q_evr q_evr (by omega)) (q_bw2 (fun x0 x1 => x0 = x1) q_evr q_evr (by omega)) (q_bw2 (fun x0 x1 => x0 + x1 ≤ 120) q_evr q_evr (by omega)) (q_bw2 (fun x0 x1 => x0 ≤ x1) q_evr ev52 (by omega)) (q_bw3 (fun x0 x1 x2 => x0 - x1 ≤ x2) ev52 q_evr ev56 (by omega)) (q_bw3 (fun x0 x1 x2 => x0 ≤ x1 + x2) ev2 q_evr q_evr (by omega)) (q_bw5 (fun x0 x1 x2 x3 x4 => x0 < x1 → x2 ≤ x3 + x0 - (x1 - x4)) ev56 ev52 ev2 q_evr q_evr (by omega)) (q_bw2 (fun x0 x1 => x0 ≤ 2 * x1) ev52 q_evr (by omega))  (q_upV ev56 (by omega))
              · have f58 := q_neV (show q_eqv ((0 : Int32)).toInt (0) by unfold q_eqv; decide) (show q_eqv ((0 : Int32)).toInt (0) by unfold q_eqv; decide) (q_n_eq g50)
                exfalso; omega
            · have f59 := q_neV (show q_eqv ((0 : Int32)).toInt (0) by unfold q_eqv; decide) (show q_eqv ((0 : Int32)).toInt (0) by unfold q_eqv; decide) (q_n_eq g48)
              exfalso; omega
          · have f60 := q_neV (show q_eqv ((0 : Int32)).toInt (0) by unfold q_eqv; decide) (show q_eqv ((0 : Int32)).toInt (0) by unfold q_eqv; decide) (q_n_eq g44)
            exfalso; omega
        · have f61 := q_neV (show q_eqv ((0 : Int32)).toInt (0) by unfold q_eqv; decide) (show q_eqv ((0 : Int32)).toInt (0) by unfold q_eqv; decide) (q_n_eq g38)
          exfalso; omega
    · have f62 := q_ltV q_evr q_evr (q_n_ge g11)
      refine q_ok_atS hG (q_trI mo ro) rfl (fun mo ro => ?_)
      have t63 := g_45_R17 hG mo ro
      refine q_ok_at hG t63 rfl (fun a64 ma64 ra64 ea64 => ?_)
      obtain ⟨v65, ev65⟩ := q_ev ((l2 + l4).toInt)
      have f66 : v65 = l2.toInt + l4.toInt := q_addVI ev65 q_evr q_evr (by omega) (by omega)
      refine q_ok_if (q_inV (g_57_N hG ma64 ra64) ev65 (by omega) (by omega)) ?_
      have f67 : q_sm _ := g_57_E hG ma64 ra64 (k := (l2 + l4).toNatClampNeg)
      obtain ⟨v68, ev68⟩ := q_ev ((q_I (S) a64 (l2 + l4).toNatClampNeg).toInt)
      have f69 := q_bV ev68 f67
      refine q_ok_ite (fun g70 => ?_) (fun g70 => ?_)
      · have f71 := q_eqV ev68 (show q_eqv ((0 : Int32)).toInt (0) by unfold q_eqv; decide) (q_p_eq g70)
        obtain ⟨v72, ev72⟩ := q_ev ((l4 + (1)).toInt)
        have f73 : v72 = l4.toInt + (1) := q_addVI ev72 q_evr (show q_eqv ((1 : Int32)).toInt (1) by unfold q_eqv; decide) (by omega) (by omega)
        exact ih _ _ _ _ _ hG (q_wd hl1 (by decide) (by decide)) (q_wd hl2 (by decide) (by decide)) (q_wd hl3 (by decide) (by decide)) (q_oV ev72 (by omega) (by omega)) (q_bw2 (fun x0 x1 => x0 ≤ x1) ev2 q_evr (by omega)) (q_bw2 (fun x0 x1 => x0 = x1) q_evr q_evr (by omega)) (q_bw2 (fun x0 x1 => x0 = x1) q_evr q_evr (by omega)) (q_bw2 (fun x0 x1 => x0 + x1 ≤ 120) q_evr q_evr (by omega)) (q_bw2 (fun x0 x1 => x0 ≤ x1) ev72 q_evr (by omega))  (q_upV ev72 (by omega))
      · have f74 := q_neV ev68 (show q_eqv ((0 : Int32)).toInt (0) by unfold q_eqv; decide) (q_n_eq g70)
        unfold m_X12_goRound_27
        refine q_ok_ite (fun g75 => ?_) (fun g75 => ?_)
        · have f76 := q_eqV q_evr q_evr (q_p_eq g75)
          unfold m_X12_goRound_38
          refine q_ok_ite (fun g77 => ?_) (fun g77 => ?_)
          · have f78 := q_eqV (show q_eqv ((1 : Int32)).toInt (1) by unfold q_eqv; decide) (show q_eqv ((0 : Int32)).toInt (0) by unfold q_eqv; decide) (q_p_eq g77)
            exfalso; omega
          · have f79 := q_neV (show q_eqv ((1 : Int32)).toInt (1) by unfold q_eqv; decide) (show q_eqv ((0 : Int32)).toInt (0) by unfold q_eqv; decide) (q_n_eq g77)
            refine q_ok_atS hG (q_trI mo ro) rfl (fun mo ro => ?_)
            have t80 := g_45_R15 hG mo ro
            refine q_ok_at hG t80 rfl (fun a81 ma81 ra81 ea81 => ?_)
            refine q_ok_if (q_inV (g_55_N hG ma81 ra81) q_evr (by omega) (by omega)) ?_
            have t82 := g_45_R15 hG mo ro
            obtain ⟨v83, ev83⟩ := q_ev (((l2 + l3) - (1 : Int32)).toInt)
            obtain ⟨v84, ev84⟩ := q_ev ((l2 + l3).toInt)
            have f85 : v84 = l2.toInt + l3.toInt := q_addVI ev84 q_evr q_evr (by omega) (by omega)
            have f86 : v83 = v84 - (1) := q_subVI ev83 ev84 (show q_eqv ((1 : Int32)).toInt (1) by unfold q_eqv; decide) (by omega) (by omega)
            refine q_ok_if (q_inV (g_55_N hG ma81 ra81) ev83 (by omega) (by omega)) ?_
            unfold m_X12_goRound_76
            refine q_ok_ite (fun g87 => ?_) (fun g87 => ?_)
            · have f88 := q_eqV (show q_eqv ((1 : Int32)).toInt (1) by unfold q_eqv; decide) (show q_eqv ((0 : Int32)).toInt (0) by unfold q_eqv; decide) (q_p_eq g87)
              exfalso; omega
            · have f89 := q_neV (show q_eqv ((1 : Int32)).toInt (1) by unfold q_eqv; decide) (show q_eqv ((0 : Int32)).toInt (0) by unfold q_eqv; decide) (q_n_eq g87)
              refine q_ok_atS hG (q_trI mo ro) rfl (fun mo ro => ?_)
              have t90 := g_45_R16 hG mo ro
              refine q_ok_at hG t90 rfl (fun a91 ma91 ra91 ea91 => ?_)
              refine q_ok_if (q_inV (g_56_N hG ma91 ra91) q_evr (by omega) (by omega)) ?_
              have t92 := g_45_R16 hG mo ro
              refine q_ok_if (q_inV (g_56_N hG ma91 ra91) ev83 (by omega) (by omega)) ?_
              unfold m_X12_goRound_114
              refine q_ok_ite (fun g93 => ?_) (fun g93 => ?_)
              · have f94 := q_eqV (show q_eqv ((1 : Int32)).toInt (1) by unfold q_eqv; decide) (show q_eqv ((0 : Int32)).toInt (0) by unfold q_eqv; decide) (q_p_eq g93)
                exfalso; omega
              · have f95 := q_neV (show q_eqv ((1 : Int32)).toInt (1) by unfold q_eqv; decide) (show q_eqv ((0 : Int32)).toInt (0) by unfold q_eqv; decide) (q_n_eq g93)
                unfold m_X12_goRound_129
                refine q_ok_ite (fun g96 => ?_) (fun g96 => ?_)
                · have f97 := q_eqV (show q_eqv ((1 : Int32)).toInt (1) by unfold q_eqv; decide) (show q_eqv ((0 : Int32)).toInt (0) by unfold q_eqv; decide) (q_p_eq g96)
                  exfalso; omega
                · have f98 := q_neV (show q_eqv ((1 : Int32)).toInt (1) by unfold q_eqv; decide) (show q_eqv ((0 : Int32)).toInt (0) by unfold q_eqv; decide) (q_n_eq g96)
                  unfold m_X12_goRound_146
                  exact s_X12_goRound_45_148 hn mo ro (p0 := p0) (p1 := p1) (p2 := p2) n _ _ _ _ _ _ _ _ hG (q_wd hl1 (by decide) (by decide)) (q_wd hl2 (by decide) (by decide)) (q_wd hl3 (by decide) (by decide)) (q_wd (show (0 : Int) ≤ (0 : Int32).toInt ∧ (0 : Int32).toInt ≤ (0 : Int) by decide) (by decide) (by decide)) (q_wd hl3 (by decide) (by decide)) (q_bw2 (fun x0 x1 => x0 = x1) q_evr q_evr (by omega)) (q_bw2 (fun x0 x1 => x0 = x1) q_evr q_evr (by omega)) (q_bw2 (fun x0 x1 => x0 + x1 ≤ 120) q_evr q_evr (by omega)) (q_bw2 (fun x0 x1 => x0 ≤ x1) q_evr q_evr (by omega)) (q_bw3 (fun x0 x1 x2 => x0 - x1 ≤ x2) q_evr q_evr (show q_eqv ((0 : Int32)).toInt (0) by unfold q_eqv; decide) (by omega)) (q_bw3 (fun x0 x1 x2 => x0 ≤ x1 + x2) ev2 q_evr q_evr (by omega)) (q_bw5 (fun x0 x1 x2 x3 x4 => x0 < x1 → x2 ≤ x3 + x0 - (x1 - x4)) (show q_eqv ((0 : Int32)).toInt (0) by unfold q_eqv; decide) q_evr ev2 q_evr q_evr (by omega)) (q_bw2 (fun x0 x1 => x0 ≤ 2 * x1) q_evr q_evr (by omega))  (q_upV (show q_eqv ((0 : Int32)).toInt (0) by unfold q_eqv; decide) (by omega))
        · have f99 := q_neV q_evr q_evr (q_n_eq g75)
          unfold m_X12_goRound_38
          refine q_ok_ite (fun g100 => ?_) (fun g100 => ?_)
          · have f101 := q_eqV (show q_eqv ((0 : Int32)).toInt (0) by unfold q_eqv; decide) (show q_eqv ((0 : Int32)).toInt (0) by unfold q_eqv; decide) (q_p_eq g100)
            refine q_ok_atS hG (q_trI mo ro) rfl (fun mo ro => ?_)
            have t102 := g_45_R15 hG mo ro
            refine q_ok_at hG t102 rfl (fun a103 ma103 ra103 ea103 => ?_)
            refine q_ok_if (q_inV (g_55_N hG ma103 ra103) ev65 (by omega) (by omega)) ?_
            unfold m_X12_goRound_76
            refine q_ok_ite (fun g104 => ?_) (fun g104 => ?_)
            · have f105 := q_eqV (show q_eqv ((0 : Int32)).toInt (0) by unfold q_eqv; decide) (show q_eqv ((0 : Int32)).toInt (0) by unfold q_eqv; decide) (q_p_eq g104)
              refine q_ok_atS hG (q_trI mo ro) rfl (fun mo ro => ?_)
              have t106 := g_45_R16 hG mo ro
              refine q_ok_at hG t106 rfl (fun a107 ma107 ra107 ea107 => ?_)
              refine q_ok_if (q_inV (g_56_N hG ma107 ra107) ev65 (by omega) (by omega)) ?_
              unfold m_X12_goRound_114
              refine q_ok_ite (fun g108 => ?_) (fun g108 => ?_)
              · have f109 := q_eqV (show q_eqv ((0 : Int32)).toInt (0) by unfold q_eqv; decide) (show q_eqv ((0 : Int32)).toInt (0) by unfold q_eqv; decide) (q_p_eq g108)
                unfold m_X12_goRound_129
                refine q_ok_ite (fun g110 => ?_) (fun g110 => ?_)
                · have f111 := q_eqV (show q_eqv ((0 : Int32)).toInt (0) by unfold q_eqv; decide) (show q_eqv ((0 : Int32)).toInt (0) by unfold q_eqv; decide) (q_p_eq g110)
                  unfold m_X12_goRound_146
                  obtain ⟨v112, ev112⟩ := q_ev (((l4 + l3) + (1 : Int32)).toInt)
                  obtain ⟨v113, ev113⟩ := q_ev ((l4 + l3).toInt)
                  have f114 : v113 = l4.toInt + l3.toInt := q_addVI ev113 q_evr q_evr (by omega) (by omega)
                  have f115 : v112 = v113 + (1) := q_addVI ev112 ev113 (show q_eqv ((1 : Int32)).toInt (1) by unfold q_eqv; decide) (by omega) (by omega)
                  obtain ⟨v116, ev116⟩ := q_ev ((l4 + (1 : Int32)).toInt)
                  have f117 : v116 = l4.toInt + (1) := q_addVI ev116 q_evr (show q_eqv ((1 : Int32)).toInt (1) by unfold q_eqv; decide) (by omega) (by omega)
                  exact s_X12_goRound_45_148 hn mo ro (p0 := p0) (p1 := p1) (p2 := p2) n _ _ _ _ _ _ _ _ hG (q_wd hl1 (by decide) (by decide)) (q_wd hl2 (by decide) (by decide)) (q_wd hl3 (by decide) (by decide)) (q_wd (q_addBI (1) (121) hl4 (show (1 : Int) ≤ (1 : Int32).toInt ∧ (1 : Int32).toInt ≤ (1 : Int) by decide) (by decide) (by decide) (by decide) (by decide)) (by decide) (by decide)) (q_wd (q_addBI (3) (241) (q_addBI (2) (240) hl4 hl3 (by decide) (by decide) (by decide) (by decide)) (show (1 : Int) ≤ (1 : Int32).toInt ∧ (1 : Int32).toInt ≤ (1 : Int) by decide) (by decide) (by decide) (by decide) (by decide)) (by decide) (by decide)) (q_bw2 (fun x0 x1 => x0 = x1) q_evr q_evr (by omega)) (q_bw2 (fun x0 x1 => x0 = x1) q_evr q_evr (by omega)) (q_bw2 (fun x0 x1 => x0 + x1 ≤ 120) q_evr q_evr (by omega)) (q_bw2 (fun x0 x1 => x0 ≤ x1) q_evr ev112 (by omega)) (q_bw3 (fun x0 x1 x2 => x0 - x1 ≤ x2) ev112 q_evr ev116 (by omega)) (q_bw3 (fun x0 x1 x2 => x0 ≤ x1 + x2) ev2 q_evr q_evr (by omega)) (q_bw5 (fun x0 x1 x2 x3 x4 => x0 < x1 → x2 ≤ x3 + x0 - (x1 - x4)) ev116 ev112 ev2 q_evr q_evr (by omega)) (q_bw2 (fun x0 x1 => x0 ≤ 2 * x1) ev112 q_evr (by omega))  (q_upV ev116 (by omega))
                · have f118 := q_neV (show q_eqv ((0 : Int32)).toInt (0) by unfold q_eqv; decide) (show q_eqv ((0 : Int32)).toInt (0) by unfold q_eqv; decide) (q_n_eq g110)
                  exfalso; omega
              · have f119 := q_neV (show q_eqv ((0 : Int32)).toInt (0) by unfold q_eqv; decide) (show q_eqv ((0 : Int32)).toInt (0) by unfold q_eqv; decide) (q_n_eq g108)
                exfalso; omega
            · have f120 := q_neV (show q_eqv ((0 : Int32)).toInt (0) by unfold q_eqv; decide) (show q_eqv ((0 : Int32)).toInt (0) by unfold q_eqv; decide) (q_n_eq g104)
              exfalso; omega
          · have f121 := q_neV (show q_eqv ((0 : Int32)).toInt (0) by unfold q_eqv; decide) (show q_eqv ((0 : Int32)).toInt (0) by unfold q_eqv; decide) (q_n_eq g100)
            exfalso; omega
set_option maxHeartbeats 4000000 in
set_option maxRecDepth 100000 in
theorem s_X12_goRound_45 {ρ : Nat → Nat} {L : List Nat} {n : Nat} (hn : 18446744073709551616 ≤ n) {S : q_S} (hI : q_Inv ρ L S) {o : Nat} (mo : o ∈ L) (ro : ρ o = 45) {p0 : Int32} (hp0 : (0 ≤ p0.toInt ∧ p0.toInt ≤ 119)) {p1 : Int32} (hp1 : (0 ≤ p1.toInt ∧ p1.toInt ≤ 118)) {p2 : Int32} (hp2 : (2 ≤ p2.toInt ∧ p2.toInt ≤ 120)) (hq0 : (p1).toInt + (p2).toInt ≤ 120) (hq1 : (q_I S o 36).toInt ≤ (p1).toInt) : q_ok (m_X12_goRound n S o p0 p1 p2) (fun _ T => q_G ρ L M_X12_goRound_45 S T ∧ q_sm (((q_I T o 36).toInt ≤ (p1).toInt + (p2).toInt))) := by
  have hG : q_G ρ L M_X12_goRound_45 S S := q_G_refl hI
  unfold m_X12_goRound
  have z0 : (0 : Int32).toInt = 0 := rfl
  have f1 := q_rVI (x := p1) q_evr
  have f2 := q_rVI (x := p2) q_evr
  have f3 : p1.toInt + p2.toInt ≤ 120 := q_to2 (fun x0 x1 => x0 + x1 ≤ 120) q_evr q_evr hq0
  have f4 : q_sm _ := g_45_I36 hG mo ro
  obtain ⟨v5, ev5⟩ := q_ev ((q_I (S) o 36).toInt)
  have f6 := q_bV ev5 f4
  have f7 : v5 ≤ p1.toInt := q_to2 (fun x0 x1 => x0 ≤ x1) ev5 q_evr hq1
  exact s_X12_goRound_45_3 hn mo ro (p0 := p0) (p1 := p1) (p2 := p2) n _ _ _ _ _ hG (q_wd hp0 (by decide) (by decide)) (q_wd hp1 (by decide) (by decide)) (q_wd hp2 (by decide) (by decide)) (q_wd (show (0 : Int) ≤ (0 : Int32).toInt ∧ (0 : Int32).toInt ≤ (0 : Int) by decide) (by decide) (by decide)) (q_bw2 (fun x0 x1 => x0 ≤ x1) ev5 q_evr (by omega)) (q_bw2 (fun x0 x1 => x0 = x1) q_evr q_evr (by omega)) (q_bw2 (fun x0 x1 => x0 = x1) q_evr q_evr (by omega)) (q_bw2 (fun x0 x1 => x0 + x1 ≤ 120) q_evr q_evr (by omega)) (q_bw2 (fun x0 x1 => x0 ≤ x1) (show q_eqv ((0 : Int32)).toInt (0) by unfold q_eqv; decide) q_evr (by omega))  (q_upV (show q_eqv ((0 : Int32)).toInt (0) by unfold q_eqv; decide) (by omega))
