def M_X12_putGlyf_45 : List Nat := [2888, 2901, 2902, 2903, 2918, 2921, 4608]
set_option maxHeartbeats 4000000 in
set_option maxRecDepth 100000 in
theorem s_X12_putGlyf_45_29 {ρ : Nat → Nat} {L : List Nat} {n : Nat} (hn : 18446744073709551616 ≤ n) {S0 : q_S} {o : Nat} (mo : o ∈ L) (ro : ρ o = 45) {p0 : Int32}  {k2 : q_S → Option Nat → Int32 → Int32 → Option (Unit × q_S)} {B2 : Int} (hk2 : ∀ (S : q_S) (z1 : Int32) (z2 : Int32), q_G ρ L M_X12_putGlyf_45 S0 S → (0 ≤ z1.toInt ∧ z1.toInt ≤ 200) → (0 ≤ z2.toInt ∧ z2.toInt ≤ 200) → (0 ≤ (q_fd S o (1735162214)).toInt) → 2147483648 - z2.toInt < B2 → q_ok (k2 S (some o) z1 z2) (fun _ T => q_G ρ L M_X12_putGlyf_45 S0 T)) : ∀ (k : Nat) (S : q_S) (l1 : Int32) (l2 : Int32) (l3 : Int32) (l4 : Int32) (l5 : Int32), q_G ρ L M_X12_putGlyf_45 S0 S → (1 ≤ l1.toInt ∧ l1.toInt ≤ 200) → (0 ≤ l2.toInt ∧ l2.toInt ≤ 199) → (0 ≤ l3.toInt ∧ l3.toInt ≤ 1601) → (0 ≤ l4.toInt ∧ l4.toInt ≤ 1601) → (0 ≤ l5.toInt ∧ l5.toInt ≤ 1601) → (0 ≤ (q_fd S o (1735162214)).toInt) → ((l4).toInt ≤ (q_fE S o 7 (q_fd S o (1735162214) : Int32).toNatClampNeg).toInt) → 2147483648 - l2.toInt ≤ B2 → 2147483648 - l5.toInt ≤ (k : Int) → q_ok (m_X12_putGlyf_29 n k2 k S (some o) l1 l2 l3 l4 l5) (fun _ T => q_G ρ L M_X12_putGlyf_45 S0 T) := by
  intro k
  induction k with
  | zero =>
    intro S l1 l2 l3 l4 l5 hG hl1 hl2 hl3 hl4 hl5 hf0 hf1 hm2 hm
    have f0 := q_rngI l5
    exfalso; omega
  | succ k ih =>
    intro S l1 l2 l3 l4 l5 hG hl1 hl2 hl3 hl4 hl5 hf0 hf1 hm2 hm
    rw [m_X12_putGlyf_29]
    have z0 : (0 : Int32).toInt = 0 := rfl
    obtain ⟨v1, ev1⟩ := q_ev ((q_fd (S) o ((1735162214 : Int64))).toInt)
    have f2 := q_rVI (x := q_fd (S) o ((1735162214 : Int64))) ev1
    have f3 : 0 ≤ v1 := q_to1 (fun x0 => 0 ≤ x0) ev1 hf0
    have t4 := g_45_R7 hG mo ro
    obtain ⟨a5, ea5, ma5, ra5⟩ := id t4
    have f6 : q_sm _ := g_50_E hG ma5 ra5 (k := (q_fd (S) o ((1735162214 : Int64))).toNatClampNeg)
    have t7 := g_45_R6 hG mo ro
    obtain ⟨a8, ea8, ma8, ra8⟩ := id t7
    have f9 : q_sm _ := g_49_E hG ma8 ra8 (k := (q_fd (S) o ((1735162214 : Int64))).toNatClampNeg)
    have t10 := g_45_R7 hG mo ro
    obtain ⟨v11, ev11⟩ := q_ev ((q_I (S) a8 (q_fd (S) o ((1735162214 : Int64))).toNatClampNeg).toInt)
    have f12 := q_bV ev11 f9
    obtain ⟨v13, ev13⟩ := q_ev ((q_I (S) a5 (q_fd (S) o ((1735162214 : Int64))).toNatClampNeg).toInt)
    have f14 := q_bV ev13 f6
    have f15 : v11 + v13 ≤ 1600 := q_to2 (fun x0 x1 => x0 + x1 ≤ 1600) ev11 ev13 (hG.1.2.2.2 a8 a5 ma8 ma5 ra8 ra5 _)
    have e16 : q_fE (S) o 7 ((q_fd (S) o ((1735162214 : Int64)) : Int32)).toNatClampNeg = q_I (S) a5 (q_fd (S) o ((1735162214 : Int64))).toNatClampNeg := q_fEe ea5
    obtain ⟨v17, ev17⟩ := q_ev ((q_fE (S) o 7 ((q_fd (S) o ((1735162214 : Int64)) : Int32)).toNatClampNeg).toInt)
    have f18 : v17 = v13 := q_eqVI e16 ev17 ev13
    have f19 : l4.toInt ≤ v17 := q_to2 (fun x0 x1 => x0 ≤ x1) q_evr ev17 hf1
    refine q_ok_ite (fun g20 => ?_) (fun g20 => ?_)
    · have f21 := q_leV q_evr q_evr (q_p_ge g20)
      refine q_ok_if (q_ne0VI (show q_eqv ((2 : Int32)).toInt (2) by unfold q_eqv; decide) (by omega)) ?_
      obtain ⟨v22, ev22⟩ := q_ev (((l4 - l3) - (l4 - l3) / (2 : Int32) * (2 : Int32)).toInt)
      have f23 := q_rVI (x := (l4 - l3) - (l4 - l3) / (2 : Int32) * (2 : Int32)) ev22
      refine q_ok_ite (fun g24 => ?_) (fun g24 => ?_)
      · have f25 := q_eqV ev22 (show q_eqv ((1 : Int32)).toInt (1) by unfold q_eqv; decide) (q_p_eq g24)
        refine q_ok_atS hG (q_trI mo ro) rfl (fun mo ro => ?_)
        have f29 : q_sm _ := g_45_I41 hG mo ro
        have f30 : q_sm _ := g_45_I38 hG mo ro
        refine q_ok_b (s_X12_put_45 hn hG.1 mo ro (q_wd (show (0 : Int) ≤ (0 : Int32).toInt ∧ (0 : Int32).toInt ≤ (0 : Int) by decide) (by decide) (by decide))) (fun r26 S27 h28 => ?_)
        have hG := q_G_call hG h28.1 (by decide)
        have f31 : q_sm _ := g_45_I41 hG mo ro
        obtain ⟨v32, ev32⟩ := q_ev ((q_I (S) o 41).toInt)
        have f33 := q_bV ev32 f29
        obtain ⟨v34, ev34⟩ := q_ev ((q_I (S27) o 41).toInt)
        have f35 := q_bV ev34 f31
        have f36 : v32 ≤ v34 := q_to2 (fun x0 x1 => x0 ≤ x1) ev32 ev34 ((q_smE (h28.2)).1)
        have f37 : q_sm _ := g_45_I38 hG mo ro
        obtain ⟨v38, ev38⟩ := q_ev ((q_I (S) o 38).toInt)
        have f39 := q_bV ev38 f30
        obtain ⟨v40, ev40⟩ := q_ev ((q_I (S27) o 38).toInt)
        have f41 := q_bV ev40 f37
        have f42 : v38 ≤ v40 := q_to2 (fun x0 x1 => x0 ≤ x1) ev38 ev40 ((q_smE (h28.2)).2.1)
        have f43 : v32 = 0 → v38 + 1 ≤ v34 + v40 := q_to4 (fun x0 x1 x2 x3 => x0 = 0 → x1 + 1 ≤ x2 + x3) ev32 ev38 ev34 ev40 ((q_smE (h28.2)).2.2)
        unfold m_X12_putGlyf_81
        have e44 : q_fd (S27) o ((1735162214 : Int64)) = q_fd (S) o ((1735162214 : Int64)) := (q_fdU h28.1 mo ro (by decide) (by decide) (by decide))
        obtain ⟨v45, ev45⟩ := q_ev ((q_fd (S27) o ((1735162214 : Int64))).toInt)
        have f46 : v45 = v1 := q_eqVI e44 ev45 ev1
        obtain ⟨v47, ev47⟩ := q_ev ((l2 + (1)).toInt)
        have f48 : v47 = l2.toInt + (1) := q_addVI ev47 q_evr (show q_eqv ((1 : Int32)).toInt (1) by unfold q_eqv; decide) (by omega) (by omega)
        exact hk2 _ _ _ hG (q_wd hl1 (by decide) (by decide)) (q_wd (q_addBI (1) (200) hl2 (show (1 : Int) ≤ (1 : Int32).toInt ∧ (1 : Int32).toInt ≤ (1 : Int) by decide) (by decide) (by decide) (by decide) (by decide)) (by decide) (by decide)) (q_bw1 (fun x0 => 0 ≤ x0) ev45 (by omega))  (q_upVl ev47 (by omega))
      · have f49 := q_neV ev22 (show q_eqv ((1 : Int32)).toInt (1) by unfold q_eqv; decide) (q_n_eq g24)
        unfold m_X12_putGlyf_81
        obtain ⟨v50, ev50⟩ := q_ev ((l2 + (1)).toInt)
        have f51 : v50 = l2.toInt + (1) := q_addVI ev50 q_evr (show q_eqv ((1 : Int32)).toInt (1) by unfold q_eqv; decide) (by omega) (by omega)
        exact hk2 _ _ _ hG (q_wd hl1 (by decide) (by decide)) (q_wd (q_addBI (1) (200) hl2 (show (1 : Int) ≤ (1 : Int32).toInt ∧ (1 : Int32).toInt ≤ (1 : Int) by decide) (by decide) (by decide) (by decide) (by decide)) (by decide) (by decide)) (q_bw1 (fun x0 => 0 ≤ x0) ev1 (by omega))  (q_upVl ev50 (by omega))
    · have f52 := q_ltV q_evr q_evr (q_n_ge g20)
      refine q_ok_atS hG (q_trI mo ro) rfl (fun mo ro => ?_)
      have t53 := g_45_R1 hG mo ro
      have t54 := g_45_R6 hG mo ro
      refine q_ok_b (s_X12_find_45 hn hG.1 mo ro (q_wd (show (1735162214 : Int) ≤ (1735162214 : Int64).toInt ∧ (1735162214 : Int64).toInt ≤ (1735162214 : Int) by decide) (by decide) (by decide))) (fun r55 S56 h57 => ?_)
      obtain ⟨eS56, h57⟩ := h57
      replace eS56 := eS56.symm
      subst eS56
      have f58 := h57.1
      have e59 : r55 = q_fd (S) o ((1735162214 : Int64)) := Int32.toInt_inj.mp (q_smE (h57.2))
      subst e59
      have f60 := q_bV ev1 f58
      refine q_ok_atA hG ea8 ma8 ra8 rfl ?_
      refine q_ok_if (q_inV (g_49_N hG ma8 ra8) ev1 (by omega) (by omega)) ?_
      refine q_ok_at hG t53 rfl (fun a61 ma61 ra61 ea61 => ?_)
      obtain ⟨v62, ev62⟩ := q_ev (((q_I (S) a8 (q_fd (S) o ((1735162214 : Int64))).toNatClampNeg) + l5).toInt)
      have f63 : v62 = v11 + l5.toInt := q_addVI ev62 ev11 q_evr (by omega) (by omega)
      refine q_ok_if (q_inV (g_46_N hG ma61 ra61) ev62 (by omega) (by omega)) ?_
      have f64 : q_sm _ := g_46_E hG ma61 ra61 (k := ((q_I (S) a8 (q_fd (S) o ((1735162214 : Int64))).toNatClampNeg) + l5).toNatClampNeg)
      refine q_ok_atS hG (q_trI mo ro) rfl (fun mo ro => ?_)
      have f68 : q_sm _ := g_45_I41 hG mo ro
      have f69 : q_sm _ := g_45_I38 hG mo ro
      refine q_ok_b (s_X12_put_45 hn hG.1 mo ro (q_wd f64 (by decide) (by decide))) (fun r65 S66 h67 => ?_)
      have hG := q_G_call hG h67.1 (by decide)
      have f70 : q_sm _ := g_45_I41 hG mo ro
      obtain ⟨v71, ev71⟩ := q_ev ((q_I (S) o 41).toInt)
      have f72 := q_bV ev71 f68
      obtain ⟨v73, ev73⟩ := q_ev ((q_I (S66) o 41).toInt)
      have f74 := q_bV ev73 f70
      have f75 : v71 ≤ v73 := q_to2 (fun x0 x1 => x0 ≤ x1) ev71 ev73 ((q_smE (h67.2)).1)
      have f76 : q_sm _ := g_45_I38 hG mo ro
      obtain ⟨v77, ev77⟩ := q_ev ((q_I (S) o 38).toInt)
      have f78 := q_bV ev77 f69
      obtain ⟨v79, ev79⟩ := q_ev ((q_I (S66) o 38).toInt)
      have f80 := q_bV ev79 f76
      have f81 : v77 ≤ v79 := q_to2 (fun x0 x1 => x0 ≤ x1) ev77 ev79 ((q_smE (h67.2)).2.1)
      have f82 : v71 = 0 → v77 + 1 ≤ v73 + v79 := q_to4 (fun x0 x1 x2 x3 => x0 = 0 → x1 + 1 ≤ x2 + x3) ev71 ev77 ev73 ev79 ((q_smE (h67.2)).2.2)
      obtain ⟨v83, ev83⟩ := q_ev ((l5 + (1)).toInt)
      have f84 : v83 = l5.toInt + (1) := q_addVI ev83 q_evr (show q_eqv ((1 : Int32)).toInt (1) by unfold q_eqv; decide) (by omega) (by omega)
      have e85 : q_fd (S66) o ((1735162214 : Int64)) = q_fd (S) o ((1735162214 : Int64)) := (q_fdU h67.1 mo ro (by decide) (by decide) (by decide))
      obtain ⟨v86, ev86⟩ := q_ev ((q_fd (S66) o ((1735162214 : Int64))).toInt)
      have f87 : v86 = v1 := q_eqVI e85 ev86 ev1
      have t88 := g_45_R7 hG mo ro
      have e89 : q_R (S66) o 7 = q_R (S) o 7 := (q_unR h67.1 mo ro (by decide))
      have f90 : q_sm _ := g_50_E hG ma5 ra5 (k := (q_fd (S66) o ((1735162214 : Int64))).toNatClampNeg)
      have t91 := g_45_R6 hG mo ro
      have e92 : q_R (S66) o 6 = q_R (S) o 6 := (q_unR h67.1 mo ro (by decide))
      have f93 : q_sm _ := g_49_E hG ma8 ra8 (k := (q_fd (S66) o ((1735162214 : Int64))).toNatClampNeg)
      have t94 := g_45_R7 hG mo ro
      obtain ⟨v95, ev95⟩ := q_ev ((q_I (S66) a8 (q_fd (S66) o ((1735162214 : Int64))).toNatClampNeg).toInt)
      have f96 := q_bV ev95 f93
      obtain ⟨v97, ev97⟩ := q_ev ((q_I (S66) a5 (q_fd (S66) o ((1735162214 : Int64))).toNatClampNeg).toInt)
      have f98 := q_bV ev97 f90
      have f99 : v95 + v97 ≤ 1600 := q_to2 (fun x0 x1 => x0 + x1 ≤ 1600) ev95 ev97 (hG.1.2.2.2 a8 a5 ma8 ma5 ra8 ra5 _)
      have t100 := g_45_R7 hG mo ro
      have f101 : q_sm _ := g_50_E hG ma5 ra5 (k := (q_fd (S) o ((1735162214 : Int64))).toNatClampNeg)
      have e102 : q_I (S66) a5 (q_fd (S) o ((1735162214 : Int64))).toNatClampNeg = q_I (S) a5 (q_fd (S) o ((1735162214 : Int64))).toNatClampNeg := (q_unIA h67.1 ma5 ra5 (by decide) (by decide))
      obtain ⟨v103, ev103⟩ := q_ev ((q_I (S66) a5 (q_fd (S) o ((1735162214 : Int64))).toNatClampNeg).toInt)
      have f104 : v103 = v13 := q_eqVI e102 ev103 ev13
      have f105 : v97 = v103 := q_eqVI (congrArg (fun z : Int32 => q_I (S66) a5 z.toNatClampNeg) e85) ev97 ev103
      have e106 : q_fE (S66) o 7 ((q_fd (S66) o ((1735162214 : Int64)) : Int32)).toNatClampNeg = q_I (S66) a5 (q_fd (S66) o ((1735162214 : Int64))).toNatClampNeg := q_fEe (Eq.trans e89 ea5)
      obtain ⟨v107, ev107⟩ := q_ev ((q_fE (S66) o 7 ((q_fd (S66) o ((1735162214 : Int64)) : Int32)).toNatClampNeg).toInt)
      have f108 : v107 = v97 := q_eqVI e106 ev107 ev97
      exact ih _ _ _ _ _ _ hG (q_wd hl1 (by decide) (by decide)) (q_wd hl2 (by decide) (by decide)) (q_wd hl3 (by decide) (by decide)) (q_wd hl4 (by decide) (by decide)) (q_oV ev83 (by omega) (by omega)) (q_bw1 (fun x0 => 0 ≤ x0) ev86 (by omega)) (q_bw2 (fun x0 x1 => x0 ≤ x1) q_evr ev107 (by omega)) (q_upV q_evr (by omega)) (q_upV ev83 (by omega))
set_option maxHeartbeats 4000000 in
set_option maxRecDepth 100000 in
theorem s_X12_putGlyf_45_2 {ρ : Nat → Nat} {L : List Nat} {n : Nat} (hn : 18446744073709551616 ≤ n) {S0 : q_S} {o : Nat} (mo : o ∈ L) (ro : ρ o = 45) {p0 : Int32}  : ∀ (k : Nat) (S : q_S) (l1 : Int32) (l2 : Int32), q_G ρ L M_X12_putGlyf_45 S0 S → (0 ≤ l1.toInt ∧ l1.toInt ≤ 200) → (0 ≤ l2.toInt ∧ l2.toInt ≤ 200) → (0 ≤ (q_fd S o (1735162214)).toInt) → 2147483648 - l2.toInt ≤ (k : Int) → q_ok (m_X12_putGlyf_2 n k S (some o) l1 l2) (fun _ T => q_G ρ L M_X12_putGlyf_45 S0 T) := by
  intro k
  induction k with
  | zero =>
    intro S l1 l2 hG hl1 hl2 hf0 hm
    have f0 := q_rngI l2
    exfalso; omega
  | succ k ih =>
    intro S l1 l2 hG hl1 hl2 hf0 hm
    rw [m_X12_putGlyf_2]
    have z0 : (0 : Int32).toInt = 0 := rfl
    obtain ⟨v1, ev1⟩ := q_ev ((q_fd (S) o ((1735162214 : Int64))).toInt)
    have f2 := q_rVI (x := q_fd (S) o ((1735162214 : Int64))) ev1
    have f3 : 0 ≤ v1 := q_to1 (fun x0 => 0 ≤ x0) ev1 hf0
    refine q_ok_ite (fun g4 => ?_) (fun g4 => ?_)
    · have f5 := q_leV q_evr q_evr (q_p_ge g4)
      exact q_ok_some hG
    · have f6 := q_ltV q_evr q_evr (q_n_ge g4)
      refine q_ok_atS hG (q_trI mo ro) rfl (fun mo ro => ?_)
      refine q_ok_b (s_X12_goes_45 hn hG.1 mo ro (q_oV q_evr (by omega) (by omega)) (q_bw1 (fun x0 => 0 ≤ x0) ev1 (by omega))) (fun r7 S8 h9 => ?_)
      have hG := q_G_call hG h9.1 (by decide)
      have f10 := h9.2.1
      have f11 : q_sm _ := g_45_I22 hG mo ro
      have e12 : q_fd (S8) o ((1735162214 : Int64)) = q_fd (S) o ((1735162214 : Int64)) := (q_fdU h9.1 mo ro (by decide) (by decide) (by decide))
      have t13 := g_45_R7 hG mo ro
      obtain ⟨a14, ea14, ma14, ra14⟩ := id t13
      have f15 : q_sm _ := g_50_E hG ma14 ra14 (k := (q_fd (S8) o ((1735162214 : Int64))).toNatClampNeg)
      have t16 := g_45_R6 hG mo ro
      obtain ⟨a17, ea17, ma17, ra17⟩ := id t16
      have f18 : q_sm _ := g_49_E hG ma17 ra17 (k := (q_fd (S8) o ((1735162214 : Int64))).toNatClampNeg)
      have t19 := g_45_R7 hG mo ro
      obtain ⟨v20, ev20⟩ := q_ev ((q_I (S8) a17 (q_fd (S8) o ((1735162214 : Int64))).toNatClampNeg).toInt)
      have f21 := q_bV ev20 f18
      obtain ⟨v22, ev22⟩ := q_ev ((q_I (S8) a14 (q_fd (S8) o ((1735162214 : Int64))).toNatClampNeg).toInt)
      have f23 := q_bV ev22 f15
      have f24 : v20 + v22 ≤ 1600 := q_to2 (fun x0 x1 => x0 + x1 ≤ 1600) ev20 ev22 (hG.1.2.2.2 a17 a14 ma17 ma14 ra17 ra14 _)
      have t25 := g_45_R7 hG mo ro
      have f26 : q_sm _ := g_50_E hG ma14 ra14 (k := (q_fd (S) o ((1735162214 : Int64))).toNatClampNeg)
      obtain ⟨v27, ev27⟩ := q_ev ((q_I (S8) a14 (q_fd (S) o ((1735162214 : Int64))).toNatClampNeg).toInt)
      have f28 := q_bV ev27 f26
      have f29 : v22 = v27 := q_eqVI (congrArg (fun z : Int32 => q_I (S8) a14 z.toNatClampNeg) e12) ev22 ev27
      have e30 : q_fE (S8) o 7 ((q_fd (S8) o ((1735162214 : Int64)) : Int32)).toNatClampNeg = q_I (S8) a14 (q_fd (S8) o ((1735162214 : Int64))).toNatClampNeg := q_fEe ea14
      obtain ⟨v31, ev31⟩ := q_ev ((q_I (S8) o 22).toInt)
      have f32 := q_bV ev31 f11
      obtain ⟨v33, ev33⟩ := q_ev ((q_fE (S8) o 7 ((q_fd (S8) o ((1735162214 : Int64)) : Int32)).toNatClampNeg).toInt)
      have f34 : v33 = v22 := q_eqVI e30 ev33 ev22
      have f35 : r7.toInt = 1 → v31 ≤ v33 := q_to3 (fun x0 x1 x2 => x0 = 1 → x1 ≤ x2) q_evr ev31 ev33 ((q_smE (h9.2.2)).1)
      have f36 : q_sm _ := g_45_I21 hG mo ro
      obtain ⟨v37, ev37⟩ := q_ev ((q_I (S8) o 21).toInt)
      have f38 := q_bV ev37 f36
      have f39 : r7.toInt = 1 → v37 < v31 := q_to3 (fun x0 x1 x2 => x0 = 1 → x1 < x2) q_evr ev37 ev31 ((q_smE (h9.2.2)).2)
      refine q_ok_ite (fun g40 => ?_) (fun g40 => ?_)
      · have f41 := q_eqV q_evr (show q_eqv ((0 : Int32)).toInt (0) by unfold q_eqv; decide) (q_p_eq g40)
        unfold m_X12_putGlyf_81
        obtain ⟨v42, ev42⟩ := q_ev ((l2 + (1)).toInt)
        have f43 : v42 = l2.toInt + (1) := q_addVI ev42 q_evr (show q_eqv ((1 : Int32)).toInt (1) by unfold q_eqv; decide) (by omega) (by omega)
        obtain ⟨v44, ev44⟩ := q_ev ((q_fd (S8) o ((1735162214 : Int64))).toInt)
        have f45 : v44 = v1 := q_eqVI e12 ev44 ev1
        exact ih _ _ _ hG (q_wd hl1 (by decide) (by decide)) (q_oV ev42 (by omega) (by omega)) (q_bw1 (fun x0 => 0 ≤ x0) ev44 (by omega))  (q_upV ev42 (by omega))
      · have f46 := q_neV q_evr (show q_eqv ((0 : Int32)).toInt (0) by unfold q_eqv; decide) (q_n_eq g40)
        refine q_ok_atS hG (q_trI mo ro) rfl (fun mo ro => ?_)
        obtain ⟨v47, ev47⟩ := q_ev ((q_fd (S8) o ((1735162214 : Int64))).toInt)
        have f48 : v47 = v1 := q_eqVI e12 ev47 ev1
        have t49 := g_45_R7 hG mo ro
        have t50 := g_45_R7 hG mo ro
        have f51 : v22 = v27 := q_eqVI (congrArg (fun z : Int32 => q_I (S8) a14 z.toNatClampNeg) e12) ev22 ev27
        have e52 : q_fE (S8) o 7 ((q_fd (S8) o ((1735162214 : Int64)) : Int32)).toNatClampNeg = q_I (S8) a14 (q_fd (S8) o ((1735162214 : Int64))).toNatClampNeg := q_fEe ea14
        exact s_X12_putGlyf_45_29 hn mo ro (p0 := p0) (B2 := (k : Int) + 1) (fun S9 z1 z2 hG9 hz1 hz2 hzf0  hm9 => ih S9 z1 z2 hG9 hz1 hz2 hzf0  (by omega)) n _ _ _ _ _ _ hG (q_oV q_evr (by omega) (by omega)) (q_oV q_evr (by omega) (by omega)) (q_wd f36 (by decide) (by decide)) (q_wd f11 (by decide) (by decide)) (q_wd f36 (by decide) (by decide)) (q_bw1 (fun x0 => 0 ≤ x0) ev47 (by omega)) (q_bw2 (fun x0 x1 => x0 ≤ x1) ev31 ev33 (by omega)) (q_upV q_evr (by omega)) (q_upV ev37 (by omega))
set_option maxHeartbeats 4000000 in
set_option maxRecDepth 100000 in
theorem s_X12_putGlyf_45 {ρ : Nat → Nat} {L : List Nat} {n : Nat} (hn : 18446744073709551616 ≤ n) {S : q_S} (hI : q_Inv ρ L S) {o : Nat} (mo : o ∈ L) (ro : ρ o = 45) {p0 : Int32} (hp0 : (0 ≤ p0.toInt ∧ p0.toInt ≤ 200)) (hq0 : 0 ≤ (q_fd S o (1735162214)).toInt) : q_ok (m_X12_putGlyf n S o p0) (fun _ T => q_G ρ L M_X12_putGlyf_45 S T) := by
  have hG : q_G ρ L M_X12_putGlyf_45 S S := q_G_refl hI
  unfold m_X12_putGlyf
  have z0 : (0 : Int32).toInt = 0 := rfl
  obtain ⟨v1, ev1⟩ := q_ev ((q_fd (S) o ((1735162214 : Int64))).toInt)
  have f2 := q_rVI (x := q_fd (S) o ((1735162214 : Int64))) ev1
  have f3 : 0 ≤ v1 := q_to1 (fun x0 => 0 ≤ x0) ev1 hq0
  exact s_X12_putGlyf_45_2 hn mo ro (p0 := p0) n _ _ _ hG (q_wd hp0 (by decide) (by decide)) (q_wd (show (0 : Int) ≤ (0 : Int32).toInt ∧ (0 : Int32).toInt ≤ (0 : Int) by decide) (by decide) (by decide)) (q_bw1 (fun x0 => 0 ≤ x0) ev1 (by omega))  (q_upV (show q_eqv ((0 : Int32)).toInt (0) by unfold q_eqv; decide) (by omega))
def M_X12_putNumber_45 : List Nat := [2918, 2921, 4608]
set_option maxHeartbeats 4000000 in
set_option maxRecDepth 100000 in
theorem s_X12_putNumber_45_5 {ρ : Nat → Nat} {L : List Nat} {n : Nat} (hn : 18446744073709551616 ≤ n) {S0 : q_S} {o : Nat} (mo : o ∈ L) (ro : ρ o = 45) {p0 : Int64} {p1 : Int32}  : ∀ (k : Nat) (S : q_S) (l1 : Int64) (l4 : Int32), q_G ρ L M_X12_putNumber_45 S0 S → (-1 ≤ l4.toInt ∧ l4.toInt ≤ 3) → l4.toInt + 2147483648 ≤ (k : Int) → q_ok (m_X12_putNumber_5 n k S (some o) l1 l4) (fun _ T => q_G ρ L M_X12_putNumber_45 S0 T) := by
  intro k
  induction k with
  | zero =>
    intro S l1 l4 hG hl4 hm
    have f0 := q_rngI l4
    exfalso; omega
  | succ k ih =>
    intro S l1 l4 hG hl4 hm
    rw [m_X12_putNumber_5]
    have z0 : (0 : Int32).toInt = 0 := rfl
    refine q_ok_ite (fun g1 => ?_) (fun g1 => ?_)
    · have f2 := q_ltV q_evr (show q_eqv ((0 : Int32)).toInt (0) by unfold q_eqv; decide) (q_p_lt g1)
      exact q_ok_some hG
    · have f3 := q_leV (show q_eqv ((0 : Int32)).toInt (0) by unfold q_eqv; decide) q_evr (q_n_lt g1)
      refine q_ok_atS hG (q_trI mo ro) rfl (fun mo ro => ?_)
      have f7 : q_sm _ := g_45_I41 hG mo ro
      have f8 : q_sm _ := g_45_I38 hG mo ro
      obtain ⟨v9, ev9⟩ := q_ev ((((l1 >>> ((((8 : Int32) * l4)).toInt64 &&& 63)) &&& (255 : Int64)).toInt32).toInt)
      obtain ⟨v10, ev10⟩ := q_ev (((l1 >>> ((((8 : Int32) * l4)).toInt64 &&& 63)) &&& (255 : Int64)).toInt)
      have f11 := q_andRVJ ev10 (show q_eqv ((255 : Int64)).toInt (255) by unfold q_eqv; decide) (by omega)
      have f12 : v9 = v10 := q_l2iV ev9 ev10 (by omega) (by omega)
      refine q_ok_b (s_X12_put_45 hn hG.1 mo ro (q_oV ev9 (by omega) (by omega))) (fun r4 S5 h6 => ?_)
      have hG := q_G_call hG h6.1 (by decide)
      have f13 : q_sm _ := g_45_I41 hG mo ro
      obtain ⟨v14, ev14⟩ := q_ev ((q_I (S) o 41).toInt)
      have f15 := q_bV ev14 f7
      obtain ⟨v16, ev16⟩ := q_ev ((q_I (S5) o 41).toInt)
      have f17 := q_bV ev16 f13
      have f18 : v14 ≤ v16 := q_to2 (fun x0 x1 => x0 ≤ x1) ev14 ev16 ((q_smE (h6.2)).1)
      have f19 : q_sm _ := g_45_I38 hG mo ro
      obtain ⟨v20, ev20⟩ := q_ev ((q_I (S) o 38).toInt)
      have f21 := q_bV ev20 f8
      obtain ⟨v22, ev22⟩ := q_ev ((q_I (S5) o 38).toInt)
      have f23 := q_bV ev22 f19
      have f24 : v20 ≤ v22 := q_to2 (fun x0 x1 => x0 ≤ x1) ev20 ev22 ((q_smE (h6.2)).2.1)
      have f25 : v14 = 0 → v20 + 1 ≤ v16 + v22 := q_to4 (fun x0 x1 x2 x3 => x0 = 0 → x1 + 1 ≤ x2 + x3) ev14 ev20 ev16 ev22 ((q_smE (h6.2)).2.2)
      obtain ⟨v26, ev26⟩ := q_ev ((l4 + (-1)).toInt)
      have f27 : v26 = l4.toInt + (-1) := q_addVI ev26 q_evr (show q_eqv ((-1 : Int32)).toInt (-1) by unfold q_eqv; decide) (by omega) (by omega)
      exact ih _ _ _ hG (q_oV ev26 (by omega) (by omega))  (q_dnV ev26 (by omega))
set_option maxHeartbeats 4000000 in
set_option maxRecDepth 100000 in
theorem s_X12_putNumber_45 {ρ : Nat → Nat} {L : List Nat} {n : Nat} (hn : 18446744073709551616 ≤ n) {S : q_S} (hI : q_Inv ρ L S) {o : Nat} (mo : o ∈ L) (ro : ρ o = 45) {p0 : Int64} {p1 : Int32} (hp1 : (2 ≤ p1.toInt ∧ p1.toInt ≤ 4)) : q_ok (m_X12_putNumber n S o p0 p1) (fun _ T => q_G ρ L M_X12_putNumber_45 S T) := by
  have hG : q_G ρ L M_X12_putNumber_45 S S := q_G_refl hI
  unfold m_X12_putNumber
  have z0 : (0 : Int32).toInt = 0 := rfl
  obtain ⟨v1, ev1⟩ := q_ev ((p1 - (1 : Int32)).toInt)
  have f2 : v1 = p1.toInt - (1) := q_subVI ev1 q_evr (show q_eqv ((1 : Int32)).toInt (1) by unfold q_eqv; decide) (by omega) (by omega)
  exact s_X12_putNumber_45_5 hn mo ro (p0 := p0) (p1 := p1) n _ _ _ hG (q_wd (q_subBI (1) (3) hp1 (show (1 : Int) ≤ (1 : Int32).toInt ∧ (1 : Int32).toInt ≤ (1 : Int) by decide) (by decide) (by decide) (by decide) (by decide)) (by decide) (by decide))  (q_dnV ev1 (by omega))
def M_X12_putLoca_45 : List Nat := [2888, 2901, 2902, 2903, 2918, 2921, 4608]
set_option maxHeartbeats 4000000 in
set_option maxRecDepth 100000 in
theorem s_X12_putLoca_45_5 {ρ : Nat → Nat} {L : List Nat} {n : Nat} (hn : 18446744073709551616 ≤ n) {S0 : q_S} {o : Nat} (mo : o ∈ L) (ro : ρ o = 45) {p0 : Int32} {p1 : Int32}  : ∀ (k : Nat) (S : q_S) (l1 : Int32) (l2 : Int32) (l3 : Int64) (l5 : Int32), q_G ρ L M_X12_putLoca_45 S0 S → (0 ≤ l1.toInt ∧ l1.toInt ≤ 200) → (0 ≤ l2.toInt ∧ l2.toInt ≤ 1) → (0 ≤ l5.toInt ∧ l5.toInt ≤ 201) → (0 ≤ (q_fd S o (1735162214)).toInt) → 2147483648 - l5.toInt ≤ (k : Int) → q_ok (m_X12_putLoca_5 n k S (some o) l1 l2 l3 l5) (fun _ T => q_G ρ L M_X12_putLoca_45 S0 T) := by
  intro k
  induction k with
  | zero =>
    intro S l1 l2 l3 l5 hG hl1 hl2 hl5 hf0 hm
    have f0 := q_rngI l5
    exfalso; omega
  | succ k ih =>
    intro S l1 l2 l3 l5 hG hl1 hl2 hl5 hf0 hm
    rw [m_X12_putLoca_5]
    have z0 : (0 : Int32).toInt = 0 := rfl
    obtain ⟨v1, ev1⟩ := q_ev ((q_fd (S) o ((1735162214 : Int64))).toInt)
    have f2 := q_rVI (x := q_fd (S) o ((1735162214 : Int64))) ev1
    have f3 : 0 ≤ v1 := q_to1 (fun x0 => 0 ≤ x0) ev1 hf0
    refine q_ok_ite (fun g4 => ?_) (fun g4 => ?_)
    · have f5 := q_ltV q_evr q_evr (q_p_gt g4)
      exact q_ok_some hG
    · have f6 := q_leV q_evr q_evr (q_n_gt g4)
      refine q_ok_ite (fun g7 => ?_) (fun g7 => ?_)
      · have f8 := q_eqV q_evr (show q_eqv ((0 : Int32)).toInt (0) by unfold q_eqv; decide) (q_p_eq g7)
        refine q_ok_if (q_ne0VJ (show q_eqv ((2 : Int64)).toInt (2) by unfold q_eqv; decide) (by omega)) ?_
        unfold m_X12_putLoca_25
        refine q_ok_ite (fun g9 => ?_) (fun g9 => ?_)
        · have f10 := q_eqV q_evr (show q_eqv ((0 : Int32)).toInt (0) by unfold q_eqv; decide) (q_p_eq g9)
          unfold m_X12_putLoca_34
          refine q_ok_atS hG (q_trI mo ro) rfl (fun mo ro => ?_)
          refine q_ok_b (s_X12_putNumber_45 hn hG.1 mo ro (q_wd (show (2 : Int) ≤ (2 : Int32).toInt ∧ (2 : Int32).toInt ≤ (2 : Int) by decide) (by decide) (by decide))) (fun r11 S12 h13 => ?_)
          have hG := q_G_call hG h13 (by decide)
          refine q_ok_ite (fun g14 => ?_) (fun g14 => ?_)
          · have f15 := q_leV q_evr q_evr (q_p_ge g14)
            unfold m_X12_putLoca_71
            obtain ⟨v16, ev16⟩ := q_ev ((l5 + (1)).toInt)
            have f17 : v16 = l5.toInt + (1) := q_addVI ev16 q_evr (show q_eqv ((1 : Int32)).toInt (1) by unfold q_eqv; decide) (by omega) (by omega)
            have e18 : q_fd (S12) o ((1735162214 : Int64)) = q_fd (S) o ((1735162214 : Int64)) := (q_fdU h13 mo ro (by decide) (by decide) (by decide))
            obtain ⟨v19, ev19⟩ := q_ev ((q_fd (S12) o ((1735162214 : Int64))).toInt)
            have f20 : v19 = v1 := q_eqVI e18 ev19 ev1
            exact ih _ _ _ _ _ hG (q_wd hl1 (by decide) (by decide)) (q_wd hl2 (by decide) (by decide)) (q_oV ev16 (by omega) (by omega)) (q_bw1 (fun x0 => 0 ≤ x0) ev19 (by omega))  (q_upV ev16 (by omega))
          · have f21 := q_ltV q_evr q_evr (q_n_ge g14)
            refine q_ok_atS hG (q_trI mo ro) rfl (fun mo ro => ?_)
            have e25 : q_fd (S12) o ((1735162214 : Int64)) = q_fd (S) o ((1735162214 : Int64)) := (q_fdU h13 mo ro (by decide) (by decide) (by decide))
            obtain ⟨v26, ev26⟩ := q_ev ((q_fd (S12) o ((1735162214 : Int64))).toInt)
            have f27 : v26 = v1 := q_eqVI e25 ev26 ev1
            refine q_ok_b (s_X12_goes_45 hn hG.1 mo ro (q_oV q_evr (by omega) (by omega)) (q_bw1 (fun x0 => 0 ≤ x0) ev26 (by omega))) (fun r22 S23 h24 => ?_)
            have hG := q_G_call hG h24.1 (by decide)
            have f28 := h24.2.1
            have f29 : q_sm _ := g_45_I22 hG mo ro
            have e30 : q_fd (S23) o ((1735162214 : Int64)) = q_fd (S12) o ((1735162214 : Int64)) := (q_fdU h24.1 mo ro (by decide) (by decide) (by decide))
            have t31 := g_45_R7 hG mo ro
            obtain ⟨a32, ea32, ma32, ra32⟩ := id t31
            have f33 : q_sm _ := g_50_E hG ma32 ra32 (k := (q_fd (S23) o ((1735162214 : Int64))).toNatClampNeg)
            have t34 := g_45_R6 hG mo ro
            obtain ⟨a35, ea35, ma35, ra35⟩ := id t34
            have f36 : q_sm _ := g_49_E hG ma35 ra35 (k := (q_fd (S23) o ((1735162214 : Int64))).toNatClampNeg)
            have t37 := g_45_R7 hG mo ro
            obtain ⟨v38, ev38⟩ := q_ev ((q_I (S23) a35 (q_fd (S23) o ((1735162214 : Int64))).toNatClampNeg).toInt)
            have f39 := q_bV ev38 f36
            obtain ⟨v40, ev40⟩ := q_ev ((q_I (S23) a32 (q_fd (S23) o ((1735162214 : Int64))).toNatClampNeg).toInt)
            have f41 := q_bV ev40 f33
            have f42 : v38 + v40 ≤ 1600 := q_to2 (fun x0 x1 => x0 + x1 ≤ 1600) ev38 ev40 (hG.1.2.2.2 a35 a32 ma35 ma32 ra35 ra32 _)
            have t43 := g_45_R7 hG mo ro
            have f44 : q_sm _ := g_50_E hG ma32 ra32 (k := (q_fd (S) o ((1735162214 : Int64))).toNatClampNeg)
            obtain ⟨v45, ev45⟩ := q_ev ((q_I (S23) a32 (q_fd (S) o ((1735162214 : Int64))).toNatClampNeg).toInt)
            have f46 := q_bV ev45 f44
            have f47 : v40 = v45 := q_eqVI (congrArg (fun z : Int32 => q_I (S23) a32 z.toNatClampNeg) (Eq.trans e30 e25)) ev40 ev45
            have e48 : q_fE (S23) o 7 ((q_fd (S23) o ((1735162214 : Int64)) : Int32)).toNatClampNeg = q_I (S23) a32 (q_fd (S23) o ((1735162214 : Int64))).toNatClampNeg := q_fEe ea32
            obtain ⟨v49, ev49⟩ := q_ev ((q_I (S23) o 22).toInt)
            have f50 := q_bV ev49 f29
            obtain ⟨v51, ev51⟩ := q_ev ((q_fE (S23) o 7 ((q_fd (S23) o ((1735162214 : Int64)) : Int32)).toNatClampNeg).toInt)
            have f52 : v51 = v40 := q_eqVI e48 ev51 ev40
            have f53 : r22.toInt = 1 → v49 ≤ v51 := q_to3 (fun x0 x1 x2 => x0 = 1 → x1 ≤ x2) q_evr ev49 ev51 ((q_smE (h24.2.2)).1)
            have f54 : q_sm _ := g_45_I21 hG mo ro
            obtain ⟨v55, ev55⟩ := q_ev ((q_I (S23) o 21).toInt)
            have f56 := q_bV ev55 f54
            have f57 : r22.toInt = 1 → v55 < v49 := q_to3 (fun x0 x1 x2 => x0 = 1 → x1 < x2) q_evr ev55 ev49 ((q_smE (h24.2.2)).2)
            refine q_ok_ite (fun g58 => ?_) (fun g58 => ?_)
            · have f59 := q_eqV q_evr (show q_eqv ((0 : Int32)).toInt (0) by unfold q_eqv; decide) (q_p_eq g58)
              unfold m_X12_putLoca_71
              obtain ⟨v60, ev60⟩ := q_ev ((l5 + (1)).toInt)
              have f61 : v60 = l5.toInt + (1) := q_addVI ev60 q_evr (show q_eqv ((1 : Int32)).toInt (1) by unfold q_eqv; decide) (by omega) (by omega)
              obtain ⟨v62, ev62⟩ := q_ev ((q_fd (S23) o ((1735162214 : Int64))).toInt)
              have f63 : v62 = v26 := q_eqVI e30 ev62 ev26
              exact ih _ _ _ _ _ hG (q_wd hl1 (by decide) (by decide)) (q_wd hl2 (by decide) (by decide)) (q_oV ev60 (by omega) (by omega)) (q_bw1 (fun x0 => 0 ≤ x0) ev62 (by omega))  (q_upV ev60 (by omega))
            · have f64 := q_neV q_evr (show q_eqv ((0 : Int32)).toInt (0) by unfold q_eqv; decide) (q_n_eq g58)
              refine q_ok_atS hG (q_trI mo ro) rfl (fun mo ro => ?_)
              refine q_ok_if (q_ne0VI (show q_eqv ((2 : Int32)).toInt (2) by unfold q_eqv; decide) (by omega)) ?_
              unfold m_X12_putLoca_71
              obtain ⟨v65, ev65⟩ := q_ev ((l5 + (1)).toInt)
              have f66 : v65 = l5.toInt + (1) := q_addVI ev65 q_evr (show q_eqv ((1 : Int32)).toInt (1) by unfold q_eqv; decide) (by omega) (by omega)
              obtain ⟨v67, ev67⟩ := q_ev ((q_fd (S23) o ((1735162214 : Int64))).toInt)
              have f68 : v67 = v26 := q_eqVI e30 ev67 ev26
              exact ih _ _ _ _ _ hG (q_wd hl1 (by decide) (by decide)) (q_wd hl2 (by decide) (by decide)) (q_oV ev65 (by omega) (by omega)) (q_bw1 (fun x0 => 0 ≤ x0) ev67 (by omega))  (q_upV ev65 (by omega))
        · have f69 := q_neV q_evr (show q_eqv ((0 : Int32)).toInt (0) by unfold q_eqv; decide) (q_n_eq g9)
          exfalso; omega
      · have f70 := q_neV q_evr (show q_eqv ((0 : Int32)).toInt (0) by unfold q_eqv; decide) (q_n_eq g7)
        unfold m_X12_putLoca_25
        refine q_ok_ite (fun g71 => ?_) (fun g71 => ?_)
        · have f72 := q_eqV q_evr (show q_eqv ((0 : Int32)).toInt (0) by unfold q_eqv; decide) (q_p_eq g71)
          exfalso; omega
        · have f73 := q_neV q_evr (show q_eqv ((0 : Int32)).toInt (0) by unfold q_eqv; decide) (q_n_eq g71)
          unfold m_X12_putLoca_34
          refine q_ok_atS hG (q_trI mo ro) rfl (fun mo ro => ?_)
          refine q_ok_b (s_X12_putNumber_45 hn hG.1 mo ro (q_wd (show (4 : Int) ≤ (4 : Int32).toInt ∧ (4 : Int32).toInt ≤ (4 : Int) by decide) (by decide) (by decide))) (fun r74 S75 h76 => ?_)
          have hG := q_G_call hG h76 (by decide)
          refine q_ok_ite (fun g77 => ?_) (fun g77 => ?_)
          · have f78 := q_leV q_evr q_evr (q_p_ge g77)
            unfold m_X12_putLoca_71
            obtain ⟨v79, ev79⟩ := q_ev ((l5 + (1)).toInt)
            have f80 : v79 = l5.toInt + (1) := q_addVI ev79 q_evr (show q_eqv ((1 : Int32)).toInt (1) by unfold q_eqv; decide) (by omega) (by omega)
            have e81 : q_fd (S75) o ((1735162214 : Int64)) = q_fd (S) o ((1735162214 : Int64)) := (q_fdU h76 mo ro (by decide) (by decide) (by decide))
            obtain ⟨v82, ev82⟩ := q_ev ((q_fd (S75) o ((1735162214 : Int64))).toInt)
            have f83 : v82 = v1 := q_eqVI e81 ev82 ev1
            exact ih _ _ _ _ _ hG (q_wd hl1 (by decide) (by decide)) (q_wd hl2 (by decide) (by decide)) (q_oV ev79 (by omega) (by omega)) (q_bw1 (fun x0 => 0 ≤ x0) ev82 (by omega))  (q_upV ev79 (by omega))
          · have f84 := q_ltV q_evr q_evr (q_n_ge g77)
            refine q_ok_atS hG (q_trI mo ro) rfl (fun mo ro => ?_)
            have e88 : q_fd (S75) o ((1735162214 : Int64)) = q_fd (S) o ((1735162214 : Int64)) := (q_fdU h76 mo ro (by decide) (by decide) (by decide))
            obtain ⟨v89, ev89⟩ := q_ev ((q_fd (S75) o ((1735162214 : Int64))).toInt)
            have f90 : v89 = v1 := q_eqVI e88 ev89 ev1
            refine q_ok_b (s_X12_goes_45 hn hG.1 mo ro (q_oV q_evr (by omega) (by omega)) (q_bw1 (fun x0 => 0 ≤ x0) ev89 (by omega))) (fun r85 S86 h87 => ?_)
            have hG := q_G_call hG h87.1 (by decide)
            have f91 := h87.2.1
            have f92 : q_sm _ := g_45_I22 hG mo ro
            have e93 : q_fd (S86) o ((1735162214 : Int64)) = q_fd (S75) o ((1735162214 : Int64)) := (q_fdU h87.1 mo ro (by decide) (by decide) (by decide))
            have t94 := g_45_R7 hG mo ro
            obtain ⟨a95, ea95, ma95, ra95⟩ := id t94
            have f96 : q_sm _ := g_50_E hG ma95 ra95 (k := (q_fd (S86) o ((1735162214 : Int64))).toNatClampNeg)
            have t97 := g_45_R6 hG mo ro
            obtain ⟨a98, ea98, ma98, ra98⟩ := id t97
            have f99 : q_sm _ := g_49_E hG ma98 ra98 (k := (q_fd (S86) o ((1735162214 : Int64))).toNatClampNeg)
            have t100 := g_45_R7 hG mo ro
            obtain ⟨v101, ev101⟩ := q_ev ((q_I (S86) a98 (q_fd (S86) o ((1735162214 : Int64))).toNatClampNeg).toInt)
            have f102 := q_bV ev101 f99
            obtain ⟨v103, ev103⟩ := q_ev ((q_I (S86) a95 (q_fd (S86) o ((1735162214 : Int64))).toNatClampNeg).toInt)
            have f104 := q_bV ev103 f96
            have f105 : v101 + v103 ≤ 1600 := q_to2 (fun x0 x1 => x0 + x1 ≤ 1600) ev101 ev103 (hG.1.2.2.2 a98 a95 ma98 ma95 ra98 ra95 _)
            have t106 := g_45_R7 hG mo ro
            have f107 : q_sm _ := g_50_E hG ma95 ra95 (k := (q_fd (S) o ((1735162214 : Int64))).toNatClampNeg)
            obtain ⟨v108, ev108⟩ := q_ev ((q_I (S86) a95 (q_fd (S) o ((1735162214 : Int64))).toNatClampNeg).toInt)
            have f109 := q_bV ev108 f107
            have f110 : v103 = v108 := q_eqVI (congrArg (fun z : Int32 => q_I (S86) a95 z.toNatClampNeg) (Eq.trans e93 e88)) ev103 ev108
            have e111 : q_fE (S86) o 7 ((q_fd (S86) o ((1735162214 : Int64)) : Int32)).toNatClampNeg = q_I (S86) a95 (q_fd (S86) o ((1735162214 : Int64))).toNatClampNeg := q_fEe ea95
            obtain ⟨v112, ev112⟩ := q_ev ((q_I (S86) o 22).toInt)
            have f113 := q_bV ev112 f92
            obtain ⟨v114, ev114⟩ := q_ev ((q_fE (S86) o 7 ((q_fd (S86) o ((1735162214 : Int64)) : Int32)).toNatClampNeg).toInt)
            have f115 : v114 = v103 := q_eqVI e111 ev114 ev103
            have f116 : r85.toInt = 1 → v112 ≤ v114 := q_to3 (fun x0 x1 x2 => x0 = 1 → x1 ≤ x2) q_evr ev112 ev114 ((q_smE (h87.2.2)).1)
            have f117 : q_sm _ := g_45_I21 hG mo ro
            obtain ⟨v118, ev118⟩ := q_ev ((q_I (S86) o 21).toInt)
            have f119 := q_bV ev118 f117
            have f120 : r85.toInt = 1 → v118 < v112 := q_to3 (fun x0 x1 x2 => x0 = 1 → x1 < x2) q_evr ev118 ev112 ((q_smE (h87.2.2)).2)
            refine q_ok_ite (fun g121 => ?_) (fun g121 => ?_)
            · have f122 := q_eqV q_evr (show q_eqv ((0 : Int32)).toInt (0) by unfold q_eqv; decide) (q_p_eq g121)
              unfold m_X12_putLoca_71
              obtain ⟨v123, ev123⟩ := q_ev ((l5 + (1)).toInt)
              have f124 : v123 = l5.toInt + (1) := q_addVI ev123 q_evr (show q_eqv ((1 : Int32)).toInt (1) by unfold q_eqv; decide) (by omega) (by omega)
              obtain ⟨v125, ev125⟩ := q_ev ((q_fd (S86) o ((1735162214 : Int64))).toInt)
              have f126 : v125 = v89 := q_eqVI e93 ev125 ev89
              exact ih _ _ _ _ _ hG (q_wd hl1 (by decide) (by decide)) (q_wd hl2 (by decide) (by decide)) (q_oV ev123 (by omega) (by omega)) (q_bw1 (fun x0 => 0 ≤ x0) ev125 (by omega))  (q_upV ev123 (by omega))
            · have f127 := q_neV q_evr (show q_eqv ((0 : Int32)).toInt (0) by unfold q_eqv; decide) (q_n_eq g121)
              refine q_ok_atS hG (q_trI mo ro) rfl (fun mo ro => ?_)
              refine q_ok_if (q_ne0VI (show q_eqv ((2 : Int32)).toInt (2) by unfold q_eqv; decide) (by omega)) ?_
              unfold m_X12_putLoca_71
              obtain ⟨v128, ev128⟩ := q_ev ((l5 + (1)).toInt)
              have f129 : v128 = l5.toInt + (1) := q_addVI ev128 q_evr (show q_eqv ((1 : Int32)).toInt (1) by unfold q_eqv; decide) (by omega) (by omega)
              obtain ⟨v130, ev130⟩ := q_ev ((q_fd (S86) o ((1735162214 : Int64))).toInt)
              have f131 : v130 = v89 := q_eqVI e93 ev130 ev89
              exact ih _ _ _ _ _ hG (q_wd hl1 (by decide) (by decide)) (q_wd hl2 (by decide) (by decide)) (q_oV ev128 (by omega) (by omega)) (q_bw1 (fun x0 => 0 ≤ x0) ev130 (by omega))  (q_upV ev128 (by omega))
set_option maxHeartbeats 4000000 in
set_option maxRecDepth 100000 in
theorem s_X12_putLoca_45 {ρ : Nat → Nat} {L : List Nat} {n : Nat} (hn : 18446744073709551616 ≤ n) {S : q_S} (hI : q_Inv ρ L S) {o : Nat} (mo : o ∈ L) (ro : ρ o = 45) {p0 : Int32} (hp0 : (0 ≤ p0.toInt ∧ p0.toInt ≤ 200)) {p1 : Int32} (hp1 : (0 ≤ p1.toInt ∧ p1.toInt ≤ 1)) (hq0 : 0 ≤ (q_fd S o (1735162214)).toInt) : q_ok (m_X12_putLoca n S o p0 p1) (fun _ T => q_G ρ L M_X12_putLoca_45 S T) := by
  have hG : q_G ρ L M_X12_putLoca_45 S S := q_G_refl hI
  unfold m_X12_putLoca
  have z0 : (0 : Int32).toInt = 0 := rfl
  obtain ⟨v1, ev1⟩ := q_ev ((q_fd (S) o ((1735162214 : Int64))).toInt)
  have f2 := q_rVI (x := q_fd (S) o ((1735162214 : Int64))) ev1
  have f3 : 0 ≤ v1 := q_to1 (fun x0 => 0 ≤ x0) ev1 hq0
  exact s_X12_putLoca_45_5 hn mo ro (p0 := p0) (p1 := p1) n _ _ _ _ _ hG (q_wd hp0 (by decide) (by decide)) (q_wd hp1 (by decide) (by decide)) (q_wd (show (0 : Int) ≤ (0 : Int32).toInt ∧ (0 : Int32).toInt ≤ (0 : Int) by decide) (by decide) (by decide)) (q_bw1 (fun x0 => 0 ≤ x0) ev1 (by omega))  (q_upV (show q_eqv ((0 : Int32)).toInt (0) by unfold q_eqv; decide) (by omega))
