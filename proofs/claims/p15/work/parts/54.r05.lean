def M_X12_readPart_45 : List Nat := [2888, 4160, 4288, 4352, 4416, 4480]
set_option maxHeartbeats 4000000 in
set_option maxRecDepth 100000 in
theorem s_X12_readPart_45_244 {ρ : Nat → Nat} {L : List Nat} {n : Nat} (hn : 18446744073709551616 ≤ n) {S0 : q_S} {o : Nat} (mo : o ∈ L) (ro : ρ o = 45) {p0 : Int32} {p1 : Int32}  : ∀ (k : Nat) (S : q_S) (l1 : Int32) (l2 : Int32) (l3 : Int32) (l6 : Int32), q_G ρ L M_X12_readPart_45 S0 S → (0 ≤ l1.toInt ∧ l1.toInt ≤ 7) → (0 ≤ l2.toInt ∧ l2.toInt ≤ 1700) → (6 ≤ l3.toInt ∧ l3.toInt ≤ 1708) → (0 ≤ l6.toInt ∧ l6.toInt ≤ 5) → ((q_I S o 8).toInt = 0 → (q_I S0 o 8).toInt = 0) → ((q_I S o 8).toInt = 0 → (p1).toInt ≤ 1601) → ((l3).toInt = (p1).toInt + 4 + 0 ∨ (l3).toInt = (p1).toInt + 6 ∨ (l3).toInt = (p1).toInt + 8) → ((l2).toInt = (p1).toInt) → (((q_fE S o 32 (p0 : Int32).toNatClampNeg) &&& (2 : Int32)).toInt = 0 → 0 ≤ (q_fE S o 33 (p0 : Int32).toNatClampNeg).toInt ∧ 0 ≤ (q_fE S o 34 (p0 : Int32).toNatClampNeg).toInt) → (q_efx S0 S o (p0).toInt) → 2147483648 - l6.toInt ≤ (k : Int) → q_ok (m_X12_readPart_244 n k S (some o) l1 l2 l3 l6) (fun r T => q_G ρ L M_X12_readPart_45 S0 T ∧ (6 ≤ r.toInt ∧ r.toInt ≤ 16) ∧ q_sm (((q_I T o 8).toInt = 0 → (q_I S0 o 8).toInt = 0) ∧ ((q_I T o 8).toInt = 0 → (p1).toInt ≤ 1601) ∧ (((q_fE T o 32 (p0 : Int32).toNatClampNeg) &&& (2 : Int32)).toInt = 0 → 0 ≤ (q_fE T o 33 (p0 : Int32).toNatClampNeg).toInt ∧ 0 ≤ (q_fE T o 34 (p0 : Int32).toNatClampNeg).toInt) ∧ (q_efx S0 T o (p0).toInt))) := by
  intro k
  induction k with
  | zero =>
    intro S l1 l2 l3 l6 hG hl1 hl2 hl3 hl6 hf0 hf1 hf2 hf3 hf4 hf5 hm
    have f0 := q_rngI l6
    exfalso; omega
  | succ k ih =>
    intro S l1 l2 l3 l6 hG hl1 hl2 hl3 hl6 hf0 hf1 hf2 hf3 hf4 hf5 hm
    rw [m_X12_readPart_244]
    have z0 : (0 : Int32).toInt = 0 := rfl
    have f1 : q_sm _ := g_45_I8 hG mo ro
    obtain ⟨v2, ev2⟩ := q_ev ((q_I (S) o 8).toInt)
    have f3 := q_bV ev2 f1
    obtain ⟨v4, ev4⟩ := q_ev ((q_I (S0) o 8).toInt)
    have f5 := q_rVI (x := q_I (S0) o 8) ev4
    have f6 : v2 = 0 → v4 = 0 := q_to2 (fun x0 x1 => x0 = 0 → x1 = 0) ev2 ev4 hf0
    have f7 := q_rVI (x := p1) q_evr
    have f8 : v2 = 0 → p1.toInt ≤ 1601 := q_to2 (fun x0 x1 => x0 = 0 → x1 ≤ 1601) ev2 q_evr hf1
    have f9 : l3.toInt = p1.toInt + 4 + 0 ∨ l3.toInt = p1.toInt + 6 ∨ l3.toInt = p1.toInt + 8 := q_to2 (fun x0 x1 => x0 = x1 + 4 + 0 ∨ x0 = x1 + 6 ∨ x0 = x1 + 8) q_evr q_evr hf2
    have f10 : l2.toInt = p1.toInt := q_to2 (fun x0 x1 => x0 = x1) q_evr q_evr hf3
    have t11 := g_45_R32 hG mo ro
    obtain ⟨a12, ea12, ma12, ra12⟩ := id t11
    have f13 : q_sm _ := g_67_E hG ma12 ra12 (k := (p0).toNatClampNeg)
    have e14 : q_fE (S) o 32 ((p0 : Int32)).toNatClampNeg = q_I (S) a12 (p0).toNatClampNeg := q_fEe ea12
    have e15 : (q_fE (S) o 32 ((p0 : Int32)).toNatClampNeg) &&& (2 : Int32) = (q_I (S) a12 (p0).toNatClampNeg) &&& (2 : Int32) := congrArg (fun z : Int32 => z &&& (2 : Int32)) e14
    have t16 := g_45_R33 hG mo ro
    obtain ⟨a17, ea17, ma17, ra17⟩ := id t16
    have f18 : q_sm _ := g_68_E hG ma17 ra17 (k := (p0).toNatClampNeg)
    have e19 : q_fE (S) o 33 ((p0 : Int32)).toNatClampNeg = q_I (S) a17 (p0).toNatClampNeg := q_fEe ea17
    have t20 := g_45_R34 hG mo ro
    obtain ⟨a21, ea21, ma21, ra21⟩ := id t20
    have f22 : q_sm _ := g_69_E hG ma21 ra21 (k := (p0).toNatClampNeg)
    have e23 : q_fE (S) o 34 ((p0 : Int32)).toNatClampNeg = q_I (S) a21 (p0).toNatClampNeg := q_fEe ea21
    obtain ⟨v24, ev24⟩ := q_ev (((q_fE (S) o 32 ((p0 : Int32)).toNatClampNeg) &&& (2 : Int32)).toInt)
    obtain ⟨v25, ev25⟩ := q_ev (((q_I (S) a12 (p0).toNatClampNeg) &&& (2 : Int32)).toInt)
    have f26 := q_andRVI ev25 (show q_eqv ((2 : Int32)).toInt (2) by unfold q_eqv; decide) (by omega)
    have f27 : v24 = v25 := q_eqVI e15 ev24 ev25
    obtain ⟨v28, ev28⟩ := q_ev ((q_fE (S) o 33 ((p0 : Int32)).toNatClampNeg).toInt)
    obtain ⟨v29, ev29⟩ := q_ev ((q_I (S) a17 (p0).toNatClampNeg).toInt)
    have f30 := q_bV ev29 f18
    have f31 : v28 = v29 := q_eqVI e19 ev28 ev29
    obtain ⟨v32, ev32⟩ := q_ev ((q_fE (S) o 34 ((p0 : Int32)).toNatClampNeg).toInt)
    obtain ⟨v33, ev33⟩ := q_ev ((q_I (S) a21 (p0).toNatClampNeg).toInt)
    have f34 := q_bV ev33 f22
    have f35 : v32 = v33 := q_eqVI e23 ev32 ev33
    have f36 : v24 = 0 → 0 ≤ v28 ∧ 0 ≤ v32 := q_to3 (fun x0 x1 x2 => x0 = 0 → 0 ≤ x1 ∧ 0 ≤ x2) ev24 ev28 ev32 hf4
    have t37 := g_45_R26 hG mo ro
    obtain ⟨a38, ea38, ma38, ra38⟩ := id t37
    have t39 := g_45_R29 hG mo ro
    obtain ⟨a40, ea40, ma40, ra40⟩ := id t39
    have t41 := g_45_R32 hG mo ro
    have t42 := g_45_R33 hG mo ro
    have t43 := g_45_R34 hG mo ro
    have n44 := hf5 _ _ _ _ _ ea38 ea40 ea12 ea17 ea21
    refine q_ok_ite (fun g45 => ?_) (fun g45 => ?_)
    · have f46 := q_leV (show q_eqv ((4 : Int32)).toInt (4) by unfold q_eqv; decide) q_evr (q_p_ge g45)
      unfold m_X12_readPart_284
      have t47 := g_45_R32 hG mo ro
      have e48 : q_fE (S) o 32 ((p0 : Int32)).toNatClampNeg = q_I (S) a12 (p0).toNatClampNeg := q_fEe ea12
      have e49 : (q_fE (S) o 32 ((p0 : Int32)).toNatClampNeg) &&& (2 : Int32) = (q_I (S) a12 (p0).toNatClampNeg) &&& (2 : Int32) := congrArg (fun z : Int32 => z &&& (2 : Int32)) e48
      have t50 := g_45_R33 hG mo ro
      have e51 : q_fE (S) o 33 ((p0 : Int32)).toNatClampNeg = q_I (S) a17 (p0).toNatClampNeg := q_fEe ea17
      have t52 := g_45_R34 hG mo ro
      have e53 : q_fE (S) o 34 ((p0 : Int32)).toNatClampNeg = q_I (S) a21 (p0).toNatClampNeg := q_fEe ea21
      have t54 := g_45_R26 hG mo ro
      have t55 := g_45_R29 hG mo ro
      have t56 := g_45_R32 hG mo ro
      have t57 := g_45_R33 hG mo ro
      have t58 := g_45_R34 hG mo ro
      obtain ⟨v59, ev59⟩ := q_ev (((l3 + (8)) - l2).toInt)
      obtain ⟨v60, ev60⟩ := q_ev ((l3 + (8)).toInt)
      have f61 : v60 = l3.toInt + (8) := q_addVI ev60 q_evr (show q_eqv ((8 : Int32)).toInt (8) by unfold q_eqv; decide) (by omega) (by omega)
      have f62 : v59 = v60 - l2.toInt := q_subVI ev59 ev60 q_evr (by omega) (by omega)
      exact q_ok_some ⟨hG, (q_oV ev59 (by omega) (by omega)), (q_smI ⟨(q_bw2 (fun x0 x1 => x0 = 0 → x1 = 0) ev2 ev4 (by omega)), (q_bw2 (fun x0 x1 => x0 = 0 → x1 ≤ 1601) ev2 q_evr (by omega)), (q_bw3 (fun x0 x1 x2 => x0 = 0 → 0 ≤ x1 ∧ 0 ≤ x2) ev24 ev28 ev32 (by omega)), (q_efxI ea38 ea40 ea12 ea17 ea21 n44)⟩)⟩
    · have f63 := q_ltV q_evr (show q_eqv ((4 : Int32)).toInt (4) by unfold q_eqv; decide) (q_n_ge g45)
      refine q_ok_atS hG (q_trI mo ro) rfl (fun mo ro => ?_)
      have t64 := g_45_R35 hG mo ro
      obtain ⟨v68, ev68⟩ := q_ev ((l3 + ((2 : Int32) * l6)).toInt)
      obtain ⟨v69, ev69⟩ := q_ev (((2 : Int32) * l6).toInt)
      have f70 : v69 = (2) * l6.toInt := q_mulVI ev69 (show q_eqv ((2 : Int32)).toInt (2) by unfold q_eqv; decide) q_evr (by omega) (by omega)
      have f71 : v68 = l3.toInt + v69 := q_addVI ev68 q_evr ev69 (by omega) (by omega)
      refine q_ok_b (s_X12_data_45_k2 hn hG.1 mo ro (q_oV ev68 (by omega) (by omega)) (q_wd (show (2 : Int) ≤ (2 : Int32).toInt ∧ (2 : Int32).toInt ≤ (2 : Int) by decide) (by decide) (by decide))) (fun r65 S66 h67 => ?_)
      have hG := q_G_call hG h67.1 (by decide)
      have f72 := h67.2.1
      have n73 := q_efU h67.1 ma38 ra38 ma40 ra40 ma12 ra12 ma17 ra17 ma21 ra21 rfl rfl rfl rfl rfl n44
      have f74 : q_sm _ := g_45_I8 hG mo ro
      obtain ⟨v75, ev75⟩ := q_ev ((q_I (S66) o 8).toInt)
      have f76 := q_bV ev75 f74
      have f77 : v75 = 0 → v2 = 0 := q_to2 (fun x0 x1 => x0 = 0 → x1 = 0) ev75 ev2 ((q_smE (h67.2.2)).1)
      have f78 : q_sm _ := g_45_I21 hG mo ro
      have f79 : q_sm _ := g_45_I22 hG mo ro
      obtain ⟨v80, ev80⟩ := q_ev ((q_I (S66) o 21).toInt)
      have f81 := q_bV ev80 f78
      obtain ⟨v82, ev82⟩ := q_ev ((q_I (S66) o 22).toInt)
      have f83 := q_bV ev82 f79
      have f84 : v75 = 0 → v80 + v68 + (2) ≤ v82 := q_to5 (fun x0 x1 x2 x3 x4 => x0 = 0 → x1 + x2 + x3 ≤ x4) ev75 ev80 ev68 (show q_eqv ((2 : Int32)).toInt (2) by unfold q_eqv; decide) ev82 ((q_smE (h67.2.2)).2.1)
      obtain ⟨v85, ev85⟩ := q_ev ((q_fd (S66) o ((1735162214 : Int64))).toInt)
      have f86 := q_rVI (x := q_fd (S66) o ((1735162214 : Int64))) ev85
      have f87 : v75 = 0 → 0 ≤ v85 := q_to2 (fun x0 x1 => x0 = 0 → 0 ≤ x1) ev75 ev85 ((q_smE (h67.2.2)).2.2)
      refine q_ok_b (s_X12_signed hn hG.1 (q_wd f72 (by decide) (by decide))) (fun r88 S89 h90 => ?_)
      obtain ⟨eS89, h90⟩ := h90
      replace eS89 := eS89.symm
      subst eS89
      have f91 := h90
      refine q_ok_at hG t64 rfl (fun a92 ma92 ra92 ea92 => ?_)
      obtain ⟨v93, ev93⟩ := q_ev ((((4 : Int32) * l1) + l6).toInt)
      obtain ⟨v94, ev94⟩ := q_ev (((4 : Int32) * l1).toInt)
      have f95 : v94 = (4) * l1.toInt := q_mulVI ev94 (show q_eqv ((4 : Int32)).toInt (4) by unfold q_eqv; decide) q_evr (by omega) (by omega)
      have f96 : v93 = v94 + l6.toInt := q_addVI ev93 ev94 q_evr (by omega) (by omega)
      refine q_ok_if (q_inV (g_70_N hG ma92 ra92) ev93 (by omega) (by omega)) ?_
      have hG := u_70_E (k := (((4 : Int32) * l1) + l6).toNatClampNeg) (x := r88) hG ma92 ra92 (by decide) (q_wd f91 (by decide) (by decide))
      have n97 : q_ef (S0) (q_sI (S66) a92 (((4 : Int32) * l1) + l6).toNatClampNeg (r88)) a38 a40 a12 a17 a21 _ := q_efI ra92 ra38 ra40 ra12 ra17 ra21 (by decide) (by decide) (by decide) (by decide) (by decide) n73
      obtain ⟨v98, ev98⟩ := q_ev ((l6 + (1)).toInt)
      have f99 : v98 = l6.toInt + (1) := q_addVI ev98 q_evr (show q_eqv ((1 : Int32)).toInt (1) by unfold q_eqv; decide) (by omega) (by omega)
      have f100 : q_sm _ := g_45_I8 hG mo ro
      have e101 : q_I (q_sI (S66) a92 (((4 : Int32) * l1) + l6).toNatClampNeg (r88)) o 8 = q_I (S66) o 8 := (q_fwI ro ra92 (by decide))
      obtain ⟨v102, ev102⟩ := q_ev ((q_I (q_sI (S66) a92 (((4 : Int32) * l1) + l6).toNatClampNeg (r88)) o 8).toInt)
      have f103 : v102 = v75 := q_eqVI e101 ev102 ev75
      have t104 := g_45_R32 hG mo ro
      have e105 : q_R (q_sI (S66) a92 (((4 : Int32) * l1) + l6).toNatClampNeg (r88)) o 32 = q_R (S) o 32 := (Eq.trans q_skRI (q_unR h67.1 mo ro (by decide)))
      have f106 : q_sm _ := g_67_E hG ma12 ra12 (k := (p0).toNatClampNeg)
      have e107 : q_I (q_sI (S66) a92 (((4 : Int32) * l1) + l6).toNatClampNeg (r88)) a12 (p0).toNatClampNeg = q_I (S) a12 (p0).toNatClampNeg := (Eq.trans (q_fwI ra12 ra92 (by decide)) (q_unIA h67.1 ma12 ra12 (by decide) (by decide)))
      have e108 : q_fE (q_sI (S66) a92 (((4 : Int32) * l1) + l6).toNatClampNeg (r88)) o 32 ((p0 : Int32)).toNatClampNeg = q_I (q_sI (S66) a92 (((4 : Int32) * l1) + l6).toNatClampNeg (r88)) a12 (p0).toNatClampNeg := q_fEe (Eq.trans e105 ea12)
      have e109 : (q_fE (q_sI (S66) a92 (((4 : Int32) * l1) + l6).toNatClampNeg (r88)) o 32 ((p0 : Int32)).toNatClampNeg) &&& (2 : Int32) = (q_I (S) a12 (p0).toNatClampNeg) &&& (2 : Int32) := congrArg (fun z : Int32 => z &&& (2 : Int32)) (Eq.trans e108 e107)
      have t110 := g_45_R33 hG mo ro
      have e111 : q_R (q_sI (S66) a92 (((4 : Int32) * l1) + l6).toNatClampNeg (r88)) o 33 = q_R (S) o 33 := (Eq.trans q_skRI (q_unR h67.1 mo ro (by decide)))
      have f112 : q_sm _ := g_68_E hG ma17 ra17 (k := (p0).toNatClampNeg)
      have e113 : q_I (q_sI (S66) a92 (((4 : Int32) * l1) + l6).toNatClampNeg (r88)) a17 (p0).toNatClampNeg = q_I (S) a17 (p0).toNatClampNeg := (Eq.trans (q_fwI ra17 ra92 (by decide)) (q_unIA h67.1 ma17 ra17 (by decide) (by decide)))
      have e114 : q_fE (q_sI (S66) a92 (((4 : Int32) * l1) + l6).toNatClampNeg (r88)) o 33 ((p0 : Int32)).toNatClampNeg = q_I (q_sI (S66) a92 (((4 : Int32) * l1) + l6).toNatClampNeg (r88)) a17 (p0).toNatClampNeg := q_fEe (Eq.trans e111 ea17)
      have t115 := g_45_R34 hG mo ro
      have e116 : q_R (q_sI (S66) a92 (((4 : Int32) * l1) + l6).toNatClampNeg (r88)) o 34 = q_R (S) o 34 := (Eq.trans q_skRI (q_unR h67.1 mo ro (by decide)))
      have f117 : q_sm _ := g_69_E hG ma21 ra21 (k := (p0).toNatClampNeg)
      have e118 : q_I (q_sI (S66) a92 (((4 : Int32) * l1) + l6).toNatClampNeg (r88)) a21 (p0).toNatClampNeg = q_I (S) a21 (p0).toNatClampNeg := (Eq.trans (q_fwI ra21 ra92 (by decide)) (q_unIA h67.1 ma21 ra21 (by decide) (by decide)))
      have e119 : q_fE (q_sI (S66) a92 (((4 : Int32) * l1) + l6).toNatClampNeg (r88)) o 34 ((p0 : Int32)).toNatClampNeg = q_I (q_sI (S66) a92 (((4 : Int32) * l1) + l6).toNatClampNeg (r88)) a21 (p0).toNatClampNeg := q_fEe (Eq.trans e116 ea21)
      obtain ⟨v120, ev120⟩ := q_ev (((q_fE (q_sI (S66) a92 (((4 : Int32) * l1) + l6).toNatClampNeg (r88)) o 32 ((p0 : Int32)).toNatClampNeg) &&& (2 : Int32)).toInt)
      have f121 : v120 = v25 := q_eqVI e109 ev120 ev25
      obtain ⟨v122, ev122⟩ := q_ev ((q_fE (q_sI (S66) a92 (((4 : Int32) * l1) + l6).toNatClampNeg (r88)) o 33 ((p0 : Int32)).toNatClampNeg).toInt)
      obtain ⟨v123, ev123⟩ := q_ev ((q_I (q_sI (S66) a92 (((4 : Int32) * l1) + l6).toNatClampNeg (r88)) a17 (p0).toNatClampNeg).toInt)
      have f124 : v123 = v29 := q_eqVI e113 ev123 ev29
      have f125 : v122 = v123 := q_eqVI e114 ev122 ev123
      obtain ⟨v126, ev126⟩ := q_ev ((q_fE (q_sI (S66) a92 (((4 : Int32) * l1) + l6).toNatClampNeg (r88)) o 34 ((p0 : Int32)).toNatClampNeg).toInt)
      obtain ⟨v127, ev127⟩ := q_ev ((q_I (q_sI (S66) a92 (((4 : Int32) * l1) + l6).toNatClampNeg (r88)) a21 (p0).toNatClampNeg).toInt)
      have f128 : v127 = v33 := q_eqVI e118 ev127 ev33
      have f129 : v126 = v127 := q_eqVI e119 ev126 ev127
      have t130 := g_45_R26 hG mo ro
      have e131 : q_R (q_sI (S66) a92 (((4 : Int32) * l1) + l6).toNatClampNeg (r88)) o 26 = q_R (S) o 26 := (Eq.trans q_skRI (q_unR h67.1 mo ro (by decide)))
      have t132 := g_45_R29 hG mo ro
      have e133 : q_R (q_sI (S66) a92 (((4 : Int32) * l1) + l6).toNatClampNeg (r88)) o 29 = q_R (S) o 29 := (Eq.trans q_skRI (q_unR h67.1 mo ro (by decide)))
      have t134 := g_45_R32 hG mo ro
      have t135 := g_45_R33 hG mo ro
      have t136 := g_45_R34 hG mo ro
      exact ih _ _ _ _ _ hG (q_wd hl1 (by decide) (by decide)) (q_wd hl2 (by decide) (by decide)) (q_wd hl3 (by decide) (by decide)) (q_oV ev98 (by omega) (by omega)) (q_bw2 (fun x0 x1 => x0 = 0 → x1 = 0) ev102 ev4 (by omega)) (q_bw2 (fun x0 x1 => x0 = 0 → x1 ≤ 1601) ev102 q_evr (by omega)) (q_bw2 (fun x0 x1 => x0 = x1 + 4 + 0 ∨ x0 = x1 + 6 ∨ x0 = x1 + 8) q_evr q_evr (by omega)) (q_bw2 (fun x0 x1 => x0 = x1) q_evr q_evr (by omega)) (q_bw3 (fun x0 x1 x2 => x0 = 0 → 0 ≤ x1 ∧ 0 ≤ x2) ev120 ev122 ev126 (by omega)) (q_efxI (Eq.trans e131 ea38) (Eq.trans e133 ea40) (Eq.trans e105 ea12) (Eq.trans e111 ea17) (Eq.trans e116 ea21) n97)  (q_upV ev98 (by omega))
set_option maxHeartbeats 4000000 in
set_option maxRecDepth 100000 in
theorem s_X12_readPart_45 {ρ : Nat → Nat} {L : List Nat} {n : Nat} (hn : 18446744073709551616 ≤ n) {S : q_S} (hI : q_Inv ρ L S) {o : Nat} (mo : o ∈ L) (ro : ρ o = 45) {p0 : Int32} (hp0 : (0 ≤ p0.toInt ∧ p0.toInt ≤ 7)) {p1 : Int32} (hp1 : (0 ≤ p1.toInt ∧ p1.toInt ≤ 1700)) : q_ok (m_X12_readPart n S o p0 p1) (fun r T => q_G ρ L M_X12_readPart_45 S T ∧ (6 ≤ r.toInt ∧ r.toInt ≤ 16) ∧ q_sm (((q_I T o 8).toInt = 0 → (q_I S o 8).toInt = 0) ∧ ((q_I T o 8).toInt = 0 → (p1).toInt ≤ 1601) ∧ (((q_fE T o 32 (p0 : Int32).toNatClampNeg) &&& (2 : Int32)).toInt = 0 → 0 ≤ (q_fE T o 33 (p0 : Int32).toNatClampNeg).toInt ∧ 0 ≤ (q_fE T o 34 (p0 : Int32).toNatClampNeg).toInt) ∧ (q_efx S T o (p0).toInt))) := by
  have hG : q_G ρ L M_X12_readPart_45 S S := q_G_refl hI
  unfold m_X12_readPart
  have z0 : (0 : Int32).toInt = 0 := rfl
  have f1 : q_sm _ := g_45_I8 hG mo ro
  have t2 := g_45_R26 hG mo ro
  obtain ⟨a3, ea3, ma3, ra3⟩ := id t2
  have t4 := g_45_R29 hG mo ro
  obtain ⟨a5, ea5, ma5, ra5⟩ := id t4
  have t6 := g_45_R32 hG mo ro
  obtain ⟨a7, ea7, ma7, ra7⟩ := id t6
  have t8 := g_45_R33 hG mo ro
  obtain ⟨a9, ea9, ma9, ra9⟩ := id t8
  have t10 := g_45_R34 hG mo ro
  obtain ⟨a11, ea11, ma11, ra11⟩ := id t10
  have f13 := q_rVI (x := p0) q_evr
  have n12 : q_ef (S) (S) a3 a5 a7 a9 a11 (p0).toInt := q_ef0
  refine q_ok_atS hG (q_trI mo ro) rfl (fun mo ro => ?_)
  refine q_ok_b (s_X12_data_45_k2 hn hG.1 mo ro (q_wd hp1 (by decide) (by decide)) (q_wd (show (2 : Int) ≤ (2 : Int32).toInt ∧ (2 : Int32).toInt ≤ (2 : Int) by decide) (by decide) (by decide))) (fun r14 S15 h16 => ?_)
  have hG := q_G_call hG h16.1 (by decide)
  have f17 := h16.2.1
  have n18 := q_efU h16.1 ma3 ra3 ma5 ra5 ma7 ra7 ma9 ra9 ma11 ra11 rfl rfl rfl rfl rfl n12
  have f19 : q_sm _ := g_45_I8 hG mo ro
  obtain ⟨v20, ev20⟩ := q_ev ((q_I (S15) o 8).toInt)
  have f21 := q_bV ev20 f19
  obtain ⟨v22, ev22⟩ := q_ev ((q_I (S) o 8).toInt)
  have f23 := q_bV ev22 f1
  have f24 : v20 = 0 → v22 = 0 := q_to2 (fun x0 x1 => x0 = 0 → x1 = 0) ev20 ev22 ((q_smE (h16.2.2)).1)
  have f25 : q_sm _ := g_45_I21 hG mo ro
  have f26 : q_sm _ := g_45_I22 hG mo ro
  obtain ⟨v27, ev27⟩ := q_ev ((q_I (S15) o 21).toInt)
  have f28 := q_bV ev27 f25
  obtain ⟨v29, ev29⟩ := q_ev ((q_I (S15) o 22).toInt)
  have f30 := q_bV ev29 f26
  have f31 : v20 = 0 → v27 + p1.toInt + (2) ≤ v29 := q_to5 (fun x0 x1 x2 x3 x4 => x0 = 0 → x1 + x2 + x3 ≤ x4) ev20 ev27 q_evr (show q_eqv ((2 : Int32)).toInt (2) by unfold q_eqv; decide) ev29 ((q_smE (h16.2.2)).2.1)
  obtain ⟨v32, ev32⟩ := q_ev ((q_fd (S15) o ((1735162214 : Int64))).toInt)
  have f33 := q_rVI (x := q_fd (S15) o ((1735162214 : Int64))) ev32
  have f34 : v20 = 0 → 0 ≤ v32 := q_to2 (fun x0 x1 => x0 = 0 → 0 ≤ x1) ev20 ev32 ((q_smE (h16.2.2)).2.2)
  refine q_ok_atS hG (q_trI mo ro) rfl (fun mo ro => ?_)
  have t35 := g_45_R30 hG mo ro
  refine q_ok_b (s_X12_data_45_k2 hn hG.1 mo ro (q_wd (q_addBI (2) (1702) hp1 (show (2 : Int) ≤ (2 : Int32).toInt ∧ (2 : Int32).toInt ≤ (2 : Int) by decide) (by decide) (by decide) (by decide) (by decide)) (by decide) (by decide)) (q_wd (show (2 : Int) ≤ (2 : Int32).toInt ∧ (2 : Int32).toInt ≤ (2 : Int) by decide) (by decide) (by decide))) (fun r36 S37 h38 => ?_)
  have hG := q_G_call hG h38.1 (by decide)
  have f39 := h38.2.1
  have n40 := q_efU h38.1 ma3 ra3 ma5 ra5 ma7 ra7 ma9 ra9 ma11 ra11 rfl rfl rfl rfl rfl n18
  have f41 : q_sm _ := g_45_I8 hG mo ro
  obtain ⟨v42, ev42⟩ := q_ev ((q_I (S37) o 8).toInt)
  have f43 := q_bV ev42 f41
  have f44 : v42 = 0 → v20 = 0 := q_to2 (fun x0 x1 => x0 = 0 → x1 = 0) ev42 ev20 ((q_smE (h38.2.2)).1)
  have f45 : q_sm _ := g_45_I21 hG mo ro
  have e46 : q_I (S37) o 21 = q_I (S15) o 21 := (q_unI h38.1 mo ro (by decide))
  have f47 : q_sm _ := g_45_I22 hG mo ro
  have e48 : q_I (S37) o 22 = q_I (S15) o 22 := (q_unI h38.1 mo ro (by decide))
  obtain ⟨v49, ev49⟩ := q_ev ((q_I (S37) o 21).toInt)
  have f50 : v49 = v27 := q_eqVI e46 ev49 ev27
  obtain ⟨v51, ev51⟩ := q_ev ((p1 + (2 : Int32)).toInt)
  have f52 : v51 = p1.toInt + (2) := q_addVI ev51 q_evr (show q_eqv ((2 : Int32)).toInt (2) by unfold q_eqv; decide) (by omega) (by omega)
  obtain ⟨v53, ev53⟩ := q_ev ((q_I (S37) o 22).toInt)
  have f54 : v53 = v29 := q_eqVI e48 ev53 ev29
  have f55 : v42 = 0 → v49 + v51 + (2) ≤ v53 := q_to5 (fun x0 x1 x2 x3 x4 => x0 = 0 → x1 + x2 + x3 ≤ x4) ev42 ev49 ev51 (show q_eqv ((2 : Int32)).toInt (2) by unfold q_eqv; decide) ev53 ((q_smE (h38.2.2)).2.1)
  have e56 : q_fd (S37) o ((1735162214 : Int64)) = q_fd (S15) o ((1735162214 : Int64)) := (q_fdU h38.1 mo ro (by decide) (by decide) (by decide))
  obtain ⟨v57, ev57⟩ := q_ev ((q_fd (S37) o ((1735162214 : Int64))).toInt)
  have f58 : v57 = v32 := q_eqVI e56 ev57 ev32
  have f59 : v42 = 0 → 0 ≤ v57 := q_to2 (fun x0 x1 => x0 = 0 → 0 ≤ x1) ev42 ev57 ((q_smE (h38.2.2)).2.2)
  refine q_ok_at hG t35 rfl (fun a60 ma60 ra60 ea60 => ?_)
  refine q_ok_if (q_inV (g_65_N hG ma60 ra60) q_evr (by omega) (by omega)) ?_
  have hG := u_65_E (k := (p0).toNatClampNeg) (x := r36) hG ma60 ra60 (by decide) (q_wd f39 (by decide) (by decide))
  have n61 : q_ef (S) (q_sI (S37) a60 (p0).toNatClampNeg (r36)) a3 a5 a7 a9 a11 _ := q_efI ra60 ra3 ra5 ra7 ra9 ra11 (by decide) (by decide) (by decide) (by decide) (by decide) n40
  obtain ⟨v62, ev62⟩ := q_ev ((r14 &&& (1 : Int32)).toInt)
  have f63 := q_andRVI ev62 (show q_eqv ((1 : Int32)).toInt (1) by unfold q_eqv; decide) (by omega)
  refine q_ok_ite (fun g64 => ?_) (fun g64 => ?_)
  · have f65 := q_eqV ev62 (show q_eqv ((0 : Int32)).toInt (0) by unfold q_eqv; decide) (q_p_eq g64)
    unfold m_X12_readPart_39
    refine q_ok_atS hG (q_trI mo ro) rfl (fun mo ro => ?_)
    have t66 := g_45_R32 hG mo ro
    have e67 : q_R (q_sI (S37) a60 (p0).toNatClampNeg (r36)) o 32 = q_R (S) o 32 := (Eq.trans q_skRI (Eq.trans (q_unR h38.1 mo ro (by decide)) (q_unR h16.1 mo ro (by decide))))
    refine q_ok_atA hG (Eq.trans e67 ea7) ma7 ra7 rfl ?_
    refine q_ok_if (q_inV (g_67_N hG ma7 ra7) q_evr (by omega) (by omega)) ?_
    have hG := u_67_E (k := (p0).toNatClampNeg) (x := r14) hG ma7 ra7 (by decide) (q_wd f17 (by decide) (by decide))
    have n68 : q_ef (S) (q_sI (q_sI (S37) a60 (p0).toNatClampNeg (r36)) a7 (p0).toNatClampNeg (r14)) a3 a5 a7 a9 a11 _ := q_efA (q_clampL (q_bw1 (fun x0 => 0 ≤ x0) q_evr (by omega)) (q_bw2 (fun x0 x1 => x0 ≤ x1) q_evr q_evr (by omega))) n61
    have t69 := g_45_R33 hG mo ro
    have e70 : q_R (q_sI (q_sI (S37) a60 (p0).toNatClampNeg (r36)) a7 (p0).toNatClampNeg (r14)) o 33 = q_R (S) o 33 := (Eq.trans q_skRI (Eq.trans q_skRI (Eq.trans (q_unR h38.1 mo ro (by decide)) (q_unR h16.1 mo ro (by decide)))))
    have f74 : q_sm _ := g_45_I8 hG mo ro
    have e75 : q_I (q_sI (q_sI (S37) a60 (p0).toNatClampNeg (r36)) a7 (p0).toNatClampNeg (r14)) o 8 = q_I (S37) o 8 := (Eq.trans (q_fwI ro ra7 (by decide)) (q_fwI ro ra60 (by decide)))
    refine q_ok_b (s_X12_argument_45 hn hG.1 mo ro (q_wd (q_addBI (4) (1704) hp1 (show (4 : Int) ≤ (4 : Int32).toInt ∧ (4 : Int32).toInt ≤ (4 : Int) by decide) (by decide) (by decide) (by decide) (by decide)) (by decide) (by decide)) (q_wd f17 (by decide) (by decide))) (fun r71 S72 h73 => ?_)
    have hG := q_G_call hG h73.1 (by decide)
    have f76 := h73.2.1
    have n77 := q_efU h73.1 ma3 ra3 ma5 ra5 ma7 ra7 ma9 ra9 ma11 ra11 rfl rfl rfl rfl rfl n68
    have f78 : q_sm _ := g_45_I8 hG mo ro
    obtain ⟨v79, ev79⟩ := q_ev ((q_I (S72) o 8).toInt)
    have f80 := q_bV ev79 f78
    obtain ⟨v81, ev81⟩ := q_ev ((q_I (q_sI (q_sI (S37) a60 (p0).toNatClampNeg (r36)) a7 (p0).toNatClampNeg (r14)) o 8).toInt)
    have f82 : v81 = v42 := q_eqVI e75 ev81 ev42
    have f83 : v79 = 0 → v81 = 0 := q_to2 (fun x0 x1 => x0 = 0 → x1 = 0) ev79 ev81 ((q_smE (h73.2.2)).1)
    obtain ⟨v84, ev84⟩ := q_ev ((r14 &&& (2 : Int32)).toInt)
    have f85 := q_andRVI ev84 (show q_eqv ((2 : Int32)).toInt (2) by unfold q_eqv; decide) (by omega)
    have f86 : v84 = 0 → 0 ≤ r71.toInt := q_to2 (fun x0 x1 => x0 = 0 → 0 ≤ x1) ev84 q_evr ((q_smE (h73.2.2)).2)
    refine q_ok_atA hG (Eq.trans e70 ea9) ma9 ra9 rfl ?_
    refine q_ok_if (q_inV (g_68_N hG ma9 ra9) q_evr (by omega) (by omega)) ?_
    have hG := u_68_E (k := (p0).toNatClampNeg) (x := r71) hG ma9 ra9 (by decide) (q_wd f76 (by decide) (by decide))
    have n87 : q_ef (S) (q_sI (S72) a9 (p0).toNatClampNeg (r71)) a3 a5 a7 a9 a11 _ := q_efA (q_clampL (q_bw1 (fun x0 => 0 ≤ x0) q_evr (by omega)) (q_bw2 (fun x0 x1 => x0 ≤ x1) q_evr q_evr (by omega))) n77
    refine q_ok_atS hG (q_trI mo ro) rfl (fun mo ro => ?_)
    have t88 := g_45_R34 hG mo ro
    have e89 : q_R (q_sI (S72) a9 (p0).toNatClampNeg (r71)) o 34 = q_R (S) o 34 := (Eq.trans q_skRI (Eq.trans (q_unR h73.1 mo ro (by decide)) (Eq.trans q_skRI (Eq.trans q_skRI (Eq.trans (q_unR h38.1 mo ro (by decide)) (q_unR h16.1 mo ro (by decide)))))))
    have f93 : q_sm _ := g_45_I8 hG mo ro
    have e94 : q_I (q_sI (S72) a9 (p0).toNatClampNeg (r71)) o 8 = q_I (S72) o 8 := (q_fwI ro ra9 (by decide))
    refine q_ok_b (s_X12_argument_45 hn hG.1 mo ro (q_wd (q_addBI (5) (1705) (q_addBI (4) (1704) hp1 (show (4 : Int) ≤ (4 : Int32).toInt ∧ (4 : Int32).toInt ≤ (4 : Int) by decide) (by decide) (by decide) (by decide) (by decide)) (show (1 : Int) ≤ (1 : Int32).toInt ∧ (1 : Int32).toInt ≤ (1 : Int) by decide) (by decide) (by decide) (by decide) (by decide)) (by decide) (by decide)) (q_wd f17 (by decide) (by decide))) (fun r90 S91 h92 => ?_)
    have hG := q_G_call hG h92.1 (by decide)
    have f95 := h92.2.1
    have n96 := q_efU h92.1 ma3 ra3 ma5 ra5 ma7 ra7 ma9 ra9 ma11 ra11 rfl rfl rfl rfl rfl n87
    have f97 : q_sm _ := g_45_I8 hG mo ro
    obtain ⟨v98, ev98⟩ := q_ev ((q_I (S91) o 8).toInt)
    have f99 := q_bV ev98 f97
    obtain ⟨v100, ev100⟩ := q_ev ((q_I (q_sI (S72) a9 (p0).toNatClampNeg (r71)) o 8).toInt)
    have f101 : v100 = v79 := q_eqVI e94 ev100 ev79
    have f102 : v98 = 0 → v100 = 0 := q_to2 (fun x0 x1 => x0 = 0 → x1 = 0) ev98 ev100 ((q_smE (h92.2.2)).1)
    have f103 : v84 = 0 → 0 ≤ r90.toInt := q_to2 (fun x0 x1 => x0 = 0 → 0 ≤ x1) ev84 q_evr ((q_smE (h92.2.2)).2)
    refine q_ok_atA hG (Eq.trans e89 ea11) ma11 ra11 rfl ?_
    refine q_ok_if (q_inV (g_69_N hG ma11 ra11) q_evr (by omega) (by omega)) ?_
    have hG := u_69_E (k := (p0).toNatClampNeg) (x := r90) hG ma11 ra11 (by decide) (q_wd f95 (by decide) (by decide))
    have n104 : q_ef (S) (q_sI (S91) a11 (p0).toNatClampNeg (r90)) a3 a5 a7 a9 a11 _ := q_efA (q_clampL (q_bw1 (fun x0 => 0 ≤ x0) q_evr (by omega)) (q_bw2 (fun x0 x1 => x0 ≤ x1) q_evr q_evr (by omega))) n96
    refine q_ok_atS hG (q_trI mo ro) rfl (fun mo ro => ?_)
    have t105 := g_45_R35 hG mo ro
    refine q_ok_at hG t105 rfl (fun a106 ma106 ra106 ea106 => ?_)
    obtain ⟨v107, ev107⟩ := q_ev (((4 : Int32) * p0).toInt)
    have f108 : v107 = (4) * p0.toInt := q_mulVI ev107 (show q_eqv ((4 : Int32)).toInt (4) by unfold q_eqv; decide) q_evr (by omega) (by omega)
    refine q_ok_if (q_inV (g_70_N hG ma106 ra106) ev107 (by omega) (by omega)) ?_
    have hG := u_70_E (k := ((4 : Int32) * p0).toNatClampNeg) (x := (16384 : Int32)) hG ma106 ra106 (by decide) (q_wd (show (16384 : Int) ≤ (16384 : Int32).toInt ∧ (16384 : Int32).toInt ≤ (16384 : Int) by decide) (by decide) (by decide))
    have n109 : q_ef (S) (q_sI (q_sI (S91) a11 (p0).toNatClampNeg (r90)) a106 ((4 : Int32) * p0).toNatClampNeg ((16384 : Int32))) a3 a5 a7 a9 a11 _ := q_efI ra106 ra3 ra5 ra7 ra9 ra11 (by decide) (by decide) (by decide) (by decide) (by decide) n104
    refine q_ok_let (fun S110 eS110 => ?_)
    rw [← eS110] at hG
    have n111 := q_efL eS110 n109
    have t112 := g_45_R35 hG mo ro
    have e113 : q_R (S110) o 35 = q_R (q_sI (S91) a11 (p0).toNatClampNeg (r90)) o 35 := (Eq.trans (q_leR eS110) q_skRI)
    refine q_ok_atA hG (Eq.trans e113 ea106) ma106 ra106 rfl ?_
    obtain ⟨v114, ev114⟩ := q_ev ((((4 : Int32) * p0) + (1 : Int32)).toInt)
    have f115 : v114 = v107 + (1) := q_addVI ev114 ev107 (show q_eqv ((1 : Int32)).toInt (1) by unfold q_eqv; decide) (by omega) (by omega)
    refine q_ok_if (q_inV (g_70_N hG ma106 ra106) ev114 (by omega) (by omega)) ?_
    have hG := u_70_E (k := (((4 : Int32) * p0) + (1 : Int32)).toNatClampNeg) (x := (0 : Int32)) hG ma106 ra106 (by decide) (q_wd (show (0 : Int) ≤ (0 : Int32).toInt ∧ (0 : Int32).toInt ≤ (0 : Int) by decide) (by decide) (by decide))
    have n116 : q_ef (S) (q_sI (S110) a106 (((4 : Int32) * p0) + (1 : Int32)).toNatClampNeg ((0 : Int32))) a3 a5 a7 a9 a11 _ := q_efI ra106 ra3 ra5 ra7 ra9 ra11 (by decide) (by decide) (by decide) (by decide) (by decide) n111
    have t117 := g_45_R35 hG mo ro
    have e118 : q_R (q_sI (S110) a106 (((4 : Int32) * p0) + (1 : Int32)).toNatClampNeg ((0 : Int32))) o 35 = q_R (S110) o 35 := q_skRI
    refine q_ok_atA hG (Eq.trans e118 (Eq.trans e113 ea106)) ma106 ra106 rfl ?_
    obtain ⟨v119, ev119⟩ := q_ev ((((4 : Int32) * p0) + (2 : Int32)).toInt)
    have f120 : v119 = v107 + (2) := q_addVI ev119 ev107 (show q_eqv ((2 : Int32)).toInt (2) by unfold q_eqv; decide) (by omega) (by omega)
    refine q_ok_if (q_inV (g_70_N hG ma106 ra106) ev119 (by omega) (by omega)) ?_
    have hG := u_70_E (k := (((4 : Int32) * p0) + (2 : Int32)).toNatClampNeg) (x := (0 : Int32)) hG ma106 ra106 (by decide) (q_wd (show (0 : Int) ≤ (0 : Int32).toInt ∧ (0 : Int32).toInt ≤ (0 : Int) by decide) (by decide) (by decide))
    have n121 : q_ef (S) (q_sI (q_sI (S110) a106 (((4 : Int32) * p0) + (1 : Int32)).toNatClampNeg ((0 : Int32))) a106 (((4 : Int32) * p0) + (2 : Int32)).toNatClampNeg ((0 : Int32))) a3 a5 a7 a9 a11 _ := q_efI ra106 ra3 ra5 ra7 ra9 ra11 (by decide) (by decide) (by decide) (by decide) (by decide) n116
    refine q_ok_let (fun S122 eS122 => ?_)
    rw [← eS122] at hG
    have n123 := q_efL eS122 n121
    have t124 := g_45_R35 hG mo ro
    have e125 : q_R (S122) o 35 = q_R (q_sI (S110) a106 (((4 : Int32) * p0) + (1 : Int32)).toNatClampNeg ((0 : Int32))) o 35 := (Eq.trans (q_leR eS122) q_skRI)
    refine q_ok_atA hG (Eq.trans e125 (Eq.trans e118 (Eq.trans e113 ea106))) ma106 ra106 rfl ?_
    obtain ⟨v126, ev126⟩ := q_ev ((((4 : Int32) * p0) + (3 : Int32)).toInt)
    have f127 : v126 = v107 + (3) := q_addVI ev126 ev107 (show q_eqv ((3 : Int32)).toInt (3) by unfold q_eqv; decide) (by omega) (by omega)
    refine q_ok_if (q_inV (g_70_N hG ma106 ra106) ev126 (by omega) (by omega)) ?_
    have hG := u_70_E (k := (((4 : Int32) * p0) + (3 : Int32)).toNatClampNeg) (x := (16384 : Int32)) hG ma106 ra106 (by decide) (q_wd (show (16384 : Int) ≤ (16384 : Int32).toInt ∧ (16384 : Int32).toInt ≤ (16384 : Int) by decide) (by decide) (by decide))
    have n128 : q_ef (S) (q_sI (S122) a106 (((4 : Int32) * p0) + (3 : Int32)).toNatClampNeg ((16384 : Int32))) a3 a5 a7 a9 a11 _ := q_efI ra106 ra3 ra5 ra7 ra9 ra11 (by decide) (by decide) (by decide) (by decide) (by decide) n123
    obtain ⟨v129, ev129⟩ := q_ev ((r14 &&& (8 : Int32)).toInt)
    have f130 := q_andRVI ev129 (show q_eqv ((8 : Int32)).toInt (8) by unfold q_eqv; decide) (by omega)
    refine q_ok_ite (fun g131 => ?_) (fun g131 => ?_)
    · have f132 := q_eqV ev129 (show q_eqv ((0 : Int32)).toInt (0) by unfold q_eqv; decide) (q_p_eq g131)
      obtain ⟨v133, ev133⟩ := q_ev ((r14 &&& (64 : Int32)).toInt)
      have f134 := q_andRVI ev133 (show q_eqv ((64 : Int32)).toInt (64) by unfold q_eqv; decide) (by omega)
      refine q_ok_ite (fun g135 => ?_) (fun g135 => ?_)
      · have f136 := q_eqV ev133 (show q_eqv ((0 : Int32)).toInt (0) by unfold q_eqv; decide) (q_p_eq g135)
        obtain ⟨v137, ev137⟩ := q_ev ((r14 &&& (128 : Int32)).toInt)
        have f138 := q_andRVI ev137 (show q_eqv ((128 : Int32)).toInt (128) by unfold q_eqv; decide) (by omega)
        refine q_ok_ite (fun g139 => ?_) (fun g139 => ?_)
        · have f140 := q_eqV ev137 (show q_eqv ((0 : Int32)).toInt (0) by unfold q_eqv; decide) (q_p_eq g139)
          unfold m_X12_readPart_284
          have f141 : q_sm _ := g_45_I8 hG mo ro
          have e142 : q_I (q_sI (S122) a106 (((4 : Int32) * p0) + (3 : Int32)).toNatClampNeg ((16384 : Int32))) o 8 = q_I (S91) o 8 := (Eq.trans (q_fwI ro ra106 (by decide)) (Eq.trans (q_leI eS122) (Eq.trans (q_fwI ro ra106 (by decide)) (Eq.trans (q_fwI ro ra106 (by decide)) (Eq.trans (q_leI eS110) (Eq.trans (q_fwI ro ra106 (by decide)) (q_fwI ro ra11 (by decide))))))))
          obtain ⟨v143, ev143⟩ := q_ev ((q_I (q_sI (S122) a106 (((4 : Int32) * p0) + (3 : Int32)).toNatClampNeg ((16384 : Int32))) o 8).toInt)
          have f144 : v143 = v98 := q_eqVI e142 ev143 ev98
          have t145 := g_45_R32 hG mo ro
          have e146 : q_R (q_sI (S122) a106 (((4 : Int32) * p0) + (3 : Int32)).toNatClampNeg ((16384 : Int32))) o 32 = q_R (q_sI (S37) a60 (p0).toNatClampNeg (r36)) o 32 := (Eq.trans q_skRI (Eq.trans (q_leR eS122) (Eq.trans q_skRI (Eq.trans q_skRI (Eq.trans (q_leR eS110) (Eq.trans q_skRI (Eq.trans q_skRI (Eq.trans (q_unR h92.1 mo ro (by decide)) (Eq.trans q_skRI (Eq.trans (q_unR h73.1 mo ro (by decide)) q_skRI))))))))))
          have f147 : q_sm _ := g_67_E hG ma7 ra7 (k := (p0).toNatClampNeg)
          have e148 : q_I (q_sI (S122) a106 (((4 : Int32) * p0) + (3 : Int32)).toNatClampNeg ((16384 : Int32))) a7 (p0).toNatClampNeg = r14 := (Eq.trans (q_fwI ra7 ra106 (by decide)) (Eq.trans (q_leI eS122) (Eq.trans (q_fwI ra7 ra106 (by decide)) (Eq.trans (q_fwI ra7 ra106 (by decide)) (Eq.trans (q_leI eS110) (Eq.trans (q_fwI ra7 ra106 (by decide)) (Eq.trans (q_fwI ra7 ra11 (by decide)) (Eq.trans (q_unIA h92.1 ma7 ra7 (by decide) (by decide)) (Eq.trans (q_fwI ra7 ra9 (by decide)) (Eq.trans (q_unIA h73.1 ma7 ra7 (by decide) (by decide)) q_hitI))))))))))
          have e149 : q_fE (q_sI (S122) a106 (((4 : Int32) * p0) + (3 : Int32)).toNatClampNeg ((16384 : Int32))) o 32 ((p0 : Int32)).toNatClampNeg = q_I (q_sI (S122) a106 (((4 : Int32) * p0) + (3 : Int32)).toNatClampNeg ((16384 : Int32))) a7 (p0).toNatClampNeg := q_fEe (Eq.trans e146 (Eq.trans e67 ea7))
          have e150 : (q_fE (q_sI (S122) a106 (((4 : Int32) * p0) + (3 : Int32)).toNatClampNeg ((16384 : Int32))) o 32 ((p0 : Int32)).toNatClampNeg) &&& (2 : Int32) = r14 &&& (2 : Int32) := congrArg (fun z : Int32 => z &&& (2 : Int32)) (Eq.trans e149 e148)
          have t151 := g_45_R33 hG mo ro
          have e152 : q_R (q_sI (S122) a106 (((4 : Int32) * p0) + (3 : Int32)).toNatClampNeg ((16384 : Int32))) o 33 = q_R (q_sI (q_sI (S37) a60 (p0).toNatClampNeg (r36)) a7 (p0).toNatClampNeg (r14)) o 33 := (Eq.trans q_skRI (Eq.trans (q_leR eS122) (Eq.trans q_skRI (Eq.trans q_skRI (Eq.trans (q_leR eS110) (Eq.trans q_skRI (Eq.trans q_skRI (Eq.trans (q_unR h92.1 mo ro (by decide)) (Eq.trans q_skRI (q_unR h73.1 mo ro (by decide)))))))))))
          have f153 : q_sm _ := g_68_E hG ma9 ra9 (k := (p0).toNatClampNeg)
          have e154 : q_I (q_sI (S122) a106 (((4 : Int32) * p0) + (3 : Int32)).toNatClampNeg ((16384 : Int32))) a9 (p0).toNatClampNeg = r71 := (Eq.trans (q_fwI ra9 ra106 (by decide)) (Eq.trans (q_leI eS122) (Eq.trans (q_fwI ra9 ra106 (by decide)) (Eq.trans (q_fwI ra9 ra106 (by decide)) (Eq.trans (q_leI eS110) (Eq.trans (q_fwI ra9 ra106 (by decide)) (Eq.trans (q_fwI ra9 ra11 (by decide)) (Eq.trans (q_unIA h92.1 ma9 ra9 (by decide) (by decide)) q_hitI))))))))
          have e155 : q_fE (q_sI (S122) a106 (((4 : Int32) * p0) + (3 : Int32)).toNatClampNeg ((16384 : Int32))) o 33 ((p0 : Int32)).toNatClampNeg = q_I (q_sI (S122) a106 (((4 : Int32) * p0) + (3 : Int32)).toNatClampNeg ((16384 : Int32))) a9 (p0).toNatClampNeg := q_fEe (Eq.trans e152 (Eq.trans e70 ea9))
          have t156 := g_45_R34 hG mo ro
          have e157 : q_R (q_sI (S122) a106 (((4 : Int32) * p0) + (3 : Int32)).toNatClampNeg ((16384 : Int32))) o 34 = q_R (q_sI (S72) a9 (p0).toNatClampNeg (r71)) o 34 := (Eq.trans q_skRI (Eq.trans (q_leR eS122) (Eq.trans q_skRI (Eq.trans q_skRI (Eq.trans (q_leR eS110) (Eq.trans q_skRI (Eq.trans q_skRI (q_unR h92.1 mo ro (by decide)))))))))
          have f158 : q_sm _ := g_69_E hG ma11 ra11 (k := (p0).toNatClampNeg)
          have e159 : q_I (q_sI (S122) a106 (((4 : Int32) * p0) + (3 : Int32)).toNatClampNeg ((16384 : Int32))) a11 (p0).toNatClampNeg = r90 := (Eq.trans (q_fwI ra11 ra106 (by decide)) (Eq.trans (q_leI eS122) (Eq.trans (q_fwI ra11 ra106 (by decide)) (Eq.trans (q_fwI ra11 ra106 (by decide)) (Eq.trans (q_leI eS110) (Eq.trans (q_fwI ra11 ra106 (by decide)) q_hitI))))))
          have e160 : q_fE (q_sI (S122) a106 (((4 : Int32) * p0) + (3 : Int32)).toNatClampNeg ((16384 : Int32))) o 34 ((p0 : Int32)).toNatClampNeg = q_I (q_sI (S122) a106 (((4 : Int32) * p0) + (3 : Int32)).toNatClampNeg ((16384 : Int32))) a11 (p0).toNatClampNeg := q_fEe (Eq.trans e157 (Eq.trans e89 ea11))
          obtain ⟨v161, ev161⟩ := q_ev (((q_fE (q_sI (S122) a106 (((4 : Int32) * p0) + (3 : Int32)).toNatClampNeg ((16384 : Int32))) o 32 ((p0 : Int32)).toNatClampNeg) &&& (2 : Int32)).toInt)
          have f162 : v161 = v84 := q_eqVI e150 ev161 ev84
          obtain ⟨v163, ev163⟩ := q_ev ((q_fE (q_sI (S122) a106 (((4 : Int32) * p0) + (3 : Int32)).toNatClampNeg ((16384 : Int32))) o 33 ((p0 : Int32)).toNatClampNeg).toInt)
          obtain ⟨v164, ev164⟩ := q_ev ((q_I (q_sI (S122) a106 (((4 : Int32) * p0) + (3 : Int32)).toNatClampNeg ((16384 : Int32))) a9 (p0).toNatClampNeg).toInt)
          have f165 : v164 = r71.toInt := q_eqVI e154 ev164 q_evr
          have f166 : v163 = v164 := q_eqVI e155 ev163 ev164
          obtain ⟨v167, ev167⟩ := q_ev ((q_fE (q_sI (S122) a106 (((4 : Int32) * p0) + (3 : Int32)).toNatClampNeg ((16384 : Int32))) o 34 ((p0 : Int32)).toNatClampNeg).toInt)
          obtain ⟨v168, ev168⟩ := q_ev ((q_I (q_sI (S122) a106 (((4 : Int32) * p0) + (3 : Int32)).toNatClampNeg ((16384 : Int32))) a11 (p0).toNatClampNeg).toInt)
          have f169 : v168 = r90.toInt := q_eqVI e159 ev168 q_evr
          have f170 : v167 = v168 := q_eqVI e160 ev167 ev168
          have t171 := g_45_R26 hG mo ro
          have e172 : q_R (q_sI (S122) a106 (((4 : Int32) * p0) + (3 : Int32)).toNatClampNeg ((16384 : Int32))) o 26 = q_R (S) o 26 := (Eq.trans q_skRI (Eq.trans (q_leR eS122) (Eq.trans q_skRI (Eq.trans q_skRI (Eq.trans (q_leR eS110) (Eq.trans q_skRI (Eq.trans q_skRI (Eq.trans (q_unR h92.1 mo ro (by decide)) (Eq.trans q_skRI (Eq.trans (q_unR h73.1 mo ro (by decide)) (Eq.trans q_skRI (Eq.trans q_skRI (Eq.trans (q_unR h38.1 mo ro (by decide)) (q_unR h16.1 mo ro (by decide)))))))))))))))
          have t173 := g_45_R29 hG mo ro
          have e174 : q_R (q_sI (S122) a106 (((4 : Int32) * p0) + (3 : Int32)).toNatClampNeg ((16384 : Int32))) o 29 = q_R (S) o 29 := (Eq.trans q_skRI (Eq.trans (q_leR eS122) (Eq.trans q_skRI (Eq.trans q_skRI (Eq.trans (q_leR eS110) (Eq.trans q_skRI (Eq.trans q_skRI (Eq.trans (q_unR h92.1 mo ro (by decide)) (Eq.trans q_skRI (Eq.trans (q_unR h73.1 mo ro (by decide)) (Eq.trans q_skRI (Eq.trans q_skRI (Eq.trans (q_unR h38.1 mo ro (by decide)) (q_unR h16.1 mo ro (by decide)))))))))))))))
          have t175 := g_45_R32 hG mo ro
          have t176 := g_45_R33 hG mo ro
          have t177 := g_45_R34 hG mo ro
          obtain ⟨v178, ev178⟩ := q_ev ((((p1 + (4)) + ((2 : Int32) * (1 : Int32))) - p1).toInt)
          obtain ⟨v179, ev179⟩ := q_ev (((p1 + (4)) + ((2 : Int32) * (1 : Int32))).toInt)
          obtain ⟨v180, ev180⟩ := q_ev ((p1 + (4)).toInt)
          have f181 : v180 = p1.toInt + (4) := q_addVI ev180 q_evr (show q_eqv ((4 : Int32)).toInt (4) by unfold q_eqv; decide) (by omega) (by omega)
          obtain ⟨v182, ev182⟩ := q_ev (((2 : Int32) * (1 : Int32)).toInt)
          have f183 : v182 = (2) * (1) := q_mulVI ev182 (show q_eqv ((2 : Int32)).toInt (2) by unfold q_eqv; decide) (show q_eqv ((1 : Int32)).toInt (1) by unfold q_eqv; decide) (by omega) (by omega)
          have f184 : v179 = v180 + v182 := q_addVI ev179 ev180 ev182 (by omega) (by omega)
          have f185 : v178 = v179 - p1.toInt := q_subVI ev178 ev179 q_evr (by omega) (by omega)
          exact q_ok_some ⟨hG, (q_oV ev178 (by omega) (by omega)), (q_smI ⟨(q_bw2 (fun x0 x1 => x0 = 0 → x1 = 0) ev143 ev22 (by omega)), (q_bw2 (fun x0 x1 => x0 = 0 → x1 ≤ 1601) ev143 q_evr (by omega)), (q_bw3 (fun x0 x1 x2 => x0 = 0 → 0 ≤ x1 ∧ 0 ≤ x2) ev161 ev163 ev167 (by omega)), (q_efxI (Eq.trans e172 ea3) (Eq.trans e174 ea5) (Eq.trans e146 (Eq.trans e67 ea7)) (Eq.trans e152 (Eq.trans e70 ea9)) (Eq.trans e157 (Eq.trans e89 ea11)) n128)⟩)⟩
        · have f186 := q_neV ev137 (show q_eqv ((0 : Int32)).toInt (0) by unfold q_eqv; decide) (q_n_eq g139)
          obtain ⟨v187, ev187⟩ := q_ev (((p1 + (4)) + ((2 : Int32) * (1 : Int32))).toInt)
          obtain ⟨v188, ev188⟩ := q_ev ((p1 + (4)).toInt)
          have f189 : v188 = p1.toInt + (4) := q_addVI ev188 q_evr (show q_eqv ((4 : Int32)).toInt (4) by unfold q_eqv; decide) (by omega) (by omega)
          obtain ⟨v190, ev190⟩ := q_ev (((2 : Int32) * (1 : Int32)).toInt)
          have f191 : v190 = (2) * (1) := q_mulVI ev190 (show q_eqv ((2 : Int32)).toInt (2) by unfold q_eqv; decide) (show q_eqv ((1 : Int32)).toInt (1) by unfold q_eqv; decide) (by omega) (by omega)
          have f192 : v187 = v188 + v190 := q_addVI ev187 ev188 ev190 (by omega) (by omega)
          have f193 : q_sm _ := g_45_I8 hG mo ro
          have e194 : q_I (q_sI (S122) a106 (((4 : Int32) * p0) + (3 : Int32)).toNatClampNeg ((16384 : Int32))) o 8 = q_I (S91) o 8 := (Eq.trans (q_fwI ro ra106 (by decide)) (Eq.trans (q_leI eS122) (Eq.trans (q_fwI ro ra106 (by decide)) (Eq.trans (q_fwI ro ra106 (by decide)) (Eq.trans (q_leI eS110) (Eq.trans (q_fwI ro ra106 (by decide)) (q_fwI ro ra11 (by decide))))))))
          obtain ⟨v195, ev195⟩ := q_ev ((q_I (q_sI (S122) a106 (((4 : Int32) * p0) + (3 : Int32)).toNatClampNeg ((16384 : Int32))) o 8).toInt)
          have f196 : v195 = v98 := q_eqVI e194 ev195 ev98
          have t197 := g_45_R32 hG mo ro
          have e198 : q_R (q_sI (S122) a106 (((4 : Int32) * p0) + (3 : Int32)).toNatClampNeg ((16384 : Int32))) o 32 = q_R (q_sI (S37) a60 (p0).toNatClampNeg (r36)) o 32 := (Eq.trans q_skRI (Eq.trans (q_leR eS122) (Eq.trans q_skRI (Eq.trans q_skRI (Eq.trans (q_leR eS110) (Eq.trans q_skRI (Eq.trans q_skRI (Eq.trans (q_unR h92.1 mo ro (by decide)) (Eq.trans q_skRI (Eq.trans (q_unR h73.1 mo ro (by decide)) q_skRI))))))))))
          have f199 : q_sm _ := g_67_E hG ma7 ra7 (k := (p0).toNatClampNeg)
          have e200 : q_I (q_sI (S122) a106 (((4 : Int32) * p0) + (3 : Int32)).toNatClampNeg ((16384 : Int32))) a7 (p0).toNatClampNeg = r14 := (Eq.trans (q_fwI ra7 ra106 (by decide)) (Eq.trans (q_leI eS122) (Eq.trans (q_fwI ra7 ra106 (by decide)) (Eq.trans (q_fwI ra7 ra106 (by decide)) (Eq.trans (q_leI eS110) (Eq.trans (q_fwI ra7 ra106 (by decide)) (Eq.trans (q_fwI ra7 ra11 (by decide)) (Eq.trans (q_unIA h92.1 ma7 ra7 (by decide) (by decide)) (Eq.trans (q_fwI ra7 ra9 (by decide)) (Eq.trans (q_unIA h73.1 ma7 ra7 (by decide) (by decide)) q_hitI))))))))))
          have e201 : q_fE (q_sI (S122) a106 (((4 : Int32) * p0) + (3 : Int32)).toNatClampNeg ((16384 : Int32))) o 32 ((p0 : Int32)).toNatClampNeg = q_I (q_sI (S122) a106 (((4 : Int32) * p0) + (3 : Int32)).toNatClampNeg ((16384 : Int32))) a7 (p0).toNatClampNeg := q_fEe (Eq.trans e198 (Eq.trans e67 ea7))
          have e202 : (q_fE (q_sI (S122) a106 (((4 : Int32) * p0) + (3 : Int32)).toNatClampNeg ((16384 : Int32))) o 32 ((p0 : Int32)).toNatClampNeg) &&& (2 : Int32) = r14 &&& (2 : Int32) := congrArg (fun z : Int32 => z &&& (2 : Int32)) (Eq.trans e201 e200)
          have t203 := g_45_R33 hG mo ro
          have e204 : q_R (q_sI (S122) a106 (((4 : Int32) * p0) + (3 : Int32)).toNatClampNeg ((16384 : Int32))) o 33 = q_R (q_sI (q_sI (S37) a60 (p0).toNatClampNeg (r36)) a7 (p0).toNatClampNeg (r14)) o 33 := (Eq.trans q_skRI (Eq.trans (q_leR eS122) (Eq.trans q_skRI (Eq.trans q_skRI (Eq.trans (q_leR eS110) (Eq.trans q_skRI (Eq.trans q_skRI (Eq.trans (q_unR h92.1 mo ro (by decide)) (Eq.trans q_skRI (q_unR h73.1 mo ro (by decide)))))))))))
          have f205 : q_sm _ := g_68_E hG ma9 ra9 (k := (p0).toNatClampNeg)
          have e206 : q_I (q_sI (S122) a106 (((4 : Int32) * p0) + (3 : Int32)).toNatClampNeg ((16384 : Int32))) a9 (p0).toNatClampNeg = r71 := (Eq.trans (q_fwI ra9 ra106 (by decide)) (Eq.trans (q_leI eS122) (Eq.trans (q_fwI ra9 ra106 (by decide)) (Eq.trans (q_fwI ra9 ra106 (by decide)) (Eq.trans (q_leI eS110) (Eq.trans (q_fwI ra9 ra106 (by decide)) (Eq.trans (q_fwI ra9 ra11 (by decide)) (Eq.trans (q_unIA h92.1 ma9 ra9 (by decide) (by decide)) q_hitI))))))))
          have e207 : q_fE (q_sI (S122) a106 (((4 : Int32) * p0) + (3 : Int32)).toNatClampNeg ((16384 : Int32))) o 33 ((p0 : Int32)).toNatClampNeg = q_I (q_sI (S122) a106 (((4 : Int32) * p0) + (3 : Int32)).toNatClampNeg ((16384 : Int32))) a9 (p0).toNatClampNeg := q_fEe (Eq.trans e204 (Eq.trans e70 ea9))
          have t208 := g_45_R34 hG mo ro
          have e209 : q_R (q_sI (S122) a106 (((4 : Int32) * p0) + (3 : Int32)).toNatClampNeg ((16384 : Int32))) o 34 = q_R (q_sI (S72) a9 (p0).toNatClampNeg (r71)) o 34 := (Eq.trans q_skRI (Eq.trans (q_leR eS122) (Eq.trans q_skRI (Eq.trans q_skRI (Eq.trans (q_leR eS110) (Eq.trans q_skRI (Eq.trans q_skRI (q_unR h92.1 mo ro (by decide)))))))))
          have f210 : q_sm _ := g_69_E hG ma11 ra11 (k := (p0).toNatClampNeg)
          have e211 : q_I (q_sI (S122) a106 (((4 : Int32) * p0) + (3 : Int32)).toNatClampNeg ((16384 : Int32))) a11 (p0).toNatClampNeg = r90 := (Eq.trans (q_fwI ra11 ra106 (by decide)) (Eq.trans (q_leI eS122) (Eq.trans (q_fwI ra11 ra106 (by decide)) (Eq.trans (q_fwI ra11 ra106 (by decide)) (Eq.trans (q_leI eS110) (Eq.trans (q_fwI ra11 ra106 (by decide)) q_hitI))))))
          have e212 : q_fE (q_sI (S122) a106 (((4 : Int32) * p0) + (3 : Int32)).toNatClampNeg ((16384 : Int32))) o 34 ((p0 : Int32)).toNatClampNeg = q_I (q_sI (S122) a106 (((4 : Int32) * p0) + (3 : Int32)).toNatClampNeg ((16384 : Int32))) a11 (p0).toNatClampNeg := q_fEe (Eq.trans e209 (Eq.trans e89 ea11))
          obtain ⟨v213, ev213⟩ := q_ev (((q_fE (q_sI (S122) a106 (((4 : Int32) * p0) + (3 : Int32)).toNatClampNeg ((16384 : Int32))) o 32 ((p0 : Int32)).toNatClampNeg) &&& (2 : Int32)).toInt)
          have f214 : v213 = v84 := q_eqVI e202 ev213 ev84
          obtain ⟨v215, ev215⟩ := q_ev ((q_fE (q_sI (S122) a106 (((4 : Int32) * p0) + (3 : Int32)).toNatClampNeg ((16384 : Int32))) o 33 ((p0 : Int32)).toNatClampNeg).toInt)
          obtain ⟨v216, ev216⟩ := q_ev ((q_I (q_sI (S122) a106 (((4 : Int32) * p0) + (3 : Int32)).toNatClampNeg ((16384 : Int32))) a9 (p0).toNatClampNeg).toInt)
          have f217 : v216 = r71.toInt := q_eqVI e206 ev216 q_evr
          have f218 : v215 = v216 := q_eqVI e207 ev215 ev216
          obtain ⟨v219, ev219⟩ := q_ev ((q_fE (q_sI (S122) a106 (((4 : Int32) * p0) + (3 : Int32)).toNatClampNeg ((16384 : Int32))) o 34 ((p0 : Int32)).toNatClampNeg).toInt)
          obtain ⟨v220, ev220⟩ := q_ev ((q_I (q_sI (S122) a106 (((4 : Int32) * p0) + (3 : Int32)).toNatClampNeg ((16384 : Int32))) a11 (p0).toNatClampNeg).toInt)
          have f221 : v220 = r90.toInt := q_eqVI e211 ev220 q_evr
          have f222 : v219 = v220 := q_eqVI e212 ev219 ev220
          have t223 := g_45_R26 hG mo ro
          have e224 : q_R (q_sI (S122) a106 (((4 : Int32) * p0) + (3 : Int32)).toNatClampNeg ((16384 : Int32))) o 26 = q_R (S) o 26 := (Eq.trans q_skRI (Eq.trans (q_leR eS122) (Eq.trans q_skRI (Eq.trans q_skRI (Eq.trans (q_leR eS110) (Eq.trans q_skRI (Eq.trans q_skRI (Eq.trans (q_unR h92.1 mo ro (by decide)) (Eq.trans q_skRI (Eq.trans (q_unR h73.1 mo ro (by decide)) (Eq.trans q_skRI (Eq.trans q_skRI (Eq.trans (q_unR h38.1 mo ro (by decide)) (q_unR h16.1 mo ro (by decide)))))))))))))))
          have t225 := g_45_R29 hG mo ro
          have e226 : q_R (q_sI (S122) a106 (((4 : Int32) * p0) + (3 : Int32)).toNatClampNeg ((16384 : Int32))) o 29 = q_R (S) o 29 := (Eq.trans q_skRI (Eq.trans (q_leR eS122) (Eq.trans q_skRI (Eq.trans q_skRI (Eq.trans (q_leR eS110) (Eq.trans q_skRI (Eq.trans q_skRI (Eq.trans (q_unR h92.1 mo ro (by decide)) (Eq.trans q_skRI (Eq.trans (q_unR h73.1 mo ro (by decide)) (Eq.trans q_skRI (Eq.trans q_skRI (Eq.trans (q_unR h38.1 mo ro (by decide)) (q_unR h16.1 mo ro (by decide)))))))))))))))
          have t227 := g_45_R32 hG mo ro
          have t228 := g_45_R33 hG mo ro
          have t229 := g_45_R34 hG mo ro
          exact s_X12_readPart_45_244 hn mo ro (p0 := p0) (p1 := p1) n _ _ _ _ _ hG (q_wd hp0 (by decide) (by decide)) (q_wd hp1 (by decide) (by decide)) (q_oV ev187 (by omega) (by omega)) (q_wd (show (0 : Int) ≤ (0 : Int32).toInt ∧ (0 : Int32).toInt ≤ (0 : Int) by decide) (by decide) (by decide)) (q_bw2 (fun x0 x1 => x0 = 0 → x1 = 0) ev195 ev22 (by omega)) (q_bw2 (fun x0 x1 => x0 = 0 → x1 ≤ 1601) ev195 q_evr (by omega)) (q_bw2 (fun x0 x1 => x0 = x1 + 4 + 0 ∨ x0 = x1 + 6 ∨ x0 = x1 + 8) ev187 q_evr (by omega)) (q_bw2 (fun x0 x1 => x0 = x1) q_evr q_evr (by omega)) (q_bw3 (fun x0 x1 x2 => x0 = 0 → 0 ≤ x1 ∧ 0 ≤ x2) ev213 ev215 ev219 (by omega)) (q_efxI (Eq.trans e224 ea3) (Eq.trans e226 ea5) (Eq.trans e198 (Eq.trans e67 ea7)) (Eq.trans e204 (Eq.trans e70 ea9)) (Eq.trans e209 (Eq.trans e89 ea11)) n128)  (q_upV (show q_eqv ((0 : Int32)).toInt (0) by unfold q_eqv; decide) (by omega))
      · have f230 := q_neV ev133 (show q_eqv ((0 : Int32)).toInt (0) by unfold q_eqv; decide) (q_n_eq g135)
        have t231 := g_45_R35 hG mo ro
        have e232 : q_R (q_sI (S122) a106 (((4 : Int32) * p0) + (3 : Int32)).toNatClampNeg ((16384 : Int32))) o 35 = q_R (S122) o 35 := q_skRI
        have f236 : q_sm _ := g_45_I8 hG mo ro
        have e237 : q_I (q_sI (S122) a106 (((4 : Int32) * p0) + (3 : Int32)).toNatClampNeg ((16384 : Int32))) o 8 = q_I (S91) o 8 := (Eq.trans (q_fwI ro ra106 (by decide)) (Eq.trans (q_leI eS122) (Eq.trans (q_fwI ro ra106 (by decide)) (Eq.trans (q_fwI ro ra106 (by decide)) (Eq.trans (q_leI eS110) (Eq.trans (q_fwI ro ra106 (by decide)) (q_fwI ro ra11 (by decide))))))))
        obtain ⟨v238, ev238⟩ := q_ev (((p1 + (4)) + ((2 : Int32) * (1 : Int32))).toInt)
        obtain ⟨v239, ev239⟩ := q_ev ((p1 + (4)).toInt)
        have f240 : v239 = p1.toInt + (4) := q_addVI ev239 q_evr (show q_eqv ((4 : Int32)).toInt (4) by unfold q_eqv; decide) (by omega) (by omega)
        obtain ⟨v241, ev241⟩ := q_ev (((2 : Int32) * (1 : Int32)).toInt)
        have f242 : v241 = (2) * (1) := q_mulVI ev241 (show q_eqv ((2 : Int32)).toInt (2) by unfold q_eqv; decide) (show q_eqv ((1 : Int32)).toInt (1) by unfold q_eqv; decide) (by omega) (by omega)
        have f243 : v238 = v239 + v241 := q_addVI ev238 ev239 ev241 (by omega) (by omega)
        refine q_ok_b (s_X12_data_45_k2 hn hG.1 mo ro (q_oV ev238 (by omega) (by omega)) (q_wd (show (2 : Int) ≤ (2 : Int32).toInt ∧ (2 : Int32).toInt ≤ (2 : Int) by decide) (by decide) (by decide))) (fun r233 S234 h235 => ?_)
        have hG := q_G_call hG h235.1 (by decide)
        have f244 := h235.2.1
        have n245 := q_efU h235.1 ma3 ra3 ma5 ra5 ma7 ra7 ma9 ra9 ma11 ra11 rfl rfl rfl rfl rfl n128
        have f246 : q_sm _ := g_45_I8 hG mo ro
        obtain ⟨v247, ev247⟩ := q_ev ((q_I (S234) o 8).toInt)
        have f248 := q_bV ev247 f246
        obtain ⟨v249, ev249⟩ := q_ev ((q_I (q_sI (S122) a106 (((4 : Int32) * p0) + (3 : Int32)).toNatClampNeg ((16384 : Int32))) o 8).toInt)
        have f250 : v249 = v98 := q_eqVI e237 ev249 ev98
        have f251 : v247 = 0 → v249 = 0 := q_to2 (fun x0 x1 => x0 = 0 → x1 = 0) ev247 ev249 ((q_smE (h235.2.2)).1)
        have f252 : q_sm _ := g_45_I21 hG mo ro
        have e253 : q_I (S234) o 21 = q_I (S37) o 21 := (Eq.trans (q_unI h235.1 mo ro (by decide)) (Eq.trans (q_fwI ro ra106 (by decide)) (Eq.trans (q_leI eS122) (Eq.trans (q_fwI ro ra106 (by decide)) (Eq.trans (q_fwI ro ra106 (by decide)) (Eq.trans (q_leI eS110) (Eq.trans (q_fwI ro ra106 (by decide)) (Eq.trans (q_fwI ro ra11 (by decide)) (Eq.trans (q_unI h92.1 mo ro (by decide)) (Eq.trans (q_fwI ro ra9 (by decide)) (Eq.trans (q_unI h73.1 mo ro (by decide)) (Eq.trans (q_fwI ro ra7 (by decide)) (q_fwI ro ra60 (by decide))))))))))))))
        have f254 : q_sm _ := g_45_I22 hG mo ro
        have e255 : q_I (S234) o 22 = q_I (S37) o 22 := (Eq.trans (q_unI h235.1 mo ro (by decide)) (Eq.trans (q_fwI ro ra106 (by decide)) (Eq.trans (q_leI eS122) (Eq.trans (q_fwI ro ra106 (by decide)) (Eq.trans (q_fwI ro ra106 (by decide)) (Eq.trans (q_leI eS110) (Eq.trans (q_fwI ro ra106 (by decide)) (Eq.trans (q_fwI ro ra11 (by decide)) (Eq.trans (q_unI h92.1 mo ro (by decide)) (Eq.trans (q_fwI ro ra9 (by decide)) (Eq.trans (q_unI h73.1 mo ro (by decide)) (Eq.trans (q_fwI ro ra7 (by decide)) (q_fwI ro ra60 (by decide))))))))))))))
        obtain ⟨v256, ev256⟩ := q_ev ((q_I (S234) o 21).toInt)
        have f257 : v256 = v49 := q_eqVI e253 ev256 ev49
        obtain ⟨v258, ev258⟩ := q_ev ((q_I (S234) o 22).toInt)
        have f259 : v258 = v53 := q_eqVI e255 ev258 ev53
        have f260 : v247 = 0 → v256 + v238 + (2) ≤ v258 := q_to5 (fun x0 x1 x2 x3 x4 => x0 = 0 → x1 + x2 + x3 ≤ x4) ev247 ev256 ev238 (show q_eqv ((2 : Int32)).toInt (2) by unfold q_eqv; decide) ev258 ((q_smE (h235.2.2)).2.1)
        have e261 : q_fd (S234) o ((1735162214 : Int64)) = q_fd (S37) o ((1735162214 : Int64)) := (Eq.trans (q_fdU h235.1 mo ro (by decide) (by decide) (by decide)) (Eq.trans (q_fdI ro ra106 (by decide)) (Eq.trans (q_fdL eS122) (Eq.trans (q_fdI ro ra106 (by decide)) (Eq.trans (q_fdI ro ra106 (by decide)) (Eq.trans (q_fdL eS110) (Eq.trans (q_fdI ro ra106 (by decide)) (Eq.trans (q_fdI ro ra11 (by decide)) (Eq.trans (q_fdU h92.1 mo ro (by decide) (by decide) (by decide)) (Eq.trans (q_fdI ro ra9 (by decide)) (Eq.trans (q_fdU h73.1 mo ro (by decide) (by decide) (by decide)) (Eq.trans (q_fdI ro ra7 (by decide)) (q_fdI ro ra60 (by decide))))))))))))))
        obtain ⟨v262, ev262⟩ := q_ev ((q_fd (S234) o ((1735162214 : Int64))).toInt)
        have f263 : v262 = v57 := q_eqVI e261 ev262 ev57
        have f264 : v247 = 0 → 0 ≤ v262 := q_to2 (fun x0 x1 => x0 = 0 → 0 ≤ x1) ev247 ev262 ((q_smE (h235.2.2)).2.2)
        refine q_ok_b (s_X12_signed hn hG.1 (q_wd f244 (by decide) (by decide))) (fun r265 S266 h267 => ?_)
        obtain ⟨eS266, h267⟩ := h267
        replace eS266 := eS266.symm
        subst eS266
        have f268 := h267
        refine q_ok_atA hG (Eq.trans e232 (Eq.trans e125 (Eq.trans e118 (Eq.trans e113 ea106)))) ma106 ra106 rfl ?_
        refine q_ok_if (q_inV (g_70_N hG ma106 ra106) ev107 (by omega) (by omega)) ?_
        have hG := u_70_E (k := ((4 : Int32) * p0).toNatClampNeg) (x := r265) hG ma106 ra106 (by decide) (q_wd f268 (by decide) (by decide))
        have n269 : q_ef (S) (q_sI (S234) a106 ((4 : Int32) * p0).toNatClampNeg (r265)) a3 a5 a7 a9 a11 _ := q_efI ra106 ra3 ra5 ra7 ra9 ra11 (by decide) (by decide) (by decide) (by decide) (by decide) n245
        refine q_ok_atS hG (q_trI mo ro) rfl (fun mo ro => ?_)
        have t270 := g_45_R35 hG mo ro
        have e271 : q_R (q_sI (S234) a106 ((4 : Int32) * p0).toNatClampNeg (r265)) o 35 = q_R (q_sI (S122) a106 (((4 : Int32) * p0) + (3 : Int32)).toNatClampNeg ((16384 : Int32))) o 35 := (Eq.trans q_skRI (q_unR h235.1 mo ro (by decide)))
        have f275 : q_sm _ := g_45_I8 hG mo ro
        have e276 : q_I (q_sI (S234) a106 ((4 : Int32) * p0).toNatClampNeg (r265)) o 8 = q_I (S234) o 8 := (q_fwI ro ra106 (by decide))
        obtain ⟨v277, ev277⟩ := q_ev ((((p1 + (4)) + ((2 : Int32) * (1 : Int32))) + (2 : Int32)).toInt)
        have f278 : v277 = v238 + (2) := q_addVI ev277 ev238 (show q_eqv ((2 : Int32)).toInt (2) by unfold q_eqv; decide) (by omega) (by omega)
        refine q_ok_b (s_X12_data_45_k2 hn hG.1 mo ro (q_oV ev277 (by omega) (by omega)) (q_wd (show (2 : Int) ≤ (2 : Int32).toInt ∧ (2 : Int32).toInt ≤ (2 : Int) by decide) (by decide) (by decide))) (fun r272 S273 h274 => ?_)
        have hG := q_G_call hG h274.1 (by decide)
        have f279 := h274.2.1
        have n280 := q_efU h274.1 ma3 ra3 ma5 ra5 ma7 ra7 ma9 ra9 ma11 ra11 rfl rfl rfl rfl rfl n269
        have f281 : q_sm _ := g_45_I8 hG mo ro
        obtain ⟨v282, ev282⟩ := q_ev ((q_I (S273) o 8).toInt)
        have f283 := q_bV ev282 f281
        obtain ⟨v284, ev284⟩ := q_ev ((q_I (q_sI (S234) a106 ((4 : Int32) * p0).toNatClampNeg (r265)) o 8).toInt)
        have f285 : v284 = v247 := q_eqVI e276 ev284 ev247
        have f286 : v282 = 0 → v284 = 0 := q_to2 (fun x0 x1 => x0 = 0 → x1 = 0) ev282 ev284 ((q_smE (h274.2.2)).1)
        have f287 : q_sm _ := g_45_I21 hG mo ro
        have e288 : q_I (S273) o 21 = q_I (S234) o 21 := (Eq.trans (q_unI h274.1 mo ro (by decide)) (q_fwI ro ra106 (by decide)))
        have f289 : q_sm _ := g_45_I22 hG mo ro
        have e290 : q_I (S273) o 22 = q_I (S234) o 22 := (Eq.trans (q_unI h274.1 mo ro (by decide)) (q_fwI ro ra106 (by decide)))
        obtain ⟨v291, ev291⟩ := q_ev ((q_I (S273) o 21).toInt)
        have f292 : v291 = v256 := q_eqVI e288 ev291 ev256
        obtain ⟨v293, ev293⟩ := q_ev ((q_I (S273) o 22).toInt)
        have f294 : v293 = v258 := q_eqVI e290 ev293 ev258
        have f295 : v282 = 0 → v291 + v277 + (2) ≤ v293 := q_to5 (fun x0 x1 x2 x3 x4 => x0 = 0 → x1 + x2 + x3 ≤ x4) ev282 ev291 ev277 (show q_eqv ((2 : Int32)).toInt (2) by unfold q_eqv; decide) ev293 ((q_smE (h274.2.2)).2.1)
        have e296 : q_fd (S273) o ((1735162214 : Int64)) = q_fd (S234) o ((1735162214 : Int64)) := (Eq.trans (q_fdU h274.1 mo ro (by decide) (by decide) (by decide)) (q_fdI ro ra106 (by decide)))
        obtain ⟨v297, ev297⟩ := q_ev ((q_fd (S273) o ((1735162214 : Int64))).toInt)
        have f298 : v297 = v262 := q_eqVI e296 ev297 ev262
        have f299 : v282 = 0 → 0 ≤ v297 := q_to2 (fun x0 x1 => x0 = 0 → 0 ≤ x1) ev282 ev297 ((q_smE (h274.2.2)).2.2)
        refine q_ok_b (s_X12_signed hn hG.1 (q_wd f279 (by decide) (by decide))) (fun r300 S301 h302 => ?_)
        obtain ⟨eS301, h302⟩ := h302
        replace eS301 := eS301.symm
        subst eS301
        have f303 := h302
        refine q_ok_atA hG (Eq.trans e271 (Eq.trans e232 (Eq.trans e125 (Eq.trans e118 (Eq.trans e113 ea106))))) ma106 ra106 rfl ?_
        refine q_ok_if (q_inV (g_70_N hG ma106 ra106) ev126 (by omega) (by omega)) ?_
        have hG := u_70_E (k := (((4 : Int32) * p0) + (3 : Int32)).toNatClampNeg) (x := r300) hG ma106 ra106 (by decide) (q_wd f303 (by decide) (by decide))
        have n304 : q_ef (S) (q_sI (S273) a106 (((4 : Int32) * p0) + (3 : Int32)).toNatClampNeg (r300)) a3 a5 a7 a9 a11 _ := q_efI ra106 ra3 ra5 ra7 ra9 ra11 (by decide) (by decide) (by decide) (by decide) (by decide) n280
        unfold m_X12_readPart_284
        have f305 : q_sm _ := g_45_I8 hG mo ro
        have e306 : q_I (q_sI (S273) a106 (((4 : Int32) * p0) + (3 : Int32)).toNatClampNeg (r300)) o 8 = q_I (S273) o 8 := (q_fwI ro ra106 (by decide))
        obtain ⟨v307, ev307⟩ := q_ev ((q_I (q_sI (S273) a106 (((4 : Int32) * p0) + (3 : Int32)).toNatClampNeg (r300)) o 8).toInt)
        have f308 : v307 = v282 := q_eqVI e306 ev307 ev282
        have t309 := g_45_R32 hG mo ro
        have e310 : q_R (q_sI (S273) a106 (((4 : Int32) * p0) + (3 : Int32)).toNatClampNeg (r300)) o 32 = q_R (q_sI (S37) a60 (p0).toNatClampNeg (r36)) o 32 := (Eq.trans q_skRI (Eq.trans (q_unR h274.1 mo ro (by decide)) (Eq.trans q_skRI (Eq.trans (q_unR h235.1 mo ro (by decide)) (Eq.trans q_skRI (Eq.trans (q_leR eS122) (Eq.trans q_skRI (Eq.trans q_skRI (Eq.trans (q_leR eS110) (Eq.trans q_skRI (Eq.trans q_skRI (Eq.trans (q_unR h92.1 mo ro (by decide)) (Eq.trans q_skRI (Eq.trans (q_unR h73.1 mo ro (by decide)) q_skRI))))))))))))))
        have f311 : q_sm _ := g_67_E hG ma7 ra7 (k := (p0).toNatClampNeg)
        have e312 : q_I (q_sI (S273) a106 (((4 : Int32) * p0) + (3 : Int32)).toNatClampNeg (r300)) a7 (p0).toNatClampNeg = r14 := (Eq.trans (q_fwI ra7 ra106 (by decide)) (Eq.trans (q_unIA h274.1 ma7 ra7 (by decide) (by decide)) (Eq.trans (q_fwI ra7 ra106 (by decide)) (Eq.trans (q_unIA h235.1 ma7 ra7 (by decide) (by decide)) (Eq.trans (q_fwI ra7 ra106 (by decide)) (Eq.trans (q_leI eS122) (Eq.trans (q_fwI ra7 ra106 (by decide)) (Eq.trans (q_fwI ra7 ra106 (by decide)) (Eq.trans (q_leI eS110) (Eq.trans (q_fwI ra7 ra106 (by decide)) (Eq.trans (q_fwI ra7 ra11 (by decide)) (Eq.trans (q_unIA h92.1 ma7 ra7 (by decide) (by decide)) (Eq.trans (q_fwI ra7 ra9 (by decide)) (Eq.trans (q_unIA h73.1 ma7 ra7 (by decide) (by decide)) q_hitI))))))))))))))
        have e313 : q_fE (q_sI (S273) a106 (((4 : Int32) * p0) + (3 : Int32)).toNatClampNeg (r300)) o 32 ((p0 : Int32)).toNatClampNeg = q_I (q_sI (S273) a106 (((4 : Int32) * p0) + (3 : Int32)).toNatClampNeg (r300)) a7 (p0).toNatClampNeg := q_fEe (Eq.trans e310 (Eq.trans e67 ea7))
        have e314 : (q_fE (q_sI (S273) a106 (((4 : Int32) * p0) + (3 : Int32)).toNatClampNeg (r300)) o 32 ((p0 : Int32)).toNatClampNeg) &&& (2 : Int32) = r14 &&& (2 : Int32) := congrArg (fun z : Int32 => z &&& (2 : Int32)) (Eq.trans e313 e312)
        have t315 := g_45_R33 hG mo ro
        have e316 : q_R (q_sI (S273) a106 (((4 : Int32) * p0) + (3 : Int32)).toNatClampNeg (r300)) o 33 = q_R (q_sI (q_sI (S37) a60 (p0).toNatClampNeg (r36)) a7 (p0).toNatClampNeg (r14)) o 33 := (Eq.trans q_skRI (Eq.trans (q_unR h274.1 mo ro (by decide)) (Eq.trans q_skRI (Eq.trans (q_unR h235.1 mo ro (by decide)) (Eq.trans q_skRI (Eq.trans (q_leR eS122) (Eq.trans q_skRI (Eq.trans q_skRI (Eq.trans (q_leR eS110) (Eq.trans q_skRI (Eq.trans q_skRI (Eq.trans (q_unR h92.1 mo ro (by decide)) (Eq.trans q_skRI (q_unR h73.1 mo ro (by decide)))))))))))))))
        have f317 : q_sm _ := g_68_E hG ma9 ra9 (k := (p0).toNatClampNeg)
        have e318 : q_I (q_sI (S273) a106 (((4 : Int32) * p0) + (3 : Int32)).toNatClampNeg (r300)) a9 (p0).toNatClampNeg = r71 := (Eq.trans (q_fwI ra9 ra106 (by decide)) (Eq.trans (q_unIA h274.1 ma9 ra9 (by decide) (by decide)) (Eq.trans (q_fwI ra9 ra106 (by decide)) (Eq.trans (q_unIA h235.1 ma9 ra9 (by decide) (by decide)) (Eq.trans (q_fwI ra9 ra106 (by decide)) (Eq.trans (q_leI eS122) (Eq.trans (q_fwI ra9 ra106 (by decide)) (Eq.trans (q_fwI ra9 ra106 (by decide)) (Eq.trans (q_leI eS110) (Eq.trans (q_fwI ra9 ra106 (by decide)) (Eq.trans (q_fwI ra9 ra11 (by decide)) (Eq.trans (q_unIA h92.1 ma9 ra9 (by decide) (by decide)) q_hitI))))))))))))
        have e319 : q_fE (q_sI (S273) a106 (((4 : Int32) * p0) + (3 : Int32)).toNatClampNeg (r300)) o 33 ((p0 : Int32)).toNatClampNeg = q_I (q_sI (S273) a106 (((4 : Int32) * p0) + (3 : Int32)).toNatClampNeg (r300)) a9 (p0).toNatClampNeg := q_fEe (Eq.trans e316 (Eq.trans e70 ea9))
        have t320 := g_45_R34 hG mo ro
        have e321 : q_R (q_sI (S273) a106 (((4 : Int32) * p0) + (3 : Int32)).toNatClampNeg (r300)) o 34 = q_R (q_sI (S72) a9 (p0).toNatClampNeg (r71)) o 34 := (Eq.trans q_skRI (Eq.trans (q_unR h274.1 mo ro (by decide)) (Eq.trans q_skRI (Eq.trans (q_unR h235.1 mo ro (by decide)) (Eq.trans q_skRI (Eq.trans (q_leR eS122) (Eq.trans q_skRI (Eq.trans q_skRI (Eq.trans (q_leR eS110) (Eq.trans q_skRI (Eq.trans q_skRI (q_unR h92.1 mo ro (by decide)))))))))))))
        have f322 : q_sm _ := g_69_E hG ma11 ra11 (k := (p0).toNatClampNeg)
        have e323 : q_I (q_sI (S273) a106 (((4 : Int32) * p0) + (3 : Int32)).toNatClampNeg (r300)) a11 (p0).toNatClampNeg = r90 := (Eq.trans (q_fwI ra11 ra106 (by decide)) (Eq.trans (q_unIA h274.1 ma11 ra11 (by decide) (by decide)) (Eq.trans (q_fwI ra11 ra106 (by decide)) (Eq.trans (q_unIA h235.1 ma11 ra11 (by decide) (by decide)) (Eq.trans (q_fwI ra11 ra106 (by decide)) (Eq.trans (q_leI eS122) (Eq.trans (q_fwI ra11 ra106 (by decide)) (Eq.trans (q_fwI ra11 ra106 (by decide)) (Eq.trans (q_leI eS110) (Eq.trans (q_fwI ra11 ra106 (by decide)) q_hitI))))))))))
        have e324 : q_fE (q_sI (S273) a106 (((4 : Int32) * p0) + (3 : Int32)).toNatClampNeg (r300)) o 34 ((p0 : Int32)).toNatClampNeg = q_I (q_sI (S273) a106 (((4 : Int32) * p0) + (3 : Int32)).toNatClampNeg (r300)) a11 (p0).toNatClampNeg := q_fEe (Eq.trans e321 (Eq.trans e89 ea11))
        obtain ⟨v325, ev325⟩ := q_ev (((q_fE (q_sI (S273) a106 (((4 : Int32) * p0) + (3 : Int32)).toNatClampNeg (r300)) o 32 ((p0 : Int32)).toNatClampNeg) &&& (2 : Int32)).toInt)
        have f326 : v325 = v84 := q_eqVI e314 ev325 ev84
        obtain ⟨v327, ev327⟩ := q_ev ((q_fE (q_sI (S273) a106 (((4 : Int32) * p0) + (3 : Int32)).toNatClampNeg (r300)) o 33 ((p0 : Int32)).toNatClampNeg).toInt)
        obtain ⟨v328, ev328⟩ := q_ev ((q_I (q_sI (S273) a106 (((4 : Int32) * p0) + (3 : Int32)).toNatClampNeg (r300)) a9 (p0).toNatClampNeg).toInt)
        have f329 : v328 = r71.toInt := q_eqVI e318 ev328 q_evr
        have f330 : v327 = v328 := q_eqVI e319 ev327 ev328
        obtain ⟨v331, ev331⟩ := q_ev ((q_fE (q_sI (S273) a106 (((4 : Int32) * p0) + (3 : Int32)).toNatClampNeg (r300)) o 34 ((p0 : Int32)).toNatClampNeg).toInt)
        obtain ⟨v332, ev332⟩ := q_ev ((q_I (q_sI (S273) a106 (((4 : Int32) * p0) + (3 : Int32)).toNatClampNeg (r300)) a11 (p0).toNatClampNeg).toInt)
        have f333 : v332 = r90.toInt := q_eqVI e323 ev332 q_evr
        have f334 : v331 = v332 := q_eqVI e324 ev331 ev332
        have t335 := g_45_R26 hG mo ro
        have e336 : q_R (q_sI (S273) a106 (((4 : Int32) * p0) + (3 : Int32)).toNatClampNeg (r300)) o 26 = q_R (S) o 26 := (Eq.trans q_skRI (Eq.trans (q_unR h274.1 mo ro (by decide)) (Eq.trans q_skRI (Eq.trans (q_unR h235.1 mo ro (by decide)) (Eq.trans q_skRI (Eq.trans (q_leR eS122) (Eq.trans q_skRI (Eq.trans q_skRI (Eq.trans (q_leR eS110) (Eq.trans q_skRI (Eq.trans q_skRI (Eq.trans (q_unR h92.1 mo ro (by decide)) (Eq.trans q_skRI (Eq.trans (q_unR h73.1 mo ro (by decide)) (Eq.trans q_skRI (Eq.trans q_skRI (Eq.trans (q_unR h38.1 mo ro (by decide)) (q_unR h16.1 mo ro (by decide)))))))))))))))))))
        have t337 := g_45_R29 hG mo ro
        have e338 : q_R (q_sI (S273) a106 (((4 : Int32) * p0) + (3 : Int32)).toNatClampNeg (r300)) o 29 = q_R (S) o 29 := (Eq.trans q_skRI (Eq.trans (q_unR h274.1 mo ro (by decide)) (Eq.trans q_skRI (Eq.trans (q_unR h235.1 mo ro (by decide)) (Eq.trans q_skRI (Eq.trans (q_leR eS122) (Eq.trans q_skRI (Eq.trans q_skRI (Eq.trans (q_leR eS110) (Eq.trans q_skRI (Eq.trans q_skRI (Eq.trans (q_unR h92.1 mo ro (by decide)) (Eq.trans q_skRI (Eq.trans (q_unR h73.1 mo ro (by decide)) (Eq.trans q_skRI (Eq.trans q_skRI (Eq.trans (q_unR h38.1 mo ro (by decide)) (q_unR h16.1 mo ro (by decide)))))))))))))))))))
        have t339 := g_45_R32 hG mo ro
        have t340 := g_45_R33 hG mo ro
        have t341 := g_45_R34 hG mo ro
        obtain ⟨v342, ev342⟩ := q_ev (((((p1 + (4)) + ((2 : Int32) * (1 : Int32))) + (4)) - p1).toInt)
        obtain ⟨v343, ev343⟩ := q_ev ((((p1 + (4)) + ((2 : Int32) * (1 : Int32))) + (4)).toInt)
        have f344 : v343 = v238 + (4) := q_addVI ev343 ev238 (show q_eqv ((4 : Int32)).toInt (4) by unfold q_eqv; decide) (by omega) (by omega)
        have f345 : v342 = v343 - p1.toInt := q_subVI ev342 ev343 q_evr (by omega) (by omega)
        exact q_ok_some ⟨hG, (q_oV ev342 (by omega) (by omega)), (q_smI ⟨(q_bw2 (fun x0 x1 => x0 = 0 → x1 = 0) ev307 ev22 (by omega)), (q_bw2 (fun x0 x1 => x0 = 0 → x1 ≤ 1601) ev307 q_evr (by omega)), (q_bw3 (fun x0 x1 x2 => x0 = 0 → 0 ≤ x1 ∧ 0 ≤ x2) ev325 ev327 ev331 (by omega)), (q_efxI (Eq.trans e336 ea3) (Eq.trans e338 ea5) (Eq.trans e310 (Eq.trans e67 ea7)) (Eq.trans e316 (Eq.trans e70 ea9)) (Eq.trans e321 (Eq.trans e89 ea11)) n304)⟩)⟩
    · have f346 := q_neV ev129 (show q_eqv ((0 : Int32)).toInt (0) by unfold q_eqv; decide) (q_n_eq g131)
      have t347 := g_45_R35 hG mo ro
      have e348 : q_R (q_sI (S122) a106 (((4 : Int32) * p0) + (3 : Int32)).toNatClampNeg ((16384 : Int32))) o 35 = q_R (S122) o 35 := q_skRI
      have f352 : q_sm _ := g_45_I8 hG mo ro
      have e353 : q_I (q_sI (S122) a106 (((4 : Int32) * p0) + (3 : Int32)).toNatClampNeg ((16384 : Int32))) o 8 = q_I (S91) o 8 := (Eq.trans (q_fwI ro ra106 (by decide)) (Eq.trans (q_leI eS122) (Eq.trans (q_fwI ro ra106 (by decide)) (Eq.trans (q_fwI ro ra106 (by decide)) (Eq.trans (q_leI eS110) (Eq.trans (q_fwI ro ra106 (by decide)) (q_fwI ro ra11 (by decide))))))))
      obtain ⟨v354, ev354⟩ := q_ev (((p1 + (4)) + ((2 : Int32) * (1 : Int32))).toInt)
      obtain ⟨v355, ev355⟩ := q_ev ((p1 + (4)).toInt)
      have f356 : v355 = p1.toInt + (4) := q_addVI ev355 q_evr (show q_eqv ((4 : Int32)).toInt (4) by unfold q_eqv; decide) (by omega) (by omega)
      obtain ⟨v357, ev357⟩ := q_ev (((2 : Int32) * (1 : Int32)).toInt)
      have f358 : v357 = (2) * (1) := q_mulVI ev357 (show q_eqv ((2 : Int32)).toInt (2) by unfold q_eqv; decide) (show q_eqv ((1 : Int32)).toInt (1) by unfold q_eqv; decide) (by omega) (by omega)
      have f359 : v354 = v355 + v357 := q_addVI ev354 ev355 ev357 (by omega) (by omega)
      refine q_ok_b (s_X12_data_45_k2 hn hG.1 mo ro (q_oV ev354 (by omega) (by omega)) (q_wd (show (2 : Int) ≤ (2 : Int32).toInt ∧ (2 : Int32).toInt ≤ (2 : Int) by decide) (by decide) (by decide))) (fun r349 S350 h351 => ?_)
      have hG := q_G_call hG h351.1 (by decide)
      have f360 := h351.2.1
      have n361 := q_efU h351.1 ma3 ra3 ma5 ra5 ma7 ra7 ma9 ra9 ma11 ra11 rfl rfl rfl rfl rfl n128
      have f362 : q_sm _ := g_45_I8 hG mo ro
      obtain ⟨v363, ev363⟩ := q_ev ((q_I (S350) o 8).toInt)
      have f364 := q_bV ev363 f362
      obtain ⟨v365, ev365⟩ := q_ev ((q_I (q_sI (S122) a106 (((4 : Int32) * p0) + (3 : Int32)).toNatClampNeg ((16384 : Int32))) o 8).toInt)
      have f366 : v365 = v98 := q_eqVI e353 ev365 ev98
      have f367 : v363 = 0 → v365 = 0 := q_to2 (fun x0 x1 => x0 = 0 → x1 = 0) ev363 ev365 ((q_smE (h351.2.2)).1)
      have f368 : q_sm _ := g_45_I21 hG mo ro
      have e369 : q_I (S350) o 21 = q_I (S37) o 21 := (Eq.trans (q_unI h351.1 mo ro (by decide)) (Eq.trans (q_fwI ro ra106 (by decide)) (Eq.trans (q_leI eS122) (Eq.trans (q_fwI ro ra106 (by decide)) (Eq.trans (q_fwI ro ra106 (by decide)) (Eq.trans (q_leI eS110) (Eq.trans (q_fwI ro ra106 (by decide)) (Eq.trans (q_fwI ro ra11 (by decide)) (Eq.trans (q_unI h92.1 mo ro (by decide)) (Eq.trans (q_fwI ro ra9 (by decide)) (Eq.trans (q_unI h73.1 mo ro (by decide)) (Eq.trans (q_fwI ro ra7 (by decide)) (q_fwI ro ra60 (by decide))))))))))))))
      have f370 : q_sm _ := g_45_I22 hG mo ro
      have e371 : q_I (S350) o 22 = q_I (S37) o 22 := (Eq.trans (q_unI h351.1 mo ro (by decide)) (Eq.trans (q_fwI ro ra106 (by decide)) (Eq.trans (q_leI eS122) (Eq.trans (q_fwI ro ra106 (by decide)) (Eq.trans (q_fwI ro ra106 (by decide)) (Eq.trans (q_leI eS110) (Eq.trans (q_fwI ro ra106 (by decide)) (Eq.trans (q_fwI ro ra11 (by decide)) (Eq.trans (q_unI h92.1 mo ro (by decide)) (Eq.trans (q_fwI ro ra9 (by decide)) (Eq.trans (q_unI h73.1 mo ro (by decide)) (Eq.trans (q_fwI ro ra7 (by decide)) (q_fwI ro ra60 (by decide))))))))))))))
      obtain ⟨v372, ev372⟩ := q_ev ((q_I (S350) o 21).toInt)
      have f373 : v372 = v49 := q_eqVI e369 ev372 ev49
      obtain ⟨v374, ev374⟩ := q_ev ((q_I (S350) o 22).toInt)
      have f375 : v374 = v53 := q_eqVI e371 ev374 ev53
      have f376 : v363 = 0 → v372 + v354 + (2) ≤ v374 := q_to5 (fun x0 x1 x2 x3 x4 => x0 = 0 → x1 + x2 + x3 ≤ x4) ev363 ev372 ev354 (show q_eqv ((2 : Int32)).toInt (2) by unfold q_eqv; decide) ev374 ((q_smE (h351.2.2)).2.1)
      have e377 : q_fd (S350) o ((1735162214 : Int64)) = q_fd (S37) o ((1735162214 : Int64)) := (Eq.trans (q_fdU h351.1 mo ro (by decide) (by decide) (by decide)) (Eq.trans (q_fdI ro ra106 (by decide)) (Eq.trans (q_fdL eS122) (Eq.trans (q_fdI ro ra106 (by decide)) (Eq.trans (q_fdI ro ra106 (by decide)) (Eq.trans (q_fdL eS110) (Eq.trans (q_fdI ro ra106 (by decide)) (Eq.trans (q_fdI ro ra11 (by decide)) (Eq.trans (q_fdU h92.1 mo ro (by decide) (by decide) (by decide)) (Eq.trans (q_fdI ro ra9 (by decide)) (Eq.trans (q_fdU h73.1 mo ro (by decide) (by decide) (by decide)) (Eq.trans (q_fdI ro ra7 (by decide)) (q_fdI ro ra60 (by decide))))))))))))))
      obtain ⟨v378, ev378⟩ := q_ev ((q_fd (S350) o ((1735162214 : Int64))).toInt)
      have f379 : v378 = v57 := q_eqVI e377 ev378 ev57
      have f380 : v363 = 0 → 0 ≤ v378 := q_to2 (fun x0 x1 => x0 = 0 → 0 ≤ x1) ev363 ev378 ((q_smE (h351.2.2)).2.2)
      refine q_ok_b (s_X12_signed hn hG.1 (q_wd f360 (by decide) (by decide))) (fun r381 S382 h383 => ?_)
      obtain ⟨eS382, h383⟩ := h383
      replace eS382 := eS382.symm
      subst eS382
      have f384 := h383
      refine q_ok_atA hG (Eq.trans e348 (Eq.trans e125 (Eq.trans e118 (Eq.trans e113 ea106)))) ma106 ra106 rfl ?_
      refine q_ok_if (q_inV (g_70_N hG ma106 ra106) ev107 (by omega) (by omega)) ?_
      have hG := u_70_E (k := ((4 : Int32) * p0).toNatClampNeg) (x := r381) hG ma106 ra106 (by decide) (q_wd f384 (by decide) (by decide))
      have n385 : q_ef (S) (q_sI (S350) a106 ((4 : Int32) * p0).toNatClampNeg (r381)) a3 a5 a7 a9 a11 _ := q_efI ra106 ra3 ra5 ra7 ra9 ra11 (by decide) (by decide) (by decide) (by decide) (by decide) n361
      refine q_ok_atS hG (q_trI mo ro) rfl (fun mo ro => ?_)
      have t386 := g_45_R35 hG mo ro
      have e387 : q_R (q_sI (S350) a106 ((4 : Int32) * p0).toNatClampNeg (r381)) o 35 = q_R (q_sI (S122) a106 (((4 : Int32) * p0) + (3 : Int32)).toNatClampNeg ((16384 : Int32))) o 35 := (Eq.trans q_skRI (q_unR h351.1 mo ro (by decide)))
      have t388 := g_45_R35 hG mo ro
      refine q_ok_atA hG (Eq.trans e387 (Eq.trans e348 (Eq.trans e125 (Eq.trans e118 (Eq.trans e113 ea106))))) ma106 ra106 rfl ?_
      refine q_ok_if (q_inV (g_70_N hG ma106 ra106) ev107 (by omega) (by omega)) ?_
      have f389 : q_sm _ := g_70_E hG ma106 ra106 (k := ((4 : Int32) * p0).toNatClampNeg)
      have e390 : q_I (q_sI (S350) a106 ((4 : Int32) * p0).toNatClampNeg (r381)) a106 ((4 : Int32) * p0).toNatClampNeg = r381 := q_hitI
      refine q_ok_if (q_inV (g_70_N hG ma106 ra106) ev126 (by omega) (by omega)) ?_
      have hG := u_70_E (k := (((4 : Int32) * p0) + (3 : Int32)).toNatClampNeg) (x := q_I (q_sI (S350) a106 ((4 : Int32) * p0).toNatClampNeg (r381)) a106 ((4 : Int32) * p0).toNatClampNeg) hG ma106 ra106 (by decide) (q_wd f389 (by decide) (by decide))
      have n391 : q_ef (S) (q_sI (q_sI (S350) a106 ((4 : Int32) * p0).toNatClampNeg (r381)) a106 (((4 : Int32) * p0) + (3 : Int32)).toNatClampNeg (q_I (q_sI (S350) a106 ((4 : Int32) * p0).toNatClampNeg (r381)) a106 ((4 : Int32) * p0).toNatClampNeg)) a3 a5 a7 a9 a11 _ := q_efI ra106 ra3 ra5 ra7 ra9 ra11 (by decide) (by decide) (by decide) (by decide) (by decide) n385
      refine q_ok_let (fun S392 eS392 => ?_)
      rw [← eS392] at hG
      have n393 := q_efL eS392 n391
      unfold m_X12_readPart_284
      have f394 : q_sm _ := g_45_I8 hG mo ro
      have e395 : q_I (S392) o 8 = q_I (S350) o 8 := (Eq.trans (q_leI eS392) (Eq.trans (q_fwI ro ra106 (by decide)) (q_fwI ro ra106 (by decide))))
      obtain ⟨v396, ev396⟩ := q_ev ((q_I (S392) o 8).toInt)
      have f397 : v396 = v363 := q_eqVI e395 ev396 ev363
      have t398 := g_45_R32 hG mo ro
      have e399 : q_R (S392) o 32 = q_R (q_sI (S37) a60 (p0).toNatClampNeg (r36)) o 32 := (Eq.trans (q_leR eS392) (Eq.trans q_skRI (Eq.trans q_skRI (Eq.trans (q_unR h351.1 mo ro (by decide)) (Eq.trans q_skRI (Eq.trans (q_leR eS122) (Eq.trans q_skRI (Eq.trans q_skRI (Eq.trans (q_leR eS110) (Eq.trans q_skRI (Eq.trans q_skRI (Eq.trans (q_unR h92.1 mo ro (by decide)) (Eq.trans q_skRI (Eq.trans (q_unR h73.1 mo ro (by decide)) q_skRI))))))))))))))
      have f400 : q_sm _ := g_67_E hG ma7 ra7 (k := (p0).toNatClampNeg)
      have e401 : q_I (S392) a7 (p0).toNatClampNeg = r14 := (Eq.trans (q_leI eS392) (Eq.trans (q_fwI ra7 ra106 (by decide)) (Eq.trans (q_fwI ra7 ra106 (by decide)) (Eq.trans (q_unIA h351.1 ma7 ra7 (by decide) (by decide)) (Eq.trans (q_fwI ra7 ra106 (by decide)) (Eq.trans (q_leI eS122) (Eq.trans (q_fwI ra7 ra106 (by decide)) (Eq.trans (q_fwI ra7 ra106 (by decide)) (Eq.trans (q_leI eS110) (Eq.trans (q_fwI ra7 ra106 (by decide)) (Eq.trans (q_fwI ra7 ra11 (by decide)) (Eq.trans (q_unIA h92.1 ma7 ra7 (by decide) (by decide)) (Eq.trans (q_fwI ra7 ra9 (by decide)) (Eq.trans (q_unIA h73.1 ma7 ra7 (by decide) (by decide)) q_hitI))))))))))))))
      have e402 : q_fE (S392) o 32 ((p0 : Int32)).toNatClampNeg = q_I (S392) a7 (p0).toNatClampNeg := q_fEe (Eq.trans e399 (Eq.trans e67 ea7))
      have e403 : (q_fE (S392) o 32 ((p0 : Int32)).toNatClampNeg) &&& (2 : Int32) = r14 &&& (2 : Int32) := congrArg (fun z : Int32 => z &&& (2 : Int32)) (Eq.trans e402 e401)
      have t404 := g_45_R33 hG mo ro
      have e405 : q_R (S392) o 33 = q_R (q_sI (q_sI (S37) a60 (p0).toNatClampNeg (r36)) a7 (p0).toNatClampNeg (r14)) o 33 := (Eq.trans (q_leR eS392) (Eq.trans q_skRI (Eq.trans q_skRI (Eq.trans (q_unR h351.1 mo ro (by decide)) (Eq.trans q_skRI (Eq.trans (q_leR eS122) (Eq.trans q_skRI (Eq.trans q_skRI (Eq.trans (q_leR eS110) (Eq.trans q_skRI (Eq.trans q_skRI (Eq.trans (q_unR h92.1 mo ro (by decide)) (Eq.trans q_skRI (q_unR h73.1 mo ro (by decide)))))))))))))))
      have f406 : q_sm _ := g_68_E hG ma9 ra9 (k := (p0).toNatClampNeg)
      have e407 : q_I (S392) a9 (p0).toNatClampNeg = r71 := (Eq.trans (q_leI eS392) (Eq.trans (q_fwI ra9 ra106 (by decide)) (Eq.trans (q_fwI ra9 ra106 (by decide)) (Eq.trans (q_unIA h351.1 ma9 ra9 (by decide) (by decide)) (Eq.trans (q_fwI ra9 ra106 (by decide)) (Eq.trans (q_leI eS122) (Eq.trans (q_fwI ra9 ra106 (by decide)) (Eq.trans (q_fwI ra9 ra106 (by decide)) (Eq.trans (q_leI eS110) (Eq.trans (q_fwI ra9 ra106 (by decide)) (Eq.trans (q_fwI ra9 ra11 (by decide)) (Eq.trans (q_unIA h92.1 ma9 ra9 (by decide) (by decide)) q_hitI))))))))))))
      have e408 : q_fE (S392) o 33 ((p0 : Int32)).toNatClampNeg = q_I (S392) a9 (p0).toNatClampNeg := q_fEe (Eq.trans e405 (Eq.trans e70 ea9))
      have t409 := g_45_R34 hG mo ro
      have e410 : q_R (S392) o 34 = q_R (q_sI (S72) a9 (p0).toNatClampNeg (r71)) o 34 := (Eq.trans (q_leR eS392) (Eq.trans q_skRI (Eq.trans q_skRI (Eq.trans (q_unR h351.1 mo ro (by decide)) (Eq.trans q_skRI (Eq.trans (q_leR eS122) (Eq.trans q_skRI (Eq.trans q_skRI (Eq.trans (q_leR eS110) (Eq.trans q_skRI (Eq.trans q_skRI (q_unR h92.1 mo ro (by decide)))))))))))))
      have f411 : q_sm _ := g_69_E hG ma11 ra11 (k := (p0).toNatClampNeg)
      have e412 : q_I (S392) a11 (p0).toNatClampNeg = r90 := (Eq.trans (q_leI eS392) (Eq.trans (q_fwI ra11 ra106 (by decide)) (Eq.trans (q_fwI ra11 ra106 (by decide)) (Eq.trans (q_unIA h351.1 ma11 ra11 (by decide) (by decide)) (Eq.trans (q_fwI ra11 ra106 (by decide)) (Eq.trans (q_leI eS122) (Eq.trans (q_fwI ra11 ra106 (by decide)) (Eq.trans (q_fwI ra11 ra106 (by decide)) (Eq.trans (q_leI eS110) (Eq.trans (q_fwI ra11 ra106 (by decide)) q_hitI))))))))))
      have e413 : q_fE (S392) o 34 ((p0 : Int32)).toNatClampNeg = q_I (S392) a11 (p0).toNatClampNeg := q_fEe (Eq.trans e410 (Eq.trans e89 ea11))
      obtain ⟨v414, ev414⟩ := q_ev (((q_fE (S392) o 32 ((p0 : Int32)).toNatClampNeg) &&& (2 : Int32)).toInt)
      have f415 : v414 = v84 := q_eqVI e403 ev414 ev84
      obtain ⟨v416, ev416⟩ := q_ev ((q_fE (S392) o 33 ((p0 : Int32)).toNatClampNeg).toInt)
      obtain ⟨v417, ev417⟩ := q_ev ((q_I (S392) a9 (p0).toNatClampNeg).toInt)
      have f418 : v417 = r71.toInt := q_eqVI e407 ev417 q_evr
      have f419 : v416 = v417 := q_eqVI e408 ev416 ev417
      obtain ⟨v420, ev420⟩ := q_ev ((q_fE (S392) o 34 ((p0 : Int32)).toNatClampNeg).toInt)
      obtain ⟨v421, ev421⟩ := q_ev ((q_I (S392) a11 (p0).toNatClampNeg).toInt)
      have f422 : v421 = r90.toInt := q_eqVI e412 ev421 q_evr
      have f423 : v420 = v421 := q_eqVI e413 ev420 ev421
      have t424 := g_45_R26 hG mo ro
      have e425 : q_R (S392) o 26 = q_R (S) o 26 := (Eq.trans (q_leR eS392) (Eq.trans q_skRI (Eq.trans q_skRI (Eq.trans (q_unR h351.1 mo ro (by decide)) (Eq.trans q_skRI (Eq.trans (q_leR eS122) (Eq.trans q_skRI (Eq.trans q_skRI (Eq.trans (q_leR eS110) (Eq.trans q_skRI (Eq.trans q_skRI (Eq.trans (q_unR h92.1 mo ro (by decide)) (Eq.trans q_skRI (Eq.trans (q_unR h73.1 mo ro (by decide)) (Eq.trans q_skRI (Eq.trans q_skRI (Eq.trans (q_unR h38.1 mo ro (by decide)) (q_unR h16.1 mo ro (by decide)))))))))))))))))))
      have t426 := g_45_R29 hG mo ro
      have e427 : q_R (S392) o 29 = q_R (S) o 29 := (Eq.trans (q_leR eS392) (Eq.trans q_skRI (Eq.trans q_skRI (Eq.trans (q_unR h351.1 mo ro (by decide)) (Eq.trans q_skRI (Eq.trans (q_leR eS122) (Eq.trans q_skRI (Eq.trans q_skRI (Eq.trans (q_leR eS110) (Eq.trans q_skRI (Eq.trans q_skRI (Eq.trans (q_unR h92.1 mo ro (by decide)) (Eq.trans q_skRI (Eq.trans (q_unR h73.1 mo ro (by decide)) (Eq.trans q_skRI (Eq.trans q_skRI (Eq.trans (q_unR h38.1 mo ro (by decide)) (q_unR h16.1 mo ro (by decide)))))))))))))))))))
      have t428 := g_45_R32 hG mo ro
      have t429 := g_45_R33 hG mo ro
      have t430 := g_45_R34 hG mo ro
      obtain ⟨v431, ev431⟩ := q_ev (((((p1 + (4)) + ((2 : Int32) * (1 : Int32))) + (2)) - p1).toInt)
      obtain ⟨v432, ev432⟩ := q_ev ((((p1 + (4)) + ((2 : Int32) * (1 : Int32))) + (2)).toInt)
      have f433 : v432 = v354 + (2) := q_addVI ev432 ev354 (show q_eqv ((2 : Int32)).toInt (2) by unfold q_eqv; decide) (by omega) (by omega)
      have f434 : v431 = v432 - p1.toInt := q_subVI ev431 ev432 q_evr (by omega) (by omega)
      exact q_ok_some ⟨hG, (q_oV ev431 (by omega) (by omega)), (q_smI ⟨(q_bw2 (fun x0 x1 => x0 = 0 → x1 = 0) ev396 ev22 (by omega)), (q_bw2 (fun x0 x1 => x0 = 0 → x1 ≤ 1601) ev396 q_evr (by omega)), (q_bw3 (fun x0 x1 x2 => x0 = 0 → 0 ≤ x1 ∧ 0 ≤ x2) ev414 ev416 ev420 (by omega)), (q_efxI (Eq.trans e425 ea3) (Eq.trans e427 ea5) (Eq.trans e399 (Eq.trans e67 ea7)) (Eq.trans e405 (Eq.trans e70 ea9)) (Eq.trans e410 (Eq.trans e89 ea11)) n393)⟩)⟩
  · have f435 := q_neV ev62 (show q_eqv ((0 : Int32)).toInt (0) by unfold q_eqv; decide) (q_n_eq g64)
    unfold m_X12_readPart_39
    refine q_ok_atS hG (q_trI mo ro) rfl (fun mo ro => ?_)
    have t436 := g_45_R32 hG mo ro
    have e437 : q_R (q_sI (S37) a60 (p0).toNatClampNeg (r36)) o 32 = q_R (S) o 32 := (Eq.trans q_skRI (Eq.trans (q_unR h38.1 mo ro (by decide)) (q_unR h16.1 mo ro (by decide))))
    refine q_ok_atA hG (Eq.trans e437 ea7) ma7 ra7 rfl ?_
    refine q_ok_if (q_inV (g_67_N hG ma7 ra7) q_evr (by omega) (by omega)) ?_
    have hG := u_67_E (k := (p0).toNatClampNeg) (x := r14) hG ma7 ra7 (by decide) (q_wd f17 (by decide) (by decide))
    have n438 : q_ef (S) (q_sI (q_sI (S37) a60 (p0).toNatClampNeg (r36)) a7 (p0).toNatClampNeg (r14)) a3 a5 a7 a9 a11 _ := q_efA (q_clampL (q_bw1 (fun x0 => 0 ≤ x0) q_evr (by omega)) (q_bw2 (fun x0 x1 => x0 ≤ x1) q_evr q_evr (by omega))) n61
    have t439 := g_45_R33 hG mo ro
    have e440 : q_R (q_sI (q_sI (S37) a60 (p0).toNatClampNeg (r36)) a7 (p0).toNatClampNeg (r14)) o 33 = q_R (S) o 33 := (Eq.trans q_skRI (Eq.trans q_skRI (Eq.trans (q_unR h38.1 mo ro (by decide)) (q_unR h16.1 mo ro (by decide)))))
    have f444 : q_sm _ := g_45_I8 hG mo ro
    have e445 : q_I (q_sI (q_sI (S37) a60 (p0).toNatClampNeg (r36)) a7 (p0).toNatClampNeg (r14)) o 8 = q_I (S37) o 8 := (Eq.trans (q_fwI ro ra7 (by decide)) (q_fwI ro ra60 (by decide)))
    refine q_ok_b (s_X12_argument_45 hn hG.1 mo ro (q_wd (q_addBI (4) (1704) hp1 (show (4 : Int) ≤ (4 : Int32).toInt ∧ (4 : Int32).toInt ≤ (4 : Int) by decide) (by decide) (by decide) (by decide) (by decide)) (by decide) (by decide)) (q_wd f17 (by decide) (by decide))) (fun r441 S442 h443 => ?_)
    have hG := q_G_call hG h443.1 (by decide)
    have f446 := h443.2.1
    have n447 := q_efU h443.1 ma3 ra3 ma5 ra5 ma7 ra7 ma9 ra9 ma11 ra11 rfl rfl rfl rfl rfl n438
    have f448 : q_sm _ := g_45_I8 hG mo ro
    obtain ⟨v449, ev449⟩ := q_ev ((q_I (S442) o 8).toInt)
    have f450 := q_bV ev449 f448
    obtain ⟨v451, ev451⟩ := q_ev ((q_I (q_sI (q_sI (S37) a60 (p0).toNatClampNeg (r36)) a7 (p0).toNatClampNeg (r14)) o 8).toInt)
    have f452 : v451 = v42 := q_eqVI e445 ev451 ev42
    have f453 : v449 = 0 → v451 = 0 := q_to2 (fun x0 x1 => x0 = 0 → x1 = 0) ev449 ev451 ((q_smE (h443.2.2)).1)
    obtain ⟨v454, ev454⟩ := q_ev ((r14 &&& (2 : Int32)).toInt)
    have f455 := q_andRVI ev454 (show q_eqv ((2 : Int32)).toInt (2) by unfold q_eqv; decide) (by omega)
    have f456 : v454 = 0 → 0 ≤ r441.toInt := q_to2 (fun x0 x1 => x0 = 0 → 0 ≤ x1) ev454 q_evr ((q_smE (h443.2.2)).2)
    refine q_ok_atA hG (Eq.trans e440 ea9) ma9 ra9 rfl ?_
    refine q_ok_if (q_inV (g_68_N hG ma9 ra9) q_evr (by omega) (by omega)) ?_
    have hG := u_68_E (k := (p0).toNatClampNeg) (x := r441) hG ma9 ra9 (by decide) (q_wd f446 (by decide) (by decide))
    have n457 : q_ef (S) (q_sI (S442) a9 (p0).toNatClampNeg (r441)) a3 a5 a7 a9 a11 _ := q_efA (q_clampL (q_bw1 (fun x0 => 0 ≤ x0) q_evr (by omega)) (q_bw2 (fun x0 x1 => x0 ≤ x1) q_evr q_evr (by omega))) n447
    refine q_ok_atS hG (q_trI mo ro) rfl (fun mo ro => ?_)
    have t458 := g_45_R34 hG mo ro
    have e459 : q_R (q_sI (S442) a9 (p0).toNatClampNeg (r441)) o 34 = q_R (S) o 34 := (Eq.trans q_skRI (Eq.trans (q_unR h443.1 mo ro (by decide)) (Eq.trans q_skRI (Eq.trans q_skRI (Eq.trans (q_unR h38.1 mo ro (by decide)) (q_unR h16.1 mo ro (by decide)))))))
    have f463 : q_sm _ := g_45_I8 hG mo ro
    have e464 : q_I (q_sI (S442) a9 (p0).toNatClampNeg (r441)) o 8 = q_I (S442) o 8 := (q_fwI ro ra9 (by decide))
    refine q_ok_b (s_X12_argument_45 hn hG.1 mo ro (q_wd (q_addBI (6) (1706) (q_addBI (4) (1704) hp1 (show (4 : Int) ≤ (4 : Int32).toInt ∧ (4 : Int32).toInt ≤ (4 : Int) by decide) (by decide) (by decide) (by decide) (by decide)) (show (2 : Int) ≤ (2 : Int32).toInt ∧ (2 : Int32).toInt ≤ (2 : Int) by decide) (by decide) (by decide) (by decide) (by decide)) (by decide) (by decide)) (q_wd f17 (by decide) (by decide))) (fun r460 S461 h462 => ?_)
    have hG := q_G_call hG h462.1 (by decide)
    have f465 := h462.2.1
    have n466 := q_efU h462.1 ma3 ra3 ma5 ra5 ma7 ra7 ma9 ra9 ma11 ra11 rfl rfl rfl rfl rfl n457
    have f467 : q_sm _ := g_45_I8 hG mo ro
    obtain ⟨v468, ev468⟩ := q_ev ((q_I (S461) o 8).toInt)
    have f469 := q_bV ev468 f467
    obtain ⟨v470, ev470⟩ := q_ev ((q_I (q_sI (S442) a9 (p0).toNatClampNeg (r441)) o 8).toInt)
    have f471 : v470 = v449 := q_eqVI e464 ev470 ev449
    have f472 : v468 = 0 → v470 = 0 := q_to2 (fun x0 x1 => x0 = 0 → x1 = 0) ev468 ev470 ((q_smE (h462.2.2)).1)
    have f473 : v454 = 0 → 0 ≤ r460.toInt := q_to2 (fun x0 x1 => x0 = 0 → 0 ≤ x1) ev454 q_evr ((q_smE (h462.2.2)).2)
    refine q_ok_atA hG (Eq.trans e459 ea11) ma11 ra11 rfl ?_
    refine q_ok_if (q_inV (g_69_N hG ma11 ra11) q_evr (by omega) (by omega)) ?_
    have hG := u_69_E (k := (p0).toNatClampNeg) (x := r460) hG ma11 ra11 (by decide) (q_wd f465 (by decide) (by decide))
    have n474 : q_ef (S) (q_sI (S461) a11 (p0).toNatClampNeg (r460)) a3 a5 a7 a9 a11 _ := q_efA (q_clampL (q_bw1 (fun x0 => 0 ≤ x0) q_evr (by omega)) (q_bw2 (fun x0 x1 => x0 ≤ x1) q_evr q_evr (by omega))) n466
    refine q_ok_atS hG (q_trI mo ro) rfl (fun mo ro => ?_)
    have t475 := g_45_R35 hG mo ro
    refine q_ok_at hG t475 rfl (fun a476 ma476 ra476 ea476 => ?_)
    obtain ⟨v477, ev477⟩ := q_ev (((4 : Int32) * p0).toInt)
    have f478 : v477 = (4) * p0.toInt := q_mulVI ev477 (show q_eqv ((4 : Int32)).toInt (4) by unfold q_eqv; decide) q_evr (by omega) (by omega)
    refine q_ok_if (q_inV (g_70_N hG ma476 ra476) ev477 (by omega) (by omega)) ?_
    have hG := u_70_E (k := ((4 : Int32) * p0).toNatClampNeg) (x := (16384 : Int32)) hG ma476 ra476 (by decide) (q_wd (show (16384 : Int) ≤ (16384 : Int32).toInt ∧ (16384 : Int32).toInt ≤ (16384 : Int) by decide) (by decide) (by decide))
    have n479 : q_ef (S) (q_sI (q_sI (S461) a11 (p0).toNatClampNeg (r460)) a476 ((4 : Int32) * p0).toNatClampNeg ((16384 : Int32))) a3 a5 a7 a9 a11 _ := q_efI ra476 ra3 ra5 ra7 ra9 ra11 (by decide) (by decide) (by decide) (by decide) (by decide) n474
    refine q_ok_let (fun S480 eS480 => ?_)
    rw [← eS480] at hG
    have n481 := q_efL eS480 n479
    have t482 := g_45_R35 hG mo ro
    have e483 : q_R (S480) o 35 = q_R (q_sI (S461) a11 (p0).toNatClampNeg (r460)) o 35 := (Eq.trans (q_leR eS480) q_skRI)
    refine q_ok_atA hG (Eq.trans e483 ea476) ma476 ra476 rfl ?_
    obtain ⟨v484, ev484⟩ := q_ev ((((4 : Int32) * p0) + (1 : Int32)).toInt)
    have f485 : v484 = v477 + (1) := q_addVI ev484 ev477 (show q_eqv ((1 : Int32)).toInt (1) by unfold q_eqv; decide) (by omega) (by omega)
    refine q_ok_if (q_inV (g_70_N hG ma476 ra476) ev484 (by omega) (by omega)) ?_
    have hG := u_70_E (k := (((4 : Int32) * p0) + (1 : Int32)).toNatClampNeg) (x := (0 : Int32)) hG ma476 ra476 (by decide) (q_wd (show (0 : Int) ≤ (0 : Int32).toInt ∧ (0 : Int32).toInt ≤ (0 : Int) by decide) (by decide) (by decide))
    have n486 : q_ef (S) (q_sI (S480) a476 (((4 : Int32) * p0) + (1 : Int32)).toNatClampNeg ((0 : Int32))) a3 a5 a7 a9 a11 _ := q_efI ra476 ra3 ra5 ra7 ra9 ra11 (by decide) (by decide) (by decide) (by decide) (by decide) n481
    have t487 := g_45_R35 hG mo ro
    have e488 : q_R (q_sI (S480) a476 (((4 : Int32) * p0) + (1 : Int32)).toNatClampNeg ((0 : Int32))) o 35 = q_R (S480) o 35 := q_skRI
    refine q_ok_atA hG (Eq.trans e488 (Eq.trans e483 ea476)) ma476 ra476 rfl ?_
    obtain ⟨v489, ev489⟩ := q_ev ((((4 : Int32) * p0) + (2 : Int32)).toInt)
    have f490 : v489 = v477 + (2) := q_addVI ev489 ev477 (show q_eqv ((2 : Int32)).toInt (2) by unfold q_eqv; decide) (by omega) (by omega)
    refine q_ok_if (q_inV (g_70_N hG ma476 ra476) ev489 (by omega) (by omega)) ?_
    have hG := u_70_E (k := (((4 : Int32) * p0) + (2 : Int32)).toNatClampNeg) (x := (0 : Int32)) hG ma476 ra476 (by decide) (q_wd (show (0 : Int) ≤ (0 : Int32).toInt ∧ (0 : Int32).toInt ≤ (0 : Int) by decide) (by decide) (by decide))
    have n491 : q_ef (S) (q_sI (q_sI (S480) a476 (((4 : Int32) * p0) + (1 : Int32)).toNatClampNeg ((0 : Int32))) a476 (((4 : Int32) * p0) + (2 : Int32)).toNatClampNeg ((0 : Int32))) a3 a5 a7 a9 a11 _ := q_efI ra476 ra3 ra5 ra7 ra9 ra11 (by decide) (by decide) (by decide) (by decide) (by decide) n486
    refine q_ok_let (fun S492 eS492 => ?_)
    rw [← eS492] at hG
    have n493 := q_efL eS492 n491
    have t494 := g_45_R35 hG mo ro
    have e495 : q_R (S492) o 35 = q_R (q_sI (S480) a476 (((4 : Int32) * p0) + (1 : Int32)).toNatClampNeg ((0 : Int32))) o 35 := (Eq.trans (q_leR eS492) q_skRI)
    refine q_ok_atA hG (Eq.trans e495 (Eq.trans e488 (Eq.trans e483 ea476))) ma476 ra476 rfl ?_
    obtain ⟨v496, ev496⟩ := q_ev ((((4 : Int32) * p0) + (3 : Int32)).toInt)
    have f497 : v496 = v477 + (3) := q_addVI ev496 ev477 (show q_eqv ((3 : Int32)).toInt (3) by unfold q_eqv; decide) (by omega) (by omega)
    refine q_ok_if (q_inV (g_70_N hG ma476 ra476) ev496 (by omega) (by omega)) ?_
    have hG := u_70_E (k := (((4 : Int32) * p0) + (3 : Int32)).toNatClampNeg) (x := (16384 : Int32)) hG ma476 ra476 (by decide) (q_wd (show (16384 : Int) ≤ (16384 : Int32).toInt ∧ (16384 : Int32).toInt ≤ (16384 : Int) by decide) (by decide) (by decide))
    have n498 : q_ef (S) (q_sI (S492) a476 (((4 : Int32) * p0) + (3 : Int32)).toNatClampNeg ((16384 : Int32))) a3 a5 a7 a9 a11 _ := q_efI ra476 ra3 ra5 ra7 ra9 ra11 (by decide) (by decide) (by decide) (by decide) (by decide) n493
    obtain ⟨v499, ev499⟩ := q_ev ((r14 &&& (8 : Int32)).toInt)
    have f500 := q_andRVI ev499 (show q_eqv ((8 : Int32)).toInt (8) by unfold q_eqv; decide) (by omega)
    refine q_ok_ite (fun g501 => ?_) (fun g501 => ?_)
    · have f502 := q_eqV ev499 (show q_eqv ((0 : Int32)).toInt (0) by unfold q_eqv; decide) (q_p_eq g501)
      obtain ⟨v503, ev503⟩ := q_ev ((r14 &&& (64 : Int32)).toInt)
      have f504 := q_andRVI ev503 (show q_eqv ((64 : Int32)).toInt (64) by unfold q_eqv; decide) (by omega)
      refine q_ok_ite (fun g505 => ?_) (fun g505 => ?_)
      · have f506 := q_eqV ev503 (show q_eqv ((0 : Int32)).toInt (0) by unfold q_eqv; decide) (q_p_eq g505)
        obtain ⟨v507, ev507⟩ := q_ev ((r14 &&& (128 : Int32)).toInt)
        have f508 := q_andRVI ev507 (show q_eqv ((128 : Int32)).toInt (128) by unfold q_eqv; decide) (by omega)
        refine q_ok_ite (fun g509 => ?_) (fun g509 => ?_)
        · have f510 := q_eqV ev507 (show q_eqv ((0 : Int32)).toInt (0) by unfold q_eqv; decide) (q_p_eq g509)
          unfold m_X12_readPart_284
          have f511 : q_sm _ := g_45_I8 hG mo ro
          have e512 : q_I (q_sI (S492) a476 (((4 : Int32) * p0) + (3 : Int32)).toNatClampNeg ((16384 : Int32))) o 8 = q_I (S461) o 8 := (Eq.trans (q_fwI ro ra476 (by decide)) (Eq.trans (q_leI eS492) (Eq.trans (q_fwI ro ra476 (by decide)) (Eq.trans (q_fwI ro ra476 (by decide)) (Eq.trans (q_leI eS480) (Eq.trans (q_fwI ro ra476 (by decide)) (q_fwI ro ra11 (by decide))))))))
          obtain ⟨v513, ev513⟩ := q_ev ((q_I (q_sI (S492) a476 (((4 : Int32) * p0) + (3 : Int32)).toNatClampNeg ((16384 : Int32))) o 8).toInt)
          have f514 : v513 = v468 := q_eqVI e512 ev513 ev468
          have t515 := g_45_R32 hG mo ro
          have e516 : q_R (q_sI (S492) a476 (((4 : Int32) * p0) + (3 : Int32)).toNatClampNeg ((16384 : Int32))) o 32 = q_R (q_sI (S37) a60 (p0).toNatClampNeg (r36)) o 32 := (Eq.trans q_skRI (Eq.trans (q_leR eS492) (Eq.trans q_skRI (Eq.trans q_skRI (Eq.trans (q_leR eS480) (Eq.trans q_skRI (Eq.trans q_skRI (Eq.trans (q_unR h462.1 mo ro (by decide)) (Eq.trans q_skRI (Eq.trans (q_unR h443.1 mo ro (by decide)) q_skRI))))))))))
          have f517 : q_sm _ := g_67_E hG ma7 ra7 (k := (p0).toNatClampNeg)
          have e518 : q_I (q_sI (S492) a476 (((4 : Int32) * p0) + (3 : Int32)).toNatClampNeg ((16384 : Int32))) a7 (p0).toNatClampNeg = r14 := (Eq.trans (q_fwI ra7 ra476 (by decide)) (Eq.trans (q_leI eS492) (Eq.trans (q_fwI ra7 ra476 (by decide)) (Eq.trans (q_fwI ra7 ra476 (by decide)) (Eq.trans (q_leI eS480) (Eq.trans (q_fwI ra7 ra476 (by decide)) (Eq.trans (q_fwI ra7 ra11 (by decide)) (Eq.trans (q_unIA h462.1 ma7 ra7 (by decide) (by decide)) (Eq.trans (q_fwI ra7 ra9 (by decide)) (Eq.trans (q_unIA h443.1 ma7 ra7 (by decide) (by decide)) q_hitI))))))))))
          have e519 : q_fE (q_sI (S492) a476 (((4 : Int32) * p0) + (3 : Int32)).toNatClampNeg ((16384 : Int32))) o 32 ((p0 : Int32)).toNatClampNeg = q_I (q_sI (S492) a476 (((4 : Int32) * p0) + (3 : Int32)).toNatClampNeg ((16384 : Int32))) a7 (p0).toNatClampNeg := q_fEe (Eq.trans e516 (Eq.trans e437 ea7))
          have e520 : (q_fE (q_sI (S492) a476 (((4 : Int32) * p0) + (3 : Int32)).toNatClampNeg ((16384 : Int32))) o 32 ((p0 : Int32)).toNatClampNeg) &&& (2 : Int32) = r14 &&& (2 : Int32) := congrArg (fun z : Int32 => z &&& (2 : Int32)) (Eq.trans e519 e518)
          have t521 := g_45_R33 hG mo ro
          have e522 : q_R (q_sI (S492) a476 (((4 : Int32) * p0) + (3 : Int32)).toNatClampNeg ((16384 : Int32))) o 33 = q_R (q_sI (q_sI (S37) a60 (p0).toNatClampNeg (r36)) a7 (p0).toNatClampNeg (r14)) o 33 := (Eq.trans q_skRI (Eq.trans (q_leR eS492) (Eq.trans q_skRI (Eq.trans q_skRI (Eq.trans (q_leR eS480) (Eq.trans q_skRI (Eq.trans q_skRI (Eq.trans (q_unR h462.1 mo ro (by decide)) (Eq.trans q_skRI (q_unR h443.1 mo ro (by decide)))))))))))
          have f523 : q_sm _ := g_68_E hG ma9 ra9 (k := (p0).toNatClampNeg)
          have e524 : q_I (q_sI (S492) a476 (((4 : Int32) * p0) + (3 : Int32)).toNatClampNeg ((16384 : Int32))) a9 (p0).toNatClampNeg = r441 := (Eq.trans (q_fwI ra9 ra476 (by decide)) (Eq.trans (q_leI eS492) (Eq.trans (q_fwI ra9 ra476 (by decide)) (Eq.trans (q_fwI ra9 ra476 (by decide)) (Eq.trans (q_leI eS480) (Eq.trans (q_fwI ra9 ra476 (by decide)) (Eq.trans (q_fwI ra9 ra11 (by decide)) (Eq.trans (q_unIA h462.1 ma9 ra9 (by decide) (by decide)) q_hitI))))))))
          have e525 : q_fE (q_sI (S492) a476 (((4 : Int32) * p0) + (3 : Int32)).toNatClampNeg ((16384 : Int32))) o 33 ((p0 : Int32)).toNatClampNeg = q_I (q_sI (S492) a476 (((4 : Int32) * p0) + (3 : Int32)).toNatClampNeg ((16384 : Int32))) a9 (p0).toNatClampNeg := q_fEe (Eq.trans e522 (Eq.trans e440 ea9))
          have t526 := g_45_R34 hG mo ro
          have e527 : q_R (q_sI (S492) a476 (((4 : Int32) * p0) + (3 : Int32)).toNatClampNeg ((16384 : Int32))) o 34 = q_R (q_sI (S442) a9 (p0).toNatClampNeg (r441)) o 34 := (Eq.trans q_skRI (Eq.trans (q_leR eS492) (Eq.trans q_skRI (Eq.trans q_skRI (Eq.trans (q_leR eS480) (Eq.trans q_skRI (Eq.trans q_skRI (q_unR h462.1 mo ro (by decide)))))))))
          have f528 : q_sm _ := g_69_E hG ma11 ra11 (k := (p0).toNatClampNeg)
          have e529 : q_I (q_sI (S492) a476 (((4 : Int32) * p0) + (3 : Int32)).toNatClampNeg ((16384 : Int32))) a11 (p0).toNatClampNeg = r460 := (Eq.trans (q_fwI ra11 ra476 (by decide)) (Eq.trans (q_leI eS492) (Eq.trans (q_fwI ra11 ra476 (by decide)) (Eq.trans (q_fwI ra11 ra476 (by decide)) (Eq.trans (q_leI eS480) (Eq.trans (q_fwI ra11 ra476 (by decide)) q_hitI))))))
          have e530 : q_fE (q_sI (S492) a476 (((4 : Int32) * p0) + (3 : Int32)).toNatClampNeg ((16384 : Int32))) o 34 ((p0 : Int32)).toNatClampNeg = q_I (q_sI (S492) a476 (((4 : Int32) * p0) + (3 : Int32)).toNatClampNeg ((16384 : Int32))) a11 (p0).toNatClampNeg := q_fEe (Eq.trans e527 (Eq.trans e459 ea11))
          obtain ⟨v531, ev531⟩ := q_ev (((q_fE (q_sI (S492) a476 (((4 : Int32) * p0) + (3 : Int32)).toNatClampNeg ((16384 : Int32))) o 32 ((p0 : Int32)).toNatClampNeg) &&& (2 : Int32)).toInt)
          have f532 : v531 = v454 := q_eqVI e520 ev531 ev454
          obtain ⟨v533, ev533⟩ := q_ev ((q_fE (q_sI (S492) a476 (((4 : Int32) * p0) + (3 : Int32)).toNatClampNeg ((16384 : Int32))) o 33 ((p0 : Int32)).toNatClampNeg).toInt)
          obtain ⟨v534, ev534⟩ := q_ev ((q_I (q_sI (S492) a476 (((4 : Int32) * p0) + (3 : Int32)).toNatClampNeg ((16384 : Int32))) a9 (p0).toNatClampNeg).toInt)
          have f535 : v534 = r441.toInt := q_eqVI e524 ev534 q_evr
          have f536 : v533 = v534 := q_eqVI e525 ev533 ev534
          obtain ⟨v537, ev537⟩ := q_ev ((q_fE (q_sI (S492) a476 (((4 : Int32) * p0) + (3 : Int32)).toNatClampNeg ((16384 : Int32))) o 34 ((p0 : Int32)).toNatClampNeg).toInt)
          obtain ⟨v538, ev538⟩ := q_ev ((q_I (q_sI (S492) a476 (((4 : Int32) * p0) + (3 : Int32)).toNatClampNeg ((16384 : Int32))) a11 (p0).toNatClampNeg).toInt)
          have f539 : v538 = r460.toInt := q_eqVI e529 ev538 q_evr
          have f540 : v537 = v538 := q_eqVI e530 ev537 ev538
          have t541 := g_45_R26 hG mo ro
          have e542 : q_R (q_sI (S492) a476 (((4 : Int32) * p0) + (3 : Int32)).toNatClampNeg ((16384 : Int32))) o 26 = q_R (S) o 26 := (Eq.trans q_skRI (Eq.trans (q_leR eS492) (Eq.trans q_skRI (Eq.trans q_skRI (Eq.trans (q_leR eS480) (Eq.trans q_skRI (Eq.trans q_skRI (Eq.trans (q_unR h462.1 mo ro (by decide)) (Eq.trans q_skRI (Eq.trans (q_unR h443.1 mo ro (by decide)) (Eq.trans q_skRI (Eq.trans q_skRI (Eq.trans (q_unR h38.1 mo ro (by decide)) (q_unR h16.1 mo ro (by decide)))))))))))))))
          have t543 := g_45_R29 hG mo ro
          have e544 : q_R (q_sI (S492) a476 (((4 : Int32) * p0) + (3 : Int32)).toNatClampNeg ((16384 : Int32))) o 29 = q_R (S) o 29 := (Eq.trans q_skRI (Eq.trans (q_leR eS492) (Eq.trans q_skRI (Eq.trans q_skRI (Eq.trans (q_leR eS480) (Eq.trans q_skRI (Eq.trans q_skRI (Eq.trans (q_unR h462.1 mo ro (by decide)) (Eq.trans q_skRI (Eq.trans (q_unR h443.1 mo ro (by decide)) (Eq.trans q_skRI (Eq.trans q_skRI (Eq.trans (q_unR h38.1 mo ro (by decide)) (q_unR h16.1 mo ro (by decide)))))))))))))))
          have t545 := g_45_R32 hG mo ro
          have t546 := g_45_R33 hG mo ro
          have t547 := g_45_R34 hG mo ro
          obtain ⟨v548, ev548⟩ := q_ev ((((p1 + (4)) + ((2 : Int32) * (2 : Int32))) - p1).toInt)
          obtain ⟨v549, ev549⟩ := q_ev (((p1 + (4)) + ((2 : Int32) * (2 : Int32))).toInt)
          obtain ⟨v550, ev550⟩ := q_ev ((p1 + (4)).toInt)
          have f551 : v550 = p1.toInt + (4) := q_addVI ev550 q_evr (show q_eqv ((4 : Int32)).toInt (4) by unfold q_eqv; decide) (by omega) (by omega)
          obtain ⟨v552, ev552⟩ := q_ev (((2 : Int32) * (2 : Int32)).toInt)
          have f553 : v552 = (2) * (2) := q_mulVI ev552 (show q_eqv ((2 : Int32)).toInt (2) by unfold q_eqv; decide) (show q_eqv ((2 : Int32)).toInt (2) by unfold q_eqv; decide) (by omega) (by omega)
          have f554 : v549 = v550 + v552 := q_addVI ev549 ev550 ev552 (by omega) (by omega)
          have f555 : v548 = v549 - p1.toInt := q_subVI ev548 ev549 q_evr (by omega) (by omega)
          exact q_ok_some ⟨hG, (q_oV ev548 (by omega) (by omega)), (q_smI ⟨(q_bw2 (fun x0 x1 => x0 = 0 → x1 = 0) ev513 ev22 (by omega)), (q_bw2 (fun x0 x1 => x0 = 0 → x1 ≤ 1601) ev513 q_evr (by omega)), (q_bw3 (fun x0 x1 x2 => x0 = 0 → 0 ≤ x1 ∧ 0 ≤ x2) ev531 ev533 ev537 (by omega)), (q_efxI (Eq.trans e542 ea3) (Eq.trans e544 ea5) (Eq.trans e516 (Eq.trans e437 ea7)) (Eq.trans e522 (Eq.trans e440 ea9)) (Eq.trans e527 (Eq.trans e459 ea11)) n498)⟩)⟩
        · have f556 := q_neV ev507 (show q_eqv ((0 : Int32)).toInt (0) by unfold q_eqv; decide) (q_n_eq g509)
          obtain ⟨v557, ev557⟩ := q_ev (((p1 + (4)) + ((2 : Int32) * (2 : Int32))).toInt)
          obtain ⟨v558, ev558⟩ := q_ev ((p1 + (4)).toInt)
          have f559 : v558 = p1.toInt + (4) := q_addVI ev558 q_evr (show q_eqv ((4 : Int32)).toInt (4) by unfold q_eqv; decide) (by omega) (by omega)
          obtain ⟨v560, ev560⟩ := q_ev (((2 : Int32) * (2 : Int32)).toInt)
          have f561 : v560 = (2) * (2) := q_mulVI ev560 (show q_eqv ((2 : Int32)).toInt (2) by unfold q_eqv; decide) (show q_eqv ((2 : Int32)).toInt (2) by unfold q_eqv; decide) (by omega) (by omega)
          have f562 : v557 = v558 + v560 := q_addVI ev557 ev558 ev560 (by omega) (by omega)
          have f563 : q_sm _ := g_45_I8 hG mo ro
          have e564 : q_I (q_sI (S492) a476 (((4 : Int32) * p0) + (3 : Int32)).toNatClampNeg ((16384 : Int32))) o 8 = q_I (S461) o 8 := (Eq.trans (q_fwI ro ra476 (by decide)) (Eq.trans (q_leI eS492) (Eq.trans (q_fwI ro ra476 (by decide)) (Eq.trans (q_fwI ro ra476 (by decide)) (Eq.trans (q_leI eS480) (Eq.trans (q_fwI ro ra476 (by decide)) (q_fwI ro ra11 (by decide))))))))
          obtain ⟨v565, ev565⟩ := q_ev ((q_I (q_sI (S492) a476 (((4 : Int32) * p0) + (3 : Int32)).toNatClampNeg ((16384 : Int32))) o 8).toInt)
          have f566 : v565 = v468 := q_eqVI e564 ev565 ev468
          have t567 := g_45_R32 hG mo ro
          have e568 : q_R (q_sI (S492) a476 (((4 : Int32) * p0) + (3 : Int32)).toNatClampNeg ((16384 : Int32))) o 32 = q_R (q_sI (S37) a60 (p0).toNatClampNeg (r36)) o 32 := (Eq.trans q_skRI (Eq.trans (q_leR eS492) (Eq.trans q_skRI (Eq.trans q_skRI (Eq.trans (q_leR eS480) (Eq.trans q_skRI (Eq.trans q_skRI (Eq.trans (q_unR h462.1 mo ro (by decide)) (Eq.trans q_skRI (Eq.trans (q_unR h443.1 mo ro (by decide)) q_skRI))))))))))
          have f569 : q_sm _ := g_67_E hG ma7 ra7 (k := (p0).toNatClampNeg)
          have e570 : q_I (q_sI (S492) a476 (((4 : Int32) * p0) + (3 : Int32)).toNatClampNeg ((16384 : Int32))) a7 (p0).toNatClampNeg = r14 := (Eq.trans (q_fwI ra7 ra476 (by decide)) (Eq.trans (q_leI eS492) (Eq.trans (q_fwI ra7 ra476 (by decide)) (Eq.trans (q_fwI ra7 ra476 (by decide)) (Eq.trans (q_leI eS480) (Eq.trans (q_fwI ra7 ra476 (by decide)) (Eq.trans (q_fwI ra7 ra11 (by decide)) (Eq.trans (q_unIA h462.1 ma7 ra7 (by decide) (by decide)) (Eq.trans (q_fwI ra7 ra9 (by decide)) (Eq.trans (q_unIA h443.1 ma7 ra7 (by decide) (by decide)) q_hitI))))))))))
          have e571 : q_fE (q_sI (S492) a476 (((4 : Int32) * p0) + (3 : Int32)).toNatClampNeg ((16384 : Int32))) o 32 ((p0 : Int32)).toNatClampNeg = q_I (q_sI (S492) a476 (((4 : Int32) * p0) + (3 : Int32)).toNatClampNeg ((16384 : Int32))) a7 (p0).toNatClampNeg := q_fEe (Eq.trans e568 (Eq.trans e437 ea7))
          have e572 : (q_fE (q_sI (S492) a476 (((4 : Int32) * p0) + (3 : Int32)).toNatClampNeg ((16384 : Int32))) o 32 ((p0 : Int32)).toNatClampNeg) &&& (2 : Int32) = r14 &&& (2 : Int32) := congrArg (fun z : Int32 => z &&& (2 : Int32)) (Eq.trans e571 e570)
          have t573 := g_45_R33 hG mo ro
          have e574 : q_R (q_sI (S492) a476 (((4 : Int32) * p0) + (3 : Int32)).toNatClampNeg ((16384 : Int32))) o 33 = q_R (q_sI (q_sI (S37) a60 (p0).toNatClampNeg (r36)) a7 (p0).toNatClampNeg (r14)) o 33 := (Eq.trans q_skRI (Eq.trans (q_leR eS492) (Eq.trans q_skRI (Eq.trans q_skRI (Eq.trans (q_leR eS480) (Eq.trans q_skRI (Eq.trans q_skRI (Eq.trans (q_unR h462.1 mo ro (by decide)) (Eq.trans q_skRI (q_unR h443.1 mo ro (by decide)))))))))))
          have f575 : q_sm _ := g_68_E hG ma9 ra9 (k := (p0).toNatClampNeg)
          have e576 : q_I (q_sI (S492) a476 (((4 : Int32) * p0) + (3 : Int32)).toNatClampNeg ((16384 : Int32))) a9 (p0).toNatClampNeg = r441 := (Eq.trans (q_fwI ra9 ra476 (by decide)) (Eq.trans (q_leI eS492) (Eq.trans (q_fwI ra9 ra476 (by decide)) (Eq.trans (q_fwI ra9 ra476 (by decide)) (Eq.trans (q_leI eS480) (Eq.trans (q_fwI ra9 ra476 (by decide)) (Eq.trans (q_fwI ra9 ra11 (by decide)) (Eq.trans (q_unIA h462.1 ma9 ra9 (by decide) (by decide)) q_hitI))))))))
          have e577 : q_fE (q_sI (S492) a476 (((4 : Int32) * p0) + (3 : Int32)).toNatClampNeg ((16384 : Int32))) o 33 ((p0 : Int32)).toNatClampNeg = q_I (q_sI (S492) a476 (((4 : Int32) * p0) + (3 : Int32)).toNatClampNeg ((16384 : Int32))) a9 (p0).toNatClampNeg := q_fEe (Eq.trans e574 (Eq.trans e440 ea9))
          have t578 := g_45_R34 hG mo ro
          have e579 : q_R (q_sI (S492) a476 (((4 : Int32) * p0) + (3 : Int32)).toNatClampNeg ((16384 : Int32))) o 34 = q_R (q_sI (S442) a9 (p0).toNatClampNeg (r441)) o 34 := (Eq.trans q_skRI (Eq.trans (q_leR eS492) (Eq.trans q_skRI (Eq.trans q_skRI (Eq.trans (q_leR eS480) (Eq.trans q_skRI (Eq.trans q_skRI (q_unR h462.1 mo ro (by decide)))))))))
          have f580 : q_sm _ := g_69_E hG ma11 ra11 (k := (p0).toNatClampNeg)
          have e581 : q_I (q_sI (S492) a476 (((4 : Int32) * p0) + (3 : Int32)).toNatClampNeg ((16384 : Int32))) a11 (p0).toNatClampNeg = r460 := (Eq.trans (q_fwI ra11 ra476 (by decide)) (Eq.trans (q_leI eS492) (Eq.trans (q_fwI ra11 ra476 (by decide)) (Eq.trans (q_fwI ra11 ra476 (by decide)) (Eq.trans (q_leI eS480) (Eq.trans (q_fwI ra11 ra476 (by decide)) q_hitI))))))
          have e582 : q_fE (q_sI (S492) a476 (((4 : Int32) * p0) + (3 : Int32)).toNatClampNeg ((16384 : Int32))) o 34 ((p0 : Int32)).toNatClampNeg = q_I (q_sI (S492) a476 (((4 : Int32) * p0) + (3 : Int32)).toNatClampNeg ((16384 : Int32))) a11 (p0).toNatClampNeg := q_fEe (Eq.trans e579 (Eq.trans e459 ea11))
          obtain ⟨v583, ev583⟩ := q_ev (((q_fE (q_sI (S492) a476 (((4 : Int32) * p0) + (3 : Int32)).toNatClampNeg ((16384 : Int32))) o 32 ((p0 : Int32)).toNatClampNeg) &&& (2 : Int32)).toInt)
          have f584 : v583 = v454 := q_eqVI e572 ev583 ev454
          obtain ⟨v585, ev585⟩ := q_ev ((q_fE (q_sI (S492) a476 (((4 : Int32) * p0) + (3 : Int32)).toNatClampNeg ((16384 : Int32))) o 33 ((p0 : Int32)).toNatClampNeg).toInt)
          obtain ⟨v586, ev586⟩ := q_ev ((q_I (q_sI (S492) a476 (((4 : Int32) * p0) + (3 : Int32)).toNatClampNeg ((16384 : Int32))) a9 (p0).toNatClampNeg).toInt)
          have f587 : v586 = r441.toInt := q_eqVI e576 ev586 q_evr
          have f588 : v585 = v586 := q_eqVI e577 ev585 ev586
          obtain ⟨v589, ev589⟩ := q_ev ((q_fE (q_sI (S492) a476 (((4 : Int32) * p0) + (3 : Int32)).toNatClampNeg ((16384 : Int32))) o 34 ((p0 : Int32)).toNatClampNeg).toInt)
          obtain ⟨v590, ev590⟩ := q_ev ((q_I (q_sI (S492) a476 (((4 : Int32) * p0) + (3 : Int32)).toNatClampNeg ((16384 : Int32))) a11 (p0).toNatClampNeg).toInt)
          have f591 : v590 = r460.toInt := q_eqVI e581 ev590 q_evr
          have f592 : v589 = v590 := q_eqVI e582 ev589 ev590
          have t593 := g_45_R26 hG mo ro
          have e594 : q_R (q_sI (S492) a476 (((4 : Int32) * p0) + (3 : Int32)).toNatClampNeg ((16384 : Int32))) o 26 = q_R (S) o 26 := (Eq.trans q_skRI (Eq.trans (q_leR eS492) (Eq.trans q_skRI (Eq.trans q_skRI (Eq.trans (q_leR eS480) (Eq.trans q_skRI (Eq.trans q_skRI (Eq.trans (q_unR h462.1 mo ro (by decide)) (Eq.trans q_skRI (Eq.trans (q_unR h443.1 mo ro (by decide)) (Eq.trans q_skRI (Eq.trans q_skRI (Eq.trans (q_unR h38.1 mo ro (by decide)) (q_unR h16.1 mo ro (by decide)))))))))))))))
          have t595 := g_45_R29 hG mo ro
          have e596 : q_R (q_sI (S492) a476 (((4 : Int32) * p0) + (3 : Int32)).toNatClampNeg ((16384 : Int32))) o 29 = q_R (S) o 29 := (Eq.trans q_skRI (Eq.trans (q_leR eS492) (Eq.trans q_skRI (Eq.trans q_skRI (Eq.trans (q_leR eS480) (Eq.trans q_skRI (Eq.trans q_skRI (Eq.trans (q_unR h462.1 mo ro (by decide)) (Eq.trans q_skRI (Eq.trans (q_unR h443.1 mo ro (by decide)) (Eq.trans q_skRI (Eq.trans q_skRI (Eq.trans (q_unR h38.1 mo ro (by decide)) (q_unR h16.1 mo ro (by decide)))))))))))))))
          have t597 := g_45_R32 hG mo ro
          have t598 := g_45_R33 hG mo ro
          have t599 := g_45_R34 hG mo ro
          exact s_X12_readPart_45_244 hn mo ro (p0 := p0) (p1 := p1) n _ _ _ _ _ hG (q_wd hp0 (by decide) (by decide)) (q_wd hp1 (by decide) (by decide)) (q_oV ev557 (by omega) (by omega)) (q_wd (show (0 : Int) ≤ (0 : Int32).toInt ∧ (0 : Int32).toInt ≤ (0 : Int) by decide) (by decide) (by decide)) (q_bw2 (fun x0 x1 => x0 = 0 → x1 = 0) ev565 ev22 (by omega)) (q_bw2 (fun x0 x1 => x0 = 0 → x1 ≤ 1601) ev565 q_evr (by omega)) (q_bw2 (fun x0 x1 => x0 = x1 + 4 + 0 ∨ x0 = x1 + 6 ∨ x0 = x1 + 8) ev557 q_evr (by omega)) (q_bw2 (fun x0 x1 => x0 = x1) q_evr q_evr (by omega)) (q_bw3 (fun x0 x1 x2 => x0 = 0 → 0 ≤ x1 ∧ 0 ≤ x2) ev583 ev585 ev589 (by omega)) (q_efxI (Eq.trans e594 ea3) (Eq.trans e596 ea5) (Eq.trans e568 (Eq.trans e437 ea7)) (Eq.trans e574 (Eq.trans e440 ea9)) (Eq.trans e579 (Eq.trans e459 ea11)) n498)  (q_upV (show q_eqv ((0 : Int32)).toInt (0) by unfold q_eqv; decide) (by omega))
      · have f600 := q_neV ev503 (show q_eqv ((0 : Int32)).toInt (0) by unfold q_eqv; decide) (q_n_eq g505)
        have t601 := g_45_R35 hG mo ro
        have e602 : q_R (q_sI (S492) a476 (((4 : Int32) * p0) + (3 : Int32)).toNatClampNeg ((16384 : Int32))) o 35 = q_R (S492) o 35 := q_skRI
        have f606 : q_sm _ := g_45_I8 hG mo ro
        have e607 : q_I (q_sI (S492) a476 (((4 : Int32) * p0) + (3 : Int32)).toNatClampNeg ((16384 : Int32))) o 8 = q_I (S461) o 8 := (Eq.trans (q_fwI ro ra476 (by decide)) (Eq.trans (q_leI eS492) (Eq.trans (q_fwI ro ra476 (by decide)) (Eq.trans (q_fwI ro ra476 (by decide)) (Eq.trans (q_leI eS480) (Eq.trans (q_fwI ro ra476 (by decide)) (q_fwI ro ra11 (by decide))))))))
        obtain ⟨v608, ev608⟩ := q_ev (((p1 + (4)) + ((2 : Int32) * (2 : Int32))).toInt)
        obtain ⟨v609, ev609⟩ := q_ev ((p1 + (4)).toInt)
        have f610 : v609 = p1.toInt + (4) := q_addVI ev609 q_evr (show q_eqv ((4 : Int32)).toInt (4) by unfold q_eqv; decide) (by omega) (by omega)
        obtain ⟨v611, ev611⟩ := q_ev (((2 : Int32) * (2 : Int32)).toInt)
        have f612 : v611 = (2) * (2) := q_mulVI ev611 (show q_eqv ((2 : Int32)).toInt (2) by unfold q_eqv; decide) (show q_eqv ((2 : Int32)).toInt (2) by unfold q_eqv; decide) (by omega) (by omega)
        have f613 : v608 = v609 + v611 := q_addVI ev608 ev609 ev611 (by omega) (by omega)
        refine q_ok_b (s_X12_data_45_k2 hn hG.1 mo ro (q_oV ev608 (by omega) (by omega)) (q_wd (show (2 : Int) ≤ (2 : Int32).toInt ∧ (2 : Int32).toInt ≤ (2 : Int) by decide) (by decide) (by decide))) (fun r603 S604 h605 => ?_)
        have hG := q_G_call hG h605.1 (by decide)
        have f614 := h605.2.1
        have n615 := q_efU h605.1 ma3 ra3 ma5 ra5 ma7 ra7 ma9 ra9 ma11 ra11 rfl rfl rfl rfl rfl n498
        have f616 : q_sm _ := g_45_I8 hG mo ro
        obtain ⟨v617, ev617⟩ := q_ev ((q_I (S604) o 8).toInt)
        have f618 := q_bV ev617 f616
        obtain ⟨v619, ev619⟩ := q_ev ((q_I (q_sI (S492) a476 (((4 : Int32) * p0) + (3 : Int32)).toNatClampNeg ((16384 : Int32))) o 8).toInt)
        have f620 : v619 = v468 := q_eqVI e607 ev619 ev468
        have f621 : v617 = 0 → v619 = 0 := q_to2 (fun x0 x1 => x0 = 0 → x1 = 0) ev617 ev619 ((q_smE (h605.2.2)).1)
        have f622 : q_sm _ := g_45_I21 hG mo ro
        have e623 : q_I (S604) o 21 = q_I (S37) o 21 := (Eq.trans (q_unI h605.1 mo ro (by decide)) (Eq.trans (q_fwI ro ra476 (by decide)) (Eq.trans (q_leI eS492) (Eq.trans (q_fwI ro ra476 (by decide)) (Eq.trans (q_fwI ro ra476 (by decide)) (Eq.trans (q_leI eS480) (Eq.trans (q_fwI ro ra476 (by decide)) (Eq.trans (q_fwI ro ra11 (by decide)) (Eq.trans (q_unI h462.1 mo ro (by decide)) (Eq.trans (q_fwI ro ra9 (by decide)) (Eq.trans (q_unI h443.1 mo ro (by decide)) (Eq.trans (q_fwI ro ra7 (by decide)) (q_fwI ro ra60 (by decide))))))))))))))
        have f624 : q_sm _ := g_45_I22 hG mo ro
        have e625 : q_I (S604) o 22 = q_I (S37) o 22 := (Eq.trans (q_unI h605.1 mo ro (by decide)) (Eq.trans (q_fwI ro ra476 (by decide)) (Eq.trans (q_leI eS492) (Eq.trans (q_fwI ro ra476 (by decide)) (Eq.trans (q_fwI ro ra476 (by decide)) (Eq.trans (q_leI eS480) (Eq.trans (q_fwI ro ra476 (by decide)) (Eq.trans (q_fwI ro ra11 (by decide)) (Eq.trans (q_unI h462.1 mo ro (by decide)) (Eq.trans (q_fwI ro ra9 (by decide)) (Eq.trans (q_unI h443.1 mo ro (by decide)) (Eq.trans (q_fwI ro ra7 (by decide)) (q_fwI ro ra60 (by decide))))))))))))))
        obtain ⟨v626, ev626⟩ := q_ev ((q_I (S604) o 21).toInt)
        have f627 : v626 = v49 := q_eqVI e623 ev626 ev49
        obtain ⟨v628, ev628⟩ := q_ev ((q_I (S604) o 22).toInt)
        have f629 : v628 = v53 := q_eqVI e625 ev628 ev53
        have f630 : v617 = 0 → v626 + v608 + (2) ≤ v628 := q_to5 (fun x0 x1 x2 x3 x4 => x0 = 0 → x1 + x2 + x3 ≤ x4) ev617 ev626 ev608 (show q_eqv ((2 : Int32)).toInt (2) by unfold q_eqv; decide) ev628 ((q_smE (h605.2.2)).2.1)
        have e631 : q_fd (S604) o ((1735162214 : Int64)) = q_fd (S37) o ((1735162214 : Int64)) := (Eq.trans (q_fdU h605.1 mo ro (by decide) (by decide) (by decide)) (Eq.trans (q_fdI ro ra476 (by decide)) (Eq.trans (q_fdL eS492) (Eq.trans (q_fdI ro ra476 (by decide)) (Eq.trans (q_fdI ro ra476 (by decide)) (Eq.trans (q_fdL eS480) (Eq.trans (q_fdI ro ra476 (by decide)) (Eq.trans (q_fdI ro ra11 (by decide)) (Eq.trans (q_fdU h462.1 mo ro (by decide) (by decide) (by decide)) (Eq.trans (q_fdI ro ra9 (by decide)) (Eq.trans (q_fdU h443.1 mo ro (by decide) (by decide) (by decide)) (Eq.trans (q_fdI ro ra7 (by decide)) (q_fdI ro ra60 (by decide))))))))))))))
        obtain ⟨v632, ev632⟩ := q_ev ((q_fd (S604) o ((1735162214 : Int64))).toInt)
        have f633 : v632 = v57 := q_eqVI e631 ev632 ev57
        have f634 : v617 = 0 → 0 ≤ v632 := q_to2 (fun x0 x1 => x0 = 0 → 0 ≤ x1) ev617 ev632 ((q_smE (h605.2.2)).2.2)
        refine q_ok_b (s_X12_signed hn hG.1 (q_wd f614 (by decide) (by decide))) (fun r635 S636 h637 => ?_)
        obtain ⟨eS636, h637⟩ := h637
        replace eS636 := eS636.symm
        subst eS636
        have f638 := h637
        refine q_ok_atA hG (Eq.trans e602 (Eq.trans e495 (Eq.trans e488 (Eq.trans e483 ea476)))) ma476 ra476 rfl ?_
        refine q_ok_if (q_inV (g_70_N hG ma476 ra476) ev477 (by omega) (by omega)) ?_
        have hG := u_70_E (k := ((4 : Int32) * p0).toNatClampNeg) (x := r635) hG ma476 ra476 (by decide) (q_wd f638 (by decide) (by decide))
        have n639 : q_ef (S) (q_sI (S604) a476 ((4 : Int32) * p0).toNatClampNeg (r635)) a3 a5 a7 a9 a11 _ := q_efI ra476 ra3 ra5 ra7 ra9 ra11 (by decide) (by decide) (by decide) (by decide) (by decide) n615
        refine q_ok_atS hG (q_trI mo ro) rfl (fun mo ro => ?_)
        have t640 := g_45_R35 hG mo ro
        have e641 : q_R (q_sI (S604) a476 ((4 : Int32) * p0).toNatClampNeg (r635)) o 35 = q_R (q_sI (S492) a476 (((4 : Int32) * p0) + (3 : Int32)).toNatClampNeg ((16384 : Int32))) o 35 := (Eq.trans q_skRI (q_unR h605.1 mo ro (by decide)))
        have f645 : q_sm _ := g_45_I8 hG mo ro
        have e646 : q_I (q_sI (S604) a476 ((4 : Int32) * p0).toNatClampNeg (r635)) o 8 = q_I (S604) o 8 := (q_fwI ro ra476 (by decide))
        obtain ⟨v647, ev647⟩ := q_ev ((((p1 + (4)) + ((2 : Int32) * (2 : Int32))) + (2 : Int32)).toInt)
        have f648 : v647 = v608 + (2) := q_addVI ev647 ev608 (show q_eqv ((2 : Int32)).toInt (2) by unfold q_eqv; decide) (by omega) (by omega)
        refine q_ok_b (s_X12_data_45_k2 hn hG.1 mo ro (q_oV ev647 (by omega) (by omega)) (q_wd (show (2 : Int) ≤ (2 : Int32).toInt ∧ (2 : Int32).toInt ≤ (2 : Int) by decide) (by decide) (by decide))) (fun r642 S643 h644 => ?_)
        have hG := q_G_call hG h644.1 (by decide)
        have f649 := h644.2.1
        have n650 := q_efU h644.1 ma3 ra3 ma5 ra5 ma7 ra7 ma9 ra9 ma11 ra11 rfl rfl rfl rfl rfl n639
        have f651 : q_sm _ := g_45_I8 hG mo ro
        obtain ⟨v652, ev652⟩ := q_ev ((q_I (S643) o 8).toInt)
        have f653 := q_bV ev652 f651
        obtain ⟨v654, ev654⟩ := q_ev ((q_I (q_sI (S604) a476 ((4 : Int32) * p0).toNatClampNeg (r635)) o 8).toInt)
        have f655 : v654 = v617 := q_eqVI e646 ev654 ev617
        have f656 : v652 = 0 → v654 = 0 := q_to2 (fun x0 x1 => x0 = 0 → x1 = 0) ev652 ev654 ((q_smE (h644.2.2)).1)
        have f657 : q_sm _ := g_45_I21 hG mo ro
        have e658 : q_I (S643) o 21 = q_I (S604) o 21 := (Eq.trans (q_unI h644.1 mo ro (by decide)) (q_fwI ro ra476 (by decide)))
        have f659 : q_sm _ := g_45_I22 hG mo ro
        have e660 : q_I (S643) o 22 = q_I (S604) o 22 := (Eq.trans (q_unI h644.1 mo ro (by decide)) (q_fwI ro ra476 (by decide)))
        obtain ⟨v661, ev661⟩ := q_ev ((q_I (S643) o 21).toInt)
        have f662 : v661 = v626 := q_eqVI e658 ev661 ev626
        obtain ⟨v663, ev663⟩ := q_ev ((q_I (S643) o 22).toInt)
        have f664 : v663 = v628 := q_eqVI e660 ev663 ev628
        have f665 : v652 = 0 → v661 + v647 + (2) ≤ v663 := q_to5 (fun x0 x1 x2 x3 x4 => x0 = 0 → x1 + x2 + x3 ≤ x4) ev652 ev661 ev647 (show q_eqv ((2 : Int32)).toInt (2) by unfold q_eqv; decide) ev663 ((q_smE (h644.2.2)).2.1)
        have e666 : q_fd (S643) o ((1735162214 : Int64)) = q_fd (S604) o ((1735162214 : Int64)) := (Eq.trans (q_fdU h644.1 mo ro (by decide) (by decide) (by decide)) (q_fdI ro ra476 (by decide)))
        obtain ⟨v667, ev667⟩ := q_ev ((q_fd (S643) o ((1735162214 : Int64))).toInt)
        have f668 : v667 = v632 := q_eqVI e666 ev667 ev632
        have f669 : v652 = 0 → 0 ≤ v667 := q_to2 (fun x0 x1 => x0 = 0 → 0 ≤ x1) ev652 ev667 ((q_smE (h644.2.2)).2.2)
        refine q_ok_b (s_X12_signed hn hG.1 (q_wd f649 (by decide) (by decide))) (fun r670 S671 h672 => ?_)
        obtain ⟨eS671, h672⟩ := h672
        replace eS671 := eS671.symm
        subst eS671
        have f673 := h672
        refine q_ok_atA hG (Eq.trans e641 (Eq.trans e602 (Eq.trans e495 (Eq.trans e488 (Eq.trans e483 ea476))))) ma476 ra476 rfl ?_
        refine q_ok_if (q_inV (g_70_N hG ma476 ra476) ev496 (by omega) (by omega)) ?_
        have hG := u_70_E (k := (((4 : Int32) * p0) + (3 : Int32)).toNatClampNeg) (x := r670) hG ma476 ra476 (by decide) (q_wd f673 (by decide) (by decide))
        have n674 : q_ef (S) (q_sI (S643) a476 (((4 : Int32) * p0) + (3 : Int32)).toNatClampNeg (r670)) a3 a5 a7 a9 a11 _ := q_efI ra476 ra3 ra5 ra7 ra9 ra11 (by decide) (by decide) (by decide) (by decide) (by decide) n650
        unfold m_X12_readPart_284
        have f675 : q_sm _ := g_45_I8 hG mo ro
        have e676 : q_I (q_sI (S643) a476 (((4 : Int32) * p0) + (3 : Int32)).toNatClampNeg (r670)) o 8 = q_I (S643) o 8 := (q_fwI ro ra476 (by decide))
        obtain ⟨v677, ev677⟩ := q_ev ((q_I (q_sI (S643) a476 (((4 : Int32) * p0) + (3 : Int32)).toNatClampNeg (r670)) o 8).toInt)
        have f678 : v677 = v652 := q_eqVI e676 ev677 ev652
        have t679 := g_45_R32 hG mo ro
        have e680 : q_R (q_sI (S643) a476 (((4 : Int32) * p0) + (3 : Int32)).toNatClampNeg (r670)) o 32 = q_R (q_sI (S37) a60 (p0).toNatClampNeg (r36)) o 32 := (Eq.trans q_skRI (Eq.trans (q_unR h644.1 mo ro (by decide)) (Eq.trans q_skRI (Eq.trans (q_unR h605.1 mo ro (by decide)) (Eq.trans q_skRI (Eq.trans (q_leR eS492) (Eq.trans q_skRI (Eq.trans q_skRI (Eq.trans (q_leR eS480) (Eq.trans q_skRI (Eq.trans q_skRI (Eq.trans (q_unR h462.1 mo ro (by decide)) (Eq.trans q_skRI (Eq.trans (q_unR h443.1 mo ro (by decide)) q_skRI))))))))))))))
        have f681 : q_sm _ := g_67_E hG ma7 ra7 (k := (p0).toNatClampNeg)
        have e682 : q_I (q_sI (S643) a476 (((4 : Int32) * p0) + (3 : Int32)).toNatClampNeg (r670)) a7 (p0).toNatClampNeg = r14 := (Eq.trans (q_fwI ra7 ra476 (by decide)) (Eq.trans (q_unIA h644.1 ma7 ra7 (by decide) (by decide)) (Eq.trans (q_fwI ra7 ra476 (by decide)) (Eq.trans (q_unIA h605.1 ma7 ra7 (by decide) (by decide)) (Eq.trans (q_fwI ra7 ra476 (by decide)) (Eq.trans (q_leI eS492) (Eq.trans (q_fwI ra7 ra476 (by decide)) (Eq.trans (q_fwI ra7 ra476 (by decide)) (Eq.trans (q_leI eS480) (Eq.trans (q_fwI ra7 ra476 (by decide)) (Eq.trans (q_fwI ra7 ra11 (by decide)) (Eq.trans (q_unIA h462.1 ma7 ra7 (by decide) (by decide)) (Eq.trans (q_fwI ra7 ra9 (by decide)) (Eq.trans (q_unIA h443.1 ma7 ra7 (by decide) (by decide)) q_hitI))))))))))))))
        have e683 : q_fE (q_sI (S643) a476 (((4 : Int32) * p0) + (3 : Int32)).toNatClampNeg (r670)) o 32 ((p0 : Int32)).toNatClampNeg = q_I (q_sI (S643) a476 (((4 : Int32) * p0) + (3 : Int32)).toNatClampNeg (r670)) a7 (p0).toNatClampNeg := q_fEe (Eq.trans e680 (Eq.trans e437 ea7))
        have e684 : (q_fE (q_sI (S643) a476 (((4 : Int32) * p0) + (3 : Int32)).toNatClampNeg (r670)) o 32 ((p0 : Int32)).toNatClampNeg) &&& (2 : Int32) = r14 &&& (2 : Int32) := congrArg (fun z : Int32 => z &&& (2 : Int32)) (Eq.trans e683 e682)
        have t685 := g_45_R33 hG mo ro
        have e686 : q_R (q_sI (S643) a476 (((4 : Int32) * p0) + (3 : Int32)).toNatClampNeg (r670)) o 33 = q_R (q_sI (q_sI (S37) a60 (p0).toNatClampNeg (r36)) a7 (p0).toNatClampNeg (r14)) o 33 := (Eq.trans q_skRI (Eq.trans (q_unR h644.1 mo ro (by decide)) (Eq.trans q_skRI (Eq.trans (q_unR h605.1 mo ro (by decide)) (Eq.trans q_skRI (Eq.trans (q_leR eS492) (Eq.trans q_skRI (Eq.trans q_skRI (Eq.trans (q_leR eS480) (Eq.trans q_skRI (Eq.trans q_skRI (Eq.trans (q_unR h462.1 mo ro (by decide)) (Eq.trans q_skRI (q_unR h443.1 mo ro (by decide)))))))))))))))
        have f687 : q_sm _ := g_68_E hG ma9 ra9 (k := (p0).toNatClampNeg)
        have e688 : q_I (q_sI (S643) a476 (((4 : Int32) * p0) + (3 : Int32)).toNatClampNeg (r670)) a9 (p0).toNatClampNeg = r441 := (Eq.trans (q_fwI ra9 ra476 (by decide)) (Eq.trans (q_unIA h644.1 ma9 ra9 (by decide) (by decide)) (Eq.trans (q_fwI ra9 ra476 (by decide)) (Eq.trans (q_unIA h605.1 ma9 ra9 (by decide) (by decide)) (Eq.trans (q_fwI ra9 ra476 (by decide)) (Eq.trans (q_leI eS492) (Eq.trans (q_fwI ra9 ra476 (by decide)) (Eq.trans (q_fwI ra9 ra476 (by decide)) (Eq.trans (q_leI eS480) (Eq.trans (q_fwI ra9 ra476 (by decide)) (Eq.trans (q_fwI ra9 ra11 (by decide)) (Eq.trans (q_unIA h462.1 ma9 ra9 (by decide) (by decide)) q_hitI))))))))))))
        have e689 : q_fE (q_sI (S643) a476 (((4 : Int32) * p0) + (3 : Int32)).toNatClampNeg (r670)) o 33 ((p0 : Int32)).toNatClampNeg = q_I (q_sI (S643) a476 (((4 : Int32) * p0) + (3 : Int32)).toNatClampNeg (r670)) a9 (p0).toNatClampNeg := q_fEe (Eq.trans e686 (Eq.trans e440 ea9))
        have t690 := g_45_R34 hG mo ro
        have e691 : q_R (q_sI (S643) a476 (((4 : Int32) * p0) + (3 : Int32)).toNatClampNeg (r670)) o 34 = q_R (q_sI (S442) a9 (p0).toNatClampNeg (r441)) o 34 := (Eq.trans q_skRI (Eq.trans (q_unR h644.1 mo ro (by decide)) (Eq.trans q_skRI (Eq.trans (q_unR h605.1 mo ro (by decide)) (Eq.trans q_skRI (Eq.trans (q_leR eS492) (Eq.trans q_skRI (Eq.trans q_skRI (Eq.trans (q_leR eS480) (Eq.trans q_skRI (Eq.trans q_skRI (q_unR h462.1 mo ro (by decide)))))))))))))
        have f692 : q_sm _ := g_69_E hG ma11 ra11 (k := (p0).toNatClampNeg)
        have e693 : q_I (q_sI (S643) a476 (((4 : Int32) * p0) + (3 : Int32)).toNatClampNeg (r670)) a11 (p0).toNatClampNeg = r460 := (Eq.trans (q_fwI ra11 ra476 (by decide)) (Eq.trans (q_unIA h644.1 ma11 ra11 (by decide) (by decide)) (Eq.trans (q_fwI ra11 ra476 (by decide)) (Eq.trans (q_unIA h605.1 ma11 ra11 (by decide) (by decide)) (Eq.trans (q_fwI ra11 ra476 (by decide)) (Eq.trans (q_leI eS492) (Eq.trans (q_fwI ra11 ra476 (by decide)) (Eq.trans (q_fwI ra11 ra476 (by decide)) (Eq.trans (q_leI eS480) (Eq.trans (q_fwI ra11 ra476 (by decide)) q_hitI))))))))))
        have e694 : q_fE (q_sI (S643) a476 (((4 : Int32) * p0) + (3 : Int32)).toNatClampNeg (r670)) o 34 ((p0 : Int32)).toNatClampNeg = q_I (q_sI (S643) a476 (((4 : Int32) * p0) + (3 : Int32)).toNatClampNeg (r670)) a11 (p0).toNatClampNeg := q_fEe (Eq.trans e691 (Eq.trans e459 ea11))
        obtain ⟨v695, ev695⟩ := q_ev (((q_fE (q_sI (S643) a476 (((4 : Int32) * p0) + (3 : Int32)).toNatClampNeg (r670)) o 32 ((p0 : Int32)).toNatClampNeg) &&& (2 : Int32)).toInt)
        have f696 : v695 = v454 := q_eqVI e684 ev695 ev454
        obtain ⟨v697, ev697⟩ := q_ev ((q_fE (q_sI (S643) a476 (((4 : Int32) * p0) + (3 : Int32)).toNatClampNeg (r670)) o 33 ((p0 : Int32)).toNatClampNeg).toInt)
        obtain ⟨v698, ev698⟩ := q_ev ((q_I (q_sI (S643) a476 (((4 : Int32) * p0) + (3 : Int32)).toNatClampNeg (r670)) a9 (p0).toNatClampNeg).toInt)
        have f699 : v698 = r441.toInt := q_eqVI e688 ev698 q_evr
        have f700 : v697 = v698 := q_eqVI e689 ev697 ev698
        obtain ⟨v701, ev701⟩ := q_ev ((q_fE (q_sI (S643) a476 (((4 : Int32) * p0) + (3 : Int32)).toNatClampNeg (r670)) o 34 ((p0 : Int32)).toNatClampNeg).toInt)
        obtain ⟨v702, ev702⟩ := q_ev ((q_I (q_sI (S643) a476 (((4 : Int32) * p0) + (3 : Int32)).toNatClampNeg (r670)) a11 (p0).toNatClampNeg).toInt)
        have f703 : v702 = r460.toInt := q_eqVI e693 ev702 q_evr
        have f704 : v701 = v702 := q_eqVI e694 ev701 ev702
        have t705 := g_45_R26 hG mo ro
        have e706 : q_R (q_sI (S643) a476 (((4 : Int32) * p0) + (3 : Int32)).toNatClampNeg (r670)) o 26 = q_R (S) o 26 := (Eq.trans q_skRI (Eq.trans (q_unR h644.1 mo ro (by decide)) (Eq.trans q_skRI (Eq.trans (q_unR h605.1 mo ro (by decide)) (Eq.trans q_skRI (Eq.trans (q_leR eS492) (Eq.trans q_skRI (Eq.trans q_skRI (Eq.trans (q_leR eS480) (Eq.trans q_skRI (Eq.trans q_skRI (Eq.trans (q_unR h462.1 mo ro (by decide)) (Eq.trans q_skRI (Eq.trans (q_unR h443.1 mo ro (by decide)) (Eq.trans q_skRI (Eq.trans q_skRI (Eq.trans (q_unR h38.1 mo ro (by decide)) (q_unR h16.1 mo ro (by decide)))))))))))))))))))
        have t707 := g_45_R29 hG mo ro
        have e708 : q_R (q_sI (S643) a476 (((4 : Int32) * p0) + (3 : Int32)).toNatClampNeg (r670)) o 29 = q_R (S) o 29 := (Eq.trans q_skRI (Eq.trans (q_unR h644.1 mo ro (by decide)) (Eq.trans q_skRI (Eq.trans (q_unR h605.1 mo ro (by decide)) (Eq.trans q_skRI (Eq.trans (q_leR eS492) (Eq.trans q_skRI (Eq.trans q_skRI (Eq.trans (q_leR eS480) (Eq.trans q_skRI (Eq.trans q_skRI (Eq.trans (q_unR h462.1 mo ro (by decide)) (Eq.trans q_skRI (Eq.trans (q_unR h443.1 mo ro (by decide)) (Eq.trans q_skRI (Eq.trans q_skRI (Eq.trans (q_unR h38.1 mo ro (by decide)) (q_unR h16.1 mo ro (by decide)))))))))))))))))))
        have t709 := g_45_R32 hG mo ro
        have t710 := g_45_R33 hG mo ro
        have t711 := g_45_R34 hG mo ro
        obtain ⟨v712, ev712⟩ := q_ev (((((p1 + (4)) + ((2 : Int32) * (2 : Int32))) + (4)) - p1).toInt)
        obtain ⟨v713, ev713⟩ := q_ev ((((p1 + (4)) + ((2 : Int32) * (2 : Int32))) + (4)).toInt)
        have f714 : v713 = v608 + (4) := q_addVI ev713 ev608 (show q_eqv ((4 : Int32)).toInt (4) by unfold q_eqv; decide) (by omega) (by omega)
        have f715 : v712 = v713 - p1.toInt := q_subVI ev712 ev713 q_evr (by omega) (by omega)
        exact q_ok_some ⟨hG, (q_oV ev712 (by omega) (by omega)), (q_smI ⟨(q_bw2 (fun x0 x1 => x0 = 0 → x1 = 0) ev677 ev22 (by omega)), (q_bw2 (fun x0 x1 => x0 = 0 → x1 ≤ 1601) ev677 q_evr (by omega)), (q_bw3 (fun x0 x1 x2 => x0 = 0 → 0 ≤ x1 ∧ 0 ≤ x2) ev695 ev697 ev701 (by omega)), (q_efxI (Eq.trans e706 ea3) (Eq.trans e708 ea5) (Eq.trans e680 (Eq.trans e437 ea7)) (Eq.trans e686 (Eq.trans e440 ea9)) (Eq.trans e691 (Eq.trans e459 ea11)) n674)⟩)⟩
    · have f716 := q_neV ev499 (show q_eqv ((0 : Int32)).toInt (0) by unfold q_eqv; decide) (q_n_eq g501)
      have t717 := g_45_R35 hG mo ro
      have e718 : q_R (q_sI (S492) a476 (((4 : Int32) * p0) + (3 : Int32)).toNatClampNeg ((16384 : Int32))) o 35 = q_R (S492) o 35 := q_skRI
      have f722 : q_sm _ := g_45_I8 hG mo ro
      have e723 : q_I (q_sI (S492) a476 (((4 : Int32) * p0) + (3 : Int32)).toNatClampNeg ((16384 : Int32))) o 8 = q_I (S461) o 8 := (Eq.trans (q_fwI ro ra476 (by decide)) (Eq.trans (q_leI eS492) (Eq.trans (q_fwI ro ra476 (by decide)) (Eq.trans (q_fwI ro ra476 (by decide)) (Eq.trans (q_leI eS480) (Eq.trans (q_fwI ro ra476 (by decide)) (q_fwI ro ra11 (by decide))))))))
      obtain ⟨v724, ev724⟩ := q_ev (((p1 + (4)) + ((2 : Int32) * (2 : Int32))).toInt)
      obtain ⟨v725, ev725⟩ := q_ev ((p1 + (4)).toInt)
      have f726 : v725 = p1.toInt + (4) := q_addVI ev725 q_evr (show q_eqv ((4 : Int32)).toInt (4) by unfold q_eqv; decide) (by omega) (by omega)
      obtain ⟨v727, ev727⟩ := q_ev (((2 : Int32) * (2 : Int32)).toInt)
      have f728 : v727 = (2) * (2) := q_mulVI ev727 (show q_eqv ((2 : Int32)).toInt (2) by unfold q_eqv; decide) (show q_eqv ((2 : Int32)).toInt (2) by unfold q_eqv; decide) (by omega) (by omega)
      have f729 : v724 = v725 + v727 := q_addVI ev724 ev725 ev727 (by omega) (by omega)
      refine q_ok_b (s_X12_data_45_k2 hn hG.1 mo ro (q_oV ev724 (by omega) (by omega)) (q_wd (show (2 : Int) ≤ (2 : Int32).toInt ∧ (2 : Int32).toInt ≤ (2 : Int) by decide) (by decide) (by decide))) (fun r719 S720 h721 => ?_)
      have hG := q_G_call hG h721.1 (by decide)
      have f730 := h721.2.1
      have n731 := q_efU h721.1 ma3 ra3 ma5 ra5 ma7 ra7 ma9 ra9 ma11 ra11 rfl rfl rfl rfl rfl n498
      have f732 : q_sm _ := g_45_I8 hG mo ro
      obtain ⟨v733, ev733⟩ := q_ev ((q_I (S720) o 8).toInt)
      have f734 := q_bV ev733 f732
      obtain ⟨v735, ev735⟩ := q_ev ((q_I (q_sI (S492) a476 (((4 : Int32) * p0) + (3 : Int32)).toNatClampNeg ((16384 : Int32))) o 8).toInt)
      have f736 : v735 = v468 := q_eqVI e723 ev735 ev468
      have f737 : v733 = 0 → v735 = 0 := q_to2 (fun x0 x1 => x0 = 0 → x1 = 0) ev733 ev735 ((q_smE (h721.2.2)).1)
      have f738 : q_sm _ := g_45_I21 hG mo ro
      have e739 : q_I (S720) o 21 = q_I (S37) o 21 := (Eq.trans (q_unI h721.1 mo ro (by decide)) (Eq.trans (q_fwI ro ra476 (by decide)) (Eq.trans (q_leI eS492) (Eq.trans (q_fwI ro ra476 (by decide)) (Eq.trans (q_fwI ro ra476 (by decide)) (Eq.trans (q_leI eS480) (Eq.trans (q_fwI ro ra476 (by decide)) (Eq.trans (q_fwI ro ra11 (by decide)) (Eq.trans (q_unI h462.1 mo ro (by decide)) (Eq.trans (q_fwI ro ra9 (by decide)) (Eq.trans (q_unI h443.1 mo ro (by decide)) (Eq.trans (q_fwI ro ra7 (by decide)) (q_fwI ro ra60 (by decide))))))))))))))
      have f740 : q_sm _ := g_45_I22 hG mo ro
      have e741 : q_I (S720) o 22 = q_I (S37) o 22 := (Eq.trans (q_unI h721.1 mo ro (by decide)) (Eq.trans (q_fwI ro ra476 (by decide)) (Eq.trans (q_leI eS492) (Eq.trans (q_fwI ro ra476 (by decide)) (Eq.trans (q_fwI ro ra476 (by decide)) (Eq.trans (q_leI eS480) (Eq.trans (q_fwI ro ra476 (by decide)) (Eq.trans (q_fwI ro ra11 (by decide)) (Eq.trans (q_unI h462.1 mo ro (by decide)) (Eq.trans (q_fwI ro ra9 (by decide)) (Eq.trans (q_unI h443.1 mo ro (by decide)) (Eq.trans (q_fwI ro ra7 (by decide)) (q_fwI ro ra60 (by decide))))))))))))))
      obtain ⟨v742, ev742⟩ := q_ev ((q_I (S720) o 21).toInt)
      have f743 : v742 = v49 := q_eqVI e739 ev742 ev49
      obtain ⟨v744, ev744⟩ := q_ev ((q_I (S720) o 22).toInt)
      have f745 : v744 = v53 := q_eqVI e741 ev744 ev53
      have f746 : v733 = 0 → v742 + v724 + (2) ≤ v744 := q_to5 (fun x0 x1 x2 x3 x4 => x0 = 0 → x1 + x2 + x3 ≤ x4) ev733 ev742 ev724 (show q_eqv ((2 : Int32)).toInt (2) by unfold q_eqv; decide) ev744 ((q_smE (h721.2.2)).2.1)
      have e747 : q_fd (S720) o ((1735162214 : Int64)) = q_fd (S37) o ((1735162214 : Int64)) := (Eq.trans (q_fdU h721.1 mo ro (by decide) (by decide) (by decide)) (Eq.trans (q_fdI ro ra476 (by decide)) (Eq.trans (q_fdL eS492) (Eq.trans (q_fdI ro ra476 (by decide)) (Eq.trans (q_fdI ro ra476 (by decide)) (Eq.trans (q_fdL eS480) (Eq.trans (q_fdI ro ra476 (by decide)) (Eq.trans (q_fdI ro ra11 (by decide)) (Eq.trans (q_fdU h462.1 mo ro (by decide) (by decide) (by decide)) (Eq.trans (q_fdI ro ra9 (by decide)) (Eq.trans (q_fdU h443.1 mo ro (by decide) (by decide) (by decide)) (Eq.trans (q_fdI ro ra7 (by decide)) (q_fdI ro ra60 (by decide))))))))))))))
      obtain ⟨v748, ev748⟩ := q_ev ((q_fd (S720) o ((1735162214 : Int64))).toInt)
      have f749 : v748 = v57 := q_eqVI e747 ev748 ev57
      have f750 : v733 = 0 → 0 ≤ v748 := q_to2 (fun x0 x1 => x0 = 0 → 0 ≤ x1) ev733 ev748 ((q_smE (h721.2.2)).2.2)
      refine q_ok_b (s_X12_signed hn hG.1 (q_wd f730 (by decide) (by decide))) (fun r751 S752 h753 => ?_)
      obtain ⟨eS752, h753⟩ := h753
      replace eS752 := eS752.symm
      subst eS752
      have f754 := h753
      refine q_ok_atA hG (Eq.trans e718 (Eq.trans e495 (Eq.trans e488 (Eq.trans e483 ea476)))) ma476 ra476 rfl ?_
      refine q_ok_if (q_inV (g_70_N hG ma476 ra476) ev477 (by omega) (by omega)) ?_
      have hG := u_70_E (k := ((4 : Int32) * p0).toNatClampNeg) (x := r751) hG ma476 ra476 (by decide) (q_wd f754 (by decide) (by decide))
      have n755 : q_ef (S) (q_sI (S720) a476 ((4 : Int32) * p0).toNatClampNeg (r751)) a3 a5 a7 a9 a11 _ := q_efI ra476 ra3 ra5 ra7 ra9 ra11 (by decide) (by decide) (by decide) (by decide) (by decide) n731
      refine q_ok_atS hG (q_trI mo ro) rfl (fun mo ro => ?_)
      have t756 := g_45_R35 hG mo ro
      have e757 : q_R (q_sI (S720) a476 ((4 : Int32) * p0).toNatClampNeg (r751)) o 35 = q_R (q_sI (S492) a476 (((4 : Int32) * p0) + (3 : Int32)).toNatClampNeg ((16384 : Int32))) o 35 := (Eq.trans q_skRI (q_unR h721.1 mo ro (by decide)))
      have t758 := g_45_R35 hG mo ro
      refine q_ok_atA hG (Eq.trans e757 (Eq.trans e718 (Eq.trans e495 (Eq.trans e488 (Eq.trans e483 ea476))))) ma476 ra476 rfl ?_
      refine q_ok_if (q_inV (g_70_N hG ma476 ra476) ev477 (by omega) (by omega)) ?_
      have f759 : q_sm _ := g_70_E hG ma476 ra476 (k := ((4 : Int32) * p0).toNatClampNeg)
      have e760 : q_I (q_sI (S720) a476 ((4 : Int32) * p0).toNatClampNeg (r751)) a476 ((4 : Int32) * p0).toNatClampNeg = r751 := q_hitI
      refine q_ok_if (q_inV (g_70_N hG ma476 ra476) ev496 (by omega) (by omega)) ?_
      have hG := u_70_E (k := (((4 : Int32) * p0) + (3 : Int32)).toNatClampNeg) (x := q_I (q_sI (S720) a476 ((4 : Int32) * p0).toNatClampNeg (r751)) a476 ((4 : Int32) * p0).toNatClampNeg) hG ma476 ra476 (by decide) (q_wd f759 (by decide) (by decide))
      have n761 : q_ef (S) (q_sI (q_sI (S720) a476 ((4 : Int32) * p0).toNatClampNeg (r751)) a476 (((4 : Int32) * p0) + (3 : Int32)).toNatClampNeg (q_I (q_sI (S720) a476 ((4 : Int32) * p0).toNatClampNeg (r751)) a476 ((4 : Int32) * p0).toNatClampNeg)) a3 a5 a7 a9 a11 _ := q_efI ra476 ra3 ra5 ra7 ra9 ra11 (by decide) (by decide) (by decide) (by decide) (by decide) n755
      refine q_ok_let (fun S762 eS762 => ?_)
      rw [← eS762] at hG
      have n763 := q_efL eS762 n761
      unfold m_X12_readPart_284
      have f764 : q_sm _ := g_45_I8 hG mo ro
      have e765 : q_I (S762) o 8 = q_I (S720) o 8 := (Eq.trans (q_leI eS762) (Eq.trans (q_fwI ro ra476 (by decide)) (q_fwI ro ra476 (by decide))))
      obtain ⟨v766, ev766⟩ := q_ev ((q_I (S762) o 8).toInt)
      have f767 : v766 = v733 := q_eqVI e765 ev766 ev733
      have t768 := g_45_R32 hG mo ro
      have e769 : q_R (S762) o 32 = q_R (q_sI (S37) a60 (p0).toNatClampNeg (r36)) o 32 := (Eq.trans (q_leR eS762) (Eq.trans q_skRI (Eq.trans q_skRI (Eq.trans (q_unR h721.1 mo ro (by decide)) (Eq.trans q_skRI (Eq.trans (q_leR eS492) (Eq.trans q_skRI (Eq.trans q_skRI (Eq.trans (q_leR eS480) (Eq.trans q_skRI (Eq.trans q_skRI (Eq.trans (q_unR h462.1 mo ro (by decide)) (Eq.trans q_skRI (Eq.trans (q_unR h443.1 mo ro (by decide)) q_skRI))))))))))))))
      have f770 : q_sm _ := g_67_E hG ma7 ra7 (k := (p0).toNatClampNeg)
      have e771 : q_I (S762) a7 (p0).toNatClampNeg = r14 := (Eq.trans (q_leI eS762) (Eq.trans (q_fwI ra7 ra476 (by decide)) (Eq.trans (q_fwI ra7 ra476 (by decide)) (Eq.trans (q_unIA h721.1 ma7 ra7 (by decide) (by decide)) (Eq.trans (q_fwI ra7 ra476 (by decide)) (Eq.trans (q_leI eS492) (Eq.trans (q_fwI ra7 ra476 (by decide)) (Eq.trans (q_fwI ra7 ra476 (by decide)) (Eq.trans (q_leI eS480) (Eq.trans (q_fwI ra7 ra476 (by decide)) (Eq.trans (q_fwI ra7 ra11 (by decide)) (Eq.trans (q_unIA h462.1 ma7 ra7 (by decide) (by decide)) (Eq.trans (q_fwI ra7 ra9 (by decide)) (Eq.trans (q_unIA h443.1 ma7 ra7 (by decide) (by decide)) q_hitI))))))))))))))
      have e772 : q_fE (S762) o 32 ((p0 : Int32)).toNatClampNeg = q_I (S762) a7 (p0).toNatClampNeg := q_fEe (Eq.trans e769 (Eq.trans e437 ea7))
      have e773 : (q_fE (S762) o 32 ((p0 : Int32)).toNatClampNeg) &&& (2 : Int32) = r14 &&& (2 : Int32) := congrArg (fun z : Int32 => z &&& (2 : Int32)) (Eq.trans e772 e771)
      have t774 := g_45_R33 hG mo ro
      have e775 : q_R (S762) o 33 = q_R (q_sI (q_sI (S37) a60 (p0).toNatClampNeg (r36)) a7 (p0).toNatClampNeg (r14)) o 33 := (Eq.trans (q_leR eS762) (Eq.trans q_skRI (Eq.trans q_skRI (Eq.trans (q_unR h721.1 mo ro (by decide)) (Eq.trans q_skRI (Eq.trans (q_leR eS492) (Eq.trans q_skRI (Eq.trans q_skRI (Eq.trans (q_leR eS480) (Eq.trans q_skRI (Eq.trans q_skRI (Eq.trans (q_unR h462.1 mo ro (by decide)) (Eq.trans q_skRI (q_unR h443.1 mo ro (by decide)))))))))))))))
      have f776 : q_sm _ := g_68_E hG ma9 ra9 (k := (p0).toNatClampNeg)
      have e777 : q_I (S762) a9 (p0).toNatClampNeg = r441 := (Eq.trans (q_leI eS762) (Eq.trans (q_fwI ra9 ra476 (by decide)) (Eq.trans (q_fwI ra9 ra476 (by decide)) (Eq.trans (q_unIA h721.1 ma9 ra9 (by decide) (by decide)) (Eq.trans (q_fwI ra9 ra476 (by decide)) (Eq.trans (q_leI eS492) (Eq.trans (q_fwI ra9 ra476 (by decide)) (Eq.trans (q_fwI ra9 ra476 (by decide)) (Eq.trans (q_leI eS480) (Eq.trans (q_fwI ra9 ra476 (by decide)) (Eq.trans (q_fwI ra9 ra11 (by decide)) (Eq.trans (q_unIA h462.1 ma9 ra9 (by decide) (by decide)) q_hitI))))))))))))
      have e778 : q_fE (S762) o 33 ((p0 : Int32)).toNatClampNeg = q_I (S762) a9 (p0).toNatClampNeg := q_fEe (Eq.trans e775 (Eq.trans e440 ea9))
      have t779 := g_45_R34 hG mo ro
      have e780 : q_R (S762) o 34 = q_R (q_sI (S442) a9 (p0).toNatClampNeg (r441)) o 34 := (Eq.trans (q_leR eS762) (Eq.trans q_skRI (Eq.trans q_skRI (Eq.trans (q_unR h721.1 mo ro (by decide)) (Eq.trans q_skRI (Eq.trans (q_leR eS492) (Eq.trans q_skRI (Eq.trans q_skRI (Eq.trans (q_leR eS480) (Eq.trans q_skRI (Eq.trans q_skRI (q_unR h462.1 mo ro (by decide)))))))))))))
      have f781 : q_sm _ := g_69_E hG ma11 ra11 (k := (p0).toNatClampNeg)
      have e782 : q_I (S762) a11 (p0).toNatClampNeg = r460 := (Eq.trans (q_leI eS762) (Eq.trans (q_fwI ra11 ra476 (by decide)) (Eq.trans (q_fwI ra11 ra476 (by decide)) (Eq.trans (q_unIA h721.1 ma11 ra11 (by decide) (by decide)) (Eq.trans (q_fwI ra11 ra476 (by decide)) (Eq.trans (q_leI eS492) (Eq.trans (q_fwI ra11 ra476 (by decide)) (Eq.trans (q_fwI ra11 ra476 (by decide)) (Eq.trans (q_leI eS480) (Eq.trans (q_fwI ra11 ra476 (by decide)) q_hitI))))))))))
      have e783 : q_fE (S762) o 34 ((p0 : Int32)).toNatClampNeg = q_I (S762) a11 (p0).toNatClampNeg := q_fEe (Eq.trans e780 (Eq.trans e459 ea11))
      obtain ⟨v784, ev784⟩ := q_ev (((q_fE (S762) o 32 ((p0 : Int32)).toNatClampNeg) &&& (2 : Int32)).toInt)
      have f785 : v784 = v454 := q_eqVI e773 ev784 ev454
      obtain ⟨v786, ev786⟩ := q_ev ((q_fE (S762) o 33 ((p0 : Int32)).toNatClampNeg).toInt)
      obtain ⟨v787, ev787⟩ := q_ev ((q_I (S762) a9 (p0).toNatClampNeg).toInt)
      have f788 : v787 = r441.toInt := q_eqVI e777 ev787 q_evr
      have f789 : v786 = v787 := q_eqVI e778 ev786 ev787
      obtain ⟨v790, ev790⟩ := q_ev ((q_fE (S762) o 34 ((p0 : Int32)).toNatClampNeg).toInt)
      obtain ⟨v791, ev791⟩ := q_ev ((q_I (S762) a11 (p0).toNatClampNeg).toInt)
      have f792 : v791 = r460.toInt := q_eqVI e782 ev791 q_evr
      have f793 : v790 = v791 := q_eqVI e783 ev790 ev791
      have t794 := g_45_R26 hG mo ro
      have e795 : q_R (S762) o 26 = q_R (S) o 26 := (Eq.trans (q_leR eS762) (Eq.trans q_skRI (Eq.trans q_skRI (Eq.trans (q_unR h721.1 mo ro (by decide)) (Eq.trans q_skRI (Eq.trans (q_leR eS492) (Eq.trans q_skRI (Eq.trans q_skRI (Eq.trans (q_leR eS480) (Eq.trans q_skRI (Eq.trans q_skRI (Eq.trans (q_unR h462.1 mo ro (by decide)) (Eq.trans q_skRI (Eq.trans (q_unR h443.1 mo ro (by decide)) (Eq.trans q_skRI (Eq.trans q_skRI (Eq.trans (q_unR h38.1 mo ro (by decide)) (q_unR h16.1 mo ro (by decide)))))))))))))))))))
      have t796 := g_45_R29 hG mo ro
      have e797 : q_R (S762) o 29 = q_R (S) o 29 := (Eq.trans (q_leR eS762) (Eq.trans q_skRI (Eq.trans q_skRI (Eq.trans (q_unR h721.1 mo ro (by decide)) (Eq.trans q_skRI (Eq.trans (q_leR eS492) (Eq.trans q_skRI (Eq.trans q_skRI (Eq.trans (q_leR eS480) (Eq.trans q_skRI (Eq.trans q_skRI (Eq.trans (q_unR h462.1 mo ro (by decide)) (Eq.trans q_skRI (Eq.trans (q_unR h443.1 mo ro (by decide)) (Eq.trans q_skRI (Eq.trans q_skRI (Eq.trans (q_unR h38.1 mo ro (by decide)) (q_unR h16.1 mo ro (by decide)))))))))))))))))))
      have t798 := g_45_R32 hG mo ro
      have t799 := g_45_R33 hG mo ro
      have t800 := g_45_R34 hG mo ro
      obtain ⟨v801, ev801⟩ := q_ev (((((p1 + (4)) + ((2 : Int32) * (2 : Int32))) + (2)) - p1).toInt)
      obtain ⟨v802, ev802⟩ := q_ev ((((p1 + (4)) + ((2 : Int32) * (2 : Int32))) + (2)).toInt)
      have f803 : v802 = v724 + (2) := q_addVI ev802 ev724 (show q_eqv ((2 : Int32)).toInt (2) by unfold q_eqv; decide) (by omega) (by omega)
      have f804 : v801 = v802 - p1.toInt := q_subVI ev801 ev802 q_evr (by omega) (by omega)
      exact q_ok_some ⟨hG, (q_oV ev801 (by omega) (by omega)), (q_smI ⟨(q_bw2 (fun x0 x1 => x0 = 0 → x1 = 0) ev766 ev22 (by omega)), (q_bw2 (fun x0 x1 => x0 = 0 → x1 ≤ 1601) ev766 q_evr (by omega)), (q_bw3 (fun x0 x1 x2 => x0 = 0 → 0 ≤ x1 ∧ 0 ≤ x2) ev784 ev786 ev790 (by omega)), (q_efxI (Eq.trans e795 ea3) (Eq.trans e797 ea5) (Eq.trans e769 (Eq.trans e437 ea7)) (Eq.trans e775 (Eq.trans e440 ea9)) (Eq.trans e780 (Eq.trans e459 ea11)) n763)⟩)⟩
