def M_X12_piece_45 : List Nat := [2916, 4544]
set_option maxHeartbeats 4000000 in
set_option maxRecDepth 100000 in
theorem s_X12_piece_45 {ρ : Nat → Nat} {L : List Nat} {n : Nat} (hn : 18446744073709551616 ≤ n) {S : q_S} (hI : q_Inv ρ L S) {o : Nat} (mo : o ∈ L) (ro : ρ o = 45) {p0 : Int32} (hp0 : (0 ≤ p0.toInt ∧ p0.toInt ≤ 119)) {p1 : Int32} (hp1 : (0 ≤ p1.toInt ∧ p1.toInt ≤ 1)) {p2 : Int32} {p3 : Int32} {p4 : Int32} {p5 : Int32} {p6 : Int32} {p7 : Int32} (hq0 : (q_I S o 36).toInt ≤ 119) : q_ok (m_X12_piece n S o p0 p1 p2 p3 p4 p5 p6 p7) (fun _ T => q_G ρ L M_X12_piece_45 S T ∧ q_sm (((q_I T o 36).toInt = (q_I S o 36).toInt + 1))) := by
  have hG : q_G ρ L M_X12_piece_45 S S := q_G_refl hI
  unfold m_X12_piece
  have z0 : (0 : Int32).toInt = 0 := rfl
  have f1 : q_sm _ := g_45_I36 hG mo ro
  obtain ⟨v2, ev2⟩ := q_ev ((q_I (S) o 36).toInt)
  have f3 := q_bV ev2 f1
  have f4 : v2 ≤ 119 := q_to1 (fun x0 => x0 ≤ 119) ev2 hq0
  refine q_ok_atS hG (q_trI mo ro) rfl (fun mo ro => ?_)
  have t5 := g_45_R37 hG mo ro
  refine q_ok_at hG t5 rfl (fun a6 ma6 ra6 ea6 => ?_)
  obtain ⟨v7, ev7⟩ := q_ev (((8 : Int32) * (q_I (S) o 36)).toInt)
  have f8 : v7 = (8) * v2 := q_mulVI ev7 (show q_eqv ((8 : Int32)).toInt (8) by unfold q_eqv; decide) ev2 (by omega) (by omega)
  refine q_ok_if (q_inV (g_71_N hG ma6 ra6) ev7 (by omega) (by omega)) ?_
  have hG := u_71_E (k := ((8 : Int32) * (q_I (S) o 36)).toNatClampNeg) (x := p0) hG ma6 ra6 (by decide)
  have t9 := g_45_R37 hG mo ro
  have e10 : q_R (q_sI (S) a6 ((8 : Int32) * (q_I (S) o 36)).toNatClampNeg (p0)) o 37 = q_R (S) o 37 := q_skRI
  refine q_ok_ite (fun g11 => ?_) (fun g11 => ?_)
  · have f12 := q_eqV q_evr (show q_eqv ((0 : Int32)).toInt (0) by unfold q_eqv; decide) (q_p_eq g11)
    unfold m_X12_piece_34
    refine q_ok_atA hG (Eq.trans e10 ea6) ma6 ra6 rfl ?_
    obtain ⟨v13, ev13⟩ := q_ev ((((8 : Int32) * (q_I (S) o 36)) + (1 : Int32)).toInt)
    have f14 : v13 = v7 + (1) := q_addVI ev13 ev7 (show q_eqv ((1 : Int32)).toInt (1) by unfold q_eqv; decide) (by omega) (by omega)
    refine q_ok_if (q_inV (g_71_N hG ma6 ra6) ev13 (by omega) (by omega)) ?_
    have hG := u_71_E (k := (((8 : Int32) * (q_I (S) o 36)) + (1 : Int32)).toNatClampNeg) (x := (0 : Int32)) hG ma6 ra6 (by decide)
    refine q_ok_atS hG (q_trI mo ro) rfl (fun mo ro => ?_)
    have t15 := g_45_R37 hG mo ro
    have e16 : q_R (q_sI (q_sI (S) a6 ((8 : Int32) * (q_I (S) o 36)).toNatClampNeg (p0)) a6 (((8 : Int32) * (q_I (S) o 36)) + (1 : Int32)).toNatClampNeg ((0 : Int32))) o 37 = q_R (q_sI (S) a6 ((8 : Int32) * (q_I (S) o 36)).toNatClampNeg (p0)) o 37 := q_skRI
    refine q_ok_atA hG (Eq.trans e16 (Eq.trans e10 ea6)) ma6 ra6 rfl ?_
    obtain ⟨v17, ev17⟩ := q_ev ((((8 : Int32) * (q_I (S) o 36)) + (2 : Int32)).toInt)
    have f18 : v17 = v7 + (2) := q_addVI ev17 ev7 (show q_eqv ((2 : Int32)).toInt (2) by unfold q_eqv; decide) (by omega) (by omega)
    refine q_ok_if (q_inV (g_71_N hG ma6 ra6) ev17 (by omega) (by omega)) ?_
    have hG := u_71_E (k := (((8 : Int32) * (q_I (S) o 36)) + (2 : Int32)).toNatClampNeg) (x := p2) hG ma6 ra6 (by decide)
    refine q_ok_let (fun S19 eS19 => ?_)
    rw [← eS19] at hG
    have t20 := g_45_R37 hG mo ro
    have e21 : q_R (S19) o 37 = q_R (q_sI (q_sI (S) a6 ((8 : Int32) * (q_I (S) o 36)).toNatClampNeg (p0)) a6 (((8 : Int32) * (q_I (S) o 36)) + (1 : Int32)).toNatClampNeg ((0 : Int32))) o 37 := (Eq.trans (q_leR eS19) q_skRI)
    refine q_ok_atA hG (Eq.trans e21 (Eq.trans e16 (Eq.trans e10 ea6))) ma6 ra6 rfl ?_
    obtain ⟨v22, ev22⟩ := q_ev ((((8 : Int32) * (q_I (S) o 36)) + (3 : Int32)).toInt)
    have f23 : v22 = v7 + (3) := q_addVI ev22 ev7 (show q_eqv ((3 : Int32)).toInt (3) by unfold q_eqv; decide) (by omega) (by omega)
    refine q_ok_if (q_inV (g_71_N hG ma6 ra6) ev22 (by omega) (by omega)) ?_
    have hG := u_71_E (k := (((8 : Int32) * (q_I (S) o 36)) + (3 : Int32)).toNatClampNeg) (x := p3) hG ma6 ra6 (by decide)
    have t24 := g_45_R37 hG mo ro
    have e25 : q_R (q_sI (S19) a6 (((8 : Int32) * (q_I (S) o 36)) + (3 : Int32)).toNatClampNeg (p3)) o 37 = q_R (S19) o 37 := q_skRI
    refine q_ok_ite (fun g26 => ?_) (fun g26 => ?_)
    · have f27 := q_eqV q_evr (show q_eqv ((0 : Int32)).toInt (0) by unfold q_eqv; decide) (q_p_eq g26)
      unfold m_X12_piece_74
      refine q_ok_atA hG (Eq.trans e25 (Eq.trans e21 (Eq.trans e16 (Eq.trans e10 ea6)))) ma6 ra6 rfl ?_
      obtain ⟨v28, ev28⟩ := q_ev ((((8 : Int32) * (q_I (S) o 36)) + (4 : Int32)).toInt)
      have f29 : v28 = v7 + (4) := q_addVI ev28 ev7 (show q_eqv ((4 : Int32)).toInt (4) by unfold q_eqv; decide) (by omega) (by omega)
      refine q_ok_if (q_inV (g_71_N hG ma6 ra6) ev28 (by omega) (by omega)) ?_
      have hG := u_71_E (k := (((8 : Int32) * (q_I (S) o 36)) + (4 : Int32)).toNatClampNeg) (x := (0 : Int32)) hG ma6 ra6 (by decide)
      refine q_ok_atS hG (q_trI mo ro) rfl (fun mo ro => ?_)
      have t30 := g_45_R37 hG mo ro
      have e31 : q_R (q_sI (q_sI (S19) a6 (((8 : Int32) * (q_I (S) o 36)) + (3 : Int32)).toNatClampNeg (p3)) a6 (((8 : Int32) * (q_I (S) o 36)) + (4 : Int32)).toNatClampNeg ((0 : Int32))) o 37 = q_R (q_sI (S19) a6 (((8 : Int32) * (q_I (S) o 36)) + (3 : Int32)).toNatClampNeg (p3)) o 37 := q_skRI
      refine q_ok_ite (fun g32 => ?_) (fun g32 => ?_)
      · have f33 := q_eqV q_evr (show q_eqv ((0 : Int32)).toInt (0) by unfold q_eqv; decide) (q_p_eq g32)
        unfold m_X12_piece_93
        refine q_ok_atA hG (Eq.trans e31 (Eq.trans e25 (Eq.trans e21 (Eq.trans e16 (Eq.trans e10 ea6))))) ma6 ra6 rfl ?_
        obtain ⟨v34, ev34⟩ := q_ev ((((8 : Int32) * (q_I (S) o 36)) + (5 : Int32)).toInt)
        have f35 : v34 = v7 + (5) := q_addVI ev34 ev7 (show q_eqv ((5 : Int32)).toInt (5) by unfold q_eqv; decide) (by omega) (by omega)
        refine q_ok_if (q_inV (g_71_N hG ma6 ra6) ev34 (by omega) (by omega)) ?_
        have hG := u_71_E (k := (((8 : Int32) * (q_I (S) o 36)) + (5 : Int32)).toNatClampNeg) (x := (0 : Int32)) hG ma6 ra6 (by decide)
        refine q_ok_atS hG (q_trI mo ro) rfl (fun mo ro => ?_)
        have t36 := g_45_R37 hG mo ro
        have e37 : q_R (q_sI (q_sI (q_sI (S19) a6 (((8 : Int32) * (q_I (S) o 36)) + (3 : Int32)).toNatClampNeg (p3)) a6 (((8 : Int32) * (q_I (S) o 36)) + (4 : Int32)).toNatClampNeg ((0 : Int32))) a6 (((8 : Int32) * (q_I (S) o 36)) + (5 : Int32)).toNatClampNeg ((0 : Int32))) o 37 = q_R (q_sI (q_sI (S19) a6 (((8 : Int32) * (q_I (S) o 36)) + (3 : Int32)).toNatClampNeg (p3)) a6 (((8 : Int32) * (q_I (S) o 36)) + (4 : Int32)).toNatClampNeg ((0 : Int32))) o 37 := q_skRI
        refine q_ok_atA hG (Eq.trans e37 (Eq.trans e31 (Eq.trans e25 (Eq.trans e21 (Eq.trans e16 (Eq.trans e10 ea6)))))) ma6 ra6 rfl ?_
        obtain ⟨v38, ev38⟩ := q_ev ((((8 : Int32) * (q_I (S) o 36)) + (6 : Int32)).toInt)
        have f39 : v38 = v7 + (6) := q_addVI ev38 ev7 (show q_eqv ((6 : Int32)).toInt (6) by unfold q_eqv; decide) (by omega) (by omega)
        refine q_ok_if (q_inV (g_71_N hG ma6 ra6) ev38 (by omega) (by omega)) ?_
        have hG := u_71_E (k := (((8 : Int32) * (q_I (S) o 36)) + (6 : Int32)).toNatClampNeg) (x := p6) hG ma6 ra6 (by decide)
        refine q_ok_let (fun S40 eS40 => ?_)
        rw [← eS40] at hG
        have t41 := g_45_R37 hG mo ro
        have e42 : q_R (S40) o 37 = q_R (q_sI (q_sI (q_sI (S19) a6 (((8 : Int32) * (q_I (S) o 36)) + (3 : Int32)).toNatClampNeg (p3)) a6 (((8 : Int32) * (q_I (S) o 36)) + (4 : Int32)).toNatClampNeg ((0 : Int32))) a6 (((8 : Int32) * (q_I (S) o 36)) + (5 : Int32)).toNatClampNeg ((0 : Int32))) o 37 := (Eq.trans (q_leR eS40) q_skRI)
        refine q_ok_atA hG (Eq.trans e42 (Eq.trans e37 (Eq.trans e31 (Eq.trans e25 (Eq.trans e21 (Eq.trans e16 (Eq.trans e10 ea6))))))) ma6 ra6 rfl ?_
        obtain ⟨v43, ev43⟩ := q_ev ((((8 : Int32) * (q_I (S) o 36)) + (7 : Int32)).toInt)
        have f44 : v43 = v7 + (7) := q_addVI ev43 ev7 (show q_eqv ((7 : Int32)).toInt (7) by unfold q_eqv; decide) (by omega) (by omega)
        refine q_ok_if (q_inV (g_71_N hG ma6 ra6) ev43 (by omega) (by omega)) ?_
        have hG := u_71_E (k := (((8 : Int32) * (q_I (S) o 36)) + (7 : Int32)).toNatClampNeg) (x := p7) hG ma6 ra6 (by decide)
        have f45 : q_sm _ := g_45_I36 hG mo ro
        have e46 : q_I (q_sI (S40) a6 (((8 : Int32) * (q_I (S) o 36)) + (7 : Int32)).toNatClampNeg (p7)) o 36 = q_I (S) o 36 := (Eq.trans (q_fwI ro ra6 (by decide)) (Eq.trans (q_leI eS40) (Eq.trans (q_fwI ro ra6 (by decide)) (Eq.trans (q_fwI ro ra6 (by decide)) (Eq.trans (q_fwI ro ra6 (by decide)) (Eq.trans (q_fwI ro ra6 (by decide)) (Eq.trans (q_leI eS19) (Eq.trans (q_fwI ro ra6 (by decide)) (Eq.trans (q_fwI ro ra6 (by decide)) (q_fwI ro ra6 (by decide)))))))))))
        obtain ⟨v47, ev47⟩ := q_ev (((q_I (q_sI (S40) a6 (((8 : Int32) * (q_I (S) o 36)) + (7 : Int32)).toNatClampNeg (p7)) o 36) + (1 : Int32)).toInt)
        obtain ⟨v48, ev48⟩ := q_ev ((q_I (q_sI (S40) a6 (((8 : Int32) * (q_I (S) o 36)) + (7 : Int32)).toNatClampNeg (p7)) o 36).toInt)
        have f49 : v48 = v2 := q_eqVI e46 ev48 ev2
        have f50 : v47 = v48 + (1) := q_addVI ev47 ev48 (show q_eqv ((1 : Int32)).toInt (1) by unfold q_eqv; decide) (by omega) (by omega)
        have hG := u_45_I36 (x := (q_I (q_sI (S40) a6 (((8 : Int32) * (q_I (S) o 36)) + (7 : Int32)).toNatClampNeg (p7)) o 36) + (1 : Int32)) hG mo ro (by decide) (q_oV ev47 (by omega) (by omega))
        have f51 : q_sm _ := g_45_I36 hG mo ro
        have e52 : q_I (q_sI (q_sI (S40) a6 (((8 : Int32) * (q_I (S) o 36)) + (7 : Int32)).toNatClampNeg (p7)) o 36 ((q_I (q_sI (S40) a6 (((8 : Int32) * (q_I (S) o 36)) + (7 : Int32)).toNatClampNeg (p7)) o 36) + (1 : Int32))) o 36 = (q_I (q_sI (S40) a6 (((8 : Int32) * (q_I (S) o 36)) + (7 : Int32)).toNatClampNeg (p7)) o 36) + (1 : Int32) := q_hitI
        obtain ⟨v53, ev53⟩ := q_ev ((q_I (q_sI (q_sI (S40) a6 (((8 : Int32) * (q_I (S) o 36)) + (7 : Int32)).toNatClampNeg (p7)) o 36 ((q_I (q_sI (S40) a6 (((8 : Int32) * (q_I (S) o 36)) + (7 : Int32)).toNatClampNeg (p7)) o 36) + (1 : Int32))) o 36).toInt)
        have f54 : v53 = v47 := q_eqVI e52 ev53 ev47
        exact q_ok_some ⟨hG, (q_smI (q_bw2 (fun x0 x1 => x0 = x1 + 1) ev53 ev2 (by omega)))⟩
      · have f55 := q_neV q_evr (show q_eqv ((0 : Int32)).toInt (0) by unfold q_eqv; decide) (q_n_eq g32)
        exfalso; omega
    · have f56 := q_neV q_evr (show q_eqv ((0 : Int32)).toInt (0) by unfold q_eqv; decide) (q_n_eq g26)
      exfalso; omega
  · have f57 := q_neV q_evr (show q_eqv ((0 : Int32)).toInt (0) by unfold q_eqv; decide) (q_n_eq g11)
    unfold m_X12_piece_34
    refine q_ok_atA hG (Eq.trans e10 ea6) ma6 ra6 rfl ?_
    obtain ⟨v58, ev58⟩ := q_ev ((((8 : Int32) * (q_I (S) o 36)) + (1 : Int32)).toInt)
    have f59 : v58 = v7 + (1) := q_addVI ev58 ev7 (show q_eqv ((1 : Int32)).toInt (1) by unfold q_eqv; decide) (by omega) (by omega)
    refine q_ok_if (q_inV (g_71_N hG ma6 ra6) ev58 (by omega) (by omega)) ?_
    have hG := u_71_E (k := (((8 : Int32) * (q_I (S) o 36)) + (1 : Int32)).toNatClampNeg) (x := (1 : Int32)) hG ma6 ra6 (by decide)
    refine q_ok_atS hG (q_trI mo ro) rfl (fun mo ro => ?_)
    have t60 := g_45_R37 hG mo ro
    have e61 : q_R (q_sI (q_sI (S) a6 ((8 : Int32) * (q_I (S) o 36)).toNatClampNeg (p0)) a6 (((8 : Int32) * (q_I (S) o 36)) + (1 : Int32)).toNatClampNeg ((1 : Int32))) o 37 = q_R (q_sI (S) a6 ((8 : Int32) * (q_I (S) o 36)).toNatClampNeg (p0)) o 37 := q_skRI
    refine q_ok_atA hG (Eq.trans e61 (Eq.trans e10 ea6)) ma6 ra6 rfl ?_
    obtain ⟨v62, ev62⟩ := q_ev ((((8 : Int32) * (q_I (S) o 36)) + (2 : Int32)).toInt)
    have f63 : v62 = v7 + (2) := q_addVI ev62 ev7 (show q_eqv ((2 : Int32)).toInt (2) by unfold q_eqv; decide) (by omega) (by omega)
    refine q_ok_if (q_inV (g_71_N hG ma6 ra6) ev62 (by omega) (by omega)) ?_
    have hG := u_71_E (k := (((8 : Int32) * (q_I (S) o 36)) + (2 : Int32)).toNatClampNeg) (x := p2) hG ma6 ra6 (by decide)
    refine q_ok_let (fun S64 eS64 => ?_)
    rw [← eS64] at hG
    have t65 := g_45_R37 hG mo ro
    have e66 : q_R (S64) o 37 = q_R (q_sI (q_sI (S) a6 ((8 : Int32) * (q_I (S) o 36)).toNatClampNeg (p0)) a6 (((8 : Int32) * (q_I (S) o 36)) + (1 : Int32)).toNatClampNeg ((1 : Int32))) o 37 := (Eq.trans (q_leR eS64) q_skRI)
    refine q_ok_atA hG (Eq.trans e66 (Eq.trans e61 (Eq.trans e10 ea6))) ma6 ra6 rfl ?_
    obtain ⟨v67, ev67⟩ := q_ev ((((8 : Int32) * (q_I (S) o 36)) + (3 : Int32)).toInt)
    have f68 : v67 = v7 + (3) := q_addVI ev67 ev7 (show q_eqv ((3 : Int32)).toInt (3) by unfold q_eqv; decide) (by omega) (by omega)
    refine q_ok_if (q_inV (g_71_N hG ma6 ra6) ev67 (by omega) (by omega)) ?_
    have hG := u_71_E (k := (((8 : Int32) * (q_I (S) o 36)) + (3 : Int32)).toNatClampNeg) (x := p3) hG ma6 ra6 (by decide)
    have t69 := g_45_R37 hG mo ro
    have e70 : q_R (q_sI (S64) a6 (((8 : Int32) * (q_I (S) o 36)) + (3 : Int32)).toNatClampNeg (p3)) o 37 = q_R (S64) o 37 := q_skRI
    refine q_ok_ite (fun g71 => ?_) (fun g71 => ?_)
    · have f72 := q_eqV q_evr (show q_eqv ((0 : Int32)).toInt (0) by unfold q_eqv; decide) (q_p_eq g71)
      exfalso; omega
    · have f73 := q_neV q_evr (show q_eqv ((0 : Int32)).toInt (0) by unfold q_eqv; decide) (q_n_eq g71)
      unfold m_X12_piece_74
      refine q_ok_atA hG (Eq.trans e70 (Eq.trans e66 (Eq.trans e61 (Eq.trans e10 ea6)))) ma6 ra6 rfl ?_
      obtain ⟨v74, ev74⟩ := q_ev ((((8 : Int32) * (q_I (S) o 36)) + (4 : Int32)).toInt)
      have f75 : v74 = v7 + (4) := q_addVI ev74 ev7 (show q_eqv ((4 : Int32)).toInt (4) by unfold q_eqv; decide) (by omega) (by omega)
      refine q_ok_if (q_inV (g_71_N hG ma6 ra6) ev74 (by omega) (by omega)) ?_
      have hG := u_71_E (k := (((8 : Int32) * (q_I (S) o 36)) + (4 : Int32)).toNatClampNeg) (x := p4) hG ma6 ra6 (by decide)
      refine q_ok_atS hG (q_trI mo ro) rfl (fun mo ro => ?_)
      have t76 := g_45_R37 hG mo ro
      have e77 : q_R (q_sI (q_sI (S64) a6 (((8 : Int32) * (q_I (S) o 36)) + (3 : Int32)).toNatClampNeg (p3)) a6 (((8 : Int32) * (q_I (S) o 36)) + (4 : Int32)).toNatClampNeg (p4)) o 37 = q_R (q_sI (S64) a6 (((8 : Int32) * (q_I (S) o 36)) + (3 : Int32)).toNatClampNeg (p3)) o 37 := q_skRI
      refine q_ok_ite (fun g78 => ?_) (fun g78 => ?_)
      · have f79 := q_eqV q_evr (show q_eqv ((0 : Int32)).toInt (0) by unfold q_eqv; decide) (q_p_eq g78)
        exfalso; omega
      · have f80 := q_neV q_evr (show q_eqv ((0 : Int32)).toInt (0) by unfold q_eqv; decide) (q_n_eq g78)
        unfold m_X12_piece_93
        refine q_ok_atA hG (Eq.trans e77 (Eq.trans e70 (Eq.trans e66 (Eq.trans e61 (Eq.trans e10 ea6))))) ma6 ra6 rfl ?_
        obtain ⟨v81, ev81⟩ := q_ev ((((8 : Int32) * (q_I (S) o 36)) + (5 : Int32)).toInt)
        have f82 : v81 = v7 + (5) := q_addVI ev81 ev7 (show q_eqv ((5 : Int32)).toInt (5) by unfold q_eqv; decide) (by omega) (by omega)
        refine q_ok_if (q_inV (g_71_N hG ma6 ra6) ev81 (by omega) (by omega)) ?_
        have hG := u_71_E (k := (((8 : Int32) * (q_I (S) o 36)) + (5 : Int32)).toNatClampNeg) (x := p5) hG ma6 ra6 (by decide)
        refine q_ok_atS hG (q_trI mo ro) rfl (fun mo ro => ?_)
        have t83 := g_45_R37 hG mo ro
        have e84 : q_R (q_sI (q_sI (q_sI (S64) a6 (((8 : Int32) * (q_I (S) o 36)) + (3 : Int32)).toNatClampNeg (p3)) a6 (((8 : Int32) * (q_I (S) o 36)) + (4 : Int32)).toNatClampNeg (p4)) a6 (((8 : Int32) * (q_I (S) o 36)) + (5 : Int32)).toNatClampNeg (p5)) o 37 = q_R (q_sI (q_sI (S64) a6 (((8 : Int32) * (q_I (S) o 36)) + (3 : Int32)).toNatClampNeg (p3)) a6 (((8 : Int32) * (q_I (S) o 36)) + (4 : Int32)).toNatClampNeg (p4)) o 37 := q_skRI
        refine q_ok_atA hG (Eq.trans e84 (Eq.trans e77 (Eq.trans e70 (Eq.trans e66 (Eq.trans e61 (Eq.trans e10 ea6)))))) ma6 ra6 rfl ?_
        obtain ⟨v85, ev85⟩ := q_ev ((((8 : Int32) * (q_I (S) o 36)) + (6 : Int32)).toInt)
        have f86 : v85 = v7 + (6) := q_addVI ev85 ev7 (show q_eqv ((6 : Int32)).toInt (6) by unfold q_eqv; decide) (by omega) (by omega)
        refine q_ok_if (q_inV (g_71_N hG ma6 ra6) ev85 (by omega) (by omega)) ?_
        have hG := u_71_E (k := (((8 : Int32) * (q_I (S) o 36)) + (6 : Int32)).toNatClampNeg) (x := p6) hG ma6 ra6 (by decide)
        refine q_ok_let (fun S87 eS87 => ?_)
        rw [← eS87] at hG
        have t88 := g_45_R37 hG mo ro
        have e89 : q_R (S87) o 37 = q_R (q_sI (q_sI (q_sI (S64) a6 (((8 : Int32) * (q_I (S) o 36)) + (3 : Int32)).toNatClampNeg (p3)) a6 (((8 : Int32) * (q_I (S) o 36)) + (4 : Int32)).toNatClampNeg (p4)) a6 (((8 : Int32) * (q_I (S) o 36)) + (5 : Int32)).toNatClampNeg (p5)) o 37 := (Eq.trans (q_leR eS87) q_skRI)
        refine q_ok_atA hG (Eq.trans e89 (Eq.trans e84 (Eq.trans e77 (Eq.trans e70 (Eq.trans e66 (Eq.trans e61 (Eq.trans e10 ea6))))))) ma6 ra6 rfl ?_
        obtain ⟨v90, ev90⟩ := q_ev ((((8 : Int32) * (q_I (S) o 36)) + (7 : Int32)).toInt)
        have f91 : v90 = v7 + (7) := q_addVI ev90 ev7 (show q_eqv ((7 : Int32)).toInt (7) by unfold q_eqv; decide) (by omega) (by omega)
        refine q_ok_if (q_inV (g_71_N hG ma6 ra6) ev90 (by omega) (by omega)) ?_
        have hG := u_71_E (k := (((8 : Int32) * (q_I (S) o 36)) + (7 : Int32)).toNatClampNeg) (x := p7) hG ma6 ra6 (by decide)
        have f92 : q_sm _ := g_45_I36 hG mo ro
        have e93 : q_I (q_sI (S87) a6 (((8 : Int32) * (q_I (S) o 36)) + (7 : Int32)).toNatClampNeg (p7)) o 36 = q_I (S) o 36 := (Eq.trans (q_fwI ro ra6 (by decide)) (Eq.trans (q_leI eS87) (Eq.trans (q_fwI ro ra6 (by decide)) (Eq.trans (q_fwI ro ra6 (by decide)) (Eq.trans (q_fwI ro ra6 (by decide)) (Eq.trans (q_fwI ro ra6 (by decide)) (Eq.trans (q_leI eS64) (Eq.trans (q_fwI ro ra6 (by decide)) (Eq.trans (q_fwI ro ra6 (by decide)) (q_fwI ro ra6 (by decide)))))))))))
        obtain ⟨v94, ev94⟩ := q_ev (((q_I (q_sI (S87) a6 (((8 : Int32) * (q_I (S) o 36)) + (7 : Int32)).toNatClampNeg (p7)) o 36) + (1 : Int32)).toInt)
        obtain ⟨v95, ev95⟩ := q_ev ((q_I (q_sI (S87) a6 (((8 : Int32) * (q_I (S) o 36)) + (7 : Int32)).toNatClampNeg (p7)) o 36).toInt)
        have f96 : v95 = v2 := q_eqVI e93 ev95 ev2
        have f97 : v94 = v95 + (1) := q_addVI ev94 ev95 (show q_eqv ((1 : Int32)).toInt (1) by unfold q_eqv; decide) (by omega) (by omega)
        have hG := u_45_I36 (x := (q_I (q_sI (S87) a6 (((8 : Int32) * (q_I (S) o 36)) + (7 : Int32)).toNatClampNeg (p7)) o 36) + (1 : Int32)) hG mo ro (by decide) (q_oV ev94 (by omega) (by omega))
        have f98 : q_sm _ := g_45_I36 hG mo ro
        have e99 : q_I (q_sI (q_sI (S87) a6 (((8 : Int32) * (q_I (S) o 36)) + (7 : Int32)).toNatClampNeg (p7)) o 36 ((q_I (q_sI (S87) a6 (((8 : Int32) * (q_I (S) o 36)) + (7 : Int32)).toNatClampNeg (p7)) o 36) + (1 : Int32))) o 36 = (q_I (q_sI (S87) a6 (((8 : Int32) * (q_I (S) o 36)) + (7 : Int32)).toNatClampNeg (p7)) o 36) + (1 : Int32) := q_hitI
        obtain ⟨v100, ev100⟩ := q_ev ((q_I (q_sI (q_sI (S87) a6 (((8 : Int32) * (q_I (S) o 36)) + (7 : Int32)).toNatClampNeg (p7)) o 36 ((q_I (q_sI (S87) a6 (((8 : Int32) * (q_I (S) o 36)) + (7 : Int32)).toNatClampNeg (p7)) o 36) + (1 : Int32))) o 36).toInt)
        have f101 : v100 = v94 := q_eqVI e99 ev100 ev94
        exact q_ok_some ⟨hG, (q_smI (q_bw2 (fun x0 x1 => x0 = x1 + 1) ev100 ev2 (by omega)))⟩
