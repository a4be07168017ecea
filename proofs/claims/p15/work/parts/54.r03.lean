def M_X12_argument_45 : List Nat := [2888]
set_option maxHeartbeats 4000000 in
set_option maxRecDepth 100000 in
theorem s_X12_argument_45 {ρ : Nat → Nat} {L : List Nat} {n : Nat} (hn : 18446744073709551616 ≤ n) {S : q_S} (hI : q_Inv ρ L S) {o : Nat} (mo : o ∈ L) (ro : ρ o = 45) {p0 : Int32} (hp0 : (0 ≤ p0.toInt ∧ p0.toInt ≤ 70000)) {p1 : Int32} (hp1 : (0 ≤ p1.toInt ∧ p1.toInt ≤ 65535)) : q_ok (m_X12_argument n S o p0 p1) (fun r T => q_G ρ L M_X12_argument_45 S T ∧ (-32768 ≤ r.toInt ∧ r.toInt ≤ 65535) ∧ q_sm (((q_I T o 8).toInt = 0 → (q_I S o 8).toInt = 0) ∧ (((p1) &&& (2 : Int32)).toInt = 0 → 0 ≤ (r).toInt))) := by
  have hG : q_G ρ L M_X12_argument_45 S S := q_G_refl hI
  unfold m_X12_argument
  have z0 : (0 : Int32).toInt = 0 := rfl
  have f1 : q_sm _ := g_45_I8 hG mo ro
  obtain ⟨v2, ev2⟩ := q_ev ((p1 &&& (1 : Int32)).toInt)
  have f3 := q_andRVI ev2 (show q_eqv ((1 : Int32)).toInt (1) by unfold q_eqv; decide) (by omega)
  refine q_ok_ite (fun g4 => ?_) (fun g4 => ?_)
  · have f5 := q_eqV ev2 (show q_eqv ((0 : Int32)).toInt (0) by unfold q_eqv; decide) (q_p_eq g4)
    refine q_ok_atS hG (q_trI mo ro) rfl (fun mo ro => ?_)
    refine q_ok_b (s_X12_data_45_k1 hn hG.1 mo ro (q_wd hp0 (by decide) (by decide)) (q_wd (show (1 : Int) ≤ (1 : Int32).toInt ∧ (1 : Int32).toInt ≤ (1 : Int) by decide) (by decide) (by decide))) (fun r6 S7 h8 => ?_)
    have hG := q_G_call hG h8.1 (by decide)
    have f9 := h8.2.1
    have f10 : q_sm _ := g_45_I8 hG mo ro
    obtain ⟨v11, ev11⟩ := q_ev ((q_I (S7) o 8).toInt)
    have f12 := q_bV ev11 f10
    obtain ⟨v13, ev13⟩ := q_ev ((q_I (S) o 8).toInt)
    have f14 := q_bV ev13 f1
    have f15 : v11 = 0 → v13 = 0 := q_to2 (fun x0 x1 => x0 = 0 → x1 = 0) ev11 ev13 ((q_smE (h8.2.2)).1)
    have f16 : q_sm _ := g_45_I21 hG mo ro
    have f17 : q_sm _ := g_45_I22 hG mo ro
    obtain ⟨v18, ev18⟩ := q_ev ((q_I (S7) o 21).toInt)
    have f19 := q_bV ev18 f16
    obtain ⟨v20, ev20⟩ := q_ev ((q_I (S7) o 22).toInt)
    have f21 := q_bV ev20 f17
    have f22 : v11 = 0 → v18 + p0.toInt + (1) ≤ v20 := q_to5 (fun x0 x1 x2 x3 x4 => x0 = 0 → x1 + x2 + x3 ≤ x4) ev11 ev18 q_evr (show q_eqv ((1 : Int32)).toInt (1) by unfold q_eqv; decide) ev20 ((q_smE (h8.2.2)).2.1)
    obtain ⟨v23, ev23⟩ := q_ev ((q_fd (S7) o ((1735162214 : Int64))).toInt)
    have f24 := q_rVI (x := q_fd (S7) o ((1735162214 : Int64))) ev23
    have f25 : v11 = 0 → 0 ≤ v23 := q_to2 (fun x0 x1 => x0 = 0 → 0 ≤ x1) ev11 ev23 ((q_smE (h8.2.2)).2.2)
    unfold m_X12_argument_21
    refine q_ok_ite (fun g26 => ?_) (fun g26 => ?_)
    · have f27 := q_eqV ev2 (show q_eqv ((0 : Int32)).toInt (0) by unfold q_eqv; decide) (q_p_eq g26)
      refine q_ok_ite (fun g28 => ?_) (fun g28 => ?_)
      · have f29 := q_leV q_evr (show q_eqv ((127 : Int32)).toInt (127) by unfold q_eqv; decide) (q_p_le g28)
        unfold m_X12_argument_54
        obtain ⟨v30, ev30⟩ := q_ev ((p1 &&& (2 : Int32)).toInt)
        have f31 := q_andRVI ev30 (show q_eqv ((2 : Int32)).toInt (2) by unfold q_eqv; decide) (by omega)
        refine q_ok_ite (fun g32 => ?_) (fun g32 => ?_)
        · have f33 := q_eqV ev30 (show q_eqv ((0 : Int32)).toInt (0) by unfold q_eqv; decide) (q_p_eq g32)
          unfold m_X12_argument_86
          unfold m_X12_argument_87
          exact q_ok_some ⟨hG, (q_wd f9 (by decide) (by decide)), (q_smI ⟨(q_bw2 (fun x0 x1 => x0 = 0 → x1 = 0) ev11 ev13 (by omega)), (q_bw2 (fun x0 x1 => x0 = 0 → 0 ≤ x1) ev30 q_evr (by omega))⟩)⟩
        · have f34 := q_neV ev30 (show q_eqv ((0 : Int32)).toInt (0) by unfold q_eqv; decide) (q_n_eq g32)
          refine q_ok_ite (fun g35 => ?_) (fun g35 => ?_)
          · have f36 := q_eqV (show q_eqv ((0 : Int32)).toInt (0) by unfold q_eqv; decide) (show q_eqv ((0 : Int32)).toInt (0) by unfold q_eqv; decide) (q_p_eq g35)
            unfold m_X12_argument_86
            unfold m_X12_argument_87
            exact q_ok_some ⟨hG, (q_wd f9 (by decide) (by decide)), (q_smI ⟨(q_bw2 (fun x0 x1 => x0 = 0 → x1 = 0) ev11 ev13 (by omega)), (q_bw2 (fun x0 x1 => x0 = 0 → 0 ≤ x1) ev30 q_evr (by omega))⟩)⟩
          · have f37 := q_neV (show q_eqv ((0 : Int32)).toInt (0) by unfold q_eqv; decide) (show q_eqv ((0 : Int32)).toInt (0) by unfold q_eqv; decide) (q_n_eq g35)
            exfalso; omega
      · have f38 := q_ltV (show q_eqv ((127 : Int32)).toInt (127) by unfold q_eqv; decide) q_evr (q_n_le g28)
        unfold m_X12_argument_54
        obtain ⟨v39, ev39⟩ := q_ev ((p1 &&& (2 : Int32)).toInt)
        have f40 := q_andRVI ev39 (show q_eqv ((2 : Int32)).toInt (2) by unfold q_eqv; decide) (by omega)
        refine q_ok_ite (fun g41 => ?_) (fun g41 => ?_)
        · have f42 := q_eqV ev39 (show q_eqv ((0 : Int32)).toInt (0) by unfold q_eqv; decide) (q_p_eq g41)
          unfold m_X12_argument_86
          unfold m_X12_argument_87
          exact q_ok_some ⟨hG, (q_wd f9 (by decide) (by decide)), (q_smI ⟨(q_bw2 (fun x0 x1 => x0 = 0 → x1 = 0) ev11 ev13 (by omega)), (q_bw2 (fun x0 x1 => x0 = 0 → 0 ≤ x1) ev39 q_evr (by omega))⟩)⟩
        · have f43 := q_neV ev39 (show q_eqv ((0 : Int32)).toInt (0) by unfold q_eqv; decide) (q_n_eq g41)
          refine q_ok_ite (fun g44 => ?_) (fun g44 => ?_)
          · have f45 := q_eqV (show q_eqv ((1 : Int32)).toInt (1) by unfold q_eqv; decide) (show q_eqv ((0 : Int32)).toInt (0) by unfold q_eqv; decide) (q_p_eq g44)
            exfalso; omega
          · have f46 := q_neV (show q_eqv ((1 : Int32)).toInt (1) by unfold q_eqv; decide) (show q_eqv ((0 : Int32)).toInt (0) by unfold q_eqv; decide) (q_n_eq g44)
            refine q_ok_ite (fun g47 => ?_) (fun g47 => ?_)
            · have f48 := q_eqV ev2 (show q_eqv ((0 : Int32)).toInt (0) by unfold q_eqv; decide) (q_p_eq g47)
              unfold m_X12_argument_82
              unfold m_X12_argument_87
              obtain ⟨v49, ev49⟩ := q_ev ((r6 - (256 : Int32)).toInt)
              have f50 : v49 = r6.toInt - (256) := q_subVI ev49 q_evr (show q_eqv ((256 : Int32)).toInt (256) by unfold q_eqv; decide) (by omega) (by omega)
              exact q_ok_some ⟨hG, (q_wd (q_subBI (-256) (-1) f9 (show (256 : Int) ≤ (256 : Int32).toInt ∧ (256 : Int32).toInt ≤ (256 : Int) by decide) (by decide) (by decide) (by decide) (by decide)) (by decide) (by decide)), (q_smI ⟨(q_bw2 (fun x0 x1 => x0 = 0 → x1 = 0) ev11 ev13 (by omega)), (q_bw2 (fun x0 x1 => x0 = 0 → 0 ≤ x1) ev39 ev49 (by omega))⟩)⟩
            · have f51 := q_neV ev2 (show q_eqv ((0 : Int32)).toInt (0) by unfold q_eqv; decide) (q_n_eq g47)
              exfalso; omega
    · have f52 := q_neV ev2 (show q_eqv ((0 : Int32)).toInt (0) by unfold q_eqv; decide) (q_n_eq g26)
      exfalso; omega
  · have f53 := q_neV ev2 (show q_eqv ((0 : Int32)).toInt (0) by unfold q_eqv; decide) (q_n_eq g4)
    refine q_ok_atS hG (q_trI mo ro) rfl (fun mo ro => ?_)
    refine q_ok_b (s_X12_data_45_k2 hn hG.1 mo ro (q_wd hp0 (by decide) (by decide)) (q_wd (show (2 : Int) ≤ (2 : Int32).toInt ∧ (2 : Int32).toInt ≤ (2 : Int) by decide) (by decide) (by decide))) (fun r54 S55 h56 => ?_)
    have hG := q_G_call hG h56.1 (by decide)
    have f57 := h56.2.1
    have f58 : q_sm _ := g_45_I8 hG mo ro
    obtain ⟨v59, ev59⟩ := q_ev ((q_I (S55) o 8).toInt)
    have f60 := q_bV ev59 f58
    obtain ⟨v61, ev61⟩ := q_ev ((q_I (S) o 8).toInt)
    have f62 := q_bV ev61 f1
    have f63 : v59 = 0 → v61 = 0 := q_to2 (fun x0 x1 => x0 = 0 → x1 = 0) ev59 ev61 ((q_smE (h56.2.2)).1)
    have f64 : q_sm _ := g_45_I21 hG mo ro
    have f65 : q_sm _ := g_45_I22 hG mo ro
    obtain ⟨v66, ev66⟩ := q_ev ((q_I (S55) o 21).toInt)
    have f67 := q_bV ev66 f64
    obtain ⟨v68, ev68⟩ := q_ev ((q_I (S55) o 22).toInt)
    have f69 := q_bV ev68 f65
    have f70 : v59 = 0 → v66 + p0.toInt + (2) ≤ v68 := q_to5 (fun x0 x1 x2 x3 x4 => x0 = 0 → x1 + x2 + x3 ≤ x4) ev59 ev66 q_evr (show q_eqv ((2 : Int32)).toInt (2) by unfold q_eqv; decide) ev68 ((q_smE (h56.2.2)).2.1)
    obtain ⟨v71, ev71⟩ := q_ev ((q_fd (S55) o ((1735162214 : Int64))).toInt)
    have f72 := q_rVI (x := q_fd (S55) o ((1735162214 : Int64))) ev71
    have f73 : v59 = 0 → 0 ≤ v71 := q_to2 (fun x0 x1 => x0 = 0 → 0 ≤ x1) ev59 ev71 ((q_smE (h56.2.2)).2.2)
    unfold m_X12_argument_21
    refine q_ok_ite (fun g74 => ?_) (fun g74 => ?_)
    · have f75 := q_eqV ev2 (show q_eqv ((0 : Int32)).toInt (0) by unfold q_eqv; decide) (q_p_eq g74)
      exfalso; omega
    · have f76 := q_neV ev2 (show q_eqv ((0 : Int32)).toInt (0) by unfold q_eqv; decide) (q_n_eq g74)
      refine q_ok_ite (fun g77 => ?_) (fun g77 => ?_)
      · have f78 := q_leV q_evr (show q_eqv ((32767 : Int32)).toInt (32767) by unfold q_eqv; decide) (q_p_le g77)
        unfold m_X12_argument_54
        obtain ⟨v79, ev79⟩ := q_ev ((p1 &&& (2 : Int32)).toInt)
        have f80 := q_andRVI ev79 (show q_eqv ((2 : Int32)).toInt (2) by unfold q_eqv; decide) (by omega)
        refine q_ok_ite (fun g81 => ?_) (fun g81 => ?_)
        · have f82 := q_eqV ev79 (show q_eqv ((0 : Int32)).toInt (0) by unfold q_eqv; decide) (q_p_eq g81)
          unfold m_X12_argument_86
          unfold m_X12_argument_87
          exact q_ok_some ⟨hG, (q_wd f57 (by decide) (by decide)), (q_smI ⟨(q_bw2 (fun x0 x1 => x0 = 0 → x1 = 0) ev59 ev61 (by omega)), (q_bw2 (fun x0 x1 => x0 = 0 → 0 ≤ x1) ev79 q_evr (by omega))⟩)⟩
        · have f83 := q_neV ev79 (show q_eqv ((0 : Int32)).toInt (0) by unfold q_eqv; decide) (q_n_eq g81)
          refine q_ok_ite (fun g84 => ?_) (fun g84 => ?_)
          · have f85 := q_eqV (show q_eqv ((0 : Int32)).toInt (0) by unfold q_eqv; decide) (show q_eqv ((0 : Int32)).toInt (0) by unfold q_eqv; decide) (q_p_eq g84)
            unfold m_X12_argument_86
            unfold m_X12_argument_87
            exact q_ok_some ⟨hG, (q_wd f57 (by decide) (by decide)), (q_smI ⟨(q_bw2 (fun x0 x1 => x0 = 0 → x1 = 0) ev59 ev61 (by omega)), (q_bw2 (fun x0 x1 => x0 = 0 → 0 ≤ x1) ev79 q_evr (by omega))⟩)⟩
          · have f86 := q_neV (show q_eqv ((0 : Int32)).toInt (0) by unfold q_eqv; decide) (show q_eqv ((0 : Int32)).toInt (0) by unfold q_eqv; decide) (q_n_eq g84)
            exfalso; omega
      · have f87 := q_ltV (show q_eqv ((32767 : Int32)).toInt (32767) by unfold q_eqv; decide) q_evr (q_n_le g77)
        unfold m_X12_argument_54
        obtain ⟨v88, ev88⟩ := q_ev ((p1 &&& (2 : Int32)).toInt)
        have f89 := q_andRVI ev88 (show q_eqv ((2 : Int32)).toInt (2) by unfold q_eqv; decide) (by omega)
        refine q_ok_ite (fun g90 => ?_) (fun g90 => ?_)
        · have f91 := q_eqV ev88 (show q_eqv ((0 : Int32)).toInt (0) by unfold q_eqv; decide) (q_p_eq g90)
          unfold m_X12_argument_86
          unfold m_X12_argument_87
          exact q_ok_some ⟨hG, (q_wd f57 (by decide) (by decide)), (q_smI ⟨(q_bw2 (fun x0 x1 => x0 = 0 → x1 = 0) ev59 ev61 (by omega)), (q_bw2 (fun x0 x1 => x0 = 0 → 0 ≤ x1) ev88 q_evr (by omega))⟩)⟩
        · have f92 := q_neV ev88 (show q_eqv ((0 : Int32)).toInt (0) by unfold q_eqv; decide) (q_n_eq g90)
          refine q_ok_ite (fun g93 => ?_) (fun g93 => ?_)
          · have f94 := q_eqV (show q_eqv ((1 : Int32)).toInt (1) by unfold q_eqv; decide) (show q_eqv ((0 : Int32)).toInt (0) by unfold q_eqv; decide) (q_p_eq g93)
            exfalso; omega
          · have f95 := q_neV (show q_eqv ((1 : Int32)).toInt (1) by unfold q_eqv; decide) (show q_eqv ((0 : Int32)).toInt (0) by unfold q_eqv; decide) (q_n_eq g93)
            refine q_ok_ite (fun g96 => ?_) (fun g96 => ?_)
            · have f97 := q_eqV ev2 (show q_eqv ((0 : Int32)).toInt (0) by unfold q_eqv; decide) (q_p_eq g96)
              exfalso; omega
            · have f98 := q_neV ev2 (show q_eqv ((0 : Int32)).toInt (0) by unfold q_eqv; decide) (q_n_eq g96)
              unfold m_X12_argument_82
              unfold m_X12_argument_87
              obtain ⟨v99, ev99⟩ := q_ev ((r54 - (65536 : Int32)).toInt)
              have f100 : v99 = r54.toInt - (65536) := q_subVI ev99 q_evr (show q_eqv ((65536 : Int32)).toInt (65536) by unfold q_eqv; decide) (by omega) (by omega)
              exact q_ok_some ⟨hG, (q_oV ev99 (by omega) (by omega)), (q_smI ⟨(q_bw2 (fun x0 x1 => x0 = 0 → x1 = 0) ev59 ev61 (by omega)), (q_bw2 (fun x0 x1 => x0 = 0 → 0 ≤ x1) ev88 ev99 (by omega))⟩)⟩
def M_X12_at_45 : List Nat := [2880]
set_option maxHeartbeats 4000000 in
set_option maxRecDepth 100000 in
theorem s_X12_at_45 {ρ : Nat → Nat} {L : List Nat} {n : Nat} (hn : 18446744073709551616 ≤ n) {S : q_S} (hI : q_Inv ρ L S) {o : Nat} (mo : o ∈ L) (ro : ρ o = 45) {p0 : Int32} : q_ok (m_X12_at n S o p0) (fun r T => q_G ρ L M_X12_at_45 S T ∧ (-1 ≤ r.toInt ∧ r.toInt ≤ 255)) := by
  have hG : q_G ρ L M_X12_at_45 S S := q_G_refl hI
  unfold m_X12_at
  have z0 : (0 : Int32).toInt = 0 := rfl
  refine q_ok_atS hG (q_trI mo ro) rfl (fun mo ro => ?_)
  have hG := u_45_I0 (x := (0 : Int32)) hG mo ro (by decide) (q_wd (show (0 : Int) ≤ (0 : Int32).toInt ∧ (0 : Int32).toInt ≤ (0 : Int) by decide) (by decide) (by decide))
  have f1 : q_sm _ := g_45_I38 hG mo ro
  obtain ⟨v5, ev5⟩ := q_ev ((p0.toInt64).toInt)
  have f6 := q_rVI (x := p0) q_evr
  have f7 : v5 = p0.toInt := q_i2lV ev5 q_evr
  refine q_ok_b (s_X12_in hn hG.1 (q_oV ev5 (by omega) (by omega)) (q_wd (show (0 : Int) ≤ (0 : Int64).toInt ∧ (0 : Int64).toInt ≤ (0 : Int) by decide) (by decide) (by decide)) (q_wd (q_i2lB (q_subBI (-1) (2399) f1 (show (1 : Int) ≤ (1 : Int32).toInt ∧ (1 : Int32).toInt ≤ (1 : Int) by decide) (by decide) (by decide) (by decide) (by decide))) (by decide) (by decide))) (fun r2 S3 h4 => ?_)
  obtain ⟨eS3, h4⟩ := h4
  replace eS3 := eS3.symm
  subst eS3
  have f8 := And.intro h4.1 h4.2.1
  obtain ⟨v9, ev9⟩ := q_ev ((((q_I (q_sI (S) o 0 ((0 : Int32))) o 38) - (1 : Int32)).toInt64).toInt)
  obtain ⟨v10, ev10⟩ := q_ev (((q_I (q_sI (S) o 0 ((0 : Int32))) o 38) - (1 : Int32)).toInt)
  obtain ⟨v11, ev11⟩ := q_ev ((q_I (q_sI (S) o 0 ((0 : Int32))) o 38).toInt)
  have f12 := q_bV ev11 f1
  have f13 : v10 = v11 - (1) := q_subVI ev10 ev11 (show q_eqv ((1 : Int32)).toInt (1) by unfold q_eqv; decide) (by omega) (by omega)
  have f14 : v9 = v10 := q_i2lV ev9 ev10
  have f15 : r2.toInt = 1 → (0) ≤ v5 := fun h9 => q_leV (show q_eqv ((0 : Int64)).toInt (0) by unfold q_eqv; decide) ev5 (f8.2 h9).1
  have f16 : r2.toInt = 1 → v5 ≤ v9 := fun h9 => q_leV ev5 ev9 (f8.2 h9).2
  have f17 : r2.toInt = 1 → (0) ≤ v5 ∧ v5 ≤ v9 := q_to4 (fun x0 x1 x2 x3 => x0 = 1 → x1 ≤ x2 ∧ x2 ≤ x3) q_evr (show q_eqv ((0 : Int64)).toInt (0) by unfold q_eqv; decide) ev5 ev9 ((q_smE (h4.2.2)).1)
  have f18 : r2.toInt = 0 → v5 < (0) ∨ v9 < v5 := q_to4 (fun x0 x1 x2 x3 => x0 = 0 → x1 < x2 ∨ x3 < x1) q_evr ev5 (show q_eqv ((0 : Int64)).toInt (0) by unfold q_eqv; decide) ev9 ((q_smE (h4.2.2)).2)
  refine q_ok_ite (fun g19 => ?_) (fun g19 => ?_)
  · have f20 := q_eqV q_evr (show q_eqv ((0 : Int32)).toInt (0) by unfold q_eqv; decide) (q_p_eq g19)
    unfold m_X12_at_31
    exact q_ok_some ⟨hG, (q_wd (show (-1 : Int) ≤ (-1 : Int32).toInt ∧ (-1 : Int32).toInt ≤ (-1 : Int) by decide) (by decide) (by decide))⟩
  · have f21 := q_neV q_evr (show q_eqv ((0 : Int32)).toInt (0) by unfold q_eqv; decide) (q_n_eq g19)
    refine q_ok_atS hG (q_trI mo ro) rfl (fun mo ro => ?_)
    have t22 := g_45_R39 hG mo ro
    refine q_ok_at hG t22 rfl (fun a23 ma23 ra23 ea23 => ?_)
    refine q_ok_if (q_inV (g_72_N hG ma23 ra23) q_evr (by omega) (by omega)) ?_
    have f24 : q_sm _ := g_72_E hG ma23 ra23 (k := (p0).toNatClampNeg)
    unfold m_X12_at_31
    exact q_ok_some ⟨hG, (q_wd f24 (by decide) (by decide))⟩
def M_X12_two_45 : List Nat := [2888]
set_option maxHeartbeats 4000000 in
set_option maxRecDepth 100000 in
theorem s_X12_two_45 {ρ : Nat → Nat} {L : List Nat} {n : Nat} (hn : 18446744073709551616 ≤ n) {S : q_S} (hI : q_Inv ρ L S) {o : Nat} (mo : o ∈ L) (ro : ρ o = 45) {p0 : Int32} (hp0 : (-1 ≤ p0.toInt ∧ p0.toInt ≤ 23)) {p1 : Int64} (hp1 : (-1152921504606846976 ≤ p1.toInt ∧ p1.toInt ≤ 1152921504606846976)) : q_ok (m_X12_two n S o p0 p1) (fun r T => q_G ρ L M_X12_two_45 S T ∧ (0 ≤ r.toInt ∧ r.toInt ≤ 65535) ∧ q_sm (((q_I T o 8).toInt = 0 → (q_I S o 8).toInt = 0))) := by
  have hG : q_G ρ L M_X12_two_45 S S := q_G_refl hI
  unfold m_X12_two
  have z0 : (0 : Int32).toInt = 0 := rfl
  have f1 : q_sm _ := g_45_I8 hG mo ro
  refine q_ok_atS hG (q_trI mo ro) rfl (fun mo ro => ?_)
  refine q_ok_b (s_X12_number_45_k2 hn hG.1 mo ro (q_wd hp0 (by decide) (by decide)) (q_wd hp1 (by decide) (by decide)) (q_wd (show (2 : Int) ≤ (2 : Int32).toInt ∧ (2 : Int32).toInt ≤ (2 : Int) by decide) (by decide) (by decide))) (fun r2 S3 h4 => ?_)
  have hG := q_G_call hG h4.1 (by decide)
  have f5 := h4.2.1
  have f6 : q_sm _ := g_45_I8 hG mo ro
  obtain ⟨v7, ev7⟩ := q_ev ((q_I (S3) o 8).toInt)
  have f8 := q_bV ev7 f6
  obtain ⟨v9, ev9⟩ := q_ev ((q_I (S) o 8).toInt)
  have f10 := q_bV ev9 f1
  have f11 : v7 = 0 → v9 = 0 := q_to2 (fun x0 x1 => x0 = 0 → x1 = 0) ev7 ev9 ((q_smE (h4.2.2)).1)
  have f12 : v7 = 0 → 0 ≤ p0.toInt := q_to2 (fun x0 x1 => x0 = 0 → 0 ≤ x1) ev7 q_evr ((q_smE (h4.2.2)).2)
  obtain ⟨v13, ev13⟩ := q_ev ((r2.toInt32).toInt)
  have f14 : v13 = r2.toInt := q_l2iV ev13 q_evr (by omega) (by omega)
  exact q_ok_some ⟨hG, (q_oV ev13 (by omega) (by omega)), (q_smI (q_bw2 (fun x0 x1 => x0 = 0 → x1 = 0) ev7 ev9 (by omega)))⟩
def M_X12_signs_45 : List Nat := [2888]
set_option maxHeartbeats 4000000 in
set_option maxRecDepth 100000 in
theorem s_X12_signs_45 {ρ : Nat → Nat} {L : List Nat} {n : Nat} (hn : 18446744073709551616 ≤ n) {S : q_S} (hI : q_Inv ρ L S) {o : Nat} (mo : o ∈ L) (ro : ρ o = 45) : q_ok (m_X12_signs n S o) (fun r T => q_G ρ L M_X12_signs_45 S T ∧ (0 ≤ r.toInt ∧ r.toInt ≤ 200)) := by
  have hG : q_G ρ L M_X12_signs_45 S S := q_G_refl hI
  unfold m_X12_signs
  have z0 : (0 : Int32).toInt = 0 := rfl
  refine q_ok_atS hG (q_trI mo ro) rfl (fun mo ro => ?_)
  refine q_ok_if (q_b01V (show q_eqv ((0 : Int32)).toInt (0) by unfold q_eqv; decide) (by omega) (by omega)) ?_
  have hG := u_45_I8 (x := (0 : Int32)) hG mo ro (by decide) (q_wd (show (0 : Int) ≤ (0 : Int32).toInt ∧ (0 : Int32).toInt ≤ (0 : Int) by decide) (by decide) (by decide))
  refine q_ok_b (s_X12_find_45 hn hG.1 mo ro (q_wd (show (1835104368 : Int) ≤ (1835104368 : Int64).toInt ∧ (1835104368 : Int64).toInt ≤ (1835104368 : Int) by decide) (by decide) (by decide))) (fun r1 S2 h3 => ?_)
  obtain ⟨eS2, h3⟩ := h3
  replace eS2 := eS2.symm
  subst eS2
  have f4 := h3.1
  have e5 : r1 = q_fd (q_sI (S) o 8 ((0 : Int32))) o ((1835104368 : Int64)) := Int32.toInt_inj.mp (q_smE (h3.2))
  subst e5
  obtain ⟨v6, ev6⟩ := q_ev ((q_fd (q_sI (S) o 8 ((0 : Int32))) o ((1835104368 : Int64))).toInt)
  have f7 := q_rVI (x := q_fd (q_sI (S) o 8 ((0 : Int32))) o ((1835104368 : Int64))) ev6
  have f8 := q_bV ev6 f4
  refine q_ok_atS hG (q_trI mo ro) rfl (fun mo ro => ?_)
  have f12 : q_sm _ := g_45_I8 hG mo ro
  have e13 : q_I (q_sI (S) o 8 ((0 : Int32))) o 8 = (0 : Int32) := q_hitI
  refine q_ok_b (s_X12_two_45 hn hG.1 mo ro (q_oV ev6 (by omega) (by omega)) (q_wd (show (4 : Int) ≤ (4 : Int64).toInt ∧ (4 : Int64).toInt ≤ (4 : Int) by decide) (by decide) (by decide))) (fun r9 S10 h11 => ?_)
  have hG := q_G_call hG h11.1 (by decide)
  have f14 := h11.2.1
  have f15 : q_sm _ := g_45_I8 hG mo ro
  obtain ⟨v16, ev16⟩ := q_ev ((q_I (S10) o 8).toInt)
  have f17 := q_bV ev16 f15
  obtain ⟨v18, ev18⟩ := q_ev ((q_I (q_sI (S) o 8 ((0 : Int32))) o 8).toInt)
  have f19 : v18 = (0) := q_eqVI e13 ev18 (show q_eqv ((0 : Int32)).toInt (0) by unfold q_eqv; decide)
  have f20 : v16 = 0 → v18 = 0 := q_to2 (fun x0 x1 => x0 = 0 → x1 = 0) ev16 ev18 ((q_smE (h11.2.2)))
  refine q_ok_atS hG (q_trI mo ro) rfl (fun mo ro => ?_)
  refine q_ok_ite (fun g21 => ?_) (fun g21 => ?_)
  · have f22 := q_eqV ev16 (show q_eqv ((0 : Int32)).toInt (0) by unfold q_eqv; decide) (q_p_eq g21)
    refine q_ok_ite (fun g23 => ?_) (fun g23 => ?_)
    · have f24 := q_leV q_evr (show q_eqv ((200 : Int32)).toInt (200) by unfold q_eqv; decide) (q_p_le g23)
      unfold m_X12_signs_45
      exact q_ok_some ⟨hG, (q_oV q_evr (by omega) (by omega))⟩
    · have f25 := q_ltV (show q_eqv ((200 : Int32)).toInt (200) by unfold q_eqv; decide) q_evr (q_n_le g23)
      unfold m_X12_signs_45
      exact q_ok_some ⟨hG, (q_wd (show (200 : Int) ≤ (200 : Int32).toInt ∧ (200 : Int32).toInt ≤ (200 : Int) by decide) (by decide) (by decide))⟩
  · have f26 := q_neV ev16 (show q_eqv ((0 : Int32)).toInt (0) by unfold q_eqv; decide) (q_n_eq g21)
    unfold m_X12_signs_45
    exact q_ok_some ⟨hG, (q_wd (show (0 : Int) ≤ (0 : Int32).toInt ∧ (0 : Int32).toInt ≤ (0 : Int) by decide) (by decide) (by decide))⟩
def M_X12_count_45 : List Nat := [2880, 2888]
set_option maxHeartbeats 4000000 in
set_option maxRecDepth 100000 in
theorem s_X12_count_45_9 {ρ : Nat → Nat} {L : List Nat} {n : Nat} (hn : 18446744073709551616 ≤ n) {S0 : q_S} {o : Nat} (mo : o ∈ L) (ro : ρ o = 45) {p0 : Int32}  : ∀ (k : Nat) (S : q_S) (l1 : Int32) (l2 : Int32) (l3 : Int32), q_G ρ L M_X12_count_45 S0 S → (0 ≤ l3.toInt ∧ l3.toInt ≤ 200) → 2147483648 - l3.toInt ≤ (k : Int) → q_ok (m_X12_count_9 n k S (some o) l1 l2 l3) (fun r T => q_G ρ L M_X12_count_45 S0 T) := by
  intro k
  induction k with
  | zero =>
    intro S l1 l2 l3 hG hl3 hm
    have f0 := q_rngI l3
    exfalso; omega
  | succ k ih =>
    intro S l1 l2 l3 hG hl3 hm
    rw [m_X12_count_9]
    have z0 : (0 : Int32).toInt = 0 := rfl
    refine q_ok_ite (fun g1 => ?_) (fun g1 => ?_)
    · have f2 := q_leV (show q_eqv ((200 : Int32)).toInt (200) by unfold q_eqv; decide) q_evr (q_p_ge g1)
      have f3 := q_rVI (x := l1) q_evr
      refine q_ok_ite (fun g4 => ?_) (fun g4 => ?_)
      · have f5 := q_eqV q_evr (show q_eqv ((0 : Int32)).toInt (0) by unfold q_eqv; decide) (q_p_eq g4)
        refine q_ok_atS hG (q_trI mo ro) rfl (fun mo ro => ?_)
        have f6 : q_sm _ := g_45_I3 hG mo ro
        unfold m_X12_count_96
        exact q_ok_some hG
      · have f7 := q_neV q_evr (show q_eqv ((0 : Int32)).toInt (0) by unfold q_eqv; decide) (q_n_eq g4)
        refine q_ok_ite (fun g8 => ?_) (fun g8 => ?_)
        · have f9 := q_eqV q_evr (show q_eqv ((1 : Int32)).toInt (1) by unfold q_eqv; decide) (q_p_eq g8)
          refine q_ok_atS hG (q_trI mo ro) rfl (fun mo ro => ?_)
          refine q_ok_b (s_X12_signs_45 hn hG.1 mo ro) (fun r10 S11 h12 => ?_)
          have hG := q_G_call hG h12.1 (by decide)
          have f13 := h12.2
          unfold m_X12_count_96
          exact q_ok_some hG
        · have f14 := q_neV q_evr (show q_eqv ((1 : Int32)).toInt (1) by unfold q_eqv; decide) (q_n_eq g8)
          refine q_ok_ite (fun g15 => ?_) (fun g15 => ?_)
          · have f16 := q_eqV q_evr (show q_eqv ((2 : Int32)).toInt (2) by unfold q_eqv; decide) (q_p_eq g15)
            unfold m_X12_count_96
            exact q_ok_some hG
          · have f17 := q_neV q_evr (show q_eqv ((2 : Int32)).toInt (2) by unfold q_eqv; decide) (q_n_eq g15)
            refine q_ok_ite (fun g18 => ?_) (fun g18 => ?_)
            · have f19 := q_eqV q_evr (show q_eqv ((3 : Int32)).toInt (3) by unfold q_eqv; decide) (q_p_eq g18)
              refine q_ok_atS hG (q_trI mo ro) rfl (fun mo ro => ?_)
              have f20 : q_sm _ := g_45_I14 hG mo ro
              unfold m_X12_count_96
              exact q_ok_some hG
            · have f21 := q_neV q_evr (show q_eqv ((3 : Int32)).toInt (3) by unfold q_eqv; decide) (q_n_eq g18)
              refine q_ok_ite (fun g22 => ?_) (fun g22 => ?_)
              · have f23 := q_eqV q_evr (show q_eqv ((4 : Int32)).toInt (4) by unfold q_eqv; decide) (q_p_eq g22)
                refine q_ok_atS hG (q_trI mo ro) rfl (fun mo ro => ?_)
                have f24 : q_sm _ := g_45_I18 hG mo ro
                unfold m_X12_count_96
                exact q_ok_some hG
              · have f25 := q_neV q_evr (show q_eqv ((4 : Int32)).toInt (4) by unfold q_eqv; decide) (q_n_eq g22)
                unfold m_X12_count_96
                exact q_ok_some hG
    · have f26 := q_ltV q_evr (show q_eqv ((200 : Int32)).toInt (200) by unfold q_eqv; decide) (q_n_ge g1)
      refine q_ok_atS hG (q_trI mo ro) rfl (fun mo ro => ?_)
      have t27 := g_45_R9 hG mo ro
      refine q_ok_at hG t27 rfl (fun a28 ma28 ra28 ea28 => ?_)
      refine q_ok_if (q_inV (g_51_N hG ma28 ra28) q_evr (by omega) (by omega)) ?_
      have f29 : q_sm _ := g_51_E hG ma28 ra28 (k := (l3).toNatClampNeg)
      obtain ⟨v30, ev30⟩ := q_ev ((q_I (S) a28 (l3).toNatClampNeg).toInt)
      have f31 := q_bV ev30 f29
      refine q_ok_ite (fun g32 => ?_) (fun g32 => ?_)
      · have f33 := q_eqV ev30 (show q_eqv ((0 : Int32)).toInt (0) by unfold q_eqv; decide) (q_p_eq g32)
        unfold m_X12_count_31
        obtain ⟨v34, ev34⟩ := q_ev ((l3 + (1)).toInt)
        have f35 : v34 = l3.toInt + (1) := q_addVI ev34 q_evr (show q_eqv ((1 : Int32)).toInt (1) by unfold q_eqv; decide) (by omega) (by omega)
        exact ih _ _ _ _ hG (q_oV ev34 (by omega) (by omega))  (q_upV ev34 (by omega))
      · have f36 := q_neV ev30 (show q_eqv ((0 : Int32)).toInt (0) by unfold q_eqv; decide) (q_n_eq g32)
        unfold m_X12_count_31
        obtain ⟨v37, ev37⟩ := q_ev ((l3 + (1)).toInt)
        have f38 : v37 = l3.toInt + (1) := q_addVI ev37 q_evr (show q_eqv ((1 : Int32)).toInt (1) by unfold q_eqv; decide) (by omega) (by omega)
        exact ih _ _ _ _ hG (q_oV ev37 (by omega) (by omega))  (q_upV ev37 (by omega))
set_option maxHeartbeats 4000000 in
set_option maxRecDepth 100000 in
theorem s_X12_count_45 {ρ : Nat → Nat} {L : List Nat} {n : Nat} (hn : 18446744073709551616 ≤ n) {S : q_S} (hI : q_Inv ρ L S) {o : Nat} (mo : o ∈ L) (ro : ρ o = 45) {p0 : Int32} : q_ok (m_X12_count n S o p0) (fun r T => q_G ρ L M_X12_count_45 S T) := by
  have hG : q_G ρ L M_X12_count_45 S S := q_G_refl hI
  unfold m_X12_count
  have z0 : (0 : Int32).toInt = 0 := rfl
  refine q_ok_atS hG (q_trI mo ro) rfl (fun mo ro => ?_)
  have hG := u_45_I0 (x := (0 : Int32)) hG mo ro (by decide) (q_wd (show (0 : Int) ≤ (0 : Int32).toInt ∧ (0 : Int32).toInt ≤ (0 : Int) by decide) (by decide) (by decide))
  exact s_X12_count_45_9 hn mo ro (p0 := p0) n _ _ _ _ hG (q_wd (show (0 : Int) ≤ (0 : Int32).toInt ∧ (0 : Int32).toInt ≤ (0 : Int) by decide) (by decide) (by decide))  (q_upV (show q_eqv ((0 : Int32)).toInt (0) by unfold q_eqv; decide) (by omega))
def M_X12_isSign_45 : List Nat := [2888]
set_option maxHeartbeats 4000000 in
set_option maxRecDepth 100000 in
theorem s_X12_isSign_45 {ρ : Nat → Nat} {L : List Nat} {n : Nat} (hn : 18446744073709551616 ≤ n) {S : q_S} (hI : q_Inv ρ L S) {o : Nat} (mo : o ∈ L) (ro : ρ o = 45) {p0 : Int32} : q_ok (m_X12_isSign n S o p0) (fun r T => q_G ρ L M_X12_isSign_45 S T ∧ (0 ≤ r.toInt ∧ r.toInt ≤ 1) ∧ q_sm (((r).toInt = 1 → 0 ≤ (p0).toInt ∧ (p0).toInt ≤ 199))) := by
  have hG : q_G ρ L M_X12_isSign_45 S S := q_G_refl hI
  unfold m_X12_isSign
  have z0 : (0 : Int32).toInt = 0 := rfl
  refine q_ok_atS hG (q_trI mo ro) rfl (fun mo ro => ?_)
  refine q_ok_b (s_X12_signs_45 hn hG.1 mo ro) (fun r1 S2 h3 => ?_)
  have hG := q_G_call hG h3.1 (by decide)
  have f4 := h3.2
  obtain ⟨v8, ev8⟩ := q_ev ((p0.toInt64).toInt)
  have f9 := q_rVI (x := p0) q_evr
  have f10 : v8 = p0.toInt := q_i2lV ev8 q_evr
  refine q_ok_b (s_X12_in hn hG.1 (q_oV ev8 (by omega) (by omega)) (q_wd (show (0 : Int) ≤ (0 : Int64).toInt ∧ (0 : Int64).toInt ≤ (0 : Int) by decide) (by decide) (by decide)) (q_wd (q_i2lB (q_subBI (-1) (199) f4 (show (1 : Int) ≤ (1 : Int32).toInt ∧ (1 : Int32).toInt ≤ (1 : Int) by decide) (by decide) (by decide) (by decide) (by decide))) (by decide) (by decide))) (fun r5 S6 h7 => ?_)
  obtain ⟨eS6, h7⟩ := h7
  replace eS6 := eS6.symm
  subst eS6
  have f11 := And.intro h7.1 h7.2.1
  obtain ⟨v12, ev12⟩ := q_ev (((r1 - (1 : Int32)).toInt64).toInt)
  obtain ⟨v13, ev13⟩ := q_ev ((r1 - (1 : Int32)).toInt)
  have f14 : v13 = r1.toInt - (1) := q_subVI ev13 q_evr (show q_eqv ((1 : Int32)).toInt (1) by unfold q_eqv; decide) (by omega) (by omega)
  have f15 : v12 = v13 := q_i2lV ev12 ev13
  have f16 : r5.toInt = 1 → (0) ≤ v8 := fun h9 => q_leV (show q_eqv ((0 : Int64)).toInt (0) by unfold q_eqv; decide) ev8 (f11.2 h9).1
  have f17 : r5.toInt = 1 → v8 ≤ v12 := fun h9 => q_leV ev8 ev12 (f11.2 h9).2
  have f18 : r5.toInt = 1 → (0) ≤ v8 ∧ v8 ≤ v12 := q_to4 (fun x0 x1 x2 x3 => x0 = 1 → x1 ≤ x2 ∧ x2 ≤ x3) q_evr (show q_eqv ((0 : Int64)).toInt (0) by unfold q_eqv; decide) ev8 ev12 ((q_smE (h7.2.2)).1)
  have f19 : r5.toInt = 0 → v8 < (0) ∨ v12 < v8 := q_to4 (fun x0 x1 x2 x3 => x0 = 0 → x1 < x2 ∨ x3 < x1) q_evr ev8 (show q_eqv ((0 : Int64)).toInt (0) by unfold q_eqv; decide) ev12 ((q_smE (h7.2.2)).2)
  refine q_ok_if (q_b01V q_evr (by omega) (by omega)) ?_
  exact q_ok_some ⟨hG, (q_wd f11.1 (by decide) (by decide)), (q_smI (q_bw2 (fun x0 x1 => x0 = 1 → 0 ≤ x1 ∧ x1 ≤ 199) q_evr q_evr (by omega)))⟩
