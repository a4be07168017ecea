set_option maxHeartbeats 4000000 in
set_option maxRecDepth 100000 in
theorem s_X12_in {ρ : Nat → Nat} {L : List Nat} {n : Nat} (hn : 18446744073709551616 ≤ n) {S : q_S} (hI : q_Inv ρ L S) {p0 : Int64} (hp0 : (-2147483648 ≤ p0.toInt ∧ p0.toInt ≤ 2147483647)) {p1 : Int64} (hp1 : (0 ≤ p1.toInt ∧ p1.toInt ≤ 1)) {p2 : Int64} (hp2 : (-1 ≤ p2.toInt ∧ p2.toInt ≤ 2400)) : q_ok (m_X12_in n S p0 p1 p2) (fun r T => T = S ∧ (0 ≤ r.toInt ∧ r.toInt ≤ 1) ∧ q_sm ((r.toInt = 1 → p1.toInt ≤ p0.toInt ∧ p0.toInt ≤ p2.toInt)) ∧ q_sm (((r).toInt = 1 → (p1).toInt ≤ (p0).toInt ∧ (p0).toInt ≤ (p2).toInt) ∧ ((r).toInt = 0 → (p0).toInt < (p1).toInt ∨ (p2).toInt < (p0).toInt))) := by
  have hG : q_G ρ L [] S S := q_G_refl hI
  unfold m_X12_in
  have z0 : (0 : Int32).toInt = 0 := rfl
  refine q_ok_ite (fun g1 => ?_) (fun g1 => ?_)
  · have f2 := q_ltV q_evr q_evr (q_cp_lt g1)
    unfold m_X12_in_17
    unfold m_X12_in_18
    refine q_ok_if (q_b01V (show q_eqv ((0 : Int32)).toInt (0) by unfold q_eqv; decide) (by omega) (by omega)) ?_
    have f3 := q_rVJ (X := p2) q_evr
    exact q_ok_some ⟨rfl, (q_wd (show (0 : Int) ≤ (0 : Int32).toInt ∧ (0 : Int32).toInt ≤ (0 : Int) by decide) (by decide) (by decide)), fun h9 => absurd h9 (by decide), (q_smI ⟨(q_bw4 (fun x0 x1 x2 x3 => x0 = 1 → x1 ≤ x2 ∧ x2 ≤ x3) (show q_eqv ((0 : Int32)).toInt (0) by unfold q_eqv; decide) q_evr q_evr q_evr (by omega)), (q_bw4 (fun x0 x1 x2 x3 => x0 = 0 → x1 < x2 ∨ x3 < x1) (show q_eqv ((0 : Int32)).toInt (0) by unfold q_eqv; decide) q_evr q_evr q_evr (by omega))⟩)⟩
  · have f4 := q_leV q_evr q_evr (q_cn_lt g1)
    refine q_ok_ite (fun g5 => ?_) (fun g5 => ?_)
    · have f6 := q_ltV q_evr q_evr (q_cp_gt g5)
      unfold m_X12_in_17
      unfold m_X12_in_18
      refine q_ok_if (q_b01V (show q_eqv ((0 : Int32)).toInt (0) by unfold q_eqv; decide) (by omega) (by omega)) ?_
      exact q_ok_some ⟨rfl, (q_wd (show (0 : Int) ≤ (0 : Int32).toInt ∧ (0 : Int32).toInt ≤ (0 : Int) by decide) (by decide) (by decide)), fun h9 => absurd h9 (by decide), (q_smI ⟨(q_bw4 (fun x0 x1 x2 x3 => x0 = 1 → x1 ≤ x2 ∧ x2 ≤ x3) (show q_eqv ((0 : Int32)).toInt (0) by unfold q_eqv; decide) q_evr q_evr q_evr (by omega)), (q_bw4 (fun x0 x1 x2 x3 => x0 = 0 → x1 < x2 ∨ x3 < x1) (show q_eqv ((0 : Int32)).toInt (0) by unfold q_eqv; decide) q_evr q_evr q_evr (by omega))⟩)⟩
    · have f7 := q_leV q_evr q_evr (q_cn_gt g5)
      unfold m_X12_in_18
      refine q_ok_if (q_b01V (show q_eqv ((1 : Int32)).toInt (1) by unfold q_eqv; decide) (by omega) (by omega)) ?_
      exact q_ok_some ⟨rfl, (q_wd (show (1 : Int) ≤ (1 : Int32).toInt ∧ (1 : Int32).toInt ≤ (1 : Int) by decide) (by decide) (by decide)), fun _ => ⟨(q_geW q_evr q_evr (by omega)), (q_leW q_evr q_evr (by omega))⟩, (q_smI ⟨(q_bw4 (fun x0 x1 x2 x3 => x0 = 1 → x1 ≤ x2 ∧ x2 ≤ x3) (show q_eqv ((1 : Int32)).toInt (1) by unfold q_eqv; decide) q_evr q_evr q_evr (by omega)), (q_bw4 (fun x0 x1 x2 x3 => x0 = 0 → x1 < x2 ∨ x3 < x1) (show q_eqv ((1 : Int32)).toInt (1) by unfold q_eqv; decide) q_evr q_evr q_evr (by omega))⟩)⟩
def M_X12_add_45 : List Nat := [2880, 2882, 2944]
set_option maxHeartbeats 4000000 in
set_option maxRecDepth 100000 in
theorem s_X12_add_45_34 {ρ : Nat → Nat} {L : List Nat} {n : Nat} (hn : 18446744073709551616 ≤ n) {S0 : q_S} {o : Nat} (mo : o ∈ L) (ro : ρ o = 45) {p0 : Int64} {p1 : Int32}  : ∀ (k : Nat) (S : q_S) (l1 : Int64) (l3 : Int32) (l4 : Int32), q_G ρ L M_X12_add_45 S0 S → (1 ≤ l3.toInt ∧ l3.toInt ≤ 8) → (0 ≤ l4.toInt ∧ l4.toInt ≤ 8) → ((q_I S o 2).toInt = (q_I S0 o 2).toInt + (l4).toInt) → ((q_I S0 o 2).toInt + (l3).toInt ≤ 1600) → ((l3).toInt = (p1).toInt) → ((l4).toInt ≤ (l3).toInt) → (1 ≤ (l3).toInt) → ((l3).toInt ≤ 8) → 2147483648 - l4.toInt ≤ (k : Int) → q_ok (m_X12_add_34 n k S (some o) l1 l3 l4) (fun r T => q_G ρ L M_X12_add_45 S0 T ∧ (-1 ≤ r.toInt ∧ r.toInt ≤ 1600) ∧ q_sm ((1 ≤ (p1).toInt ∧ (p1).toInt ≤ 8 ∧ (q_I S0 o 2).toInt + (p1).toInt ≤ 1600 → (r).toInt = (q_I S0 o 2).toInt + (p1).toInt ∧ (q_I T o 2).toInt = (r).toInt) ∧ (¬ (1 ≤ (p1).toInt ∧ (p1).toInt ≤ 8 ∧ (q_I S0 o 2).toInt + (p1).toInt ≤ 1600) → (r).toInt = -1 ∧ (q_I T o 2).toInt = (q_I S0 o 2).toInt))) := by
  intro k
  induction k with
  | zero =>
    intro S l1 l3 l4 hG hl3 hl4 hf0 hf1 hf2 hf3 hf4 hf5 hm
    have f0 := q_rngI l4
    exfalso; omega
  | succ k ih =>
    intro S l1 l3 l4 hG hl3 hl4 hf0 hf1 hf2 hf3 hf4 hf5 hm
    rw [m_X12_add_34]
    have z0 : (0 : Int32).toInt = 0 := rfl
    have f1 : q_sm _ := g_45_I2 hG mo ro
    obtain ⟨v2, ev2⟩ := q_ev ((q_I (S) o 2).toInt)
    have f3 := q_bV ev2 f1
    obtain ⟨v4, ev4⟩ := q_ev ((q_I (S0) o 2).toInt)
    have f5 := q_rVI (x := q_I (S0) o 2) ev4
    have f6 : v2 = v4 + l4.toInt := q_to3 (fun x0 x1 x2 => x0 = x1 + x2) ev2 ev4 q_evr hf0
    have f7 : v4 + l3.toInt ≤ 1600 := q_to2 (fun x0 x1 => x0 + x1 ≤ 1600) ev4 q_evr hf1
    have f8 := q_rVI (x := p1) q_evr
    have f9 : l3.toInt = p1.toInt := q_to2 (fun x0 x1 => x0 = x1) q_evr q_evr hf2
    have f10 : l4.toInt ≤ l3.toInt := q_to2 (fun x0 x1 => x0 ≤ x1) q_evr q_evr hf3
    have f11 : 1 ≤ l3.toInt := q_to1 (fun x0 => 1 ≤ x0) q_evr hf4
    have f12 : l3.toInt ≤ 8 := q_to1 (fun x0 => x0 ≤ 8) q_evr hf5
    refine q_ok_ite (fun g13 => ?_) (fun g13 => ?_)
    · have f14 := q_leV q_evr q_evr (q_p_ge g13)
      refine q_ok_atS hG (q_trI mo ro) rfl (fun mo ro => ?_)
      exact q_ok_some ⟨hG, (q_wd f1 (by decide) (by decide)), (q_smI ⟨(q_bw4 (fun x0 x1 x2 x3 => 1 ≤ x0 ∧ x0 ≤ 8 ∧ x1 + x0 ≤ 1600 → x2 = x1 + x0 ∧ x3 = x2) q_evr ev4 ev2 ev2 (by omega)), (q_bw4 (fun x0 x1 x2 x3 => ¬ (1 ≤ x0 ∧ x0 ≤ 8 ∧ x1 + x0 ≤ 1600) → x2 = -1 ∧ x3 = x1) q_evr ev4 ev2 ev2 (by omega))⟩)⟩
    · have f15 := q_ltV q_evr q_evr (q_n_ge g13)
      refine q_ok_atS hG (q_trI mo ro) rfl (fun mo ro => ?_)
      have t16 := g_45_R1 hG mo ro
      refine q_ok_at hG t16 rfl (fun a17 ma17 ra17 ea17 => ?_)
      refine q_ok_if (q_inV (g_46_N hG ma17 ra17) ev2 (by omega) (by omega)) ?_
      obtain ⟨v18, ev18⟩ := q_ev ((((l1 >>> ((((8 : Int32) * l4)).toInt64 &&& 63)) &&& (255 : Int64)).toInt32).toInt)
      obtain ⟨v19, ev19⟩ := q_ev (((l1 >>> ((((8 : Int32) * l4)).toInt64 &&& 63)) &&& (255 : Int64)).toInt)
      have f20 := q_andRVJ ev19 (show q_eqv ((255 : Int64)).toInt (255) by unfold q_eqv; decide) (by omega)
      have f21 : v18 = v19 := q_l2iV ev18 ev19 (by omega) (by omega)
      have hG := u_46_E (k := (q_I (S) o 2).toNatClampNeg) (x := ((l1 >>> ((((8 : Int32) * l4)).toInt64 &&& 63)) &&& (255 : Int64)).toInt32) hG ma17 ra17 (by decide) (q_oV ev18 (by omega) (by omega))
      have f22 : q_sm _ := g_45_I2 hG mo ro
      have e23 : q_I (q_sI (S) a17 (q_I (S) o 2).toNatClampNeg (((l1 >>> ((((8 : Int32) * l4)).toInt64 &&& 63)) &&& (255 : Int64)).toInt32)) o 2 = q_I (S) o 2 := (q_fwI ro ra17 (by decide))
      obtain ⟨v24, ev24⟩ := q_ev (((q_I (q_sI (S) a17 (q_I (S) o 2).toNatClampNeg (((l1 >>> ((((8 : Int32) * l4)).toInt64 &&& 63)) &&& (255 : Int64)).toInt32)) o 2) + (1 : Int32)).toInt)
      obtain ⟨v25, ev25⟩ := q_ev ((q_I (q_sI (S) a17 (q_I (S) o 2).toNatClampNeg (((l1 >>> ((((8 : Int32) * l4)).toInt64 &&& 63)) &&& (255 : Int64)).toInt32)) o 2).toInt)
      have f26 : v25 = v2 := q_eqVI e23 ev25 ev2
      have f27 : v24 = v25 + (1) := q_addVI ev24 ev25 (show q_eqv ((1 : Int32)).toInt (1) by unfold q_eqv; decide) (by omega) (by omega)
      have hG := u_45_I2 (x := (q_I (q_sI (S) a17 (q_I (S) o 2).toNatClampNeg (((l1 >>> ((((8 : Int32) * l4)).toInt64 &&& 63)) &&& (255 : Int64)).toInt32)) o 2) + (1 : Int32)) hG mo ro (by decide) (q_oV ev24 (by omega) (by omega))
      refine q_ok_let (fun S28 eS28 => ?_)
      rw [← eS28] at hG
      obtain ⟨v29, ev29⟩ := q_ev ((l4 + (1)).toInt)
      have f30 : v29 = l4.toInt + (1) := q_addVI ev29 q_evr (show q_eqv ((1 : Int32)).toInt (1) by unfold q_eqv; decide) (by omega) (by omega)
      have f31 : q_sm _ := g_45_I2 hG mo ro
      have e32 : q_I (S28) o 2 = (q_I (q_sI (S) a17 (q_I (S) o 2).toNatClampNeg (((l1 >>> ((((8 : Int32) * l4)).toInt64 &&& 63)) &&& (255 : Int64)).toInt32)) o 2) + (1 : Int32) := (Eq.trans (q_leI eS28) q_hitI)
      obtain ⟨v33, ev33⟩ := q_ev ((q_I (S28) o 2).toInt)
      have f34 : v33 = v24 := q_eqVI e32 ev33 ev24
      exact ih _ _ _ _ hG (q_wd hl3 (by decide) (by decide)) (q_oV ev29 (by omega) (by omega)) (q_bw3 (fun x0 x1 x2 => x0 = x1 + x2) ev33 ev4 ev29 (by omega)) (q_bw2 (fun x0 x1 => x0 + x1 ≤ 1600) ev4 q_evr (by omega)) (q_bw2 (fun x0 x1 => x0 = x1) q_evr q_evr (by omega)) (q_bw2 (fun x0 x1 => x0 ≤ x1) ev29 q_evr (by omega)) (q_bw1 (fun x0 => 1 ≤ x0) q_evr (by omega)) (q_bw1 (fun x0 => x0 ≤ 8) q_evr (by omega))  (q_upV ev29 (by omega))
set_option maxHeartbeats 4000000 in
set_option maxRecDepth 100000 in
theorem s_X12_add_45 {ρ : Nat → Nat} {L : List Nat} {n : Nat} (hn : 18446744073709551616 ≤ n) {S : q_S} (hI : q_Inv ρ L S) {o : Nat} (mo : o ∈ L) (ro : ρ o = 45) {p0 : Int64} {p1 : Int32} : q_ok (m_X12_add n S o p0 p1) (fun r T => q_G ρ L M_X12_add_45 S T ∧ (-1 ≤ r.toInt ∧ r.toInt ≤ 1600) ∧ q_sm ((1 ≤ (p1).toInt ∧ (p1).toInt ≤ 8 ∧ (q_I S o 2).toInt + (p1).toInt ≤ 1600 → (r).toInt = (q_I S o 2).toInt + (p1).toInt ∧ (q_I T o 2).toInt = (r).toInt) ∧ (¬ (1 ≤ (p1).toInt ∧ (p1).toInt ≤ 8 ∧ (q_I S o 2).toInt + (p1).toInt ≤ 1600) → (r).toInt = -1 ∧ (q_I T o 2).toInt = (q_I S o 2).toInt))) := by
  have hG : q_G ρ L M_X12_add_45 S S := q_G_refl hI
  unfold m_X12_add
  have z0 : (0 : Int32).toInt = 0 := rfl
  have f1 : q_sm _ := g_45_I2 hG mo ro
  refine q_ok_atS hG (q_trI mo ro) rfl (fun mo ro => ?_)
  have hG := u_45_I0 (x := (0 : Int32)) hG mo ro (by decide) (q_wd (show (0 : Int) ≤ (0 : Int32).toInt ∧ (0 : Int32).toInt ≤ (0 : Int) by decide) (by decide) (by decide))
  obtain ⟨v5, ev5⟩ := q_ev ((p1.toInt64).toInt)
  have f6 := q_rVI (x := p1) q_evr
  have f7 : v5 = p1.toInt := q_i2lV ev5 q_evr
  refine q_ok_b (s_X12_in hn hG.1 (q_oV ev5 (by omega) (by omega)) (q_wd (show (1 : Int) ≤ (1 : Int64).toInt ∧ (1 : Int64).toInt ≤ (1 : Int) by decide) (by decide) (by decide)) (q_wd (show (8 : Int) ≤ (8 : Int64).toInt ∧ (8 : Int64).toInt ≤ (8 : Int) by decide) (by decide) (by decide))) (fun r2 S3 h4 => ?_)
  obtain ⟨eS3, h4⟩ := h4
  replace eS3 := eS3.symm
  subst eS3
  have f8 := And.intro h4.1 h4.2.1
  have f9 : r2.toInt = 1 → (1) ≤ v5 := fun h9 => q_leV (show q_eqv ((1 : Int64)).toInt (1) by unfold q_eqv; decide) ev5 (f8.2 h9).1
  have f10 : r2.toInt = 1 → v5 ≤ (8) := fun h9 => q_leV ev5 (show q_eqv ((8 : Int64)).toInt (8) by unfold q_eqv; decide) (f8.2 h9).2
  have f11 : r2.toInt = 1 → (1) ≤ v5 ∧ v5 ≤ (8) := q_to4 (fun x0 x1 x2 x3 => x0 = 1 → x1 ≤ x2 ∧ x2 ≤ x3) q_evr (show q_eqv ((1 : Int64)).toInt (1) by unfold q_eqv; decide) ev5 (show q_eqv ((8 : Int64)).toInt (8) by unfold q_eqv; decide) ((q_smE (h4.2.2)).1)
  have f12 : r2.toInt = 0 → v5 < (1) ∨ (8) < v5 := q_to4 (fun x0 x1 x2 x3 => x0 = 0 → x1 < x2 ∨ x3 < x1) q_evr ev5 (show q_eqv ((1 : Int64)).toInt (1) by unfold q_eqv; decide) (show q_eqv ((8 : Int64)).toInt (8) by unfold q_eqv; decide) ((q_smE (h4.2.2)).2)
  refine q_ok_ite (fun g13 => ?_) (fun g13 => ?_)
  · have f14 := q_eqV q_evr (show q_eqv ((0 : Int32)).toInt (0) by unfold q_eqv; decide) (q_p_eq g13)
    unfold m_X12_add_29
    have f15 : q_sm _ := g_45_I2 hG mo ro
    have e16 : q_I (q_sI (S) o 0 ((0 : Int32))) o 2 = q_I (S) o 2 := (q_ffI (by decide))
    obtain ⟨v17, ev17⟩ := q_ev ((q_I (S) o 2).toInt)
    have f18 := q_bV ev17 f1
    obtain ⟨v19, ev19⟩ := q_ev ((q_I (q_sI (S) o 0 ((0 : Int32))) o 2).toInt)
    have f20 : v19 = v17 := q_eqVI e16 ev19 ev17
    exact q_ok_some ⟨hG, (q_wd (show (-1 : Int) ≤ (-1 : Int32).toInt ∧ (-1 : Int32).toInt ≤ (-1 : Int) by decide) (by decide) (by decide)), (q_smI ⟨(q_bw4 (fun x0 x1 x2 x3 => 1 ≤ x0 ∧ x0 ≤ 8 ∧ x1 + x0 ≤ 1600 → x2 = x1 + x0 ∧ x3 = x2) q_evr ev17 (show q_eqv ((-1 : Int32)).toInt (-1) by unfold q_eqv; decide) ev19 (by omega)), (q_bw4 (fun x0 x1 x2 x3 => ¬ (1 ≤ x0 ∧ x0 ≤ 8 ∧ x1 + x0 ≤ 1600) → x2 = -1 ∧ x3 = x1) q_evr ev17 (show q_eqv ((-1 : Int32)).toInt (-1) by unfold q_eqv; decide) ev19 (by omega))⟩)⟩
  · have f21 := q_neV q_evr (show q_eqv ((0 : Int32)).toInt (0) by unfold q_eqv; decide) (q_n_eq g13)
    refine q_ok_atS hG (q_trI mo ro) rfl (fun mo ro => ?_)
    have f22 : q_sm _ := g_45_I2 hG mo ro
    have e23 : q_I (q_sI (S) o 0 ((0 : Int32))) o 2 = q_I (S) o 2 := (q_ffI (by decide))
    obtain ⟨v24, ev24⟩ := q_ev (((q_I (q_sI (S) o 0 ((0 : Int32))) o 2) + p1).toInt)
    obtain ⟨v25, ev25⟩ := q_ev ((q_I (q_sI (S) o 0 ((0 : Int32))) o 2).toInt)
    obtain ⟨v26, ev26⟩ := q_ev ((q_I (S) o 2).toInt)
    have f27 := q_bV ev26 f1
    have f28 : v25 = v26 := q_eqVI e23 ev25 ev26
    have f29 : v24 = v25 + p1.toInt := q_addVI ev24 ev25 q_evr (by omega) (by omega)
    refine q_ok_ite (fun g30 => ?_) (fun g30 => ?_)
    · have f31 := q_leV ev24 (show q_eqv ((1600 : Int32)).toInt (1600) by unfold q_eqv; decide) (q_p_le g30)
      exact s_X12_add_45_34 hn mo ro (p0 := p0) (p1 := p1) n _ _ _ _ hG (q_oV q_evr (by omega) (by omega)) (q_wd (show (0 : Int) ≤ (0 : Int32).toInt ∧ (0 : Int32).toInt ≤ (0 : Int) by decide) (by decide) (by decide)) (q_bw3 (fun x0 x1 x2 => x0 = x1 + x2) ev25 ev26 (show q_eqv ((0 : Int32)).toInt (0) by unfold q_eqv; decide) (by omega)) (q_bw2 (fun x0 x1 => x0 + x1 ≤ 1600) ev26 q_evr (by omega)) (q_bw2 (fun x0 x1 => x0 = x1) q_evr q_evr (by omega)) (q_bw2 (fun x0 x1 => x0 ≤ x1) (show q_eqv ((0 : Int32)).toInt (0) by unfold q_eqv; decide) q_evr (by omega)) (q_bw1 (fun x0 => 1 ≤ x0) q_evr (by omega)) (q_bw1 (fun x0 => x0 ≤ 8) q_evr (by omega))  (q_upV (show q_eqv ((0 : Int32)).toInt (0) by unfold q_eqv; decide) (by omega))
    · have f32 := q_ltV (show q_eqv ((1600 : Int32)).toInt (1600) by unfold q_eqv; decide) ev24 (q_n_le g30)
      unfold m_X12_add_29
      exact q_ok_some ⟨hG, (q_wd (show (-1 : Int) ≤ (-1 : Int32).toInt ∧ (-1 : Int32).toInt ≤ (-1 : Int) by decide) (by decide) (by decide)), (q_smI ⟨(q_bw4 (fun x0 x1 x2 x3 => 1 ≤ x0 ∧ x0 ≤ 8 ∧ x1 + x0 ≤ 1600 → x2 = x1 + x0 ∧ x3 = x2) q_evr ev26 (show q_eqv ((-1 : Int32)).toInt (-1) by unfold q_eqv; decide) ev25 (by omega)), (q_bw4 (fun x0 x1 x2 x3 => ¬ (1 ≤ x0 ∧ x0 ≤ 8 ∧ x1 + x0 ≤ 1600) → x2 = -1 ∧ x3 = x1) q_evr ev26 (show q_eqv ((-1 : Int32)).toInt (-1) by unfold q_eqv; decide) ev25 (by omega))⟩)⟩

theorem q_ofN {i : Nat} (h : i ≤ 2147483647) : (Int32.ofNat i).toInt = i := by
  rw [Int32.toInt_ofNat']; exact q_bm (by omega) (by omega) rfl
theorem q_fdl_rng (f : Nat → Int64) (t : Int64) : ∀ m i : Nat, i + m ≤ 24 → -1 ≤ (q_fdl f t m i).toInt ∧ (q_fdl f t m i).toInt ≤ 23
  | 0, _, _ => by rw [q_fdl]; decide
  | m + 1, i, h => by
    rw [q_fdl]
    split
    · rw [q_ofN (by omega)]; omega
    · exact q_fdl_rng f t m (i + 1) (by omega)
theorem q_find_go {ρ : Nat → Nat} {L : List Nat} {n : Nat} {S : q_S} (hG : q_G ρ L [] S S) {o : Nat} (mo : o ∈ L) (ro : ρ o = 45) {p0 : Int64} {b : Nat} (eb : q_R S o 4 = some b) (mb : b ∈ L) (rb : ρ b = 47) : ∀ (m k i : Nat) (l3 : Int32), l3.toInt = i → (i : Int) + m = (q_I S o 3).toInt → m < k → q_ok (m_X12_find_2 n k S (some o) p0 l3) (fun r T => T = S ∧ r = q_fdl (q_J S b) p0 m i) := by
  have hT := g_45_I3 hG mo ro
  intro m
  induction m with
  | zero =>
    intro k i l3 e1 e2 hk
    obtain ⟨k, rfl⟩ : ∃ k', k = k' + 1 := ⟨k - 1, by omega⟩
    rw [m_X12_find_2]
    refine q_ok_atS hG (q_trI mo ro) rfl (fun _ _ => ?_)
    have h1 : q_I S o 3 ≤ l3 := Int32.le_iff_toInt_le.mpr (by omega)
    rw [if_pos h1]
    unfold m_X12_find_27
    refine q_ok_atS hG (q_trI mo ro) rfl (fun _ _ => ?_)
    rw [if_pos h1]
    exact q_ok_some ⟨rfl, by rw [q_fdl]⟩
  | succ m ih =>
    intro k i l3 e1 e2 hk
    obtain ⟨k, rfl⟩ : ∃ k', k = k' + 1 := ⟨k - 1, by omega⟩
    rw [m_X12_find_2]
    refine q_ok_atS hG (q_trI mo ro) rfl (fun _ _ => ?_)
    have h1 : ¬ q_I S o 3 ≤ l3 := fun h => by have := Int32.le_iff_toInt_le.mp h; omega
    rw [if_neg h1]
    refine q_ok_atA hG eb mb rb rfl ?_
    refine q_ok_if (q_inI (g_47_N hG mb rb) (by omega) (by omega)) ?_
    have h2 : l3.toNatClampNeg = i := by
      have h : l3.toNatClampNeg = l3.toInt.toNat := rfl
      rw [h, e1]; rfl
    rw [h2]
    refine q_ok_ite (fun g => ?_) (fun g => ?_)
    · have g2 : q_J S b i = p0 := Int64.toInt_inj.mp (q_cp_eq g)
      unfold m_X12_find_27
      refine q_ok_atS hG (q_trI mo ro) rfl (fun _ _ => ?_)
      rw [if_neg h1]
      refine q_ok_some ⟨rfl, ?_⟩
      rw [q_fdl, if_pos g2]
      exact Int32.toInt_inj.mp (by rw [q_ofN (by omega), e1])
    · have g2 : ¬ q_J S b i = p0 := fun e => (q_cn_eq g) (by rw [e])
      have h3 : (l3 + 1).toInt = ((i + 1 : Nat) : Int) := by rw [q_addI (by rw [e1]; show _ ≤ (i : Int) + 1; omega) (by rw [e1]; show (i : Int) + 1 ≤ _; omega), e1]; rfl
      obtain ⟨r, T, e, h4, h5⟩ := ih k (i + 1) (l3 + 1) h3 (by omega) (by omega)
      exact ⟨r, T, e, h4, by rw [h5, q_fdl, if_neg g2]⟩
set_option maxHeartbeats 4000000 in
set_option maxRecDepth 100000 in
theorem s_X12_find_45 {ρ : Nat → Nat} {L : List Nat} {n : Nat} (hn : 18446744073709551616 ≤ n) {S : q_S} (hI : q_Inv ρ L S) {o : Nat} (mo : o ∈ L) (ro : ρ o = 45) {p0 : Int64} (hp0 : (1668112752 ≤ p0.toInt ∧ p0.toInt ≤ 2147483647)) : q_ok (m_X12_find n S o p0) (fun r T => T = S ∧ (-1 ≤ r.toInt ∧ r.toInt ≤ 23) ∧ q_sm (((r).toInt = (q_fd T o (p0)).toInt))) := by
  have hG : q_G ρ L [] S S := q_G_refl hI
  obtain ⟨b, eb, mb, rb⟩ := g_45_R4 hG mo ro
  have hT := g_45_I3 hG mo ro
  obtain ⟨r, T, e, h1, h2⟩ := q_find_go (n := n) hG mo ro (p0 := p0) eb mb rb (q_I S o 3).toInt.toNat n 0 0 rfl (by omega) (by omega)
  refine ⟨r, T, e, h1, ?_⟩
  subst h1
  have h3 : r = q_fd T o p0 := by rw [h2]; unfold q_fd; rw [eb]
  rw [← h3]
  refine ⟨?_, rfl⟩
  rw [h2]
  exact q_fdl_rng _ _ _ _ (by omega)
def M_X12_number_45_k1 : List Nat := [2888]
set_option maxHeartbeats 4000000 in
set_option maxRecDepth 100000 in
theorem s_X12_number_45_k1_40 {ρ : Nat → Nat} {L : List Nat} {n : Nat} (hn : 18446744073709551616 ≤ n) {S0 : q_S} {o : Nat} (mo : o ∈ L) (ro : ρ o = 45) {p0 : Int32} {p1 : Int64} {p2 : Int32}  : ∀ (k : Nat) (S : q_S) (l1 : Int32) (l2 : Int64) (l4 : Int32) (l5 : Int64) (l7 : Int32), q_G ρ L M_X12_number_45_k1 S0 S → (0 ≤ l1.toInt ∧ l1.toInt ≤ 23) → (0 ≤ l2.toInt ∧ l2.toInt ≤ 1600) → (1 ≤ l4.toInt ∧ l4.toInt ≤ 1) → (0 ≤ l5.toInt ∧ l5.toInt ≤ 4294967295) → (0 ≤ l7.toInt ∧ l7.toInt ≤ 4) → ((q_fE S o 6 (l1 : Int32).toNatClampNeg).toInt + (l2).toInt + (l4).toInt ≤ 1600) → ((q_I S o 8).toInt = 0 → (q_I S0 o 8).toInt = 0) → ((l1).toInt = (p0).toInt) → ((l7).toInt ≤ (l4).toInt) → ((l7).toInt = 0 → (l5).toInt ≤ 0) → ((l7).toInt = 1 → (l5).toInt ≤ 255) → ((l7).toInt = 2 → (l5).toInt ≤ 65535) → ((l7).toInt = 3 → (l5).toInt ≤ 16777215) → ((l7).toInt = 4 → (l5).toInt ≤ 4294967295) → 2147483648 - l7.toInt ≤ (k : Int) → q_ok (m_X12_number_40 n k S (some o) l1 l2 l4 l5 l7) (fun r T => q_G ρ L M_X12_number_45_k1 S0 T ∧ (0 ≤ r.toInt ∧ r.toInt ≤ 255) ∧ q_sm (((q_I T o 8).toInt = 0 → (q_I S0 o 8).toInt = 0) ∧ ((q_I T o 8).toInt = 0 → 0 ≤ (p0).toInt))) := by
  intro k
  induction k with
  | zero =>
    intro S l1 l2 l4 l5 l7 hG hl1 hl2 hl4 hl5 hl7 hf0 hf1 hf2 hf3 hf4 hf5 hf6 hf7 hf8 hm
    have f0 := q_rngI l7
    exfalso; omega
  | succ k ih =>
    intro S l1 l2 l4 l5 l7 hG hl1 hl2 hl4 hl5 hl7 hf0 hf1 hf2 hf3 hf4 hf5 hf6 hf7 hf8 hm
    rw [m_X12_number_40]
    have z0 : (0 : Int32).toInt = 0 := rfl
    have t1 := g_45_R6 hG mo ro
    obtain ⟨a2, ea2, ma2, ra2⟩ := id t1
    have f3 : q_sm _ := g_49_E hG ma2 ra2 (k := (l1).toNatClampNeg)
    have t4 := g_45_R6 hG mo ro
    have t5 := g_45_R7 hG mo ro
    obtain ⟨a6, ea6, ma6, ra6⟩ := id t5
    have f7 : q_sm _ := g_50_E hG ma6 ra6 (k := (l1).toNatClampNeg)
    obtain ⟨v8, ev8⟩ := q_ev ((q_I (S) a2 (l1).toNatClampNeg).toInt)
    have f9 := q_bV ev8 f3
    obtain ⟨v10, ev10⟩ := q_ev ((q_I (S) a6 (l1).toNatClampNeg).toInt)
    have f11 := q_bV ev10 f7
    have f12 : v8 + v10 ≤ 1600 := q_to2 (fun x0 x1 => x0 + x1 ≤ 1600) ev8 ev10 (hG.1.2.2.2 a2 a6 ma2 ma6 ra2 ra6 _)
    have e13 : q_fE (S) o 6 ((l1 : Int32)).toNatClampNeg = q_I (S) a2 (l1).toNatClampNeg := q_fEe ea2
    obtain ⟨v14, ev14⟩ := q_ev ((q_fE (S) o 6 ((l1 : Int32)).toNatClampNeg).toInt)
    have f15 : v14 = v8 := q_eqVI e13 ev14 ev8
    have f16 : v14 + l2.toInt + l4.toInt ≤ 1600 := q_to3 (fun x0 x1 x2 => x0 + x1 + x2 ≤ 1600) ev14 q_evr q_evr hf0
    have f17 : q_sm _ := g_45_I8 hG mo ro
    obtain ⟨v18, ev18⟩ := q_ev ((q_I (S) o 8).toInt)
    have f19 := q_bV ev18 f17
    obtain ⟨v20, ev20⟩ := q_ev ((q_I (S0) o 8).toInt)
    have f21 := q_rVI (x := q_I (S0) o 8) ev20
    have f22 : v18 = 0 → v20 = 0 := q_to2 (fun x0 x1 => x0 = 0 → x1 = 0) ev18 ev20 hf1
    have f23 := q_rVI (x := p0) q_evr
    have f24 : l1.toInt = p0.toInt := q_to2 (fun x0 x1 => x0 = x1) q_evr q_evr hf2
    have f25 : l7.toInt ≤ l4.toInt := q_to2 (fun x0 x1 => x0 ≤ x1) q_evr q_evr hf3
    have f26 : l7.toInt = 0 → l5.toInt ≤ 0 := q_to2 (fun x0 x1 => x0 = 0 → x1 ≤ 0) q_evr q_evr hf4
    have f27 : l7.toInt = 1 → l5.toInt ≤ 255 := q_to2 (fun x0 x1 => x0 = 1 → x1 ≤ 255) q_evr q_evr hf5
    have f28 : l7.toInt = 2 → l5.toInt ≤ 65535 := q_to2 (fun x0 x1 => x0 = 2 → x1 ≤ 65535) q_evr q_evr hf6
    have f29 : l7.toInt = 3 → l5.toInt ≤ 16777215 := q_to2 (fun x0 x1 => x0 = 3 → x1 ≤ 16777215) q_evr q_evr hf7
    have f30 : l7.toInt = 4 → l5.toInt ≤ 4294967295 := q_to2 (fun x0 x1 => x0 = 4 → x1 ≤ 4294967295) q_evr q_evr hf8
    refine q_ok_ite (fun g31 => ?_) (fun g31 => ?_)
    · have f32 := q_leV q_evr q_evr (q_p_ge g31)
      exact q_ok_some ⟨hG, (q_oV q_evr (by omega) (by omega)), (q_smI ⟨(q_bw2 (fun x0 x1 => x0 = 0 → x1 = 0) ev18 ev20 (by omega)), (q_bw2 (fun x0 x1 => x0 = 0 → 0 ≤ x1) ev18 q_evr (by omega))⟩)⟩
    · have f33 := q_ltV q_evr q_evr (q_n_ge g31)
      refine q_ok_atS hG (q_trI mo ro) rfl (fun mo ro => ?_)
      have t34 := g_45_R1 hG mo ro
      have t35 := g_45_R6 hG mo ro
      refine q_ok_atA hG ea2 ma2 ra2 rfl ?_
      refine q_ok_if (q_inV (g_49_N hG ma2 ra2) q_evr (by omega) (by omega)) ?_
      refine q_ok_at hG t34 rfl (fun a36 ma36 ra36 ea36 => ?_)
      obtain ⟨v37, ev37⟩ := q_ev ((((q_I (S) a2 (l1).toNatClampNeg) + (l2.toInt32)) + l7).toInt)
      obtain ⟨v38, ev38⟩ := q_ev (((q_I (S) a2 (l1).toNatClampNeg) + (l2.toInt32)).toInt)
      obtain ⟨v39, ev39⟩ := q_ev ((l2.toInt32).toInt)
      have f40 : v39 = l2.toInt := q_l2iV ev39 q_evr (by omega) (by omega)
      have f41 : v38 = v8 + v39 := q_addVI ev38 ev8 ev39 (by omega) (by omega)
      have f42 : v37 = v38 + l7.toInt := q_addVI ev37 ev38 q_evr (by omega) (by omega)
      refine q_ok_if (q_inV (g_46_N hG ma36 ra36) ev37 (by omega) (by omega)) ?_
      have f43 : q_sm _ := g_46_E hG ma36 ra36 (k := (((q_I (S) a2 (l1).toNatClampNeg) + (l2.toInt32)) + l7).toNatClampNeg)
      obtain ⟨v44, ev44⟩ := q_ev ((((256 : Int64) * l5) + ((q_I (S) a36 (((q_I (S) a2 (l1).toNatClampNeg) + (l2.toInt32)) + l7).toNatClampNeg).toInt64)).toInt)
      obtain ⟨v45, ev45⟩ := q_ev (((256 : Int64) * l5).toInt)
      have f46 : v45 = (256) * l5.toInt := q_mulVJ ev45 (show q_eqv ((256 : Int64)).toInt (256) by unfold q_eqv; decide) q_evr (by omega) (by omega)
      obtain ⟨v47, ev47⟩ := q_ev (((q_I (S) a36 (((q_I (S) a2 (l1).toNatClampNeg) + (l2.toInt32)) + l7).toNatClampNeg).toInt64).toInt)
      obtain ⟨v48, ev48⟩ := q_ev ((q_I (S) a36 (((q_I (S) a2 (l1).toNatClampNeg) + (l2.toInt32)) + l7).toNatClampNeg).toInt)
      have f49 := q_bV ev48 f43
      have f50 : v47 = v48 := q_i2lV ev47 ev48
      have f51 : v44 = v45 + v47 := q_addVJ ev44 ev45 ev47 (by omega) (by omega)
      obtain ⟨v52, ev52⟩ := q_ev ((l7 + (1)).toInt)
      have f53 : v52 = l7.toInt + (1) := q_addVI ev52 q_evr (show q_eqv ((1 : Int32)).toInt (1) by unfold q_eqv; decide) (by omega) (by omega)
      have t54 := g_45_R6 hG mo ro
      have e55 : q_fE (S) o 6 ((l1 : Int32)).toNatClampNeg = q_I (S) a2 (l1).toNatClampNeg := q_fEe ea2
      exact ih _ _ _ _ _ _ hG (q_wd hl1 (by decide) (by decide)) (q_wd hl2 (by decide) (by decide)) (q_wd hl4 (by decide) (by decide)) (q_oV ev44 (by omega) (by omega)) (q_oV ev52 (by omega) (by omega)) (q_bw3 (fun x0 x1 x2 => x0 + x1 + x2 ≤ 1600) ev14 q_evr q_evr (by omega)) (q_bw2 (fun x0 x1 => x0 = 0 → x1 = 0) ev18 ev20 (by omega)) (q_bw2 (fun x0 x1 => x0 = x1) q_evr q_evr (by omega)) (q_bw2 (fun x0 x1 => x0 ≤ x1) ev52 q_evr (by omega)) (q_bw2 (fun x0 x1 => x0 = 0 → x1 ≤ 0) ev52 ev44 (by omega)) (q_bw2 (fun x0 x1 => x0 = 1 → x1 ≤ 255) ev52 ev44 (by omega)) (q_bw2 (fun x0 x1 => x0 = 2 → x1 ≤ 65535) ev52 ev44 (by omega)) (q_bw2 (fun x0 x1 => x0 = 3 → x1 ≤ 16777215) ev52 ev44 (by omega)) (q_bw2 (fun x0 x1 => x0 = 4 → x1 ≤ 4294967295) ev52 ev44 (by omega))  (q_upV ev52 (by omega))
set_option maxHeartbeats 4000000 in
set_option maxRecDepth 100000 in
theorem s_X12_number_45_k1 {ρ : Nat → Nat} {L : List Nat} {n : Nat} (hn : 18446744073709551616 ≤ n) {S : q_S} (hI : q_Inv ρ L S) {o : Nat} (mo : o ∈ L) (ro : ρ o = 45) {p0 : Int32} (hp0 : (-1 ≤ p0.toInt ∧ p0.toInt ≤ 23)) {p1 : Int64} (hp1 : (-1152921504606846976 ≤ p1.toInt ∧ p1.toInt ≤ 1152921504606846976)) {p2 : Int32} (hp2 : (1 ≤ p2.toInt ∧ p2.toInt ≤ 1)) : q_ok (m_X12_number n S o p0 p1 p2) (fun r T => q_G ρ L M_X12_number_45_k1 S T ∧ (0 ≤ r.toInt ∧ r.toInt ≤ 255) ∧ q_sm (((q_I T o 8).toInt = 0 → (q_I S o 8).toInt = 0) ∧ ((q_I T o 8).toInt = 0 → 0 ≤ (p0).toInt))) := by
  have hG : q_G ρ L M_X12_number_45_k1 S S := q_G_refl hI
  unfold m_X12_number
  have z0 : (0 : Int32).toInt = 0 := rfl
  have f1 : q_sm _ := g_45_I8 hG mo ro
  refine q_ok_ite (fun g2 => ?_) (fun g2 => ?_)
  · have f3 := q_eqV q_evr (show q_eqv ((-1 : Int32)).toInt (-1) by unfold q_eqv; decide) (q_p_eq g2)
    unfold m_X12_number_27
    refine q_ok_atS hG (q_trI mo ro) rfl (fun mo ro => ?_)
    refine q_ok_if (q_b01V (show q_eqv ((1 : Int32)).toInt (1) by unfold q_eqv; decide) (by omega) (by omega)) ?_
    have hG := u_45_I8 (x := (1 : Int32)) hG mo ro (by decide) (q_wd (show (1 : Int) ≤ (1 : Int32).toInt ∧ (1 : Int32).toInt ≤ (1 : Int) by decide) (by decide) (by decide))
    have f4 : q_sm _ := g_45_I8 hG mo ro
    have e5 : q_I (q_sI (S) o 8 ((1 : Int32))) o 8 = (1 : Int32) := q_hitI
    obtain ⟨v6, ev6⟩ := q_ev ((q_I (q_sI (S) o 8 ((1 : Int32))) o 8).toInt)
    have f7 : v6 = (1) := q_eqVI e5 ev6 (show q_eqv ((1 : Int32)).toInt (1) by unfold q_eqv; decide)
    obtain ⟨v8, ev8⟩ := q_ev ((q_I (S) o 8).toInt)
    have f9 := q_bV ev8 f1
    exact q_ok_some ⟨hG, (q_wd (show (0 : Int) ≤ (0 : Int64).toInt ∧ (0 : Int64).toInt ≤ (0 : Int) by decide) (by decide) (by decide)), (q_smI ⟨(q_bw2 (fun x0 x1 => x0 = 0 → x1 = 0) ev6 ev8 (by omega)), (q_bw2 (fun x0 x1 => x0 = 0 → 0 ≤ x1) ev6 q_evr (by omega))⟩)⟩
  · have f10 := q_neV q_evr (show q_eqv ((-1 : Int32)).toInt (-1) by unfold q_eqv; decide) (q_n_eq g2)
    refine q_ok_ite (fun g11 => ?_) (fun g11 => ?_)
    · have f12 := q_ltV q_evr (show q_eqv ((0 : Int64)).toInt (0) by unfold q_eqv; decide) (q_cp_lt g11)
      unfold m_X12_number_27
      refine q_ok_atS hG (q_trI mo ro) rfl (fun mo ro => ?_)
      refine q_ok_if (q_b01V (show q_eqv ((1 : Int32)).toInt (1) by unfold q_eqv; decide) (by omega) (by omega)) ?_
      have hG := u_45_I8 (x := (1 : Int32)) hG mo ro (by decide) (q_wd (show (1 : Int) ≤ (1 : Int32).toInt ∧ (1 : Int32).toInt ≤ (1 : Int) by decide) (by decide) (by decide))
      have f13 : q_sm _ := g_45_I8 hG mo ro
      have e14 : q_I (q_sI (S) o 8 ((1 : Int32))) o 8 = (1 : Int32) := q_hitI
      obtain ⟨v15, ev15⟩ := q_ev ((q_I (q_sI (S) o 8 ((1 : Int32))) o 8).toInt)
      have f16 : v15 = (1) := q_eqVI e14 ev15 (show q_eqv ((1 : Int32)).toInt (1) by unfold q_eqv; decide)
      obtain ⟨v17, ev17⟩ := q_ev ((q_I (S) o 8).toInt)
      have f18 := q_bV ev17 f1
      exact q_ok_some ⟨hG, (q_wd (show (0 : Int) ≤ (0 : Int64).toInt ∧ (0 : Int64).toInt ≤ (0 : Int) by decide) (by decide) (by decide)), (q_smI ⟨(q_bw2 (fun x0 x1 => x0 = 0 → x1 = 0) ev15 ev17 (by omega)), (q_bw2 (fun x0 x1 => x0 = 0 → 0 ≤ x1) ev15 q_evr (by omega))⟩)⟩
    · have f19 := q_leV (show q_eqv ((0 : Int64)).toInt (0) by unfold q_eqv; decide) q_evr (q_cn_lt g11)
      refine q_ok_atS hG (q_trI mo ro) rfl (fun mo ro => ?_)
      have t20 := g_45_R7 hG mo ro
      refine q_ok_at hG t20 rfl (fun a21 ma21 ra21 ea21 => ?_)
      refine q_ok_if (q_inV (g_50_N hG ma21 ra21) q_evr (by omega) (by omega)) ?_
      have f22 : q_sm _ := g_50_E hG ma21 ra21 (k := (p0).toNatClampNeg)
      have t23 := g_45_R6 hG mo ro
      obtain ⟨a24, ea24, ma24, ra24⟩ := id t23
      have f25 : q_sm _ := g_49_E hG ma24 ra24 (k := (p0).toNatClampNeg)
      have t26 := g_45_R7 hG mo ro
      obtain ⟨v27, ev27⟩ := q_ev ((q_I (S) a24 (p0).toNatClampNeg).toInt)
      have f28 := q_bV ev27 f25
      obtain ⟨v29, ev29⟩ := q_ev ((q_I (S) a21 (p0).toNatClampNeg).toInt)
      have f30 := q_bV ev29 f22
      have f31 : v27 + v29 ≤ 1600 := q_to2 (fun x0 x1 => x0 + x1 ≤ 1600) ev27 ev29 (hG.1.2.2.2 a24 a21 ma24 ma21 ra24 ra21 _)
      obtain ⟨v32, ev32⟩ := q_ev ((p1 + (p2.toInt64)).toInt)
      obtain ⟨v33, ev33⟩ := q_ev ((p2.toInt64).toInt)
      have f34 : v33 = p2.toInt := q_i2lV ev33 q_evr
      have f35 : v32 = p1.toInt + v33 := q_addVJ ev32 q_evr ev33 (by omega) (by omega)
      obtain ⟨v36, ev36⟩ := q_ev (((q_I (S) a21 (p0).toNatClampNeg).toInt64).toInt)
      have f37 : v36 = v29 := q_i2lV ev36 ev29
      refine q_ok_ite (fun g38 => ?_) (fun g38 => ?_)
      · have f39 := q_leV ev32 ev36 (q_cp_le g38)
        have t40 := g_45_R6 hG mo ro
        have e41 : q_fE (S) o 6 ((p0 : Int32)).toNatClampNeg = q_I (S) a24 (p0).toNatClampNeg := q_fEe ea24
        obtain ⟨v42, ev42⟩ := q_ev ((q_fE (S) o 6 ((p0 : Int32)).toNatClampNeg).toInt)
        have f43 : v42 = v27 := q_eqVI e41 ev42 ev27
        obtain ⟨v44, ev44⟩ := q_ev ((q_I (S) o 8).toInt)
        have f45 := q_bV ev44 f1
        exact s_X12_number_45_k1_40 hn mo ro (p0 := p0) (p1 := p1) (p2 := p2) n _ _ _ _ _ _ hG (q_oV q_evr (by omega) (by omega)) (q_oV q_evr (by omega) (by omega)) (q_wd hp2 (by decide) (by decide)) (q_wd (show (0 : Int) ≤ (0 : Int64).toInt ∧ (0 : Int64).toInt ≤ (0 : Int) by decide) (by decide) (by decide)) (q_wd (show (0 : Int) ≤ (0 : Int32).toInt ∧ (0 : Int32).toInt ≤ (0 : Int) by decide) (by decide) (by decide)) (q_bw3 (fun x0 x1 x2 => x0 + x1 + x2 ≤ 1600) ev42 q_evr q_evr (by omega)) (q_bw2 (fun x0 x1 => x0 = 0 → x1 = 0) ev44 ev44 (by omega)) (q_bw2 (fun x0 x1 => x0 = x1) q_evr q_evr (by omega)) (q_bw2 (fun x0 x1 => x0 ≤ x1) (show q_eqv ((0 : Int32)).toInt (0) by unfold q_eqv; decide) q_evr (by omega)) (q_bw2 (fun x0 x1 => x0 = 0 → x1 ≤ 0) (show q_eqv ((0 : Int32)).toInt (0) by unfold q_eqv; decide) (show q_eqv ((0 : Int64)).toInt (0) by unfold q_eqv; decide) (by omega)) (q_bw2 (fun x0 x1 => x0 = 1 → x1 ≤ 255) (show q_eqv ((0 : Int32)).toInt (0) by unfold q_eqv; decide) (show q_eqv ((0 : Int64)).toInt (0) by unfold q_eqv; decide) (by omega)) (q_bw2 (fun x0 x1 => x0 = 2 → x1 ≤ 65535) (show q_eqv ((0 : Int32)).toInt (0) by unfold q_eqv; decide) (show q_eqv ((0 : Int64)).toInt (0) by unfold q_eqv; decide) (by omega)) (q_bw2 (fun x0 x1 => x0 = 3 → x1 ≤ 16777215) (show q_eqv ((0 : Int32)).toInt (0) by unfold q_eqv; decide) (show q_eqv ((0 : Int64)).toInt (0) by unfold q_eqv; decide) (by omega)) (q_bw2 (fun x0 x1 => x0 = 4 → x1 ≤ 4294967295) (show q_eqv ((0 : Int32)).toInt (0) by unfold q_eqv; decide) (show q_eqv ((0 : Int64)).toInt (0) by unfold q_eqv; decide) (by omega))  (q_upV (show q_eqv ((0 : Int32)).toInt (0) by unfold q_eqv; decide) (by omega))
      · have f46 := q_ltV ev36 ev32 (q_cn_le g38)
        unfold m_X12_number_27
        refine q_ok_atS hG (q_trI mo ro) rfl (fun mo ro => ?_)
        refine q_ok_if (q_b01V (show q_eqv ((1 : Int32)).toInt (1) by unfold q_eqv; decide) (by omega) (by omega)) ?_
        have hG := u_45_I8 (x := (1 : Int32)) hG mo ro (by decide) (q_wd (show (1 : Int) ≤ (1 : Int32).toInt ∧ (1 : Int32).toInt ≤ (1 : Int) by decide) (by decide) (by decide))
        have f47 : q_sm _ := g_45_I8 hG mo ro
        have e48 : q_I (q_sI (S) o 8 ((1 : Int32))) o 8 = (1 : Int32) := q_hitI
        obtain ⟨v49, ev49⟩ := q_ev ((q_I (q_sI (S) o 8 ((1 : Int32))) o 8).toInt)
        have f50 : v49 = (1) := q_eqVI e48 ev49 (show q_eqv ((1 : Int32)).toInt (1) by unfold q_eqv; decide)
        obtain ⟨v51, ev51⟩ := q_ev ((q_I (S) o 8).toInt)
        have f52 := q_bV ev51 f1
        exact q_ok_some ⟨hG, (q_wd (show (0 : Int) ≤ (0 : Int64).toInt ∧ (0 : Int64).toInt ≤ (0 : Int) by decide) (by decide) (by decide)), (q_smI ⟨(q_bw2 (fun x0 x1 => x0 = 0 → x1 = 0) ev49 ev51 (by omega)), (q_bw2 (fun x0 x1 => x0 = 0 → 0 ≤ x1) ev49 q_evr (by omega))⟩)⟩
def M_X12_data_45_k1 : List Nat := [2888]
set_option maxHeartbeats 4000000 in
set_option maxRecDepth 100000 in
theorem s_X12_data_45_k1 {ρ : Nat → Nat} {L : List Nat} {n : Nat} (hn : 18446744073709551616 ≤ n) {S : q_S} (hI : q_Inv ρ L S) {o : Nat} (mo : o ∈ L) (ro : ρ o = 45) {p0 : Int32} (hp0 : (0 ≤ p0.toInt ∧ p0.toInt ≤ 70000)) {p1 : Int32} (hp1 : (1 ≤ p1.toInt ∧ p1.toInt ≤ 1)) : q_ok (m_X12_data n S o p0 p1) (fun r T => q_G ρ L M_X12_data_45_k1 S T ∧ (0 ≤ r.toInt ∧ r.toInt ≤ 255) ∧ q_sm (((q_I T o 8).toInt = 0 → (q_I S o 8).toInt = 0) ∧ ((q_I T o 8).toInt = 0 → (q_I T o 21).toInt + (p0).toInt + (p1).toInt ≤ (q_I T o 22).toInt) ∧ ((q_I T o 8).toInt = 0 → 0 ≤ (q_fd T o (1735162214)).toInt))) := by
  have hG : q_G ρ L M_X12_data_45_k1 S S := q_G_refl hI
  unfold m_X12_data
  have z0 : (0 : Int32).toInt = 0 := rfl
  have f1 : q_sm _ := g_45_I8 hG mo ro
  refine q_ok_atS hG (q_trI mo ro) rfl (fun mo ro => ?_)
  have f2 : q_sm _ := g_45_I21 hG mo ro
  have f3 : q_sm _ := g_45_I22 hG mo ro
  obtain ⟨v4, ev4⟩ := q_ev ((((q_I (S) o 21) + p0) + p1).toInt)
  obtain ⟨v5, ev5⟩ := q_ev (((q_I (S) o 21) + p0).toInt)
  obtain ⟨v6, ev6⟩ := q_ev ((q_I (S) o 21).toInt)
  have f7 := q_bV ev6 f2
  have f8 : v5 = v6 + p0.toInt := q_addVI ev5 ev6 q_evr (by omega) (by omega)
  have f9 : v4 = v5 + p1.toInt := q_addVI ev4 ev5 q_evr (by omega) (by omega)
  obtain ⟨v10, ev10⟩ := q_ev ((q_I (S) o 22).toInt)
  have f11 := q_bV ev10 f3
  refine q_ok_ite (fun g12 => ?_) (fun g12 => ?_)
  · have f13 := q_leV ev4 ev10 (q_p_le g12)
    refine q_ok_b (s_X12_find_45 hn hG.1 mo ro (q_wd (show (1735162214 : Int) ≤ (1735162214 : Int64).toInt ∧ (1735162214 : Int64).toInt ≤ (1735162214 : Int) by decide) (by decide) (by decide))) (fun r14 S15 h16 => ?_)
    obtain ⟨eS15, h16⟩ := h16
    replace eS15 := eS15.symm
    subst eS15
    have f17 := h16.1
    have e18 : r14 = q_fd (S) o ((1735162214 : Int64)) := Int32.toInt_inj.mp (q_smE (h16.2))
    subst e18
    obtain ⟨v19, ev19⟩ := q_ev ((q_fd (S) o ((1735162214 : Int64))).toInt)
    have f20 := q_rVI (x := q_fd (S) o ((1735162214 : Int64))) ev19
    have f21 := q_bV ev19 f17
    refine q_ok_atS hG (q_trI mo ro) rfl (fun mo ro => ?_)
    refine q_ok_b (s_X12_number_45_k1 hn hG.1 mo ro (q_oV ev19 (by omega) (by omega)) (q_wd (q_i2lB (q_addBI (0) (71601) f2 hp0 (by decide) (by decide) (by decide) (by decide))) (by decide) (by decide)) (q_wd hp1 (by decide) (by decide))) (fun r22 S23 h24 => ?_)
    have hG := q_G_call hG h24.1 (by decide)
    have f25 := h24.2.1
    have f26 : q_sm _ := g_45_I8 hG mo ro
    obtain ⟨v27, ev27⟩ := q_ev ((q_I (S23) o 8).toInt)
    have f28 := q_bV ev27 f26
    obtain ⟨v29, ev29⟩ := q_ev ((q_I (S) o 8).toInt)
    have f30 := q_bV ev29 f1
    have f31 : v27 = 0 → v29 = 0 := q_to2 (fun x0 x1 => x0 = 0 → x1 = 0) ev27 ev29 ((q_smE (h24.2.2)).1)
    have f32 : v27 = 0 → 0 ≤ v19 := q_to2 (fun x0 x1 => x0 = 0 → 0 ≤ x1) ev27 ev19 ((q_smE (h24.2.2)).2)
    have f33 : q_sm _ := g_45_I21 hG mo ro
    have e34 : q_I (S23) o 21 = q_I (S) o 21 := (q_unI h24.1 mo ro (by decide))
    have f35 : q_sm _ := g_45_I22 hG mo ro
    have e36 : q_I (S23) o 22 = q_I (S) o 22 := (q_unI h24.1 mo ro (by decide))
    obtain ⟨v37, ev37⟩ := q_ev ((q_I (S23) o 21).toInt)
    have f38 : v37 = v6 := q_eqVI e34 ev37 ev6
    obtain ⟨v39, ev39⟩ := q_ev ((q_I (S23) o 22).toInt)
    have f40 : v39 = v10 := q_eqVI e36 ev39 ev10
    have e41 : q_fd (S23) o ((1735162214 : Int64)) = q_fd (S) o ((1735162214 : Int64)) := (q_fdU h24.1 mo ro (by decide) (by decide) (by decide))
    obtain ⟨v42, ev42⟩ := q_ev ((q_fd (S23) o ((1735162214 : Int64))).toInt)
    have f43 : v42 = v19 := q_eqVI e41 ev42 ev19
    obtain ⟨v44, ev44⟩ := q_ev ((r22.toInt32).toInt)
    have f45 : v44 = r22.toInt := q_l2iV ev44 q_evr (by omega) (by omega)
    exact q_ok_some ⟨hG, (q_oV ev44 (by omega) (by omega)), (q_smI ⟨(q_bw2 (fun x0 x1 => x0 = 0 → x1 = 0) ev27 ev29 (by omega)), (q_bw5 (fun x0 x1 x2 x3 x4 => x0 = 0 → x1 + x2 + x3 ≤ x4) ev27 ev37 q_evr q_evr ev39 (by omega)), (q_bw2 (fun x0 x1 => x0 = 0 → 0 ≤ x1) ev27 ev42 (by omega))⟩)⟩
  · have f46 := q_ltV ev10 ev4 (q_n_le g12)
    refine q_ok_if (q_b01V (show q_eqv ((1 : Int32)).toInt (1) by unfold q_eqv; decide) (by omega) (by omega)) ?_
    have hG := u_45_I8 (x := (1 : Int32)) hG mo ro (by decide) (q_wd (show (1 : Int) ≤ (1 : Int32).toInt ∧ (1 : Int32).toInt ≤ (1 : Int) by decide) (by decide) (by decide))
    have f47 : q_sm _ := g_45_I8 hG mo ro
    have e48 : q_I (q_sI (S) o 8 ((1 : Int32))) o 8 = (1 : Int32) := q_hitI
    obtain ⟨v49, ev49⟩ := q_ev ((q_I (q_sI (S) o 8 ((1 : Int32))) o 8).toInt)
    have f50 : v49 = (1) := q_eqVI e48 ev49 (show q_eqv ((1 : Int32)).toInt (1) by unfold q_eqv; decide)
    obtain ⟨v51, ev51⟩ := q_ev ((q_I (S) o 8).toInt)
    have f52 := q_bV ev51 f1
    have f53 : q_sm _ := g_45_I21 hG mo ro
    have e54 : q_I (q_sI (S) o 8 ((1 : Int32))) o 21 = q_I (S) o 21 := (q_ffI (by decide))
    have f55 : q_sm _ := g_45_I22 hG mo ro
    have e56 : q_I (q_sI (S) o 8 ((1 : Int32))) o 22 = q_I (S) o 22 := (q_ffI (by decide))
    obtain ⟨v57, ev57⟩ := q_ev ((q_I (q_sI (S) o 8 ((1 : Int32))) o 21).toInt)
    have f58 : v57 = v6 := q_eqVI e54 ev57 ev6
    obtain ⟨v59, ev59⟩ := q_ev ((q_I (q_sI (S) o 8 ((1 : Int32))) o 22).toInt)
    have f60 : v59 = v10 := q_eqVI e56 ev59 ev10
    obtain ⟨v61, ev61⟩ := q_ev ((q_fd (q_sI (S) o 8 ((1 : Int32))) o ((1735162214 : Int64))).toInt)
    have f62 := q_rVI (x := q_fd (q_sI (S) o 8 ((1 : Int32))) o ((1735162214 : Int64))) ev61
    exact q_ok_some ⟨hG, (q_wd (show (0 : Int) ≤ (0 : Int32).toInt ∧ (0 : Int32).toInt ≤ (0 : Int) by decide) (by decide) (by decide)), (q_smI ⟨(q_bw2 (fun x0 x1 => x0 = 0 → x1 = 0) ev49 ev51 (by omega)), (q_bw5 (fun x0 x1 x2 x3 x4 => x0 = 0 → x1 + x2 + x3 ≤ x4) ev49 ev57 q_evr q_evr ev59 (by omega)), (q_bw2 (fun x0 x1 => x0 = 0 → 0 ≤ x1) ev49 ev61 (by omega))⟩)⟩
