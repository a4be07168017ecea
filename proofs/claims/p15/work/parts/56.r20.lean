def M_X12_sort_45 : List Nat := [4672]
set_option maxHeartbeats 4000000 in
set_option maxRecDepth 100000 in
theorem s_X12_sort_45_14 {ρ : Nat → Nat} {L : List Nat} {n : Nat} (hn : 18446744073709551616 ≤ n) {S0 : q_S} {o : Nat} (mo : o ∈ L) (ro : ρ o = 45)  {k2 : q_S → Option Nat → Int32 → Option (Unit × q_S)} {B2 : Int} (hk2 : ∀ (S : q_S) (z1 : Int32), q_G ρ L M_X12_sort_45 S0 S → (0 ≤ z1.toInt ∧ z1.toInt ≤ 24) → 2147483648 - z1.toInt < B2 → q_ok (k2 S (some o) z1) (fun _ T => q_G ρ L M_X12_sort_45 S0 T)) : ∀ (k : Nat) (S : q_S) (l1 : Int32) (l2 : Int32) (l3 : Int32), q_G ρ L M_X12_sort_45 S0 S → (0 ≤ l1.toInt ∧ l1.toInt ≤ 23) → (0 ≤ l2.toInt ∧ l2.toInt ≤ 24) → (0 ≤ l3.toInt ∧ l3.toInt ≤ 24) → ((l2).toInt ≤ (l3).toInt) → ((l1).toInt < (l3).toInt → (l2).toInt + 1 ≤ (l3).toInt) → ((l1).toInt < (q_I S o 3).toInt) → ((l3).toInt ≤ (q_I S o 3).toInt) → 2147483648 - l1.toInt ≤ B2 → 2147483648 - l3.toInt ≤ (k : Int) → q_ok (m_X12_sort_14 n k2 k S (some o) l1 l2 l3) (fun _ T => q_G ρ L M_X12_sort_45 S0 T) := by
  intro k
  induction k with
  | zero =>
    intro S l1 l2 l3 hG hl1 hl2 hl3 hf0 hf1 hf2 hf3 hm2 hm
    have f0 := q_rngI l3
    exfalso; omega
  | succ k ih =>
    intro S l1 l2 l3 hG hl1 hl2 hl3 hf0 hf1 hf2 hf3 hm2 hm
    rw [m_X12_sort_14]
    have z0 : (0 : Int32).toInt = 0 := rfl
    have f1 : l2.toInt ≤ l3.toInt := q_to2 (fun x0 x1 => x0 ≤ x1) q_evr q_evr hf0
    have f2 : l1.toInt < l3.toInt → l2.toInt + 1 ≤ l3.toInt := q_to3 (fun x0 x1 x2 => x0 < x1 → x2 + 1 ≤ x1) q_evr q_evr q_evr hf1
    have f3 : q_sm _ := g_45_I3 hG mo ro
    obtain ⟨v4, ev4⟩ := q_ev ((q_I (S) o 3).toInt)
    have f5 := q_bV ev4 f3
    have f6 : l1.toInt < v4 := q_to2 (fun x0 x1 => x0 < x1) q_evr ev4 hf2
    have f7 : l3.toInt ≤ v4 := q_to2 (fun x0 x1 => x0 ≤ x1) q_evr ev4 hf3
    refine q_ok_atS hG (q_trI mo ro) rfl (fun mo ro => ?_)
    refine q_ok_ite (fun g8 => ?_) (fun g8 => ?_)
    · have f9 := q_leV ev4 q_evr (q_p_ge g8)
      have t10 := g_45_R40 hG mo ro
      refine q_ok_at hG t10 rfl (fun a11 ma11 ra11 ea11 => ?_)
      refine q_ok_if (q_inV (g_73_N hG ma11 ra11) q_evr (by omega) (by omega)) ?_
      have hG := u_73_E (k := (l2).toNatClampNeg) (x := l1) hG ma11 ra11 (by decide) (q_wd hl1 (by decide) (by decide))
      obtain ⟨v12, ev12⟩ := q_ev ((l1 + (1)).toInt)
      have f13 : v12 = l1.toInt + (1) := q_addVI ev12 q_evr (show q_eqv ((1 : Int32)).toInt (1) by unfold q_eqv; decide) (by omega) (by omega)
      exact hk2 _ _ hG (q_wd (q_addBI (1) (24) hl1 (show (1 : Int) ≤ (1 : Int32).toInt ∧ (1 : Int32).toInt ≤ (1 : Int) by decide) (by decide) (by decide) (by decide) (by decide)) (by decide) (by decide))  (q_upVl ev12 (by omega))
    · have f14 := q_ltV q_evr ev4 (q_n_ge g8)
      have t15 := g_45_R4 hG mo ro
      refine q_ok_at hG t15 rfl (fun a16 ma16 ra16 ea16 => ?_)
      refine q_ok_if (q_inV (g_47_N hG ma16 ra16) q_evr (by omega) (by omega)) ?_
      have f17 : q_sm _ := g_47_E hG ma16 ra16 (k := (l3).toNatClampNeg)
      have t18 := g_45_R4 hG mo ro
      refine q_ok_if (q_inV (g_47_N hG ma16 ra16) q_evr (by omega) (by omega)) ?_
      have f19 : q_sm _ := g_47_E hG ma16 ra16 (k := (l1).toNatClampNeg)
      obtain ⟨v20, ev20⟩ := q_ev ((q_J (S) a16 (l3).toNatClampNeg).toInt)
      have f21 := q_bV ev20 f17
      obtain ⟨v22, ev22⟩ := q_ev ((q_J (S) a16 (l1).toNatClampNeg).toInt)
      have f23 := q_bV ev22 f19
      have f24 : l3.toInt = l1.toInt → v20 = v22 := q_cgJ q_evr q_evr ev20 ev22
      refine q_ok_ite (fun g25 => ?_) (fun g25 => ?_)
      · have f26 := q_ltV ev20 ev22 (q_cp_lt g25)
        unfold m_X12_sort_60
        unfold m_X12_sort_65
        obtain ⟨v27, ev27⟩ := q_ev ((l2 + (1 : Int32)).toInt)
        have f28 : v27 = l2.toInt + (1) := q_addVI ev27 q_evr (show q_eqv ((1 : Int32)).toInt (1) by unfold q_eqv; decide) (by omega) (by omega)
        obtain ⟨v29, ev29⟩ := q_ev ((l3 + (1)).toInt)
        have f30 : v29 = l3.toInt + (1) := q_addVI ev29 q_evr (show q_eqv ((1 : Int32)).toInt (1) by unfold q_eqv; decide) (by omega) (by omega)
        exact ih _ _ _ _ hG (q_wd hl1 (by decide) (by decide)) (q_oV ev27 (by omega) (by omega)) (q_oV ev29 (by omega) (by omega)) (q_bw2 (fun x0 x1 => x0 ≤ x1) ev27 ev29 (by omega)) (q_bw3 (fun x0 x1 x2 => x0 < x1 → x2 + 1 ≤ x1) q_evr ev29 ev27 (by omega)) (q_bw2 (fun x0 x1 => x0 < x1) q_evr ev4 (by omega)) (q_bw2 (fun x0 x1 => x0 ≤ x1) ev29 ev4 (by omega)) (q_upV q_evr (by omega)) (q_upV ev29 (by omega))
      · have f31 := q_leV ev22 ev20 (q_cn_lt g25)
        have t32 := g_45_R4 hG mo ro
        refine q_ok_if (q_inV (g_47_N hG ma16 ra16) q_evr (by omega) (by omega)) ?_
        have f33 : l1.toInt = l3.toInt → v22 = v20 := q_cgJ q_evr q_evr ev22 ev20
        have t34 := g_45_R4 hG mo ro
        refine q_ok_if (q_inV (g_47_N hG ma16 ra16) q_evr (by omega) (by omega)) ?_
        have f35 : l3.toInt = l1.toInt → v20 = v22 := q_cgJ q_evr q_evr ev20 ev22
        refine q_ok_ite (fun g36 => ?_) (fun g36 => ?_)
        · have f37 := q_eqV ev20 ev22 (q_cp_eq g36)
          refine q_ok_ite (fun g38 => ?_) (fun g38 => ?_)
          · have f39 := q_leV q_evr q_evr (q_p_ge g38)
            unfold m_X12_sort_64
            unfold m_X12_sort_65
            obtain ⟨v40, ev40⟩ := q_ev ((l3 + (1)).toInt)
            have f41 : v40 = l3.toInt + (1) := q_addVI ev40 q_evr (show q_eqv ((1 : Int32)).toInt (1) by unfold q_eqv; decide) (by omega) (by omega)
            obtain ⟨v42, ev42⟩ := q_ev ((l2 + (0 : Int32)).toInt)
            have f43 : v42 = l2.toInt + (0) := q_addVI ev42 q_evr (show q_eqv ((0 : Int32)).toInt (0) by unfold q_eqv; decide) (by omega) (by omega)
            exact ih _ _ _ _ hG (q_wd hl1 (by decide) (by decide)) (q_wd (q_addBI (0) (24) hl2 (show (0 : Int) ≤ (0 : Int32).toInt ∧ (0 : Int32).toInt ≤ (0 : Int) by decide) (by decide) (by decide) (by decide) (by decide)) (by decide) (by decide)) (q_oV ev40 (by omega) (by omega)) (q_bw2 (fun x0 x1 => x0 ≤ x1) ev42 ev40 (by omega)) (q_bw3 (fun x0 x1 x2 => x0 < x1 → x2 + 1 ≤ x1) q_evr ev40 ev42 (by omega)) (q_bw2 (fun x0 x1 => x0 < x1) q_evr ev4 (by omega)) (q_bw2 (fun x0 x1 => x0 ≤ x1) ev40 ev4 (by omega)) (q_upV q_evr (by omega)) (q_upV ev40 (by omega))
          · have f44 := q_ltV q_evr q_evr (q_n_ge g38)
            unfold m_X12_sort_60
            unfold m_X12_sort_65
            obtain ⟨v45, ev45⟩ := q_ev ((l2 + (1 : Int32)).toInt)
            have f46 : v45 = l2.toInt + (1) := q_addVI ev45 q_evr (show q_eqv ((1 : Int32)).toInt (1) by unfold q_eqv; decide) (by omega) (by omega)
            obtain ⟨v47, ev47⟩ := q_ev ((l3 + (1)).toInt)
            have f48 : v47 = l3.toInt + (1) := q_addVI ev47 q_evr (show q_eqv ((1 : Int32)).toInt (1) by unfold q_eqv; decide) (by omega) (by omega)
            exact ih _ _ _ _ hG (q_wd hl1 (by decide) (by decide)) (q_oV ev45 (by omega) (by omega)) (q_oV ev47 (by omega) (by omega)) (q_bw2 (fun x0 x1 => x0 ≤ x1) ev45 ev47 (by omega)) (q_bw3 (fun x0 x1 x2 => x0 < x1 → x2 + 1 ≤ x1) q_evr ev47 ev45 (by omega)) (q_bw2 (fun x0 x1 => x0 < x1) q_evr ev4 (by omega)) (q_bw2 (fun x0 x1 => x0 ≤ x1) ev47 ev4 (by omega)) (q_upV q_evr (by omega)) (q_upV ev47 (by omega))
        · have f49 := q_neV ev20 ev22 (q_cn_eq g36)
          unfold m_X12_sort_64
          unfold m_X12_sort_65
          obtain ⟨v50, ev50⟩ := q_ev ((l3 + (1)).toInt)
          have f51 : v50 = l3.toInt + (1) := q_addVI ev50 q_evr (show q_eqv ((1 : Int32)).toInt (1) by unfold q_eqv; decide) (by omega) (by omega)
          obtain ⟨v52, ev52⟩ := q_ev ((l2 + (0 : Int32)).toInt)
          have f53 : v52 = l2.toInt + (0) := q_addVI ev52 q_evr (show q_eqv ((0 : Int32)).toInt (0) by unfold q_eqv; decide) (by omega) (by omega)
          exact ih _ _ _ _ hG (q_wd hl1 (by decide) (by decide)) (q_wd (q_addBI (0) (24) hl2 (show (0 : Int) ≤ (0 : Int32).toInt ∧ (0 : Int32).toInt ≤ (0 : Int) by decide) (by decide) (by decide) (by decide) (by decide)) (by decide) (by decide)) (q_oV ev50 (by omega) (by omega)) (q_bw2 (fun x0 x1 => x0 ≤ x1) ev52 ev50 (by omega)) (q_bw3 (fun x0 x1 x2 => x0 < x1 → x2 + 1 ≤ x1) q_evr ev50 ev52 (by omega)) (q_bw2 (fun x0 x1 => x0 < x1) q_evr ev4 (by omega)) (q_bw2 (fun x0 x1 => x0 ≤ x1) ev50 ev4 (by omega)) (q_upV q_evr (by omega)) (q_upV ev50 (by omega))
set_option maxHeartbeats 4000000 in
set_option maxRecDepth 100000 in
theorem s_X12_sort_45_2 {ρ : Nat → Nat} {L : List Nat} {n : Nat} (hn : 18446744073709551616 ≤ n) {S0 : q_S} {o : Nat} (mo : o ∈ L) (ro : ρ o = 45)  : ∀ (k : Nat) (S : q_S) (l1 : Int32), q_G ρ L M_X12_sort_45 S0 S → (0 ≤ l1.toInt ∧ l1.toInt ≤ 24) → 2147483648 - l1.toInt ≤ (k : Int) → q_ok (m_X12_sort_2 n k S (some o) l1) (fun _ T => q_G ρ L M_X12_sort_45 S0 T) := by
  intro k
  induction k with
  | zero =>
    intro S l1 hG hl1 hm
    have f0 := q_rngI l1
    exfalso; omega
  | succ k ih =>
    intro S l1 hG hl1 hm
    rw [m_X12_sort_2]
    have z0 : (0 : Int32).toInt = 0 := rfl
    refine q_ok_atS hG (q_trI mo ro) rfl (fun mo ro => ?_)
    have f1 : q_sm _ := g_45_I3 hG mo ro
    obtain ⟨v2, ev2⟩ := q_ev ((q_I (S) o 3).toInt)
    have f3 := q_bV ev2 f1
    refine q_ok_ite (fun g4 => ?_) (fun g4 => ?_)
    · have f5 := q_leV ev2 q_evr (q_p_ge g4)
      exact q_ok_some hG
    · have f6 := q_ltV q_evr ev2 (q_n_ge g4)
      exact s_X12_sort_45_14 hn mo ro (B2 := (k : Int) + 1) (fun S9 z1 hG9 hz1  hm9 => ih S9 z1 hG9 hz1  (by omega)) n _ _ _ _ hG (q_oV q_evr (by omega) (by omega)) (q_wd (show (0 : Int) ≤ (0 : Int32).toInt ∧ (0 : Int32).toInt ≤ (0 : Int) by decide) (by decide) (by decide)) (q_wd (show (0 : Int) ≤ (0 : Int32).toInt ∧ (0 : Int32).toInt ≤ (0 : Int) by decide) (by decide) (by decide)) (q_bw2 (fun x0 x1 => x0 ≤ x1) (show q_eqv ((0 : Int32)).toInt (0) by unfold q_eqv; decide) (show q_eqv ((0 : Int32)).toInt (0) by unfold q_eqv; decide) (by omega)) (q_bw3 (fun x0 x1 x2 => x0 < x1 → x2 + 1 ≤ x1) q_evr (show q_eqv ((0 : Int32)).toInt (0) by unfold q_eqv; decide) (show q_eqv ((0 : Int32)).toInt (0) by unfold q_eqv; decide) (by omega)) (q_bw2 (fun x0 x1 => x0 < x1) q_evr ev2 (by omega)) (q_bw2 (fun x0 x1 => x0 ≤ x1) (show q_eqv ((0 : Int32)).toInt (0) by unfold q_eqv; decide) ev2 (by omega)) (q_upV q_evr (by omega)) (q_upV (show q_eqv ((0 : Int32)).toInt (0) by unfold q_eqv; decide) (by omega))
set_option maxHeartbeats 4000000 in
set_option maxRecDepth 100000 in
theorem s_X12_sort_45 {ρ : Nat → Nat} {L : List Nat} {n : Nat} (hn : 18446744073709551616 ≤ n) {S : q_S} (hI : q_Inv ρ L S) {o : Nat} (mo : o ∈ L) (ro : ρ o = 45) : q_ok (m_X12_sort n S o) (fun _ T => q_G ρ L M_X12_sort_45 S T) := by
  have hG : q_G ρ L M_X12_sort_45 S S := q_G_refl hI
  unfold m_X12_sort
  have z0 : (0 : Int32).toInt = 0 := rfl
  exact s_X12_sort_45_2 hn mo ro n _ _ hG (q_wd (show (0 : Int) ≤ (0 : Int32).toInt ∧ (0 : Int32).toInt ≤ (0 : Int) by decide) (by decide) (by decide))  (q_upV (show q_eqv ((0 : Int32)).toInt (0) by unfold q_eqv; decide) (by omega))
def M_X12_sum_45 : List Nat := [2880]
set_option maxHeartbeats 4000000 in
set_option maxRecDepth 100000 in
theorem s_X12_sum_45 {ρ : Nat → Nat} {L : List Nat} {n : Nat} (hn : 18446744073709551616 ≤ n) {S : q_S} (hI : q_Inv ρ L S) {o : Nat} (mo : o ∈ L) (ro : ρ o = 45) {p0 : Int32} : q_ok (m_X12_sum n S o p0) (fun r T => q_G ρ L M_X12_sum_45 S T ∧ (-1 ≤ r.toInt ∧ r.toInt ≤ 4294967295)) := by
  have hG : q_G ρ L M_X12_sum_45 S S := q_G_refl hI
  unfold m_X12_sum
  have z0 : (0 : Int32).toInt = 0 := rfl
  refine q_ok_atS hG (q_trI mo ro) rfl (fun mo ro => ?_)
  have hG := u_45_I0 (x := (0 : Int32)) hG mo ro (by decide) (q_wd (show (0 : Int) ≤ (0 : Int32).toInt ∧ (0 : Int32).toInt ≤ (0 : Int) by decide) (by decide) (by decide))
  have f1 : q_sm _ := g_45_I3 hG mo ro
  obtain ⟨v5, ev5⟩ := q_ev ((p0.toInt64).toInt)
  have f6 := q_rVI (x := p0) q_evr
  have f7 : v5 = p0.toInt := q_i2lV ev5 q_evr
  refine q_ok_b (s_X12_in hn hG.1 (q_oV ev5 (by omega) (by omega)) (q_wd (show (0 : Int) ≤ (0 : Int64).toInt ∧ (0 : Int64).toInt ≤ (0 : Int) by decide) (by decide) (by decide)) (q_wd (q_i2lB (q_subBI (-1) (23) f1 (show (1 : Int) ≤ (1 : Int32).toInt ∧ (1 : Int32).toInt ≤ (1 : Int) by decide) (by decide) (by decide) (by decide) (by decide))) (by decide) (by decide))) (fun r2 S3 h4 => ?_)
  obtain ⟨eS3, h4⟩ := h4
  replace eS3 := eS3.symm
  subst eS3
  have f8 := And.intro h4.1 h4.2.1
  obtain ⟨v9, ev9⟩ := q_ev ((((q_I (q_sI (S) o 0 ((0 : Int32))) o 3) - (1 : Int32)).toInt64).toInt)
  obtain ⟨v10, ev10⟩ := q_ev (((q_I (q_sI (S) o 0 ((0 : Int32))) o 3) - (1 : Int32)).toInt)
  obtain ⟨v11, ev11⟩ := q_ev ((q_I (q_sI (S) o 0 ((0 : Int32))) o 3).toInt)
  have f12 := q_bV ev11 f1
  have f13 : v10 = v11 - (1) := q_subVI ev10 ev11 (show q_eqv ((1 : Int32)).toInt (1) by unfold q_eqv; decide) (by omega) (by omega)
  have f14 : v9 = v10 := q_i2lV ev9 ev10
  have f15 : r2.toInt = 1 → (0) ≤ v5 := fun h9 => q_leV (show q_eqv ((0 : Int64)).toInt (0) by unfold q_eqv; decide) ev5 (f8.2 h9).1
  have f16 : r2.toInt = 1 → v5 ≤ v9 := fun h9 => q_leV ev5 ev9 (f8.2 h9).2
  have f17 : r2.toInt = 1 → (0) ≤ v5 ∧ v5 ≤ v9 := q_to4 (fun x0 x1 x2 x3 => x0 = 1 → x1 ≤ x2 ∧ x2 ≤ x3) q_evr (show q_eqv ((0 : Int64)).toInt (0) by unfold q_eqv; decide) ev5 ev9 ((q_smE (h4.2.2)).1)
  have f18 : r2.toInt = 0 → v5 < (0) ∨ v9 < v5 := q_to4 (fun x0 x1 x2 x3 => x0 = 0 → x1 < x2 ∨ x3 < x1) q_evr ev5 (show q_eqv ((0 : Int64)).toInt (0) by unfold q_eqv; decide) ev9 ((q_smE (h4.2.2)).2)
  refine q_ok_ite (fun g19 => ?_) (fun g19 => ?_)
  · have f20 := q_eqV q_evr (show q_eqv ((0 : Int32)).toInt (0) by unfold q_eqv; decide) (q_p_eq g19)
    unfold m_X12_sum_32
    exact q_ok_some ⟨hG, (q_wd (show (-1 : Int) ≤ (-1 : Int64).toInt ∧ (-1 : Int64).toInt ≤ (-1 : Int) by decide) (by decide) (by decide))⟩
  · have f21 := q_neV q_evr (show q_eqv ((0 : Int32)).toInt (0) by unfold q_eqv; decide) (q_n_eq g19)
    refine q_ok_atS hG (q_trI mo ro) rfl (fun mo ro => ?_)
    refine q_ok_b (s_X12_sumOf_45 hn hG.1 mo ro (q_oV q_evr (by omega) (by omega))) (fun r22 S23 h24 => ?_)
    obtain ⟨eS23, h24⟩ := h24
    replace eS23 := eS23.symm
    subst eS23
    have f25 := h24
    unfold m_X12_sum_32
    exact q_ok_some ⟨hG, (q_wd f25 (by decide) (by decide))⟩
set_option maxHeartbeats 4000000 in
set_option maxRecDepth 100000 in
theorem s_X12_sumWritten_45_5 {ρ : Nat → Nat} {L : List Nat} {n : Nat} {S : q_S} (hn : 18446744073709551616 ≤ n) (hG : q_G ρ L [] S S) {o : Nat} (mo : o ∈ L) (ro : ρ o = 45) {p0 : Int32} {p1 : Int32}  : ∀ (k : Nat) (l1 : Int32) (l2 : Int32) (l3 : Int64) (l5 : Int32), (0 ≤ l1.toInt ∧ l1.toInt ≤ 2400) → (0 ≤ l2.toInt ∧ l2.toInt ≤ 2400) → (0 ≤ l5.toInt ∧ l5.toInt ≤ 2400) → 2147483648 - l5.toInt ≤ (k : Int) → q_ok (m_X12_sumWritten_5 n k S (some o) l1 l2 l3 l5) (fun r T => T = S ∧ (0 ≤ r.toInt ∧ r.toInt ≤ 4294967295)) := by
  intro k
  induction k with
  | zero =>
    intro l1 l2 l3 l5 hl1 hl2 hl5 hm
    have f0 := q_rngI l5
    exfalso; omega
  | succ k ih =>
    intro l1 l2 l3 l5 hl1 hl2 hl5 hm
    rw [m_X12_sumWritten_5]
    have z0 : (0 : Int32).toInt = 0 := rfl
    refine q_ok_ite (fun g1 => ?_) (fun g1 => ?_)
    · have f2 := q_leV q_evr q_evr (q_p_ge g1)
      obtain ⟨v3, ev3⟩ := q_ev ((l3 &&& (4294967295 : Int64)).toInt)
      have f4 := q_andRVJ ev3 (show q_eqv ((4294967295 : Int64)).toInt (4294967295) by unfold q_eqv; decide) (by omega)
      exact q_ok_some ⟨rfl, (q_oV ev3 (by omega) (by omega))⟩
    · have f5 := q_ltV q_evr q_evr (q_n_ge g1)
      refine q_ok_atS hG (q_trI mo ro) rfl (fun mo ro => ?_)
      have t6 := g_45_R39 hG mo ro
      refine q_ok_at hG t6 rfl (fun a7 ma7 ra7 ea7 => ?_)
      refine q_ok_if (q_inV (g_72_N hG ma7 ra7) q_evr (by omega) (by omega)) ?_
      have f8 : q_sm _ := g_72_E hG ma7 ra7 (k := (l5).toNatClampNeg)
      refine q_ok_if (q_ne0VI (show q_eqv ((4 : Int32)).toInt (4) by unfold q_eqv; decide) (by omega)) ?_
      obtain ⟨v9, ev9⟩ := q_ev ((l5 + (1)).toInt)
      have f10 : v9 = l5.toInt + (1) := q_addVI ev9 q_evr (show q_eqv ((1 : Int32)).toInt (1) by unfold q_eqv; decide) (by omega) (by omega)
      exact ih _ _ _ _ (q_wd hl1 (by decide) (by decide)) (q_wd hl2 (by decide) (by decide)) (q_oV ev9 (by omega) (by omega))  (q_upV ev9 (by omega))
set_option maxHeartbeats 4000000 in
set_option maxRecDepth 100000 in
theorem s_X12_sumWritten_45 {ρ : Nat → Nat} {L : List Nat} {n : Nat} (hn : 18446744073709551616 ≤ n) {S : q_S} (hI : q_Inv ρ L S) {o : Nat} (mo : o ∈ L) (ro : ρ o = 45) {p0 : Int32} (hp0 : (0 ≤ p0.toInt ∧ p0.toInt ≤ 2400)) {p1 : Int32} (hp1 : (0 ≤ p1.toInt ∧ p1.toInt ≤ 2400)) : q_ok (m_X12_sumWritten n S o p0 p1) (fun r T => T = S ∧ (0 ≤ r.toInt ∧ r.toInt ≤ 4294967295)) := by
  have hG : q_G ρ L [] S S := q_G_refl hI
  unfold m_X12_sumWritten
  have z0 : (0 : Int32).toInt = 0 := rfl
  exact s_X12_sumWritten_45_5 hn hG mo ro (p0 := p0) (p1 := p1) n _ _ _ _ (q_wd hp0 (by decide) (by decide)) (q_wd hp1 (by decide) (by decide)) (q_wd hp0 (by decide) (by decide))  (q_upV q_evr (by omega))
def M_X12_told_45 : List Nat := [2880]
set_option maxHeartbeats 4000000 in
set_option maxRecDepth 100000 in
theorem s_X12_told_45 {ρ : Nat → Nat} {L : List Nat} {n : Nat} (hn : 18446744073709551616 ≤ n) {S : q_S} (hI : q_Inv ρ L S) {o : Nat} (mo : o ∈ L) (ro : ρ o = 45) {p0 : Int32} {p1 : Int32} : q_ok (m_X12_told n S o p0 p1) (fun r T => q_G ρ L M_X12_told_45 S T ∧ (0 ≤ r.toInt ∧ r.toInt ≤ 65535)) := by
  have hG : q_G ρ L M_X12_told_45 S S := q_G_refl hI
  unfold m_X12_told
  have z0 : (0 : Int32).toInt = 0 := rfl
  have f1 := q_rVI (x := p0) q_evr
  refine q_ok_ite (fun g2 => ?_) (fun g2 => ?_)
  · have f3 := q_eqV q_evr (show q_eqv ((-1 : Int32)).toInt (-1) by unfold q_eqv; decide) (q_p_eq g2)
    unfold m_X12_told_32
    unfold m_X12_told_37
    refine q_ok_atS hG (q_trI mo ro) rfl (fun mo ro => ?_)
    have hG := u_45_I0 (x := (0 : Int32)) hG mo ro (by decide) (q_wd (show (0 : Int) ≤ (0 : Int32).toInt ∧ (0 : Int32).toInt ≤ (0 : Int) by decide) (by decide) (by decide))
    refine q_ok_atS hG (q_trI mo ro) rfl (fun mo ro => ?_)
    have f4 : q_sm _ := g_45_I0 hG mo ro
    have e5 : q_I (q_sI (S) o 0 ((0 : Int32))) o 0 = (0 : Int32) := q_hitI
    obtain ⟨v6, ev6⟩ := q_ev ((q_I (q_sI (S) o 0 ((0 : Int32))) o 0).toInt)
    have f7 : v6 = (0) := q_eqVI e5 ev6 (show q_eqv ((0 : Int32)).toInt (0) by unfold q_eqv; decide)
    refine q_ok_ite (fun g8 => ?_) (fun g8 => ?_)
    · have f9 := q_leV ev6 (show q_eqv ((0 : Int32)).toInt (0) by unfold q_eqv; decide) (q_p_le g8)
      refine q_ok_ite (fun g10 => ?_) (fun g10 => ?_)
      · have f11 := q_eqV q_evr (show q_eqv ((-1 : Int32)).toInt (-1) by unfold q_eqv; decide) (q_p_eq g10)
        have f12 : q_sm _ := g_45_I11 hG mo ro
        unfold m_X12_told_82
        exact q_ok_some ⟨hG, (q_wd f12 (by decide) (by decide))⟩
      · have f13 := q_neV q_evr (show q_eqv ((-1 : Int32)).toInt (-1) by unfold q_eqv; decide) (q_n_eq g10)
        exfalso; omega
    · have f14 := q_ltV (show q_eqv ((0 : Int32)).toInt (0) by unfold q_eqv; decide) ev6 (q_n_le g8)
      exfalso; omega
  · have f15 := q_neV q_evr (show q_eqv ((-1 : Int32)).toInt (-1) by unfold q_eqv; decide) (q_n_eq g2)
    refine q_ok_atS hG (q_trI mo ro) rfl (fun mo ro => ?_)
    have f16 : q_sm _ := g_45_I11 hG mo ro
    obtain ⟨v20, ev20⟩ := q_ev ((p0.toInt64).toInt)
    have f21 : v20 = p0.toInt := q_i2lV ev20 q_evr
    refine q_ok_b (s_X12_in hn hG.1 (q_oV ev20 (by omega) (by omega)) (q_wd (show (0 : Int) ≤ (0 : Int64).toInt ∧ (0 : Int64).toInt ≤ (0 : Int) by decide) (by decide) (by decide)) (q_wd (q_i2lB (q_subBI (-1) (99) f16 (show (1 : Int) ≤ (1 : Int32).toInt ∧ (1 : Int32).toInt ≤ (1 : Int) by decide) (by decide) (by decide) (by decide) (by decide))) (by decide) (by decide))) (fun r17 S18 h19 => ?_)
    obtain ⟨eS18, h19⟩ := h19
    replace eS18 := eS18.symm
    subst eS18
    have f22 := And.intro h19.1 h19.2.1
    obtain ⟨v23, ev23⟩ := q_ev ((((q_I (S) o 11) - (1 : Int32)).toInt64).toInt)
    obtain ⟨v24, ev24⟩ := q_ev (((q_I (S) o 11) - (1 : Int32)).toInt)
    obtain ⟨v25, ev25⟩ := q_ev ((q_I (S) o 11).toInt)
    have f26 := q_bV ev25 f16
    have f27 : v24 = v25 - (1) := q_subVI ev24 ev25 (show q_eqv ((1 : Int32)).toInt (1) by unfold q_eqv; decide) (by omega) (by omega)
    have f28 : v23 = v24 := q_i2lV ev23 ev24
    have f29 : r17.toInt = 1 → (0) ≤ v20 := fun h9 => q_leV (show q_eqv ((0 : Int64)).toInt (0) by unfold q_eqv; decide) ev20 (f22.2 h9).1
    have f30 : r17.toInt = 1 → v20 ≤ v23 := fun h9 => q_leV ev20 ev23 (f22.2 h9).2
    have f31 : r17.toInt = 1 → (0) ≤ v20 ∧ v20 ≤ v23 := q_to4 (fun x0 x1 x2 x3 => x0 = 1 → x1 ≤ x2 ∧ x2 ≤ x3) q_evr (show q_eqv ((0 : Int64)).toInt (0) by unfold q_eqv; decide) ev20 ev23 ((q_smE (h19.2.2)).1)
    have f32 : r17.toInt = 0 → v20 < (0) ∨ v23 < v20 := q_to4 (fun x0 x1 x2 x3 => x0 = 0 → x1 < x2 ∨ x3 < x1) q_evr ev20 (show q_eqv ((0 : Int64)).toInt (0) by unfold q_eqv; decide) ev23 ((q_smE (h19.2.2)).2)
    refine q_ok_ite (fun g33 => ?_) (fun g33 => ?_)
    · have f34 := q_eqV q_evr (show q_eqv ((0 : Int32)).toInt (0) by unfold q_eqv; decide) (q_p_eq g33)
      unfold m_X12_told_36
      unfold m_X12_told_37
      refine q_ok_atS hG (q_trI mo ro) rfl (fun mo ro => ?_)
      have hG := u_45_I0 (x := (1 : Int32)) hG mo ro (by decide) (q_wd (show (1 : Int) ≤ (1 : Int32).toInt ∧ (1 : Int32).toInt ≤ (1 : Int) by decide) (by decide) (by decide))
      refine q_ok_atS hG (q_trI mo ro) rfl (fun mo ro => ?_)
      have f35 : q_sm _ := g_45_I0 hG mo ro
      have e36 : q_I (q_sI (S) o 0 ((1 : Int32))) o 0 = (1 : Int32) := q_hitI
      obtain ⟨v37, ev37⟩ := q_ev ((q_I (q_sI (S) o 0 ((1 : Int32))) o 0).toInt)
      have f38 : v37 = (1) := q_eqVI e36 ev37 (show q_eqv ((1 : Int32)).toInt (1) by unfold q_eqv; decide)
      refine q_ok_ite (fun g39 => ?_) (fun g39 => ?_)
      · have f40 := q_leV ev37 (show q_eqv ((0 : Int32)).toInt (0) by unfold q_eqv; decide) (q_p_le g39)
        exfalso; omega
      · have f41 := q_ltV (show q_eqv ((0 : Int32)).toInt (0) by unfold q_eqv; decide) ev37 (q_n_le g39)
        unfold m_X12_told_82
        exact q_ok_some ⟨hG, (q_wd (show (0 : Int) ≤ (0 : Int32).toInt ∧ (0 : Int32).toInt ≤ (0 : Int) by decide) (by decide) (by decide))⟩
    · have f42 := q_neV q_evr (show q_eqv ((0 : Int32)).toInt (0) by unfold q_eqv; decide) (q_n_eq g33)
      obtain ⟨v46, ev46⟩ := q_ev ((p1.toInt64).toInt)
      have f47 := q_rVI (x := p1) q_evr
      have f48 : v46 = p1.toInt := q_i2lV ev46 q_evr
      refine q_ok_b (s_X12_in hn hG.1 (q_oV ev46 (by omega) (by omega)) (q_wd (show (0 : Int) ≤ (0 : Int64).toInt ∧ (0 : Int64).toInt ≤ (0 : Int) by decide) (by decide) (by decide)) (q_wd (show (1 : Int) ≤ (1 : Int64).toInt ∧ (1 : Int64).toInt ≤ (1 : Int) by decide) (by decide) (by decide))) (fun r43 S44 h45 => ?_)
      obtain ⟨eS44, h45⟩ := h45
      replace eS44 := eS44.symm
      subst eS44
      have f49 := And.intro h45.1 h45.2.1
      have f50 : r43.toInt = 1 → (0) ≤ v46 := fun h9 => q_leV (show q_eqv ((0 : Int64)).toInt (0) by unfold q_eqv; decide) ev46 (f49.2 h9).1
      have f51 : r43.toInt = 1 → v46 ≤ (1) := fun h9 => q_leV ev46 (show q_eqv ((1 : Int64)).toInt (1) by unfold q_eqv; decide) (f49.2 h9).2
      have f52 : r43.toInt = 1 → (0) ≤ v46 ∧ v46 ≤ (1) := q_to4 (fun x0 x1 x2 x3 => x0 = 1 → x1 ≤ x2 ∧ x2 ≤ x3) q_evr (show q_eqv ((0 : Int64)).toInt (0) by unfold q_eqv; decide) ev46 (show q_eqv ((1 : Int64)).toInt (1) by unfold q_eqv; decide) ((q_smE (h45.2.2)).1)
      have f53 : r43.toInt = 0 → v46 < (0) ∨ (1) < v46 := q_to4 (fun x0 x1 x2 x3 => x0 = 0 → x1 < x2 ∨ x3 < x1) q_evr ev46 (show q_eqv ((0 : Int64)).toInt (0) by unfold q_eqv; decide) (show q_eqv ((1 : Int64)).toInt (1) by unfold q_eqv; decide) ((q_smE (h45.2.2)).2)
      refine q_ok_ite (fun g54 => ?_) (fun g54 => ?_)
      · have f55 := q_eqV q_evr (show q_eqv ((0 : Int32)).toInt (0) by unfold q_eqv; decide) (q_p_eq g54)
        unfold m_X12_told_36
        unfold m_X12_told_37
        refine q_ok_atS hG (q_trI mo ro) rfl (fun mo ro => ?_)
        have hG := u_45_I0 (x := (1 : Int32)) hG mo ro (by decide) (q_wd (show (1 : Int) ≤ (1 : Int32).toInt ∧ (1 : Int32).toInt ≤ (1 : Int) by decide) (by decide) (by decide))
        refine q_ok_atS hG (q_trI mo ro) rfl (fun mo ro => ?_)
        have f56 : q_sm _ := g_45_I0 hG mo ro
        have e57 : q_I (q_sI (S) o 0 ((1 : Int32))) o 0 = (1 : Int32) := q_hitI
        obtain ⟨v58, ev58⟩ := q_ev ((q_I (q_sI (S) o 0 ((1 : Int32))) o 0).toInt)
        have f59 : v58 = (1) := q_eqVI e57 ev58 (show q_eqv ((1 : Int32)).toInt (1) by unfold q_eqv; decide)
        refine q_ok_ite (fun g60 => ?_) (fun g60 => ?_)
        · have f61 := q_leV ev58 (show q_eqv ((0 : Int32)).toInt (0) by unfold q_eqv; decide) (q_p_le g60)
          exfalso; omega
        · have f62 := q_ltV (show q_eqv ((0 : Int32)).toInt (0) by unfold q_eqv; decide) ev58 (q_n_le g60)
          unfold m_X12_told_82
          exact q_ok_some ⟨hG, (q_wd (show (0 : Int) ≤ (0 : Int32).toInt ∧ (0 : Int32).toInt ≤ (0 : Int) by decide) (by decide) (by decide))⟩
      · have f63 := q_neV q_evr (show q_eqv ((0 : Int32)).toInt (0) by unfold q_eqv; decide) (q_n_eq g54)
        unfold m_X12_told_32
        unfold m_X12_told_37
        refine q_ok_atS hG (q_trI mo ro) rfl (fun mo ro => ?_)
        have hG := u_45_I0 (x := (0 : Int32)) hG mo ro (by decide) (q_wd (show (0 : Int) ≤ (0 : Int32).toInt ∧ (0 : Int32).toInt ≤ (0 : Int) by decide) (by decide) (by decide))
        refine q_ok_atS hG (q_trI mo ro) rfl (fun mo ro => ?_)
        have f64 : q_sm _ := g_45_I0 hG mo ro
        have e65 : q_I (q_sI (S) o 0 ((0 : Int32))) o 0 = (0 : Int32) := q_hitI
        obtain ⟨v66, ev66⟩ := q_ev ((q_I (q_sI (S) o 0 ((0 : Int32))) o 0).toInt)
        have f67 : v66 = (0) := q_eqVI e65 ev66 (show q_eqv ((0 : Int32)).toInt (0) by unfold q_eqv; decide)
        refine q_ok_ite (fun g68 => ?_) (fun g68 => ?_)
        · have f69 := q_leV ev66 (show q_eqv ((0 : Int32)).toInt (0) by unfold q_eqv; decide) (q_p_le g68)
          refine q_ok_ite (fun g70 => ?_) (fun g70 => ?_)
          · have f71 := q_eqV q_evr (show q_eqv ((-1 : Int32)).toInt (-1) by unfold q_eqv; decide) (q_p_eq g70)
            exfalso; omega
          · have f72 := q_neV q_evr (show q_eqv ((-1 : Int32)).toInt (-1) by unfold q_eqv; decide) (q_n_eq g70)
            refine q_ok_ite (fun g73 => ?_) (fun g73 => ?_)
            · have f74 := q_eqV q_evr (show q_eqv ((0 : Int32)).toInt (0) by unfold q_eqv; decide) (q_p_eq g73)
              have t75 := g_45_R12 hG mo ro
              refine q_ok_at hG t75 rfl (fun a76 ma76 ra76 ea76 => ?_)
              refine q_ok_if (q_inV (g_53_N hG ma76 ra76) q_evr (by omega) (by omega)) ?_
              have f77 : q_sm _ := g_53_E hG ma76 ra76 (k := (p0).toNatClampNeg)
              unfold m_X12_told_82
              exact q_ok_some ⟨hG, (q_wd f77 (by decide) (by decide))⟩
            · have f78 := q_neV q_evr (show q_eqv ((0 : Int32)).toInt (0) by unfold q_eqv; decide) (q_n_eq g73)
              have t79 := g_45_R13 hG mo ro
              refine q_ok_at hG t79 rfl (fun a80 ma80 ra80 ea80 => ?_)
              refine q_ok_if (q_inV (g_54_N hG ma80 ra80) q_evr (by omega) (by omega)) ?_
              have f81 : q_sm _ := g_54_E hG ma80 ra80 (k := (p0).toNatClampNeg)
              unfold m_X12_told_82
              exact q_ok_some ⟨hG, (q_wd f81 (by decide) (by decide))⟩
        · have f82 := q_ltV (show q_eqv ((0 : Int32)).toInt (0) by unfold q_eqv; decide) ev66 (q_n_le g68)
          exfalso; omega
def M_X12_width_45 : List Nat := [2880, 2888]
set_option maxHeartbeats 4000000 in
set_option maxRecDepth 100000 in
theorem s_X12_width_45 {ρ : Nat → Nat} {L : List Nat} {n : Nat} (hn : 18446744073709551616 ≤ n) {S : q_S} (hI : q_Inv ρ L S) {o : Nat} (mo : o ∈ L) (ro : ρ o = 45) {p0 : Int32} : q_ok (m_X12_width n S o p0) (fun r T => q_G ρ L M_X12_width_45 S T ∧ (0 ≤ r.toInt ∧ r.toInt ≤ 65535)) := by
  have hG : q_G ρ L M_X12_width_45 S S := q_G_refl hI
  unfold m_X12_width
  have z0 : (0 : Int32).toInt = 0 := rfl
  refine q_ok_atS hG (q_trI mo ro) rfl (fun mo ro => ?_)
  have hG := u_45_I0 (x := (0 : Int32)) hG mo ro (by decide) (q_wd (show (0 : Int) ≤ (0 : Int32).toInt ∧ (0 : Int32).toInt ≤ (0 : Int) by decide) (by decide) (by decide))
  refine q_ok_b (s_X12_isSign_45 hn hG.1 mo ro) (fun r1 S2 h3 => ?_)
  have hG := q_G_call hG h3.1 (by decide)
  have f4 := h3.2.1
  have f5 := q_rVI (x := p0) q_evr
  have f6 : r1.toInt = 1 → 0 ≤ p0.toInt ∧ p0.toInt ≤ 199 := q_to2 (fun x0 x1 => x0 = 1 → 0 ≤ x1 ∧ x1 ≤ 199) q_evr q_evr ((q_smE (h3.2.2)))
  refine q_ok_ite (fun g7 => ?_) (fun g7 => ?_)
  · have f8 := q_eqV q_evr (show q_eqv ((0 : Int32)).toInt (0) by unfold q_eqv; decide) (q_p_eq g7)
    exact q_ok_some ⟨hG, (q_wd (show (0 : Int) ≤ (0 : Int32).toInt ∧ (0 : Int32).toInt ≤ (0 : Int) by decide) (by decide) (by decide))⟩
  · have f9 := q_neV q_evr (show q_eqv ((0 : Int32)).toInt (0) by unfold q_eqv; decide) (q_n_eq g7)
    refine q_ok_atS hG (q_trI mo ro) rfl (fun mo ro => ?_)
    refine q_ok_if (q_b01V (show q_eqv ((0 : Int32)).toInt (0) by unfold q_eqv; decide) (by omega) (by omega)) ?_
    have hG := u_45_I8 (x := (0 : Int32)) hG mo ro (by decide) (q_wd (show (0 : Int) ≤ (0 : Int32).toInt ∧ (0 : Int32).toInt ≤ (0 : Int) by decide) (by decide) (by decide))
    refine q_ok_b (s_X12_find_45 hn hG.1 mo ro (q_wd (show (1751672161 : Int) ≤ (1751672161 : Int64).toInt ∧ (1751672161 : Int64).toInt ≤ (1751672161 : Int) by decide) (by decide) (by decide))) (fun r10 S11 h12 => ?_)
    obtain ⟨eS11, h12⟩ := h12
    replace eS11 := eS11.symm
    subst eS11
    have f13 := h12.1
    have e14 : r10 = q_fd (q_sI (S2) o 8 ((0 : Int32))) o ((1751672161 : Int64)) := Int32.toInt_inj.mp (q_smE (h12.2))
    subst e14
    obtain ⟨v15, ev15⟩ := q_ev ((q_fd (q_sI (S2) o 8 ((0 : Int32))) o ((1751672161 : Int64))).toInt)
    have f16 := q_rVI (x := q_fd (q_sI (S2) o 8 ((0 : Int32))) o ((1751672161 : Int64))) ev15
    have f17 := q_bV ev15 f13
    refine q_ok_atS hG (q_trI mo ro) rfl (fun mo ro => ?_)
    have f21 : q_sm _ := g_45_I8 hG mo ro
    have e22 : q_I (q_sI (S2) o 8 ((0 : Int32))) o 8 = (0 : Int32) := q_hitI
    refine q_ok_b (s_X12_two_45 hn hG.1 mo ro (q_oV ev15 (by omega) (by omega)) (q_wd (show (34 : Int) ≤ (34 : Int64).toInt ∧ (34 : Int64).toInt ≤ (34 : Int) by decide) (by decide) (by decide))) (fun r18 S19 h20 => ?_)
    have hG := q_G_call hG h20.1 (by decide)
    have f23 := h20.2.1
    have f24 : q_sm _ := g_45_I8 hG mo ro
    obtain ⟨v25, ev25⟩ := q_ev ((q_I (S19) o 8).toInt)
    have f26 := q_bV ev25 f24
    obtain ⟨v27, ev27⟩ := q_ev ((q_I (q_sI (S2) o 8 ((0 : Int32))) o 8).toInt)
    have f28 : v27 = (0) := q_eqVI e22 ev27 (show q_eqv ((0 : Int32)).toInt (0) by unfold q_eqv; decide)
    have f29 : v25 = 0 → v27 = 0 := q_to2 (fun x0 x1 => x0 = 0 → x1 = 0) ev25 ev27 ((q_smE (h20.2.2)))
    refine q_ok_ite (fun g30 => ?_) (fun g30 => ?_)
    · have f31 := q_eqV q_evr (show q_eqv ((0 : Int32)).toInt (0) by unfold q_eqv; decide) (q_p_eq g30)
      unfold m_X12_width_73
      refine q_ok_atS hG (q_trI mo ro) rfl (fun mo ro => ?_)
      refine q_ok_ite (fun g32 => ?_) (fun g32 => ?_)
      · have f33 := q_eqV ev25 (show q_eqv ((0 : Int32)).toInt (0) by unfold q_eqv; decide) (q_p_eq g32)
        unfold m_X12_width_86
        exact q_ok_some ⟨hG, (q_wd (show (0 : Int) ≤ (0 : Int32).toInt ∧ (0 : Int32).toInt ≤ (0 : Int) by decide) (by decide) (by decide))⟩
      · have f34 := q_neV ev25 (show q_eqv ((0 : Int32)).toInt (0) by unfold q_eqv; decide) (q_n_eq g32)
        unfold m_X12_width_86
        exact q_ok_some ⟨hG, (q_wd (show (0 : Int) ≤ (0 : Int32).toInt ∧ (0 : Int32).toInt ≤ (0 : Int) by decide) (by decide) (by decide))⟩
    · have f35 := q_neV q_evr (show q_eqv ((0 : Int32)).toInt (0) by unfold q_eqv; decide) (q_n_eq g30)
      refine q_ok_atS hG (q_trI mo ro) rfl (fun mo ro => ?_)
      refine q_ok_b (s_X12_find_45 hn hG.1 mo ro (q_wd (show (1752003704 : Int) ≤ (1752003704 : Int64).toInt ∧ (1752003704 : Int64).toInt ≤ (1752003704 : Int) by decide) (by decide) (by decide))) (fun r36 S37 h38 => ?_)
      obtain ⟨eS37, h38⟩ := h38
      replace eS37 := eS37.symm
      subst eS37
      have f39 := h38.1
      have e40 : r36 = q_fd (S19) o ((1752003704 : Int64)) := Int32.toInt_inj.mp (q_smE (h38.2))
      subst e40
      obtain ⟨v41, ev41⟩ := q_ev ((q_fd (S19) o ((1752003704 : Int64))).toInt)
      have f42 := q_rVI (x := q_fd (S19) o ((1752003704 : Int64))) ev41
      have f43 := q_bV ev41 f39
      obtain ⟨v44, ev44⟩ := q_ev ((r18 - (1 : Int32)).toInt)
      have f45 : v44 = r18.toInt - (1) := q_subVI ev44 q_evr (show q_eqv ((1 : Int32)).toInt (1) by unfold q_eqv; decide) (by omega) (by omega)
      refine q_ok_ite (fun g46 => ?_) (fun g46 => ?_)
      · have f47 := q_leV ev44 q_evr (q_p_ge g46)
        unfold m_X12_width_68
        refine q_ok_atS hG (q_trI mo ro) rfl (fun mo ro => ?_)
        obtain ⟨v51, ev51⟩ := q_ev (((4 : Int64) * ((r18 - (1 : Int32)).toInt64)).toInt)
        obtain ⟨v52, ev52⟩ := q_ev (((r18 - (1 : Int32)).toInt64).toInt)
        have f53 : v52 = v44 := q_i2lV ev52 ev44
        have f54 : v51 = (4) * v52 := q_mulVJ ev51 (show q_eqv ((4 : Int64)).toInt (4) by unfold q_eqv; decide) ev52 (by omega) (by omega)
        refine q_ok_b (s_X12_two_45 hn hG.1 mo ro (q_oV ev41 (by omega) (by omega)) (q_oV ev51 (by omega) (by omega))) (fun r48 S49 h50 => ?_)
        have hG := q_G_call hG h50.1 (by decide)
        have f55 := h50.2.1
        have f56 : q_sm _ := g_45_I8 hG mo ro
        obtain ⟨v57, ev57⟩ := q_ev ((q_I (S49) o 8).toInt)
        have f58 := q_bV ev57 f56
        have f59 : v57 = 0 → v25 = 0 := q_to2 (fun x0 x1 => x0 = 0 → x1 = 0) ev57 ev25 ((q_smE (h50.2.2)))
        unfold m_X12_width_73
        refine q_ok_atS hG (q_trI mo ro) rfl (fun mo ro => ?_)
        refine q_ok_ite (fun g60 => ?_) (fun g60 => ?_)
        · have f61 := q_eqV ev57 (show q_eqv ((0 : Int32)).toInt (0) by unfold q_eqv; decide) (q_p_eq g60)
          unfold m_X12_width_86
          exact q_ok_some ⟨hG, (q_wd f55 (by decide) (by decide))⟩
        · have f62 := q_neV ev57 (show q_eqv ((0 : Int32)).toInt (0) by unfold q_eqv; decide) (q_n_eq g60)
          unfold m_X12_width_86
          exact q_ok_some ⟨hG, (q_wd (show (0 : Int) ≤ (0 : Int32).toInt ∧ (0 : Int32).toInt ≤ (0 : Int) by decide) (by decide) (by decide))⟩
      · have f63 := q_ltV q_evr ev44 (q_n_ge g46)
        unfold m_X12_width_68
        refine q_ok_atS hG (q_trI mo ro) rfl (fun mo ro => ?_)
        obtain ⟨v67, ev67⟩ := q_ev (((4 : Int64) * (p0.toInt64)).toInt)
        obtain ⟨v68, ev68⟩ := q_ev ((p0.toInt64).toInt)
        have f69 : v68 = p0.toInt := q_i2lV ev68 q_evr
        have f70 : v67 = (4) * v68 := q_mulVJ ev67 (show q_eqv ((4 : Int64)).toInt (4) by unfold q_eqv; decide) ev68 (by omega) (by omega)
        refine q_ok_b (s_X12_two_45 hn hG.1 mo ro (q_oV ev41 (by omega) (by omega)) (q_oV ev67 (by omega) (by omega))) (fun r64 S65 h66 => ?_)
        have hG := q_G_call hG h66.1 (by decide)
        have f71 := h66.2.1
        have f72 : q_sm _ := g_45_I8 hG mo ro
        obtain ⟨v73, ev73⟩ := q_ev ((q_I (S65) o 8).toInt)
        have f74 := q_bV ev73 f72
        have f75 : v73 = 0 → v25 = 0 := q_to2 (fun x0 x1 => x0 = 0 → x1 = 0) ev73 ev25 ((q_smE (h66.2.2)))
        unfold m_X12_width_73
        refine q_ok_atS hG (q_trI mo ro) rfl (fun mo ro => ?_)
        refine q_ok_ite (fun g76 => ?_) (fun g76 => ?_)
        · have f77 := q_eqV ev73 (show q_eqv ((0 : Int32)).toInt (0) by unfold q_eqv; decide) (q_p_eq g76)
          unfold m_X12_width_86
          exact q_ok_some ⟨hG, (q_wd f71 (by decide) (by decide))⟩
        · have f78 := q_neV ev73 (show q_eqv ((0 : Int32)).toInt (0) by unfold q_eqv; decide) (q_n_eq g76)
          unfold m_X12_width_86
          exact q_ok_some ⟨hG, (q_wd (show (0 : Int) ≤ (0 : Int32).toInt ∧ (0 : Int32).toInt ≤ (0 : Int) by decide) (by decide) (by decide))⟩
