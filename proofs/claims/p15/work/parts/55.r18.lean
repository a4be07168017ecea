set_option maxHeartbeats 4000000 in
set_option maxRecDepth 100000 in
theorem s_X12_sumOf_45_14 {ρ : Nat → Nat} {L : List Nat} {n : Nat} {S : q_S} (hn : 18446744073709551616 ≤ n) (hG : q_G ρ L [] S S) {o : Nat} (mo : o ∈ L) (ro : ρ o = 45) {p0 : Int32}  : ∀ (k : Nat) (l1 : Int32) (l2 : Int64) (l4 : Int32) (l5 : Int32), (0 ≤ l1.toInt ∧ l1.toInt ≤ 23) → (-1 ≤ l4.toInt ∧ l4.toInt ≤ 23) → (0 ≤ l5.toInt ∧ l5.toInt ≤ 1600) → 2147483648 - l5.toInt ≤ (k : Int) → q_ok (m_X12_sumOf_14 n k S (some o) l1 l2 l4 l5) (fun r T => T = S ∧ (0 ≤ r.toInt ∧ r.toInt ≤ 4294967295)) := by
  intro k
  induction k with
  | zero =>
    intro l1 l2 l4 l5 hl1 hl4 hl5 hm
    have f0 := q_rngI l5
    exfalso; omega
  | succ k ih =>
    intro l1 l2 l4 l5 hl1 hl4 hl5 hm
    rw [m_X12_sumOf_14]
    have z0 : (0 : Int32).toInt = 0 := rfl
    refine q_ok_atS hG (q_trI mo ro) rfl (fun mo ro => ?_)
    have t1 := g_45_R7 hG mo ro
    refine q_ok_at hG t1 rfl (fun a2 ma2 ra2 ea2 => ?_)
    refine q_ok_if (q_inV (g_50_N hG ma2 ra2) q_evr (by omega) (by omega)) ?_
    have f3 : q_sm _ := g_50_E hG ma2 ra2 (k := (l1).toNatClampNeg)
    have t4 := g_45_R6 hG mo ro
    obtain ⟨a5, ea5, ma5, ra5⟩ := id t4
    have f6 : q_sm _ := g_49_E hG ma5 ra5 (k := (l1).toNatClampNeg)
    have t7 := g_45_R7 hG mo ro
    obtain ⟨v8, ev8⟩ := q_ev ((q_I (S) a5 (l1).toNatClampNeg).toInt)
    have f9 := q_bV ev8 f6
    obtain ⟨v10, ev10⟩ := q_ev ((q_I (S) a2 (l1).toNatClampNeg).toInt)
    have f11 := q_bV ev10 f3
    have f12 : v8 + v10 ≤ 1600 := q_to2 (fun x0 x1 => x0 + x1 ≤ 1600) ev8 ev10 (hG.1.2.2.2 a5 a2 ma5 ma2 ra5 ra2 _)
    refine q_ok_ite (fun g13 => ?_) (fun g13 => ?_)
    · have f14 := q_leV ev10 q_evr (q_p_ge g13)
      obtain ⟨v15, ev15⟩ := q_ev ((l2 &&& (4294967295 : Int64)).toInt)
      have f16 := q_andRVJ ev15 (show q_eqv ((4294967295 : Int64)).toInt (4294967295) by unfold q_eqv; decide) (by omega)
      exact q_ok_some ⟨rfl, (q_oV ev15 (by omega) (by omega))⟩
    · have f17 := q_ltV q_evr ev10 (q_n_ge g13)
      refine q_ok_ite (fun g18 => ?_) (fun g18 => ?_)
      · have f19 := q_eqV q_evr q_evr (q_p_eq g18)
        refine q_ok_ite (fun g20 => ?_) (fun g20 => ?_)
        · have f21 := q_ltV q_evr (show q_eqv ((8 : Int32)).toInt (8) by unfold q_eqv; decide) (q_p_lt g20)
          unfold m_X12_sumOf_49
          refine q_ok_atS hG (q_trI mo ro) rfl (fun mo ro => ?_)
          have t22 := g_45_R1 hG mo ro
          have t23 := g_45_R6 hG mo ro
          refine q_ok_atA hG ea5 ma5 ra5 rfl ?_
          refine q_ok_if (q_inV (g_49_N hG ma5 ra5) q_evr (by omega) (by omega)) ?_
          refine q_ok_at hG t22 rfl (fun a24 ma24 ra24 ea24 => ?_)
          obtain ⟨v25, ev25⟩ := q_ev (((q_I (S) a5 (l1).toNatClampNeg) + l5).toInt)
          have f26 : v25 = v8 + l5.toInt := q_addVI ev25 ev8 q_evr (by omega) (by omega)
          refine q_ok_if (q_inV (g_46_N hG ma24 ra24) ev25 (by omega) (by omega)) ?_
          have f27 : q_sm _ := g_46_E hG ma24 ra24 (k := ((q_I (S) a5 (l1).toNatClampNeg) + l5).toNatClampNeg)
          unfold m_X12_sumOf_63
          refine q_ok_if (q_ne0VI (show q_eqv ((4 : Int32)).toInt (4) by unfold q_eqv; decide) (by omega)) ?_
          obtain ⟨v28, ev28⟩ := q_ev ((l5 + (1)).toInt)
          have f29 : v28 = l5.toInt + (1) := q_addVI ev28 q_evr (show q_eqv ((1 : Int32)).toInt (1) by unfold q_eqv; decide) (by omega) (by omega)
          exact ih _ _ _ _ (q_wd hl1 (by decide) (by decide)) (q_wd hl4 (by decide) (by decide)) (q_oV ev28 (by omega) (by omega))  (q_upV ev28 (by omega))
        · have f30 := q_leV (show q_eqv ((8 : Int32)).toInt (8) by unfold q_eqv; decide) q_evr (q_n_lt g20)
          refine q_ok_ite (fun g31 => ?_) (fun g31 => ?_)
          · have f32 := q_leV (show q_eqv ((12 : Int32)).toInt (12) by unfold q_eqv; decide) q_evr (q_p_ge g31)
            unfold m_X12_sumOf_49
            refine q_ok_atS hG (q_trI mo ro) rfl (fun mo ro => ?_)
            have t33 := g_45_R1 hG mo ro
            have t34 := g_45_R6 hG mo ro
            refine q_ok_atA hG ea5 ma5 ra5 rfl ?_
            refine q_ok_if (q_inV (g_49_N hG ma5 ra5) q_evr (by omega) (by omega)) ?_
            refine q_ok_at hG t33 rfl (fun a35 ma35 ra35 ea35 => ?_)
            obtain ⟨v36, ev36⟩ := q_ev (((q_I (S) a5 (l1).toNatClampNeg) + l5).toInt)
            have f37 : v36 = v8 + l5.toInt := q_addVI ev36 ev8 q_evr (by omega) (by omega)
            refine q_ok_if (q_inV (g_46_N hG ma35 ra35) ev36 (by omega) (by omega)) ?_
            have f38 : q_sm _ := g_46_E hG ma35 ra35 (k := ((q_I (S) a5 (l1).toNatClampNeg) + l5).toNatClampNeg)
            unfold m_X12_sumOf_63
            refine q_ok_if (q_ne0VI (show q_eqv ((4 : Int32)).toInt (4) by unfold q_eqv; decide) (by omega)) ?_
            obtain ⟨v39, ev39⟩ := q_ev ((l5 + (1)).toInt)
            have f40 : v39 = l5.toInt + (1) := q_addVI ev39 q_evr (show q_eqv ((1 : Int32)).toInt (1) by unfold q_eqv; decide) (by omega) (by omega)
            exact ih _ _ _ _ (q_wd hl1 (by decide) (by decide)) (q_wd hl4 (by decide) (by decide)) (q_oV ev39 (by omega) (by omega))  (q_upV ev39 (by omega))
          · have f41 := q_ltV q_evr (show q_eqv ((12 : Int32)).toInt (12) by unfold q_eqv; decide) (q_n_ge g31)
            unfold m_X12_sumOf_63
            refine q_ok_if (q_ne0VI (show q_eqv ((4 : Int32)).toInt (4) by unfold q_eqv; decide) (by omega)) ?_
            obtain ⟨v42, ev42⟩ := q_ev ((l5 + (1)).toInt)
            have f43 : v42 = l5.toInt + (1) := q_addVI ev42 q_evr (show q_eqv ((1 : Int32)).toInt (1) by unfold q_eqv; decide) (by omega) (by omega)
            exact ih _ _ _ _ (q_wd hl1 (by decide) (by decide)) (q_wd hl4 (by decide) (by decide)) (q_oV ev42 (by omega) (by omega))  (q_upV ev42 (by omega))
      · have f44 := q_neV q_evr q_evr (q_n_eq g18)
        unfold m_X12_sumOf_49
        refine q_ok_atS hG (q_trI mo ro) rfl (fun mo ro => ?_)
        have t45 := g_45_R1 hG mo ro
        have t46 := g_45_R6 hG mo ro
        refine q_ok_atA hG ea5 ma5 ra5 rfl ?_
        refine q_ok_if (q_inV (g_49_N hG ma5 ra5) q_evr (by omega) (by omega)) ?_
        refine q_ok_at hG t45 rfl (fun a47 ma47 ra47 ea47 => ?_)
        obtain ⟨v48, ev48⟩ := q_ev (((q_I (S) a5 (l1).toNatClampNeg) + l5).toInt)
        have f49 : v48 = v8 + l5.toInt := q_addVI ev48 ev8 q_evr (by omega) (by omega)
        refine q_ok_if (q_inV (g_46_N hG ma47 ra47) ev48 (by omega) (by omega)) ?_
        have f50 : q_sm _ := g_46_E hG ma47 ra47 (k := ((q_I (S) a5 (l1).toNatClampNeg) + l5).toNatClampNeg)
        unfold m_X12_sumOf_63
        refine q_ok_if (q_ne0VI (show q_eqv ((4 : Int32)).toInt (4) by unfold q_eqv; decide) (by omega)) ?_
        obtain ⟨v51, ev51⟩ := q_ev ((l5 + (1)).toInt)
        have f52 : v51 = l5.toInt + (1) := q_addVI ev51 q_evr (show q_eqv ((1 : Int32)).toInt (1) by unfold q_eqv; decide) (by omega) (by omega)
        exact ih _ _ _ _ (q_wd hl1 (by decide) (by decide)) (q_wd hl4 (by decide) (by decide)) (q_oV ev51 (by omega) (by omega))  (q_upV ev51 (by omega))
set_option maxHeartbeats 4000000 in
set_option maxRecDepth 100000 in
theorem s_X12_sumOf_45 {ρ : Nat → Nat} {L : List Nat} {n : Nat} (hn : 18446744073709551616 ≤ n) {S : q_S} (hI : q_Inv ρ L S) {o : Nat} (mo : o ∈ L) (ro : ρ o = 45) {p0 : Int32} (hp0 : (0 ≤ p0.toInt ∧ p0.toInt ≤ 23)) : q_ok (m_X12_sumOf n S o p0) (fun r T => T = S ∧ (0 ≤ r.toInt ∧ r.toInt ≤ 4294967295)) := by
  have hG : q_G ρ L [] S S := q_G_refl hI
  unfold m_X12_sumOf
  have z0 : (0 : Int32).toInt = 0 := rfl
  refine q_ok_atS hG (q_trI mo ro) rfl (fun mo ro => ?_)
  refine q_ok_b (s_X12_find_45 hn hG.1 mo ro (q_wd (show (1751474532 : Int) ≤ (1751474532 : Int64).toInt ∧ (1751474532 : Int64).toInt ≤ (1751474532 : Int) by decide) (by decide) (by decide))) (fun r1 S2 h3 => ?_)
  obtain ⟨eS2, h3⟩ := h3
  replace eS2 := eS2.symm
  subst eS2
  have f4 := h3.1
  have e5 : r1 = q_fd (S) o ((1751474532 : Int64)) := Int32.toInt_inj.mp (q_smE (h3.2))
  subst e5
  obtain ⟨v6, ev6⟩ := q_ev ((q_fd (S) o ((1751474532 : Int64))).toInt)
  have f7 := q_rVI (x := q_fd (S) o ((1751474532 : Int64))) ev6
  have f8 := q_bV ev6 f4
  exact s_X12_sumOf_45_14 hn hG mo ro (p0 := p0) n _ _ _ _ (q_wd hp0 (by decide) (by decide)) (q_oV ev6 (by omega) (by omega)) (q_wd (show (0 : Int) ≤ (0 : Int32).toInt ∧ (0 : Int32).toInt ≤ (0 : Int) by decide) (by decide) (by decide))  (q_upV (show q_eqv ((0 : Int32)).toInt (0) by unfold q_eqv; decide) (by omega))
set_option maxHeartbeats 4000000 in
set_option maxRecDepth 100000 in
theorem s_X12_twoAt_45 {ρ : Nat → Nat} {L : List Nat} {n : Nat} (hn : 18446744073709551616 ≤ n) {S : q_S} (hI : q_Inv ρ L S) {o : Nat} (mo : o ∈ L) (ro : ρ o = 45) {p0 : Int32} (hp0 : (4 ≤ p0.toInt ∧ p0.toInt ≤ 4)) : q_ok (m_X12_twoAt n S o p0) (fun r T => T = S ∧ (0 ≤ r.toInt ∧ r.toInt ≤ 65535) ∧ q_sm (((r).toInt = 256 * (q_fE T o 1 (p0 : Int32).toNatClampNeg).toInt + (q_fE T o 1 (p0 + (1 : Int32) : Int32).toNatClampNeg).toInt))) := by
  have hG : q_G ρ L [] S S := q_G_refl hI
  unfold m_X12_twoAt
  have z0 : (0 : Int32).toInt = 0 := rfl
  refine q_ok_atS hG (q_trI mo ro) rfl (fun mo ro => ?_)
  have t1 := g_45_R1 hG mo ro
  refine q_ok_at hG t1 rfl (fun a2 ma2 ra2 ea2 => ?_)
  refine q_ok_if (q_inV (g_46_N hG ma2 ra2) q_evr (by omega) (by omega)) ?_
  have f3 : q_sm _ := g_46_E hG ma2 ra2 (k := (p0).toNatClampNeg)
  have t4 := g_45_R1 hG mo ro
  obtain ⟨v5, ev5⟩ := q_ev ((p0 + (1 : Int32)).toInt)
  have f6 : v5 = p0.toInt + (1) := q_addVI ev5 q_evr (show q_eqv ((1 : Int32)).toInt (1) by unfold q_eqv; decide) (by omega) (by omega)
  refine q_ok_if (q_inV (g_46_N hG ma2 ra2) ev5 (by omega) (by omega)) ?_
  have f7 : q_sm _ := g_46_E hG ma2 ra2 (k := (p0 + (1 : Int32)).toNatClampNeg)
  have t8 := g_45_R1 hG mo ro
  have e9 : q_fE (S) o 1 ((p0 : Int32)).toNatClampNeg = q_I (S) a2 (p0).toNatClampNeg := q_fEe ea2
  have t10 := g_45_R1 hG mo ro
  have e11 : q_fE (S) o 1 ((p0 + (1 : Int32) : Int32)).toNatClampNeg = q_I (S) a2 (p0 + (1 : Int32)).toNatClampNeg := q_fEe ea2
  obtain ⟨v12, ev12⟩ := q_ev ((((256 : Int32) * (q_I (S) a2 (p0).toNatClampNeg)) + (q_I (S) a2 (p0 + (1 : Int32)).toNatClampNeg)).toInt)
  obtain ⟨v13, ev13⟩ := q_ev (((256 : Int32) * (q_I (S) a2 (p0).toNatClampNeg)).toInt)
  obtain ⟨v14, ev14⟩ := q_ev ((q_I (S) a2 (p0).toNatClampNeg).toInt)
  have f15 := q_bV ev14 f3
  have f16 : v13 = (256) * v14 := q_mulVI ev13 (show q_eqv ((256 : Int32)).toInt (256) by unfold q_eqv; decide) ev14 (by omega) (by omega)
  obtain ⟨v17, ev17⟩ := q_ev ((q_I (S) a2 (p0 + (1 : Int32)).toNatClampNeg).toInt)
  have f18 := q_bV ev17 f7
  have f19 : v12 = v13 + v17 := q_addVI ev12 ev13 ev17 (by omega) (by omega)
  obtain ⟨v20, ev20⟩ := q_ev ((q_fE (S) o 1 ((p0 : Int32)).toNatClampNeg).toInt)
  have f21 : v20 = v14 := q_eqVI e9 ev20 ev14
  obtain ⟨v22, ev22⟩ := q_ev ((q_fE (S) o 1 ((p0 + (1 : Int32) : Int32)).toNatClampNeg).toInt)
  have f23 : v22 = v17 := q_eqVI e11 ev22 ev17
  exact q_ok_some ⟨rfl, (q_oV ev12 (by omega) (by omega)), (q_smI (q_bw3 (fun x0 x1 x2 => x0 = 256 * x1 + x2) ev12 ev20 ev22 (by omega)))⟩
def M_X12_read_45 : List Nat := [2880, 2883, 2891, 2894, 2898, 2916, 3008, 3072, 3136, 3200, 3264, 3392, 3456]
set_option maxHeartbeats 4000000 in
set_option maxRecDepth 100000 in
theorem s_X12_read_45_191 {ρ : Nat → Nat} {L : List Nat} {n : Nat} (hn : 18446744073709551616 ≤ n) {S0 : q_S} {o : Nat} (mo : o ∈ L) (ro : ρ o = 45)  : ∀ (k : Nat) (S : q_S) (l1 : Int32) (l2 : Int32), q_G ρ L M_X12_read_45 S0 S → (0 ≤ l1.toInt ∧ l1.toInt ≤ 24) → (0 ≤ l2.toInt ∧ l2.toInt ≤ 24) → 2147483648 - l2.toInt ≤ (k : Int) → q_ok (m_X12_read_191 n k S (some o) l1 l2) (fun r T => q_G ρ L M_X12_read_45 S0 T ∧ (-25 ≤ r.toInt ∧ r.toInt ≤ 24)) := by
  intro k
  induction k with
  | zero =>
    intro S l1 l2 hG hl1 hl2 hm
    have f0 := q_rngI l2
    exfalso; omega
  | succ k ih =>
    intro S l1 l2 hG hl1 hl2 hm
    rw [m_X12_read_191]
    have z0 : (0 : Int32).toInt = 0 := rfl
    refine q_ok_ite (fun g1 => ?_) (fun g1 => ?_)
    · have f2 := q_leV q_evr q_evr (q_p_ge g1)
      exact q_ok_some ⟨hG, (q_wd hl1 (by decide) (by decide))⟩
    · have f3 := q_ltV q_evr q_evr (q_n_ge g1)
      refine q_ok_atS hG (q_trI mo ro) rfl (fun mo ro => ?_)
      refine q_ok_b (s_X12_sumOf_45 hn hG.1 mo ro (q_oV q_evr (by omega) (by omega))) (fun r4 S5 h6 => ?_)
      obtain ⟨eS5, h6⟩ := h6
      replace eS5 := eS5.symm
      subst eS5
      have f7 := h6
      refine q_ok_atS hG (q_trI mo ro) rfl (fun mo ro => ?_)
      have t8 := g_45_R5 hG mo ro
      refine q_ok_at hG t8 rfl (fun a9 ma9 ra9 ea9 => ?_)
      refine q_ok_if (q_inV (g_48_N hG ma9 ra9) q_evr (by omega) (by omega)) ?_
      have f10 : q_sm _ := g_48_E hG ma9 ra9 (k := (l2).toNatClampNeg)
      obtain ⟨v11, ev11⟩ := q_ev ((q_J (S) a9 (l2).toNatClampNeg).toInt)
      have f12 := q_bV ev11 f10
      refine q_ok_ite (fun g13 => ?_) (fun g13 => ?_)
      · have f14 := q_eqV q_evr ev11 (q_cp_eq g13)
        unfold m_X12_read_217
        obtain ⟨v15, ev15⟩ := q_ev ((l2 + (1)).toInt)
        have f16 : v15 = l2.toInt + (1) := q_addVI ev15 q_evr (show q_eqv ((1 : Int32)).toInt (1) by unfold q_eqv; decide) (by omega) (by omega)
        exact ih _ _ _ hG (q_wd hl1 (by decide) (by decide)) (q_oV ev15 (by omega) (by omega))  (q_upV ev15 (by omega))
      · have f17 := q_neV q_evr ev11 (q_cn_eq g13)
        refine q_ok_b (s_X12_tell_45 hn hG.1 mo ro (q_wd (show (2 : Int) ≤ (2 : Int32).toInt ∧ (2 : Int32).toInt ≤ (2 : Int) by decide) (by decide) (by decide)) (q_wd hl2 (by decide) (by decide))) (fun r18 S19 h20 => ?_)
        have hG := q_G_call hG h20 (by decide)
        unfold m_X12_read_217
        obtain ⟨v21, ev21⟩ := q_ev ((l2 + (1)).toInt)
        have f22 : v21 = l2.toInt + (1) := q_addVI ev21 q_evr (show q_eqv ((1 : Int32)).toInt (1) by unfold q_eqv; decide) (by omega) (by omega)
        exact ih _ _ _ hG (q_wd hl1 (by decide) (by decide)) (q_oV ev21 (by omega) (by omega))  (q_upV ev21 (by omega))
def q_same (S T : q_S) (b : Nat) : Prop := q_L T = q_L S ∧ q_K T = q_K S ∧ q_N T = q_N S ∧ q_R T = q_R S ∧ q_I T b = q_I S b
theorem q_rdA {ρ : Nat → Nat} {L m : List Nat} {n : Nat} (hn : 18446744073709551616 ≤ n) {S S0 : q_S} (hG : q_G ρ L m S0 S) {o bf : Nat} (mo : o ∈ L) (ro : ρ o = 45) (ef : q_R S o 1 = some bf) (mf : bf ∈ L) (rf : ρ bf = 46) (p : Int32) (h5 : 0 ≤ p.toInt) (h6 : p.toInt ≤ 1596) : ∃ F : Int64, (0 ≤ F.toInt ∧ F.toInt ≤ 4294967295) ∧ ∀ T, q_same S T bf → m_X12_fourAt n T o p = some (F, T) := by
  have hIn : ∀ a r c, a ∈ L → ρ a = r → q_kd r = c → a ∈ q_L S ∧ q_K S a = c := fun a r c ma ra hc => ⟨by rw [hG.1.1]; exact ma, by rw [(hG.1.2.1 a ma).1, ra, hc]⟩
  have hfo : ∀ T, q_same S T bf → m_X12_fourAt n T o p = some (q_fo (q_I S bf) p, T) := by
    intro T hT
    obtain ⟨f1, f2, f3, f4, f5⟩ := hT
    rw [← f5]
    refine q_fourAt_eq ?_ ?_ ?_ ?_ h5 h6
    · rw [f1, f2]; exact hIn o 45 13 mo ro rfl
    · rw [f4]; exact ef
    · rw [f1, f2]; exact hIn bf 46 100 mf rf rfl
    · rw [f3]; exact g_46_N hG mf rf
  refine ⟨_, ?_, hfo⟩
  obtain ⟨r, T, e, _, e3⟩ := s_X12_fourAt_45 hn hG.1 mo ro (p0 := p) ⟨h5, h6⟩
  rw [hfo S ⟨rfl, rfl, rfl, rfl, rfl⟩] at e
  cases e
  exact e3
theorem q_rdP {l2 : Int32} (h1 : 0 ≤ l2.toInt) (h2 : l2.toInt ≤ 23) : ((12 : Int32) + ((16 : Int32) * l2)).toInt = 12 + 16 * l2.toInt := by
  have z12 : (12 : Int32).toInt = 12 := rfl
  have hm1 : ((16 : Int32) * l2).toInt = 16 * l2.toInt := q_mulLI (show (16 : Int32).toInt = 16 from rfl) (by omega) (by omega)
  rw [q_addI (by rw [z12, hm1]; omega) (by rw [z12, hm1]; omega), z12, hm1]
theorem q_rdQ {l2 c : Int32} (h1 : 0 ≤ l2.toInt) (h2 : l2.toInt ≤ 23) (h3 : 0 ≤ c.toInt) (h4 : c.toInt ≤ 12) : 0 ≤ (((12 : Int32) + ((16 : Int32) * l2)) + c).toInt ∧ (((12 : Int32) + ((16 : Int32) * l2)) + c).toInt ≤ 1596 := by
  have e := q_rdP h1 h2
  generalize (12 : Int32) + ((16 : Int32) * l2) = P at *
  rw [q_addI (by omega) (by omega)]; omega
theorem q_rdM {l2 : Int32} (h1 : 0 ≤ l2.toInt) (h2 : l2.toInt ≤ 23) : q_sm (-25 ≤ ((-1 : Int32) - l2).toInt ∧ ((-1 : Int32) - l2).toInt ≤ 24) := by
  have zm : (-1 : Int32).toInt = -1 := rfl
  show _ ∧ _
  rw [q_subI (by rw [zm]; omega) (by rw [zm]; omega), zm]; omega
theorem q_rdN {l2 : Int32} (h1 : 0 ≤ l2.toInt) (h2 : l2.toInt ≤ 23) : (l2 + 1).toInt = l2.toInt + 1 := by
  have z1 : (1 : Int32).toInt = 1 := rfl
  rw [q_addI (by rw [z1]; omega) (by rw [z1]; omega), z1]
set_option maxHeartbeats 4000000 in
set_option maxRecDepth 100000 in
theorem s_X12_read_45_70 {ρ : Nat → Nat} {L : List Nat} {n : Nat} (hn : 18446744073709551616 ≤ n) {S0 : q_S} {o : Nat} (mo : o ∈ L) (ro : ρ o = 45)  : ∀ (k : Nat) (S : q_S) (l1 : Int32) (l2 : Int32), q_G ρ L M_X12_read_45 S0 S → (0 ≤ l1.toInt ∧ l1.toInt ≤ 24) → (0 ≤ l2.toInt ∧ l2.toInt ≤ 24) → 2147483648 - l2.toInt ≤ (k : Int) → q_ok (m_X12_read_70 n k S (some o) l1 l2) (fun r T => q_G ρ L M_X12_read_45 S0 T ∧ (-25 ≤ r.toInt ∧ r.toInt ≤ 24)) := by
  intro k
  induction k with
  | zero =>
    intro S l1 l2 hG hl1 hl2 hm
    have f0 := q_rngI l2
    exfalso; omega
  | succ k ih =>
    intro S l1 l2 hG hl1 hl2 hm
    rw [m_X12_read_70]
    have z0 : (0 : Int32).toInt = 0 := rfl
    refine q_ok_ite (fun g => ?_) (fun g => ?_)
    · refine q_ok_atS hG (q_trI mo ro) rfl (fun _ _ => ?_)
      have hG2 := u_45_I3 (x := l1) hG mo ro (by decide) ⟨by omega, by omega⟩
      exact s_X12_read_45_191 hn mo ro n _ l1 0 hG2 ⟨by omega, by omega⟩ ⟨by decide, by decide⟩ (by rw [z0]; omega)
    have g2 : l2.toInt < l1.toInt := by have := mt Int32.le_iff_toInt_le.mpr g; omega
    have k1 : 0 ≤ l2.toInt := by omega
    have k2 : l2.toInt ≤ 23 := by omega
    have hM := q_rdM k1 k2
    have hsz := g_45_I2 hG mo ro
    obtain ⟨bf, ef, mf, rf⟩ := g_45_R1 hG mo ro
    obtain ⟨bt, et, mt_, rt⟩ := g_45_R4 hG mo ro
    obtain ⟨bs, es, ms, rs⟩ := g_45_R5 hG mo ro
    obtain ⟨b6, e6, m6, r6⟩ := g_45_R6 hG mo ro
    obtain ⟨b7, e7, m7, r7⟩ := g_45_R7 hG mo ro
    have hIn : ∀ a r c, a ∈ L → ρ a = r → q_kd r = c → a ∈ q_L S ∧ q_K S a = c := fun a r c ma ra hc => ⟨by rw [hG.1.1]; exact ma, by rw [(hG.1.2.1 a ma).1, ra, hc]⟩
    have ho := hIn o 45 13 mo ro rfl
    obtain ⟨F0, r0, h0⟩ := q_rdA hn hG mo ro ef mf rf ((12 : Int32) + ((16 : Int32) * l2)) (by rw [q_rdP k1 k2]; omega) (by rw [q_rdP k1 k2]; omega)
    obtain ⟨F4, r4, h4⟩ := q_rdA hn hG mo ro ef mf rf (((12 : Int32) + ((16 : Int32) * l2)) + (4 : Int32)) (q_rdQ k1 k2 (by decide) (by decide)).1 (q_rdQ k1 k2 (by decide) (by decide)).2
    obtain ⟨F8, r8, h8⟩ := q_rdA hn hG mo ro ef mf rf (((12 : Int32) + ((16 : Int32) * l2)) + (8 : Int32)) (q_rdQ k1 k2 (by decide) (by decide)).1 (q_rdQ k1 k2 (by decide) (by decide)).2
    obtain ⟨F12, r12, h12⟩ := q_rdA hn hG mo ro ef mf rf (((12 : Int32) + ((16 : Int32) * l2)) + (12 : Int32)) (q_rdQ k1 k2 (by decide) (by decide)).1 (q_rdQ k1 k2 (by decide) (by decide)).2
    refine q_ok_atS hG (q_trI mo ro) rfl (fun _ _ => ?_)
    refine q_ok_ite (fun g3 => ?_) (fun g3 => ?_)
    · exact q_ok_some ⟨hG, q_smE hM⟩
    refine q_ok_bE (h8 S ⟨rfl, rfl, rfl, rfl, rfl⟩) ?_
    refine q_ok_atS hG (q_trI mo ro) rfl (fun _ _ => ?_)
    refine q_ok_bE (h12 S ⟨rfl, rfl, rfl, rfl, rfl⟩) ?_
    refine q_ok_atS hG (q_trI mo ro) rfl (fun _ _ => ?_)
    refine q_ok_ite (fun g4 => ?_) (fun g4 => ?_)
    case refine_2 => exact q_ok_some ⟨hG, q_smE hM⟩
    have g5 := q_cp_le g4
    rw [q_addJ (by omega) (by omega), q_wil] at g5
    have v8 : F8.toInt32.toInt = F8.toInt := q_wli (by omega) (by omega)
    have v12 : F12.toInt32.toInt = F12.toInt := q_wli (by omega) (by omega)
    refine q_ok_bE (h0 S ⟨rfl, rfl, rfl, rfl, rfl⟩) ?_
    refine q_ok_atA hG et mt_ rt rfl ?_
    refine q_ok_if (q_inI (g_47_N hG mt_ rt) k1 (by omega)) ?_
    have hG1 := u_47_E (k := (l2).toNatClampNeg) (x := F0) hG mt_ rt (by decide) r0
    refine q_ok_atS hG1 (q_trI mo ro) rfl (fun _ _ => ?_)
    refine q_ok_bE (h4 _ ⟨rfl, rfl, rfl, rfl, rfl⟩) ?_
    refine q_ok_atA hG1 es ms rs rfl ?_
    refine q_ok_if (q_inI (g_48_N hG1 ms rs) k1 (by omega)) ?_
    have hG2 := u_48_E (k := (l2).toNatClampNeg) (x := F4) hG1 ms rs (by decide) r4
    refine q_ok_atS hG2 (q_trI mo ro) rfl (fun _ _ => ?_)
    refine q_ok_bE (h8 _ ⟨rfl, rfl, rfl, rfl, rfl⟩) ?_
    refine q_ok_atA hG2 e6 m6 r6 rfl ?_
    refine q_ok_if (q_inI (g_49_N hG2 m6 r6) k1 (by omega)) ?_
    refine q_ok_atM rfl ho ?_
    refine q_ok_bE (h12 _ ⟨rfl, rfl, rfl, rfl, funext fun i => q_fwI rf r6 (by decide)⟩) ?_
    refine q_ok_atM e7 (hIn b7 50 100 m7 r7 rfl) ?_
    have hN7 := q_inI (g_50_N hG2 m7 r7) k1 (by omega)
    refine q_ok_if hN7 ?_
    have s6 := g_49_E hG2 m6 r6 (k := (l2).toNatClampNeg)
    have hA := u_50_E (k := (l2).toNatClampNeg) (x := 0) hG2 m7 r7 (by decide) ⟨by decide, by decide⟩ (q_E1_len hG2 m7 r7 m6 r6 (by rw [z0]; omega))
    have hB := u_49_E (k := (l2).toNatClampNeg) (x := F8.toInt32) hA m6 r6 (by decide) ⟨by omega, by omega⟩ (q_E1_st hA m6 r6 m7 r7 (by rw [q_hitI, z0]; omega))
    have hC := u_50_E (k := (l2).toNatClampNeg) (x := F12.toInt32) hB m7 r7 (by decide) ⟨by omega, by omega⟩ (q_E1_len hB m7 r7 m6 r6 (by rw [q_hitI]; omega))
    rw [q_sI3 (fun e => by subst e; rw [r6] at r7; cases r7)] at hC
    have eN := q_rdN k1 k2
    exact ih _ l1 (l2 + 1) hC hl1 ⟨by rw [eN]; omega, by rw [eN]; omega⟩ (by rw [eN]; omega)
set_option maxHeartbeats 4000000 in
set_option maxRecDepth 100000 in
theorem s_X12_read_45_16 {ρ : Nat → Nat} {L : List Nat} {n : Nat} (hn : 18446744073709551616 ≤ n) {S0 : q_S} {o : Nat} (mo : o ∈ L) (ro : ρ o = 45)  : ∀ (k : Nat) (S : q_S) (l1 : Int32), q_G ρ L M_X12_read_45 S0 S → (0 ≤ l1.toInt ∧ l1.toInt ≤ 200) → 2147483648 - l1.toInt ≤ (k : Int) → q_ok (m_X12_read_16 n k S (some o) l1) (fun r T => q_G ρ L M_X12_read_45 S0 T ∧ (-25 ≤ r.toInt ∧ r.toInt ≤ 24)) := by
  intro k
  induction k with
  | zero =>
    intro S l1 hG hl1 hm
    have f0 := q_rngI l1
    exfalso; omega
  | succ k ih =>
    intro S l1 hG hl1 hm
    rw [m_X12_read_16]
    have z0 : (0 : Int32).toInt = 0 := rfl
    refine q_ok_ite (fun g1 => ?_) (fun g1 => ?_)
    · have f2 := q_leV (show q_eqv ((200 : Int32)).toInt (200) by unfold q_eqv; decide) q_evr (q_p_ge g1)
      refine q_ok_atS hG (q_trI mo ro) rfl (fun mo ro => ?_)
      have f3 : q_sm _ := g_45_I2 hG mo ro
      obtain ⟨v4, ev4⟩ := q_ev ((q_I (S) o 2).toInt)
      have f5 := q_bV ev4 f3
      refine q_ok_ite (fun g6 => ?_) (fun g6 => ?_)
      · have f7 := q_leV (show q_eqv ((12 : Int32)).toInt (12) by unfold q_eqv; decide) ev4 (q_p_ge g6)
        refine q_ok_b (s_X12_twoAt_45 hn hG.1 mo ro (q_wd (show (4 : Int) ≤ (4 : Int32).toInt ∧ (4 : Int32).toInt ≤ (4 : Int) by decide) (by decide) (by decide))) (fun r8 S9 h10 => ?_)
        obtain ⟨eS9, h10⟩ := h10
        replace eS9 := eS9.symm
        subst eS9
        have f11 := h10.1
        have t12 := g_45_R1 hG mo ro
        obtain ⟨a13, ea13, ma13, ra13⟩ := id t12
        have f14 : q_sm _ := g_46_E hG ma13 ra13 (k := ((4 : Int32)).toNatClampNeg)
        have e15 : q_fE (S) o 1 (((4 : Int32) : Int32)).toNatClampNeg = q_I (S) a13 ((4 : Int32)).toNatClampNeg := q_fEe ea13
        have t16 := g_45_R1 hG mo ro
        have f17 : q_sm _ := g_46_E hG ma13 ra13 (k := ((4 : Int32) + (1 : Int32)).toNatClampNeg)
        have e18 : q_fE (S) o 1 (((4 : Int32) + (1 : Int32) : Int32)).toNatClampNeg = q_I (S) a13 ((4 : Int32) + (1 : Int32)).toNatClampNeg := q_fEe ea13
        obtain ⟨v19, ev19⟩ := q_ev ((q_fE (S) o 1 (((4 : Int32) : Int32)).toNatClampNeg).toInt)
        obtain ⟨v20, ev20⟩ := q_ev ((q_I (S) a13 ((4 : Int32)).toNatClampNeg).toInt)
        have f21 := q_bV ev20 f14
        have f22 : v19 = v20 := q_eqVI e15 ev19 ev20
        obtain ⟨v23, ev23⟩ := q_ev ((q_fE (S) o 1 (((4 : Int32) + (1 : Int32) : Int32)).toNatClampNeg).toInt)
        obtain ⟨v24, ev24⟩ := q_ev ((q_I (S) a13 ((4 : Int32) + (1 : Int32)).toNatClampNeg).toInt)
        have f25 := q_bV ev24 f17
        have f26 : v23 = v24 := q_eqVI e18 ev23 ev24
        have f27 : r8.toInt = 256 * v19 + v23 := q_to3 (fun x0 x1 x2 => x0 = 256 * x1 + x2) q_evr ev19 ev23 ((q_smE (h10.2)))
        refine q_ok_ite (fun g28 => ?_) (fun g28 => ?_)
        · have f29 := q_leV q_evr (show q_eqv ((24 : Int32)).toInt (24) by unfold q_eqv; decide) (q_p_le g28)
          refine q_ok_atS hG (q_trI mo ro) rfl (fun mo ro => ?_)
          refine q_ok_b (s_X12_twoAt_45 hn hG.1 mo ro (q_wd (show (4 : Int) ≤ (4 : Int32).toInt ∧ (4 : Int32).toInt ≤ (4 : Int) by decide) (by decide) (by decide))) (fun r30 S31 h32 => ?_)
          obtain ⟨eS31, h32⟩ := h32
          replace eS31 := eS31.symm
          subst eS31
          have f33 := h32.1
          have t34 := g_45_R1 hG mo ro
          have e35 : q_fE (S) o 1 (((4 : Int32) : Int32)).toNatClampNeg = q_I (S) a13 ((4 : Int32)).toNatClampNeg := q_fEe ea13
          have t36 := g_45_R1 hG mo ro
          have e37 : q_fE (S) o 1 (((4 : Int32) + (1 : Int32) : Int32)).toNatClampNeg = q_I (S) a13 ((4 : Int32) + (1 : Int32)).toNatClampNeg := q_fEe ea13
          have f38 : r30.toInt = 256 * v19 + v23 := q_to3 (fun x0 x1 x2 => x0 = 256 * x1 + x2) q_evr ev19 ev23 ((q_smE (h32.2)))
          unfold m_X12_read_67
          exact s_X12_read_45_70 hn mo ro n _ _ _ hG (q_oV q_evr (by omega) (by omega)) (q_wd (show (0 : Int) ≤ (0 : Int32).toInt ∧ (0 : Int32).toInt ≤ (0 : Int) by decide) (by decide) (by decide))  (q_upV (show q_eqv ((0 : Int32)).toInt (0) by unfold q_eqv; decide) (by omega))
        · have f39 := q_ltV (show q_eqv ((24 : Int32)).toInt (24) by unfold q_eqv; decide) q_evr (q_n_le g28)
          unfold m_X12_read_67
          exact s_X12_read_45_70 hn mo ro n _ _ _ hG (q_wd (show (24 : Int) ≤ (24 : Int32).toInt ∧ (24 : Int32).toInt ≤ (24 : Int) by decide) (by decide) (by decide)) (q_wd (show (0 : Int) ≤ (0 : Int32).toInt ∧ (0 : Int32).toInt ≤ (0 : Int) by decide) (by decide) (by decide))  (q_upV (show q_eqv ((0 : Int32)).toInt (0) by unfold q_eqv; decide) (by omega))
      · have f40 := q_ltV ev4 (show q_eqv ((12 : Int32)).toInt (12) by unfold q_eqv; decide) (q_n_ge g6)
        exact q_ok_some ⟨hG, (q_wd (show (-1 : Int) ≤ (-1 : Int32).toInt ∧ (-1 : Int32).toInt ≤ (-1 : Int) by decide) (by decide) (by decide))⟩
    · have f41 := q_ltV q_evr (show q_eqv ((200 : Int32)).toInt (200) by unfold q_eqv; decide) (q_n_ge g1)
      refine q_ok_atS hG (q_trI mo ro) rfl (fun mo ro => ?_)
      have t42 := g_45_R9 hG mo ro
      refine q_ok_at hG t42 rfl (fun a43 ma43 ra43 ea43 => ?_)
      refine q_ok_if (q_inV (g_51_N hG ma43 ra43) q_evr (by omega) (by omega)) ?_
      obtain ⟨v44, ev44⟩ := q_ev ((vp_nar .boolean ((0 : Int32))).toInt)
      have f45 : v44 = (0) := q_narV ev44 (show q_eqv ((0 : Int32)).toInt (0) by unfold q_eqv; decide) (by omega) (by omega)
      have hG := u_51_E (k := (l1).toNatClampNeg) (x := vp_nar .boolean ((0 : Int32))) hG ma43 ra43 (by decide) (q_oV ev44 (by omega) (by omega))
      obtain ⟨v46, ev46⟩ := q_ev ((l1 + (1)).toInt)
      have f47 : v46 = l1.toInt + (1) := q_addVI ev46 q_evr (show q_eqv ((1 : Int32)).toInt (1) by unfold q_eqv; decide) (by omega) (by omega)
      exact ih _ _ hG (q_oV ev46 (by omega) (by omega))  (q_upV ev46 (by omega))
set_option maxHeartbeats 4000000 in
set_option maxRecDepth 100000 in
theorem s_X12_read_45 {ρ : Nat → Nat} {L : List Nat} {n : Nat} (hn : 18446744073709551616 ≤ n) {S : q_S} (hI : q_Inv ρ L S) {o : Nat} (mo : o ∈ L) (ro : ρ o = 45) : q_ok (m_X12_read n S o) (fun r T => q_G ρ L M_X12_read_45 S T ∧ (-25 ≤ r.toInt ∧ r.toInt ≤ 24)) := by
  have hG : q_G ρ L M_X12_read_45 S S := q_G_refl hI
  unfold m_X12_read
  have z0 : (0 : Int32).toInt = 0 := rfl
  refine q_ok_atS hG (q_trI mo ro) rfl (fun mo ro => ?_)
  have hG := u_45_I0 (x := (0 : Int32)) hG mo ro (by decide) (q_wd (show (0 : Int) ≤ (0 : Int32).toInt ∧ (0 : Int32).toInt ≤ (0 : Int) by decide) (by decide) (by decide))
  refine q_ok_b (s_X12_forgetRun_45 hn hG.1 mo ro) (fun r1 S2 h3 => ?_)
  have hG := q_G_call hG h3.1 (by decide)
  have f4 : q_sm _ := g_45_I14 hG mo ro
  obtain ⟨v5, ev5⟩ := q_ev ((q_I (S2) o 14).toInt)
  have f6 := q_bV ev5 f4
  have f7 : v5 = 0 := q_to1 (fun x0 => x0 = 0) ev5 ((q_smE (h3.2)).1)
  have f8 : q_sm _ := g_45_I18 hG mo ro
  obtain ⟨v9, ev9⟩ := q_ev ((q_I (S2) o 18).toInt)
  have f10 := q_bV ev9 f8
  have f11 : v9 = 0 := q_to1 (fun x0 => x0 = 0) ev9 ((q_smE (h3.2)).2.1)
  have f12 : q_sm _ := g_45_I36 hG mo ro
  obtain ⟨v13, ev13⟩ := q_ev ((q_I (S2) o 36).toInt)
  have f14 := q_bV ev13 f12
  have f15 : v13 = 0 := q_to1 (fun x0 => x0 = 0) ev13 ((q_smE (h3.2)).2.2)
  refine q_ok_atS hG (q_trI mo ro) rfl (fun mo ro => ?_)
  have hG := u_45_I3 (x := (0 : Int32)) hG mo ro (by decide) (q_wd (show (0 : Int) ≤ (0 : Int32).toInt ∧ (0 : Int32).toInt ≤ (0 : Int) by decide) (by decide) (by decide))
  exact s_X12_read_45_16 hn mo ro n _ _ hG (q_wd (show (0 : Int) ≤ (0 : Int32).toInt ∧ (0 : Int32).toInt ≤ (0 : Int) by decide) (by decide) (by decide))  (q_upV (show q_eqv ((0 : Int32)).toInt (0) by unfold q_eqv; decide) (by omega))
