def M_X12_put_45 : List Nat := [2918, 2921, 4608]
set_option maxHeartbeats 4000000 in
set_option maxRecDepth 100000 in
theorem s_X12_put_45 {ρ : Nat → Nat} {L : List Nat} {n : Nat} (hn : 18446744073709551616 ≤ n) {S : q_S} (hI : q_Inv ρ L S) {o : Nat} (mo : o ∈ L) (ro : ρ o = 45) {p0 : Int32} (hp0 : (0 ≤ p0.toInt ∧ p0.toInt ≤ 255)) : q_ok (m_X12_put n S o p0) (fun _ T => q_G ρ L M_X12_put_45 S T ∧ q_sm (((q_I S o 41).toInt ≤ (q_I T o 41).toInt) ∧ ((q_I S o 38).toInt ≤ (q_I T o 38).toInt) ∧ ((q_I S o 41).toInt = 0 → (q_I S o 38).toInt + 1 ≤ (q_I T o 41).toInt + (q_I T o 38).toInt))) := by
  have hG : q_G ρ L M_X12_put_45 S S := q_G_refl hI
  unfold m_X12_put
  have z0 : (0 : Int32).toInt = 0 := rfl
  have f1 : q_sm _ := g_45_I41 hG mo ro
  have f2 : q_sm _ := g_45_I38 hG mo ro
  refine q_ok_atS hG (q_trI mo ro) rfl (fun mo ro => ?_)
  obtain ⟨v3, ev3⟩ := q_ev ((q_I (S) o 38).toInt)
  have f4 := q_bV ev3 f2
  refine q_ok_ite (fun g5 => ?_) (fun g5 => ?_)
  · have f6 := q_leV (show q_eqv ((2400 : Int32)).toInt (2400) by unfold q_eqv; decide) ev3 (q_p_ge g5)
    refine q_ok_if (q_b01V (show q_eqv ((1 : Int32)).toInt (1) by unfold q_eqv; decide) (by omega) (by omega)) ?_
    have hG := u_45_I41 (x := (1 : Int32)) hG mo ro (by decide) (q_wd (show (1 : Int) ≤ (1 : Int32).toInt ∧ (1 : Int32).toInt ≤ (1 : Int) by decide) (by decide) (by decide))
    unfold m_X12_put_38
    have f7 : q_sm _ := g_45_I41 hG mo ro
    have e8 : q_I (q_sI (S) o 41 ((1 : Int32))) o 41 = (1 : Int32) := q_hitI
    obtain ⟨v9, ev9⟩ := q_ev ((q_I (S) o 41).toInt)
    have f10 := q_bV ev9 f1
    obtain ⟨v11, ev11⟩ := q_ev ((q_I (q_sI (S) o 41 ((1 : Int32))) o 41).toInt)
    have f12 : v11 = (1) := q_eqVI e8 ev11 (show q_eqv ((1 : Int32)).toInt (1) by unfold q_eqv; decide)
    have f13 : q_sm _ := g_45_I38 hG mo ro
    have e14 : q_I (q_sI (S) o 41 ((1 : Int32))) o 38 = q_I (S) o 38 := (q_ffI (by decide))
    obtain ⟨v15, ev15⟩ := q_ev ((q_I (q_sI (S) o 41 ((1 : Int32))) o 38).toInt)
    have f16 : v15 = v3 := q_eqVI e14 ev15 ev3
    exact q_ok_some ⟨hG, (q_smI ⟨(q_bw2 (fun x0 x1 => x0 ≤ x1) ev9 ev11 (by omega)), (q_bw2 (fun x0 x1 => x0 ≤ x1) ev3 ev15 (by omega)), (q_bw4 (fun x0 x1 x2 x3 => x0 = 0 → x1 + 1 ≤ x2 + x3) ev9 ev3 ev11 ev15 (by omega))⟩)⟩
  · have f17 := q_ltV ev3 (show q_eqv ((2400 : Int32)).toInt (2400) by unfold q_eqv; decide) (q_n_ge g5)
    have t18 := g_45_R39 hG mo ro
    refine q_ok_at hG t18 rfl (fun a19 ma19 ra19 ea19 => ?_)
    refine q_ok_if (q_inV (g_72_N hG ma19 ra19) ev3 (by omega) (by omega)) ?_
    have hG := u_72_E (k := (q_I (S) o 38).toNatClampNeg) (x := p0) hG ma19 ra19 (by decide) (q_wd hp0 (by decide) (by decide))
    have f20 : q_sm _ := g_45_I38 hG mo ro
    have e21 : q_I (q_sI (S) a19 (q_I (S) o 38).toNatClampNeg (p0)) o 38 = q_I (S) o 38 := (q_fwI ro ra19 (by decide))
    obtain ⟨v22, ev22⟩ := q_ev (((q_I (q_sI (S) a19 (q_I (S) o 38).toNatClampNeg (p0)) o 38) + (1 : Int32)).toInt)
    obtain ⟨v23, ev23⟩ := q_ev ((q_I (q_sI (S) a19 (q_I (S) o 38).toNatClampNeg (p0)) o 38).toInt)
    have f24 : v23 = v3 := q_eqVI e21 ev23 ev3
    have f25 : v22 = v23 + (1) := q_addVI ev22 ev23 (show q_eqv ((1 : Int32)).toInt (1) by unfold q_eqv; decide) (by omega) (by omega)
    have hG := u_45_I38 (x := (q_I (q_sI (S) a19 (q_I (S) o 38).toNatClampNeg (p0)) o 38) + (1 : Int32)) hG mo ro (by decide) (q_oV ev22 (by omega) (by omega))
    refine q_ok_let (fun S26 eS26 => ?_)
    rw [← eS26] at hG
    unfold m_X12_put_38
    have f27 : q_sm _ := g_45_I41 hG mo ro
    have e28 : q_I (S26) o 41 = q_I (S) o 41 := (Eq.trans (q_leI eS26) (Eq.trans (q_ffI (by decide)) (q_fwI ro ra19 (by decide))))
    obtain ⟨v29, ev29⟩ := q_ev ((q_I (S) o 41).toInt)
    have f30 := q_bV ev29 f1
    obtain ⟨v31, ev31⟩ := q_ev ((q_I (S26) o 41).toInt)
    have f32 : v31 = v29 := q_eqVI e28 ev31 ev29
    have f33 : q_sm _ := g_45_I38 hG mo ro
    have e34 : q_I (S26) o 38 = (q_I (q_sI (S) a19 (q_I (S) o 38).toNatClampNeg (p0)) o 38) + (1 : Int32) := (Eq.trans (q_leI eS26) q_hitI)
    obtain ⟨v35, ev35⟩ := q_ev ((q_I (S26) o 38).toInt)
    have f36 : v35 = v22 := q_eqVI e34 ev35 ev22
    exact q_ok_some ⟨hG, (q_smI ⟨(q_bw2 (fun x0 x1 => x0 ≤ x1) ev29 ev31 (by omega)), (q_bw2 (fun x0 x1 => x0 ≤ x1) ev3 ev35 (by omega)), (q_bw4 (fun x0 x1 x2 x3 => x0 = 0 → x1 + 1 ≤ x2 + x3) ev29 ev3 ev31 ev35 (by omega))⟩)⟩
def M_X12_even_45 : List Nat := [2918, 2921, 4608]
theorem q_even_go {ρ : Nat → Nat} {L : List Nat} {n : Nat} (hn : 18446744073709551616 ≤ n) {S0 : q_S} {o : Nat} (mo : o ∈ L) (ro : ρ o = 45) : ∀ (k : Nat) (S : q_S), q_G ρ L M_X12_even_45 S0 S → 2402 - (q_I S o 38).toInt - (q_I S o 41).toInt ≤ (k : Int) → q_ok (m_X12_even_0 n k S (some o)) (fun _ T => q_G ρ L M_X12_even_45 S0 T) := by
  intro k
  induction k with
  | zero =>
    intro S hG hk
    have h1 := g_45_I38 hG mo ro
    have h2 := g_45_I41 hG mo ro
    exfalso; omega
  | succ k ih =>
    intro S hG hk
    rw [m_X12_even_0]
    refine q_ok_atS hG (q_trI mo ro) rfl (fun _ _ => ?_)
    refine q_ok_if (by decide) ?_
    refine q_ok_ite (fun g => ?_) (fun g => ?_)
    · exact q_ok_some hG
    · refine q_ok_ite (fun g2 => ?_) (fun g2 => ?_)
      · refine q_ok_b (s_X12_put_45 hn hG.1 mo ro (p0 := 0) ⟨by decide, by decide⟩) (fun r T hT => ?_)
        have hp := q_smE hT.2
        have h3 : (q_I S o 41).toInt = 0 := by rw [g2]; rfl
        exact ih T (q_G_call hG hT.1 (by decide)) (by omega)
      · exact q_ok_some hG
set_option maxHeartbeats 4000000 in
set_option maxRecDepth 100000 in
theorem s_X12_even_45 {ρ : Nat → Nat} {L : List Nat} {n : Nat} (hn : 18446744073709551616 ≤ n) {S : q_S} (hI : q_Inv ρ L S) {o : Nat} (mo : o ∈ L) (ro : ρ o = 45) : q_ok (m_X12_even n S o) (fun _ T => q_G ρ L M_X12_even_45 S T) := by
  have hG : q_G ρ L M_X12_even_45 S S := q_G_refl hI
  unfold m_X12_even
  have h1 := g_45_I38 hG mo ro
  have h2 := g_45_I41 hG mo ro
  exact q_even_go hn mo ro n S hG (by omega)
def M_X12_forgetRun_45 : List Nat := [2891, 2894, 2898, 2916]
set_option maxHeartbeats 4000000 in
set_option maxRecDepth 100000 in
theorem s_X12_forgetRun_45 {ρ : Nat → Nat} {L : List Nat} {n : Nat} (hn : 18446744073709551616 ≤ n) {S : q_S} (hI : q_Inv ρ L S) {o : Nat} (mo : o ∈ L) (ro : ρ o = 45) : q_ok (m_X12_forgetRun n S o) (fun _ T => q_G ρ L M_X12_forgetRun_45 S T ∧ q_sm (((q_I T o 14).toInt = 0) ∧ ((q_I T o 18).toInt = 0) ∧ ((q_I T o 36).toInt = 0))) := by
  have hG : q_G ρ L M_X12_forgetRun_45 S S := q_G_refl hI
  unfold m_X12_forgetRun
  have z0 : (0 : Int32).toInt = 0 := rfl
  refine q_ok_atS hG (q_trI mo ro) rfl (fun mo ro => ?_)
  have hG := u_45_I14 (x := (0 : Int32)) hG mo ro (by decide) (q_wd (show (0 : Int) ≤ (0 : Int32).toInt ∧ (0 : Int32).toInt ≤ (0 : Int) by decide) (by decide) (by decide))
  have hG := u_45_I18 (x := (0 : Int32)) hG mo ro (by decide) (q_wd (show (0 : Int) ≤ (0 : Int32).toInt ∧ (0 : Int32).toInt ≤ (0 : Int) by decide) (by decide) (by decide))
  refine q_ok_let (fun S1 eS1 => ?_)
  rw [← eS1] at hG
  have hG := u_45_I36 (x := (0 : Int32)) hG mo ro (by decide) (q_wd (show (0 : Int) ≤ (0 : Int32).toInt ∧ (0 : Int32).toInt ≤ (0 : Int) by decide) (by decide) (by decide))
  have hG := u_45_I11 (x := (0 : Int32)) hG mo ro (by decide) (q_wd (show (0 : Int) ≤ (0 : Int32).toInt ∧ (0 : Int32).toInt ≤ (0 : Int) by decide) (by decide) (by decide))
  have f2 : q_sm _ := g_45_I14 hG mo ro
  have e3 : q_I (q_sI (q_sI (S1) o 36 ((0 : Int32))) o 11 ((0 : Int32))) o 14 = (0 : Int32) := (Eq.trans (q_ffI (by decide)) (Eq.trans (q_ffI (by decide)) (Eq.trans (q_leI eS1) (Eq.trans (q_ffI (by decide)) q_hitI))))
  obtain ⟨v4, ev4⟩ := q_ev ((q_I (q_sI (q_sI (S1) o 36 ((0 : Int32))) o 11 ((0 : Int32))) o 14).toInt)
  have f5 : v4 = (0) := q_eqVI e3 ev4 (show q_eqv ((0 : Int32)).toInt (0) by unfold q_eqv; decide)
  have f6 : q_sm _ := g_45_I18 hG mo ro
  have e7 : q_I (q_sI (q_sI (S1) o 36 ((0 : Int32))) o 11 ((0 : Int32))) o 18 = (0 : Int32) := (Eq.trans (q_ffI (by decide)) (Eq.trans (q_ffI (by decide)) (Eq.trans (q_leI eS1) q_hitI)))
  obtain ⟨v8, ev8⟩ := q_ev ((q_I (q_sI (q_sI (S1) o 36 ((0 : Int32))) o 11 ((0 : Int32))) o 18).toInt)
  have f9 : v8 = (0) := q_eqVI e7 ev8 (show q_eqv ((0 : Int32)).toInt (0) by unfold q_eqv; decide)
  have f10 : q_sm _ := g_45_I36 hG mo ro
  have e11 : q_I (q_sI (q_sI (S1) o 36 ((0 : Int32))) o 11 ((0 : Int32))) o 36 = (0 : Int32) := (Eq.trans (q_ffI (by decide)) q_hitI)
  obtain ⟨v12, ev12⟩ := q_ev ((q_I (q_sI (q_sI (S1) o 36 ((0 : Int32))) o 11 ((0 : Int32))) o 36).toInt)
  have f13 : v12 = (0) := q_eqVI e11 ev12 (show q_eqv ((0 : Int32)).toInt (0) by unfold q_eqv; decide)
  exact q_ok_some ⟨hG, (q_smI ⟨(q_bw1 (fun x0 => x0 = 0) ev4 (by omega)), (q_bw1 (fun x0 => x0 = 0) ev8 (by omega)), (q_bw1 (fun x0 => x0 = 0) ev12 (by omega))⟩)⟩
set_option maxHeartbeats 4000000 in
set_option maxRecDepth 100000 in
theorem s_X12_fourAt_45 {ρ : Nat → Nat} {L : List Nat} {n : Nat} (hn : 18446744073709551616 ≤ n) {S : q_S} (hI : q_Inv ρ L S) {o : Nat} (mo : o ∈ L) (ro : ρ o = 45) {p0 : Int32} (hp0 : (0 ≤ p0.toInt ∧ p0.toInt ≤ 1596)) : q_ok (m_X12_fourAt n S o p0) (fun r T => T = S ∧ (0 ≤ r.toInt ∧ r.toInt ≤ 4294967295)) := by
  have hG : q_G ρ L [] S S := q_G_refl hI
  unfold m_X12_fourAt
  have z0 : (0 : Int32).toInt = 0 := rfl
  refine q_ok_atS hG (q_trI mo ro) rfl (fun mo ro => ?_)
  have t1 := g_45_R1 hG mo ro
  refine q_ok_at hG t1 rfl (fun a2 ma2 ra2 ea2 => ?_)
  refine q_ok_if (q_inV (g_46_N hG ma2 ra2) q_evr (by omega) (by omega)) ?_
  have f3 : q_sm _ := g_46_E hG ma2 ra2 (k := (p0).toNatClampNeg)
  have t4 := g_45_R1 hG mo ro
  obtain ⟨v5, ev5⟩ := q_ev ((p0 + (1 : Int32)).toInt)
  have f6 : v5 = p0.toInt + (1) := q_addVI ev5 q_evr (show q_eqv ((1 : Int32)).toInt (1) by unfold q_eqv; decide) (by omega) (by omega)
  refine q_ok_if (q_inV (g_46_N hG ma2 ra2) ev5 (by omega) (by omega)) ?_
  have f7 : q_sm _ := g_46_E hG ma2 ra2 (k := (p0 + (1 : Int32)).toNatClampNeg)
  have t8 := g_45_R1 hG mo ro
  obtain ⟨v9, ev9⟩ := q_ev ((p0 + (2 : Int32)).toInt)
  have f10 : v9 = p0.toInt + (2) := q_addVI ev9 q_evr (show q_eqv ((2 : Int32)).toInt (2) by unfold q_eqv; decide) (by omega) (by omega)
  refine q_ok_if (q_inV (g_46_N hG ma2 ra2) ev9 (by omega) (by omega)) ?_
  have f11 : q_sm _ := g_46_E hG ma2 ra2 (k := (p0 + (2 : Int32)).toNatClampNeg)
  have t12 := g_45_R1 hG mo ro
  obtain ⟨v13, ev13⟩ := q_ev ((p0 + (3 : Int32)).toInt)
  have f14 : v13 = p0.toInt + (3) := q_addVI ev13 q_evr (show q_eqv ((3 : Int32)).toInt (3) by unfold q_eqv; decide) (by omega) (by omega)
  refine q_ok_if (q_inV (g_46_N hG ma2 ra2) ev13 (by omega) (by omega)) ?_
  have f15 : q_sm _ := g_46_E hG ma2 ra2 (k := (p0 + (3 : Int32)).toNatClampNeg)
  obtain ⟨v16, ev16⟩ := q_ev (((((((q_I (S) a2 (p0).toNatClampNeg).toInt64) <<< (((24 : Int32)).toInt64 &&& 63)) + (((q_I (S) a2 (p0 + (1 : Int32)).toNatClampNeg) <<< ((16 : Int32) &&& 31)).toInt64)) + (((q_I (S) a2 (p0 + (2 : Int32)).toNatClampNeg) <<< ((8 : Int32) &&& 31)).toInt64)) + ((q_I (S) a2 (p0 + (3 : Int32)).toNatClampNeg).toInt64)).toInt)
  obtain ⟨v17, ev17⟩ := q_ev ((((((q_I (S) a2 (p0).toNatClampNeg).toInt64) <<< (((24 : Int32)).toInt64 &&& 63)) + (((q_I (S) a2 (p0 + (1 : Int32)).toNatClampNeg) <<< ((16 : Int32) &&& 31)).toInt64)) + (((q_I (S) a2 (p0 + (2 : Int32)).toNatClampNeg) <<< ((8 : Int32) &&& 31)).toInt64)).toInt)
  obtain ⟨v18, ev18⟩ := q_ev (((((q_I (S) a2 (p0).toNatClampNeg).toInt64) <<< (((24 : Int32)).toInt64 &&& 63)) + (((q_I (S) a2 (p0 + (1 : Int32)).toNatClampNeg) <<< ((16 : Int32) &&& 31)).toInt64)).toInt)
  obtain ⟨v19, ev19⟩ := q_ev ((((q_I (S) a2 (p0).toNatClampNeg).toInt64) <<< (((24 : Int32)).toInt64 &&& 63)).toInt)
  obtain ⟨v20, ev20⟩ := q_ev (((q_I (S) a2 (p0).toNatClampNeg).toInt64).toInt)
  obtain ⟨v21, ev21⟩ := q_ev ((q_I (S) a2 (p0).toNatClampNeg).toInt)
  have f22 := q_bV ev21 f3
  have f23 : v20 = v21 := q_i2lV ev20 ev21
  have f24 : v19 = v20 * 16777216 := q_shlVJ 24 16777216 (by decide) (by decide) ev19 ev20 (by omega) (by omega)
  obtain ⟨v25, ev25⟩ := q_ev ((((q_I (S) a2 (p0 + (1 : Int32)).toNatClampNeg) <<< ((16 : Int32) &&& 31)).toInt64).toInt)
  obtain ⟨v26, ev26⟩ := q_ev (((q_I (S) a2 (p0 + (1 : Int32)).toNatClampNeg) <<< ((16 : Int32) &&& 31)).toInt)
  obtain ⟨v27, ev27⟩ := q_ev ((q_I (S) a2 (p0 + (1 : Int32)).toNatClampNeg).toInt)
  have f28 := q_bV ev27 f7
  have f29 : v26 = v27 * 65536 := q_shlVI 16 65536 (by decide) (by decide) ev26 ev27 (by omega) (by omega)
  have f30 : v25 = v26 := q_i2lV ev25 ev26
  have f31 : v18 = v19 + v25 := q_addVJ ev18 ev19 ev25 (by omega) (by omega)
  obtain ⟨v32, ev32⟩ := q_ev ((((q_I (S) a2 (p0 + (2 : Int32)).toNatClampNeg) <<< ((8 : Int32) &&& 31)).toInt64).toInt)
  obtain ⟨v33, ev33⟩ := q_ev (((q_I (S) a2 (p0 + (2 : Int32)).toNatClampNeg) <<< ((8 : Int32) &&& 31)).toInt)
  obtain ⟨v34, ev34⟩ := q_ev ((q_I (S) a2 (p0 + (2 : Int32)).toNatClampNeg).toInt)
  have f35 := q_bV ev34 f11
  have f36 : v33 = v34 * 256 := q_shlVI 8 256 (by decide) (by decide) ev33 ev34 (by omega) (by omega)
  have f37 : v32 = v33 := q_i2lV ev32 ev33
  have f38 : v17 = v18 + v32 := q_addVJ ev17 ev18 ev32 (by omega) (by omega)
  obtain ⟨v39, ev39⟩ := q_ev (((q_I (S) a2 (p0 + (3 : Int32)).toNatClampNeg).toInt64).toInt)
  obtain ⟨v40, ev40⟩ := q_ev ((q_I (S) a2 (p0 + (3 : Int32)).toNatClampNeg).toInt)
  have f41 := q_bV ev40 f15
  have f42 : v39 = v40 := q_i2lV ev39 ev40
  have f43 : v16 = v17 + v39 := q_addVJ ev16 ev17 ev39 (by omega) (by omega)
  exact q_ok_some ⟨rfl, (q_oV ev16 (by omega) (by omega))⟩
set_option maxHeartbeats 4000000 in
set_option maxRecDepth 100000 in
theorem s_X12_isOpen_45_4 {ρ : Nat → Nat} {L : List Nat} {n : Nat} {S : q_S} (hn : 18446744073709551616 ≤ n) (hG : q_G ρ L [] S S) {o : Nat} (mo : o ∈ L) (ro : ρ o = 45) {p0 : Int32}  : ∀ (k : Nat) (l1 : Int32) (l2 : Int32) (l3 : Int32), (0 ≤ l1.toInt ∧ l1.toInt ≤ 65535) → (0 ≤ l2.toInt ∧ l2.toInt ≤ 1) → (0 ≤ l3.toInt ∧ l3.toInt ≤ 6) → 2147483648 - l3.toInt ≤ (k : Int) → q_ok (m_X12_isOpen_4 n k S (some o) l1 l2 l3) (fun r T => T = S ∧ (0 ≤ r.toInt ∧ r.toInt ≤ 1)) := by
  intro k
  induction k with
  | zero =>
    intro l1 l2 l3 hl1 hl2 hl3 hm
    have f0 := q_rngI l3
    exfalso; omega
  | succ k ih =>
    intro l1 l2 l3 hl1 hl2 hl3 hm
    rw [m_X12_isOpen_4]
    have z0 : (0 : Int32).toInt = 0 := rfl
    refine q_ok_atS hG (q_trI mo ro) rfl (fun mo ro => ?_)
    have f1 : q_sm _ := g_45_I24 hG mo ro
    obtain ⟨v2, ev2⟩ := q_ev ((q_I (S) o 24).toInt)
    have f3 := q_bV ev2 f1
    refine q_ok_ite (fun g4 => ?_) (fun g4 => ?_)
    · have f5 := q_leV ev2 q_evr (q_p_ge g4)
      refine q_ok_if (q_b01V q_evr (by omega) (by omega)) ?_
      exact q_ok_some ⟨rfl, (q_wd hl2 (by decide) (by decide))⟩
    · have f6 := q_ltV q_evr ev2 (q_n_ge g4)
      refine q_ok_ite (fun g7 => ?_) (fun g7 => ?_)
      · have f8 := q_eqV q_evr (show q_eqv ((0 : Int32)).toInt (0) by unfold q_eqv; decide) (q_p_eq g7)
        have t9 := g_45_R25 hG mo ro
        refine q_ok_at hG t9 rfl (fun a10 ma10 ra10 ea10 => ?_)
        refine q_ok_if (q_inV (g_60_N hG ma10 ra10) q_evr (by omega) (by omega)) ?_
        have f11 : q_sm _ := g_60_E hG ma10 ra10 (k := (l3).toNatClampNeg)
        obtain ⟨v12, ev12⟩ := q_ev ((q_I (S) a10 (l3).toNatClampNeg).toInt)
        have f13 := q_bV ev12 f11
        refine q_ok_ite (fun g14 => ?_) (fun g14 => ?_)
        · have f15 := q_eqV ev12 q_evr (q_p_eq g14)
          unfold m_X12_isOpen_26
          unfold m_X12_isOpen_31
          obtain ⟨v16, ev16⟩ := q_ev ((l3 + (1)).toInt)
          have f17 : v16 = l3.toInt + (1) := q_addVI ev16 q_evr (show q_eqv ((1 : Int32)).toInt (1) by unfold q_eqv; decide) (by omega) (by omega)
          exact ih _ _ _ (q_wd hl1 (by decide) (by decide)) (q_wd (show (1 : Int) ≤ (1 : Int32).toInt ∧ (1 : Int32).toInt ≤ (1 : Int) by decide) (by decide) (by decide)) (q_oV ev16 (by omega) (by omega))  (q_upV ev16 (by omega))
        · have f18 := q_neV ev12 q_evr (q_n_eq g14)
          unfold m_X12_isOpen_31
          obtain ⟨v19, ev19⟩ := q_ev ((l3 + (1)).toInt)
          have f20 : v19 = l3.toInt + (1) := q_addVI ev19 q_evr (show q_eqv ((1 : Int32)).toInt (1) by unfold q_eqv; decide) (by omega) (by omega)
          exact ih _ _ _ (q_wd hl1 (by decide) (by decide)) (q_wd (show (0 : Int) ≤ (0 : Int32).toInt ∧ (0 : Int32).toInt ≤ (0 : Int) by decide) (by decide) (by decide)) (q_oV ev19 (by omega) (by omega))  (q_upV ev19 (by omega))
      · have f21 := q_neV q_evr (show q_eqv ((0 : Int32)).toInt (0) by unfold q_eqv; decide) (q_n_eq g7)
        unfold m_X12_isOpen_26
        unfold m_X12_isOpen_31
        obtain ⟨v22, ev22⟩ := q_ev ((l3 + (1)).toInt)
        have f23 : v22 = l3.toInt + (1) := q_addVI ev22 q_evr (show q_eqv ((1 : Int32)).toInt (1) by unfold q_eqv; decide) (by omega) (by omega)
        exact ih _ _ _ (q_wd hl1 (by decide) (by decide)) (q_wd (show (1 : Int) ≤ (1 : Int32).toInt ∧ (1 : Int32).toInt ≤ (1 : Int) by decide) (by decide) (by decide)) (q_oV ev22 (by omega) (by omega))  (q_upV ev22 (by omega))
set_option maxHeartbeats 4000000 in
set_option maxRecDepth 100000 in
theorem s_X12_isOpen_45 {ρ : Nat → Nat} {L : List Nat} {n : Nat} (hn : 18446744073709551616 ≤ n) {S : q_S} (hI : q_Inv ρ L S) {o : Nat} (mo : o ∈ L) (ro : ρ o = 45) {p0 : Int32} (hp0 : (0 ≤ p0.toInt ∧ p0.toInt ≤ 65535)) : q_ok (m_X12_isOpen n S o p0) (fun r T => T = S ∧ (0 ≤ r.toInt ∧ r.toInt ≤ 1)) := by
  have hG : q_G ρ L [] S S := q_G_refl hI
  unfold m_X12_isOpen
  have z0 : (0 : Int32).toInt = 0 := rfl
  exact s_X12_isOpen_45_4 hn hG mo ro (p0 := p0) n _ _ _ (q_wd hp0 (by decide) (by decide)) (q_wd (show (0 : Int) ≤ (0 : Int32).toInt ∧ (0 : Int32).toInt ≤ (0 : Int) by decide) (by decide) (by decide)) (q_wd (show (0 : Int) ≤ (0 : Int32).toInt ∧ (0 : Int32).toInt ≤ (0 : Int) by decide) (by decide) (by decide))  (q_upV (show q_eqv ((0 : Int32)).toInt (0) by unfold q_eqv; decide) (by omega))
set_option maxHeartbeats 4000000 in
set_option maxRecDepth 100000 in
theorem s_X12_scaledBy {ρ : Nat → Nat} {L : List Nat} {n : Nat} (hn : 18446744073709551616 ≤ n) {S : q_S} (hI : q_Inv ρ L S) {p0 : Int64} (hp0 : (-32768 ≤ p0.toInt ∧ p0.toInt ≤ 32767)) {p1 : Int64} (hp1 : (-2147483648 ≤ p1.toInt ∧ p1.toInt ≤ 2147483647)) {p2 : Int64} (hp2 : (-32768 ≤ p2.toInt ∧ p2.toInt ≤ 32767)) {p3 : Int64} (hp3 : (-2147483648 ≤ p3.toInt ∧ p3.toInt ≤ 2147483647)) : q_ok (m_X12_scaledBy n S p0 p1 p2 p3) (fun r T => T = S) := by
  have hG : q_G ρ L [] S S := q_G_refl hI
  unfold m_X12_scaledBy
  have z0 : (0 : Int32).toInt = 0 := rfl
  exact q_ok_some rfl
