set_option maxHeartbeats 4000000 in
set_option maxRecDepth 100000 in
theorem s_X7_total_44_66 {ρ : Nat → Nat} {L : List Nat} {n : Nat} {S : q_S} (hn : 18446744073709551616 ≤ n) (hG : q_G ρ L [] S S)  {k5 : q_S → Option Nat → Int32 → Int64 → Int32 → Option (Int64 × q_S)} {B5 : Int} (hk5 : ∀ (z0 : Option Nat) (z1 : Int32) (z2 : Int64) (z3 : Int32), q_tr ρ L z0 44 → (0 ≤ z1.toInt ∧ z1.toInt ≤ 0) → (0 ≤ z3.toInt ∧ z3.toInt ≤ 65535) → 2147483648 - z3.toInt < B5 → q_ok (k5 S z0 z1 z2 z3) (fun r T => T = S ∧ (0 ≤ r.toInt ∧ r.toInt ≤ 4294967295))) (l0 : Option Nat) (l1 : Int32) (l2 : Int64) (l4 : Int32) (hl0 : q_tr ρ L l0 44) (hl1 : (0 ≤ l1.toInt ∧ l1.toInt ≤ 0)) (hl4 : (0 ≤ l4.toInt ∧ l4.toInt ≤ 2400)) (hm5 : 2147483648 - l4.toInt ≤ B5) : q_ok (m_X7_total_66 n k5 S l0 l1 l2 l4) (fun r T => T = S ∧ (0 ≤ r.toInt ∧ r.toInt ≤ 4294967295)) := by
  unfold m_X7_total_66
  have z0 : (0 : Int32).toInt = 0 := rfl
  obtain ⟨v1, ev1⟩ := q_ev ((l4 + (1)).toInt)
  have f2 : v1 = l4.toInt + (1) := q_addVI ev1 q_evr (show q_eqv ((1 : Int32)).toInt (1) by unfold q_eqv; decide) (by omega) (by omega)
  exact hk5 _ _ _ _ hl0 (q_wd hl1 (by decide) (by decide)) (q_wd (q_addBI (1) (2401) hl4 (show (1 : Int) ≤ (1 : Int32).toInt ∧ (1 : Int32).toInt ≤ (1 : Int) by decide) (by decide) (by decide) (by decide) (by decide)) (by decide) (by decide))  (q_upVl ev1 (by omega))
set_option maxHeartbeats 4000000 in
set_option maxRecDepth 100000 in
theorem s_X7_total_44_36 {ρ : Nat → Nat} {L : List Nat} {n : Nat} {S : q_S} (hn : 18446744073709551616 ≤ n) (hG : q_G ρ L [] S S)  {k5 : q_S → Option Nat → Int32 → Int64 → Int32 → Option (Int64 × q_S)} {B5 : Int} (hk5 : ∀ (z0 : Option Nat) (z1 : Int32) (z2 : Int64) (z3 : Int32), q_tr ρ L z0 44 → (0 ≤ z1.toInt ∧ z1.toInt ≤ 0) → (0 ≤ z3.toInt ∧ z3.toInt ≤ 65535) → 2147483648 - z3.toInt < B5 → q_ok (k5 S z0 z1 z2 z3) (fun r T => T = S ∧ (0 ≤ r.toInt ∧ r.toInt ≤ 4294967295))) (l0 : Option Nat) (l1 : Int32) (l2 : Int64) (l4 : Int32) (hl0 : q_tr ρ L l0 44) (hl1 : (0 ≤ l1.toInt ∧ l1.toInt ≤ 0)) (hl4 : (0 ≤ l4.toInt ∧ l4.toInt ≤ 2400)) (hm5 : 2147483648 - l4.toInt ≤ B5) : q_ok (m_X7_total_36 n k5 S l0 l1 l2 l4) (fun r T => T = S ∧ (0 ≤ r.toInt ∧ r.toInt ≤ 4294967295)) := by
  unfold m_X7_total_36
  have z0 : (0 : Int32).toInt = 0 := rfl
  unfold m_X7_total_37
  refine q_ok_ite (fun g1 => ?_) (fun g1 => ?_)
  · have f2 := q_eqV (show q_eqv ((0 : Int32)).toInt (0) by unfold q_eqv; decide) (show q_eqv ((0 : Int32)).toInt (0) by unfold q_eqv; decide) (q_p_eq g1)
    refine q_ok_at hG hl0 rfl (fun a3 ma3 ra3 ea3 => ?_)
    refine q_ok_b (s_X7_one_44 hn hG.1 ma3 ra3 (q_wd (q_i2lB hl4) (by decide) (by decide))) (fun r4 S5 h6 => ?_)
    obtain ⟨eS5, h6⟩ := h6
    replace eS5 := eS5.symm
    subst eS5
    have f7 := h6
    exact s_X7_total_44_66 hn hG hk5 _ _ _ _ hl0 (q_wd hl1 (by decide) (by decide)) (q_wd hl4 (by decide) (by decide)) (q_upV q_evr (by omega))
  · have f8 := q_neV (show q_eqv ((0 : Int32)).toInt (0) by unfold q_eqv; decide) (show q_eqv ((0 : Int32)).toInt (0) by unfold q_eqv; decide) (q_n_eq g1)
    exfalso; omega
set_option maxHeartbeats 4000000 in
set_option maxRecDepth 100000 in
theorem s_X7_total_44_5 {ρ : Nat → Nat} {L : List Nat} {n : Nat} {S : q_S} (hn : 18446744073709551616 ≤ n) (hG : q_G ρ L [] S S)  : ∀ (k : Nat) (l0 : Option Nat) (l1 : Int32) (l2 : Int64) (l4 : Int32), q_tr ρ L l0 44 → (0 ≤ l1.toInt ∧ l1.toInt ≤ 0) → (0 ≤ l4.toInt ∧ l4.toInt ≤ 65535) → 2147483648 - l4.toInt ≤ (k : Int) → q_ok (m_X7_total_5 n k S l0 l1 l2 l4) (fun r T => T = S ∧ (0 ≤ r.toInt ∧ r.toInt ≤ 4294967295)) := by
  intro k
  induction k with
  | zero =>
    intro l0 l1 l2 l4 hl0 hl1 hl4 hm
    have f0 := q_rngI l4
    exfalso; omega
  | succ k ih =>
    intro l0 l1 l2 l4 hl0 hl1 hl4 hm
    rw [m_X7_total_5]
    have z0 : (0 : Int32).toInt = 0 := rfl
    refine q_ok_at hG hl0 rfl (fun a1 ma1 ra1 ea1 => ?_)
    have f2 : q_sm _ := g_44_I4 hG ma1 ra1
    obtain ⟨v3, ev3⟩ := q_ev ((q_I (S) a1 4).toInt)
    have f4 := q_bV ev3 f2
    refine q_ok_ite (fun g5 => ?_) (fun g5 => ?_)
    · have f6 := q_leV ev3 q_evr (q_p_ge g5)
      obtain ⟨v7, ev7⟩ := q_ev ((l2 &&& (4294967295 : Int64)).toInt)
      have f8 := q_andRVJ ev7 (show q_eqv ((4294967295 : Int64)).toInt (4294967295) by unfold q_eqv; decide) (by omega)
      exact q_ok_some ⟨rfl, (q_oV ev7 (by omega) (by omega))⟩
    · have f9 := q_ltV q_evr ev3 (q_n_ge g5)
      refine q_ok_ite (fun g10 => ?_) (fun g10 => ?_)
      · have f11 := q_eqV q_evr (show q_eqv ((0 : Int32)).toInt (0) by unfold q_eqv; decide) (q_p_eq g10)
        exact s_X7_total_44_36 hn hG (B5 := (k : Int) + 1) (fun z0 z1 z2 z3 hz0 hz1 hz3  hm9 => ih z0 z1 z2 z3 hz0 hz1 hz3  (by omega)) _ _ _ _ hl0 (q_wd hl1 (by decide) (by decide)) (q_oV q_evr (by omega) (by omega)) (q_upV q_evr (by omega))
      · have f12 := q_neV q_evr (show q_eqv ((0 : Int32)).toInt (0) by unfold q_eqv; decide) (q_n_eq g10)
        exfalso; omega
set_option maxHeartbeats 4000000 in
set_option maxRecDepth 100000 in
theorem s_X7_total_44 {ρ : Nat → Nat} {L : List Nat} {n : Nat} (hn : 18446744073709551616 ≤ n) {S : q_S} (hI : q_Inv ρ L S) {o : Nat} (mo : o ∈ L) (ro : ρ o = 44) {p0 : Int32} (hp0 : (0 ≤ p0.toInt ∧ p0.toInt ≤ 0)) : q_ok (m_X7_total n S o p0) (fun r T => T = S ∧ (0 ≤ r.toInt ∧ r.toInt ≤ 4294967295)) := by
  have hG : q_G ρ L [] S S := q_G_refl hI
  unfold m_X7_total
  have z0 : (0 : Int32).toInt = 0 := rfl
  exact s_X7_total_44_5 hn hG n _ _ _ _ (q_trI mo ro) (q_wd hp0 (by decide) (by decide)) (q_wd (show (0 : Int) ≤ (0 : Int32).toInt ∧ (0 : Int32).toInt ≤ (0 : Int) by decide) (by decide) (by decide))  (q_upV (show q_eqv ((0 : Int32)).toInt (0) by unfold q_eqv; decide) (by omega))
def M_X10_putFileSum_38 : List Nat := [2560, 2817, 2818, 2819, 2820]
set_option maxHeartbeats 4000000 in
set_option maxRecDepth 100000 in
theorem s_X10_putFileSum_38 {ρ : Nat → Nat} {L : List Nat} {n : Nat} (hn : 18446744073709551616 ≤ n) {S : q_S} (hI : q_Inv ρ L S) {o : Nat} (mo : o ∈ L) (ro : ρ o = 38) : q_ok (m_X10_putFileSum n S o) (fun _ T => q_G ρ L M_X10_putFileSum_38 S T) := by
  have hG : q_G ρ L M_X10_putFileSum_38 S S := q_G_refl hI
  unfold m_X10_putFileSum
  have z0 : (0 : Int32).toInt = 0 := rfl
  refine q_ok_atS hG (q_trI mo ro) rfl (fun mo ro => ?_)
  have t1 := g_38_R4 hG mo ro
  have t2 := g_38_R3 hG mo ro
  refine q_ok_at hG t2 rfl (fun a3 ma3 ra3 ea3 => ?_)
  refine q_ok_b (s_X4_size_39 hn hG.1 ma3 ra3) (fun r4 S5 h6 => ?_)
  obtain ⟨eS5, h6⟩ := h6
  replace eS5 := eS5.symm
  subst eS5
  have f7 := h6
  refine q_ok_at hG t1 rfl (fun a8 ma8 ra8 ea8 => ?_)
  refine q_ok_b (s_X7_set_44 hn hG.1 ma8 ra8 (q_wd (show (0 : Int) ≤ (0 : Int64).toInt ∧ (0 : Int64).toInt ≤ (0 : Int) by decide) (by decide) (by decide)) (q_wd (show (0 : Int) ≤ (0 : Int64).toInt ∧ (0 : Int64).toInt ≤ (0 : Int) by decide) (by decide) (by decide)) (q_wd (show (0 : Int) ≤ (0 : Int32).toInt ∧ (0 : Int32).toInt ≤ (0 : Int) by decide) (by decide) (by decide)) (q_wd f7 (by decide) (by decide))) (fun r9 S10 h11 => ?_)
  have hG := q_G_call hG h11 (by decide)
  refine q_ok_atS hG (q_trI mo ro) rfl (fun mo ro => ?_)
  have t12 := g_38_R3 hG mo ro
  have e13 : q_R (S10) o 3 = q_R (S) o 3 := (q_unR h11 mo ro (by decide))
  have f14 : q_sm _ := g_38_I8 hG mo ro
  have t15 := g_38_R4 hG mo ro
  have e16 : q_R (S10) o 4 = q_R (S) o 4 := (q_unR h11 mo ro (by decide))
  refine q_ok_atA hG (Eq.trans e16 ea8) ma8 ra8 rfl ?_
  refine q_ok_b (s_X7_total_44 hn hG.1 ma8 ra8 (q_wd (show (0 : Int) ≤ (0 : Int32).toInt ∧ (0 : Int32).toInt ≤ (0 : Int) by decide) (by decide) (by decide))) (fun r17 S18 h19 => ?_)
  obtain ⟨eS18, h19⟩ := h19
  replace eS18 := eS18.symm
  subst eS18
  have f20 := h19
  refine q_ok_atA hG (Eq.trans e13 ea3) ma3 ra3 rfl ?_
  refine q_ok_b (s_X4_setFour_39 hn hG.1 ma3 ra3 (q_wd (q_addBI (8) (2408) f14 (show (8 : Int) ≤ (8 : Int32).toInt ∧ (8 : Int32).toInt ≤ (8 : Int) by decide) (by decide) (by decide) (by decide) (by decide)) (by decide) (by decide)) (q_wd (q_subBJ (-1313820741) (2981146554) (show (2981146554 : Int) ≤ (2981146554 : Int64).toInt ∧ (2981146554 : Int64).toInt ≤ (2981146554 : Int) by decide) f20 (by decide) (by decide) (by decide) (by decide)) (by decide) (by decide))) (fun r21 S22 h23 => ?_)
  have hG := q_G_call hG h23 (by decide)
  exact q_ok_some hG
def M_X4_push_39 : List Nat := [2497, 2560]
set_option maxHeartbeats 4000000 in
set_option maxRecDepth 100000 in
theorem s_X4_push_39 {ρ : Nat → Nat} {L : List Nat} {n : Nat} (hn : 18446744073709551616 ≤ n) {S : q_S} (hI : q_Inv ρ L S) {o : Nat} (mo : o ∈ L) (ro : ρ o = 39) {p0 : Int32} : q_ok (m_X4_push n S o p0) (fun _ T => q_G ρ L M_X4_push_39 S T) := by
  have hG : q_G ρ L M_X4_push_39 S S := q_G_refl hI
  unfold m_X4_push
  have z0 : (0 : Int32).toInt = 0 := rfl
  refine q_ok_atS hG (q_trI mo ro) rfl (fun mo ro => ?_)
  have f1 : q_sm _ := g_39_I1 hG mo ro
  have t2 := g_39_R0 hG mo ro
  refine q_ok_at hG t2 rfl (fun a3 ma3 ra3 ea3 => ?_)
  have t4 := g_40_N hG ma3 ra3
  obtain ⟨v5, ev5⟩ := q_ev ((q_I (S) o 1).toInt)
  have f6 := q_bV ev5 f1
  obtain ⟨v7, ev7⟩ := q_ev ((nI (q_N (S) a3)).toInt)
  have f8 := q_lenV ev7 t4 (by decide)
  refine q_ok_ite (fun g9 => ?_) (fun g9 => ?_)
  · have f10 := q_leV ev7 ev5 (q_p_ge g9)
    unfold m_X4_push_36
    exact q_ok_some hG
  · have f11 := q_ltV ev5 ev7 (q_n_ge g9)
    have t12 := g_39_R0 hG mo ro
    refine q_ok_if (q_inV (g_40_N hG ma3 ra3) ev5 (by omega) (by omega)) ?_
    obtain ⟨v13, ev13⟩ := q_ev ((p0 &&& (255 : Int32)).toInt)
    have f14 := q_andRVI ev13 (show q_eqv ((255 : Int32)).toInt (255) by unfold q_eqv; decide) (by omega)
    have hG := u_40_E (k := (q_I (S) o 1).toNatClampNeg) (x := p0 &&& (255 : Int32)) hG ma3 ra3 (by decide) (q_oV ev13 (by omega) (by omega))
    have f15 : q_sm _ := g_39_I1 hG mo ro
    have e16 : q_I (q_sI (S) a3 (q_I (S) o 1).toNatClampNeg (p0 &&& (255 : Int32))) o 1 = q_I (S) o 1 := (q_fwI ro ra3 (by decide))
    obtain ⟨v17, ev17⟩ := q_ev (((q_I (q_sI (S) a3 (q_I (S) o 1).toNatClampNeg (p0 &&& (255 : Int32))) o 1) + (1 : Int32)).toInt)
    obtain ⟨v18, ev18⟩ := q_ev ((q_I (q_sI (S) a3 (q_I (S) o 1).toNatClampNeg (p0 &&& (255 : Int32))) o 1).toInt)
    have f19 : v18 = v5 := q_eqVI e16 ev18 ev5
    have f20 : v17 = v18 + (1) := q_addVI ev17 ev18 (show q_eqv ((1 : Int32)).toInt (1) by unfold q_eqv; decide) (by omega) (by omega)
    have hG := u_39_I1 (x := (q_I (q_sI (S) a3 (q_I (S) o 1).toNatClampNeg (p0 &&& (255 : Int32))) o 1) + (1 : Int32)) hG mo ro (by decide) (q_oV ev17 (by omega) (by omega))
    unfold m_X4_push_36
    exact q_ok_some hG
def M_X10_putHeader_38 : List Nat := [2497, 2560]
set_option maxHeartbeats 4000000 in
set_option maxRecDepth 100000 in
theorem s_X10_putHeader_38_35 {ρ : Nat → Nat} {L : List Nat} {n : Nat} (hn : 18446744073709551616 ≤ n) {S0 : q_S}  : ∀ (k : Nat) (S : q_S) (l0 : Option Nat) (l1 : Int32), q_G ρ L M_X10_putHeader_38 S0 S → q_tr ρ L l0 38 → (0 ≤ l1.toInt ∧ l1.toInt ≤ 960) → 2147483648 - l1.toInt ≤ (k : Int) → q_ok (m_X10_putHeader_35 n k S l0 l1) (fun _ T => q_G ρ L M_X10_putHeader_38 S0 T) := by
  intro k
  induction k with
  | zero =>
    intro S l0 l1 hG hl0 hl1 hm
    have f0 := q_rngI l1
    exfalso; omega
  | succ k ih =>
    intro S l0 l1 hG hl0 hl1 hm
    rw [m_X10_putHeader_35]
    have z0 : (0 : Int32).toInt = 0 := rfl
    refine q_ok_at hG hl0 rfl (fun a1 ma1 ra1 ea1 => ?_)
    have t2 := g_38_R1 hG ma1 ra1
    refine q_ok_at hG t2 rfl (fun a3 ma3 ra3 ea3 => ?_)
    refine q_ok_b (s_X8_size_6 hn hG.1 ma3 ra3) (fun r4 S5 h6 => ?_)
    obtain ⟨eS5, h6⟩ := h6
    replace eS5 := eS5.symm
    subst eS5
    have f7 := h6
    obtain ⟨v8, ev8⟩ := q_ev (((16 : Int32) * r4).toInt)
    have f9 : v8 = (16) * r4.toInt := q_mulVI ev8 (show q_eqv ((16 : Int32)).toInt (16) by unfold q_eqv; decide) q_evr (by omega) (by omega)
    refine q_ok_ite (fun g10 => ?_) (fun g10 => ?_)
    · have f11 := q_leV ev8 q_evr (q_p_ge g10)
      exact q_ok_some hG
    · have f12 := q_ltV q_evr ev8 (q_n_ge g10)
      refine q_ok_atA hG ea1 ma1 ra1 rfl ?_
      have t13 := g_38_R3 hG ma1 ra1
      refine q_ok_at hG t13 rfl (fun a14 ma14 ra14 ea14 => ?_)
      refine q_ok_b (s_X4_push_39 hn hG.1 ma14 ra14) (fun r15 S16 h17 => ?_)
      have hG := q_G_call hG h17 (by decide)
      obtain ⟨v18, ev18⟩ := q_ev ((l1 + (1)).toInt)
      have f19 : v18 = l1.toInt + (1) := q_addVI ev18 q_evr (show q_eqv ((1 : Int32)).toInt (1) by unfold q_eqv; decide) (by omega) (by omega)
      exact ih _ _ _ hG hl0 (q_oV ev18 (by omega) (by omega))  (q_upV ev18 (by omega))
set_option maxHeartbeats 4000000 in
set_option maxRecDepth 100000 in
theorem s_X10_putHeader_38_2 {ρ : Nat → Nat} {L : List Nat} {n : Nat} (hn : 18446744073709551616 ≤ n) {S0 : q_S}  : ∀ (k : Nat) (S : q_S) (l0 : Option Nat) (l1 : Int32), q_G ρ L M_X10_putHeader_38 S0 S → q_tr ρ L l0 38 → (0 ≤ l1.toInt ∧ l1.toInt ≤ 23) → 2147483648 - l1.toInt ≤ (k : Int) → q_ok (m_X10_putHeader_2 n k S l0 l1) (fun _ T => q_G ρ L M_X10_putHeader_38 S0 T) := by
  intro k
  induction k with
  | zero =>
    intro S l0 l1 hG hl0 hl1 hm
    have f0 := q_rngI l1
    exfalso; omega
  | succ k ih =>
    intro S l0 l1 hG hl0 hl1 hm
    rw [m_X10_putHeader_2]
    have z0 : (0 : Int32).toInt = 0 := rfl
    refine q_ok_ite (fun g1 => ?_) (fun g1 => ?_)
    · have f2 := q_leV (show q_eqv ((12 : Int32)).toInt (12) by unfold q_eqv; decide) q_evr (q_p_ge g1)
      exact s_X10_putHeader_38_35 hn n _ _ _ hG hl0 (q_wd (show (0 : Int) ≤ (0 : Int32).toInt ∧ (0 : Int32).toInt ≤ (0 : Int) by decide) (by decide) (by decide))  (q_upV (show q_eqv ((0 : Int32)).toInt (0) by unfold q_eqv; decide) (by omega))
    · have f3 := q_ltV q_evr (show q_eqv ((12 : Int32)).toInt (12) by unfold q_eqv; decide) (q_n_ge g1)
      refine q_ok_at hG hl0 rfl (fun a4 ma4 ra4 ea4 => ?_)
      have t5 := g_38_R3 hG ma4 ra4
      have t6 := g_38_R0 hG ma4 ra4
      refine q_ok_at hG t6 rfl (fun a7 ma7 ra7 ea7 => ?_)
      refine q_ok_b (s_X4_one_1 hn hG.1 ma7 ra7 (q_wd (q_i2lB hl1) (by decide) (by decide)) (q_wd (show (12 : Int) ≤ (12 : Int64).toInt ∧ (12 : Int64).toInt ≤ (12 : Int) by decide) (by decide) (by decide))) (fun r8 S9 h10 => ?_)
      obtain ⟨eS9, h10⟩ := h10
      replace eS9 := eS9.symm
      subst eS9
      have f11 := h10
      refine q_ok_at hG t5 rfl (fun a12 ma12 ra12 ea12 => ?_)
      refine q_ok_b (s_X4_push_39 hn hG.1 ma12 ra12) (fun r13 S14 h15 => ?_)
      have hG := q_G_call hG h15 (by decide)
      obtain ⟨v16, ev16⟩ := q_ev ((l1 + (1)).toInt)
      have f17 : v16 = l1.toInt + (1) := q_addVI ev16 q_evr (show q_eqv ((1 : Int32)).toInt (1) by unfold q_eqv; decide) (by omega) (by omega)
      exact ih _ _ _ hG hl0 (q_oV ev16 (by omega) (by omega))  (q_upV ev16 (by omega))
set_option maxHeartbeats 4000000 in
set_option maxRecDepth 100000 in
theorem s_X10_putHeader_38 {ρ : Nat → Nat} {L : List Nat} {n : Nat} (hn : 18446744073709551616 ≤ n) {S : q_S} (hI : q_Inv ρ L S) {o : Nat} (mo : o ∈ L) (ro : ρ o = 38) : q_ok (m_X10_putHeader n S o) (fun _ T => q_G ρ L M_X10_putHeader_38 S T) := by
  have hG : q_G ρ L M_X10_putHeader_38 S S := q_G_refl hI
  unfold m_X10_putHeader
  have z0 : (0 : Int32).toInt = 0 := rfl
  exact s_X10_putHeader_38_2 hn n _ _ _ hG (q_trI mo ro) (q_wd (show (0 : Int) ≤ (0 : Int32).toInt ∧ (0 : Int32).toInt ≤ (0 : Int) by decide) (by decide) (by decide))  (q_upV (show q_eqv ((0 : Int32)).toInt (0) by unfold q_eqv; decide) (by omega))
def M_X10_putBytes_38_8 : List Nat := [2497, 2560]
set_option maxHeartbeats 4000000 in
set_option maxRecDepth 100000 in
theorem s_X10_putBytes_38_8_3 {ρ : Nat → Nat} {L : List Nat} {n : Nat} (hn : 18446744073709551616 ≤ n) {S0 : q_S}  : ∀ (k : Nat) (S : q_S) (l0 : Option Nat) (l1 : Option Nat) (l2 : Int64) (l4 : Int32) (l5 : Int32), q_G ρ L M_X10_putBytes_38_8 S0 S → q_tr ρ L l0 38 → q_tr ρ L l1 8 → (-1 ≤ l2.toInt ∧ l2.toInt ≤ 4294967295) → (0 ≤ l5.toInt ∧ l5.toInt ≤ 2147483647) → 2147483648 - l5.toInt ≤ (k : Int) → q_ok (m_X10_putBytes_3 n k S l0 l1 l2 l4 l5) (fun _ T => q_G ρ L M_X10_putBytes_38_8 S0 T) := by
  intro k
  induction k with
  | zero =>
    intro S l0 l1 l2 l4 l5 hG hl0 hl1 hl2 hl5 hm
    have f0 := q_rngI l5
    exfalso; omega
  | succ k ih =>
    intro S l0 l1 l2 l4 l5 hG hl0 hl1 hl2 hl5 hm
    rw [m_X10_putBytes_3]
    have z0 : (0 : Int32).toInt = 0 := rfl
    have f1 := q_rVI (x := l5) q_evr
    have f2 := q_rVI (x := l4) q_evr
    refine q_ok_ite (fun g3 => ?_) (fun g3 => ?_)
    · have f4 := q_leV q_evr q_evr (q_p_ge g3)
      exact q_ok_some hG
    · have f5 := q_ltV q_evr q_evr (q_n_ge g3)
      refine q_ok_at hG hl0 rfl (fun a6 ma6 ra6 ea6 => ?_)
      have t7 := g_38_R3 hG ma6 ra6
      refine q_ok_at hG hl1 rfl (fun a8 ma8 ra8 ea8 => ?_)
      refine q_ok_b (s_X7_one_8 hn hG.1 ma8 ra8 (q_wd (q_addBJ (-1) (6442450942) hl2 (q_i2lB hl5) (by decide) (by decide) (by decide) (by decide)) (by decide) (by decide))) (fun r9 S10 h11 => ?_)
      obtain ⟨eS10, h11⟩ := h11
      replace eS10 := eS10.symm
      subst eS10
      have f12 := h11
      refine q_ok_at hG t7 rfl (fun a13 ma13 ra13 ea13 => ?_)
      refine q_ok_b (s_X4_push_39 hn hG.1 ma13 ra13) (fun r14 S15 h16 => ?_)
      have hG := q_G_call hG h16 (by decide)
      obtain ⟨v17, ev17⟩ := q_ev ((l5 + (1)).toInt)
      have f18 : v17 = l5.toInt + (1) := q_addVI ev17 q_evr (show q_eqv ((1 : Int32)).toInt (1) by unfold q_eqv; decide) (by omega) (by omega)
      have f19 := q_rVI (x := l5 + (1)) ev17
      exact ih _ _ _ _ _ _ hG hl0 hl1 (q_wd hl2 (by decide) (by decide)) (q_oV ev17 (by omega) (by omega))  (q_upV ev17 (by omega))
set_option maxHeartbeats 4000000 in
set_option maxRecDepth 100000 in
theorem s_X10_putBytes_38_8 {ρ : Nat → Nat} {L : List Nat} {n : Nat} (hn : 18446744073709551616 ≤ n) {S : q_S} (hI : q_Inv ρ L S) {o : Nat} (mo : o ∈ L) (ro : ρ o = 38) {p0 : Option Nat} (tp0 : q_tr ρ L p0 8) {p1 : Int64} (hp1 : (-1 ≤ p1.toInt ∧ p1.toInt ≤ 4294967295)) {p2 : Int32} : q_ok (m_X10_putBytes n S o p0 p1 p2) (fun _ T => q_G ρ L M_X10_putBytes_38_8 S T) := by
  have hG : q_G ρ L M_X10_putBytes_38_8 S S := q_G_refl hI
  unfold m_X10_putBytes
  have z0 : (0 : Int32).toInt = 0 := rfl
  exact s_X10_putBytes_38_8_3 hn n _ _ _ _ _ _ hG (q_trI mo ro) tp0 (q_wd hp1 (by decide) (by decide)) (q_wd (show (0 : Int) ≤ (0 : Int32).toInt ∧ (0 : Int32).toInt ≤ (0 : Int) by decide) (by decide) (by decide))  (q_upV (show q_eqv ((0 : Int32)).toInt (0) by unfold q_eqv; decide) (by omega))
def M_X10_putGlyf_38_8 : List Nat := [2497, 2560]
set_option maxHeartbeats 4000000 in
set_option maxRecDepth 100000 in
theorem s_X10_putGlyf_38_8_51 {ρ : Nat → Nat} {L : List Nat} {n : Nat} (hn : 18446744073709551616 ≤ n) {S0 : q_S}  {k2 : q_S → Option Nat → Option Nat → Int32 → Option (Unit × q_S)} {B2 : Int} (hk2 : ∀ (S : q_S) (z0 : Option Nat) (z1 : Option Nat) (z2 : Int32), q_G ρ L M_X10_putGlyf_38_8 S0 S → q_tr ρ L z0 38 → q_tr ρ L z1 8 → (0 ≤ z2.toInt ∧ z2.toInt ≤ 200) → 2147483648 - z2.toInt < B2 → q_ok (k2 S z0 z1 z2) (fun _ T => q_G ρ L M_X10_putGlyf_38_8 S0 T)) (S : q_S) (l0 : Option Nat) (l1 : Option Nat) (l2 : Int32) (hG : q_G ρ L M_X10_putGlyf_38_8 S0 S) (hl0 : q_tr ρ L l0 38) (hl1 : q_tr ρ L l1 8) (hl2 : (0 ≤ l2.toInt ∧ l2.toInt ≤ 199)) (hm2 : 2147483648 - l2.toInt ≤ B2) : q_ok (m_X10_putGlyf_51 n k2 S l0 l1 l2) (fun _ T => q_G ρ L M_X10_putGlyf_38_8 S0 T) := by
  unfold m_X10_putGlyf_51
  have z0 : (0 : Int32).toInt = 0 := rfl
  obtain ⟨v1, ev1⟩ := q_ev ((l2 + (1)).toInt)
  have f2 : v1 = l2.toInt + (1) := q_addVI ev1 q_evr (show q_eqv ((1 : Int32)).toInt (1) by unfold q_eqv; decide) (by omega) (by omega)
  exact hk2 _ _ _ _ hG hl0 hl1 (q_wd (q_addBI (1) (200) hl2 (show (1 : Int) ≤ (1 : Int32).toInt ∧ (1 : Int32).toInt ≤ (1 : Int) by decide) (by decide) (by decide) (by decide) (by decide)) (by decide) (by decide))  (q_upVl ev1 (by omega))
set_option maxHeartbeats 4000000 in
set_option maxRecDepth 100000 in
theorem s_X10_putGlyf_38_8_2 {ρ : Nat → Nat} {L : List Nat} {n : Nat} (hn : 18446744073709551616 ≤ n) {S0 : q_S}  : ∀ (k : Nat) (S : q_S) (l0 : Option Nat) (l1 : Option Nat) (l2 : Int32), q_G ρ L M_X10_putGlyf_38_8 S0 S → q_tr ρ L l0 38 → q_tr ρ L l1 8 → (0 ≤ l2.toInt ∧ l2.toInt ≤ 200) → 2147483648 - l2.toInt ≤ (k : Int) → q_ok (m_X10_putGlyf_2 n k S l0 l1 l2) (fun _ T => q_G ρ L M_X10_putGlyf_38_8 S0 T) := by
  intro k
  induction k with
  | zero =>
    intro S l0 l1 l2 hG hl0 hl1 hl2 hm
    have f0 := q_rngI l2
    exfalso; omega
  | succ k ih =>
    intro S l0 l1 l2 hG hl0 hl1 hl2 hm
    rw [m_X10_putGlyf_2]
    have z0 : (0 : Int32).toInt = 0 := rfl
    refine q_ok_at hG hl0 rfl (fun a1 ma1 ra1 ea1 => ?_)
    have t2 := g_38_R2 hG ma1 ra1
    refine q_ok_at hG t2 rfl (fun a3 ma3 ra3 ea3 => ?_)
    refine q_ok_b (s_X6_size_9 hn hG.1 ma3 ra3) (fun r4 S5 h6 => ?_)
    obtain ⟨eS5, h6⟩ := h6
    replace eS5 := eS5.symm
    subst eS5
    have f7 := h6
    refine q_ok_ite (fun g8 => ?_) (fun g8 => ?_)
    · have f9 := q_leV q_evr q_evr (q_p_ge g8)
      exact q_ok_some hG
    · have f10 := q_ltV q_evr q_evr (q_n_ge g8)
      refine q_ok_atA hG ea1 ma1 ra1 rfl ?_
      have t11 := g_38_R2 hG ma1 ra1
      refine q_ok_atA hG ea3 ma3 ra3 rfl ?_
      refine q_ok_b (s_X6_placeAt_9 hn hG.1 ma3 ra3 (q_wd hl2 (by decide) (by decide))) (fun r12 S13 h14 => ?_)
      obtain ⟨eS13, h14⟩ := h14
      replace eS13 := eS13.symm
      subst eS13
      have f15 := h14
      refine q_ok_atA hG ea1 ma1 ra1 rfl ?_
      have t16 := g_38_R6 hG ma1 ra1
      refine q_ok_at hG t16 rfl (fun a17 ma17 ra17 ea17 => ?_)
      refine q_ok_if (q_inV (g_42_N hG ma17 ra17) q_evr (by omega) (by omega)) ?_
      refine q_ok_b (s_X10_putBytes_38_8 hn hG.1 ma1 ra1 hl1 (q_wd f15 (by decide) (by decide))) (fun r18 S19 h20 => ?_)
      have hG := q_G_call hG h20 (by decide)
      refine q_ok_atA hG ea1 ma1 ra1 rfl ?_
      have t21 := g_38_R6 hG ma1 ra1
      have e22 : q_R (S19) a1 6 = q_R (S) a1 6 := (q_unR h20 ma1 ra1 (by decide))
      refine q_ok_atA hG (Eq.trans e22 ea17) ma17 ra17 rfl ?_
      refine q_ok_if (q_inV (g_42_N hG ma17 ra17) q_evr (by omega) (by omega)) ?_
      refine q_ok_if (q_ne0VI (show q_eqv ((2 : Int32)).toInt (2) by unfold q_eqv; decide) (by omega)) ?_
      obtain ⟨v23, ev23⟩ := q_ev (((q_I (S19) a17 (l2).toNatClampNeg) - (q_I (S19) a17 (l2).toNatClampNeg) / (2 : Int32) * (2 : Int32)).toInt)
      have f24 := q_rVI (x := (q_I (S19) a17 (l2).toNatClampNeg) - (q_I (S19) a17 (l2).toNatClampNeg) / (2 : Int32) * (2 : Int32)) ev23
      refine q_ok_ite (fun g25 => ?_) (fun g25 => ?_)
      · have f26 := q_eqV ev23 (show q_eqv ((0 : Int32)).toInt (0) by unfold q_eqv; decide) (q_p_eq g25)
        exact s_X10_putGlyf_38_8_51 hn (B2 := (k : Int) + 1) (fun S9 z0 z1 z2 hG9 hz0 hz1 hz2  hm9 => ih S9 z0 z1 z2 hG9 hz0 hz1 hz2  (by omega)) _ _ _ _ hG hl0 hl1 (q_oV q_evr (by omega) (by omega)) (q_upV q_evr (by omega))
      · have f27 := q_neV ev23 (show q_eqv ((0 : Int32)).toInt (0) by unfold q_eqv; decide) (q_n_eq g25)
        have t28 := g_38_R3 hG ma1 ra1
        refine q_ok_at hG t28 rfl (fun a29 ma29 ra29 ea29 => ?_)
        refine q_ok_b (s_X4_push_39 hn hG.1 ma29 ra29) (fun r30 S31 h32 => ?_)
        have hG := q_G_call hG h32 (by decide)
        exact s_X10_putGlyf_38_8_51 hn (B2 := (k : Int) + 1) (fun S9 z0 z1 z2 hG9 hz0 hz1 hz2  hm9 => ih S9 z0 z1 z2 hG9 hz0 hz1 hz2  (by omega)) _ _ _ _ hG hl0 hl1 (q_oV q_evr (by omega) (by omega)) (q_upV q_evr (by omega))
set_option maxHeartbeats 4000000 in
set_option maxRecDepth 100000 in
theorem s_X10_putGlyf_38_8 {ρ : Nat → Nat} {L : List Nat} {n : Nat} (hn : 18446744073709551616 ≤ n) {S : q_S} (hI : q_Inv ρ L S) {o : Nat} (mo : o ∈ L) (ro : ρ o = 38) {p0 : Option Nat} (tp0 : q_tr ρ L p0 8) : q_ok (m_X10_putGlyf n S o p0) (fun _ T => q_G ρ L M_X10_putGlyf_38_8 S T) := by
  have hG : q_G ρ L M_X10_putGlyf_38_8 S S := q_G_refl hI
  unfold m_X10_putGlyf
  have z0 : (0 : Int32).toInt = 0 := rfl
  exact s_X10_putGlyf_38_8_2 hn n _ _ _ _ hG (q_trI mo ro) tp0 (q_wd (show (0 : Int) ≤ (0 : Int32).toInt ∧ (0 : Int32).toInt ≤ (0 : Int) by decide) (by decide) (by decide))  (q_upV (show q_eqv ((0 : Int32)).toInt (0) by unfold q_eqv; decide) (by omega))
def M_X10_putHead_38_8 : List Nat := [2440, 2497, 2560]
set_option maxHeartbeats 4000000 in
set_option maxRecDepth 100000 in
theorem s_X10_putHead_38_8 {ρ : Nat → Nat} {L : List Nat} {n : Nat} (hn : 18446744073709551616 ≤ n) {S : q_S} (hI : q_Inv ρ L S) {o : Nat} (mo : o ∈ L) (ro : ρ o = 38) {p0 : Option Nat} (tp0 : q_tr ρ L p0 8) : q_ok (m_X10_putHead n S o p0) (fun _ T => q_G ρ L M_X10_putHead_38_8 S T) := by
  have hG : q_G ρ L M_X10_putHead_38_8 S S := q_G_refl hI
  unfold m_X10_putHead
  have z0 : (0 : Int32).toInt = 0 := rfl
  refine q_ok_atS hG (q_trI mo ro) rfl (fun mo ro => ?_)
  have t1 := g_38_R3 hG mo ro
  refine q_ok_at hG t1 rfl (fun a2 ma2 ra2 ea2 => ?_)
  refine q_ok_b (s_X4_size_39 hn hG.1 ma2 ra2) (fun r3 S4 h5 => ?_)
  obtain ⟨eS4, h5⟩ := h5
  replace eS4 := eS4.symm
  subst eS4
  have f6 := h5
  refine q_ok_atS hG (q_trI mo ro) rfl (fun mo ro => ?_)
  have hG := u_38_I8 (x := r3) hG mo ro (by decide) (q_wd f6 (by decide) (by decide))
  refine q_ok_at hG tp0 rfl (fun a7 ma7 ra7 ea7 => ?_)
  have f8 : q_sm _ := g_8_I4 hG ma7 ra7
  refine q_ok_b (s_X10_putBytes_38_8 hn hG.1 mo ro tp0 (q_wd (show (0 : Int) ≤ (0 : Int64).toInt ∧ (0 : Int64).toInt ≤ (0 : Int) by decide) (by decide) (by decide))) (fun r9 S10 h11 => ?_)
  have hG := q_G_call hG h11 (by decide)
  refine q_ok_atS hG (q_trI mo ro) rfl (fun mo ro => ?_)
  have t12 := g_38_R3 hG mo ro
  have e13 : q_R (S10) o 3 = q_R (S) o 3 := (Eq.trans (q_unR h11 mo ro (by decide)) q_skRI)
  have f14 : q_sm _ := g_38_I8 hG mo ro
  have e15 : q_I (S10) o 8 = r3 := (Eq.trans (q_unI h11 mo ro (by decide)) q_hitI)
  refine q_ok_atA hG (Eq.trans e13 ea2) ma2 ra2 rfl ?_
  refine q_ok_b (s_X4_setFour_39 hn hG.1 ma2 ra2 (q_wd (q_addBI (8) (2408) f14 (show (8 : Int) ≤ (8 : Int32).toInt ∧ (8 : Int32).toInt ≤ (8 : Int) by decide) (by decide) (by decide) (by decide) (by decide)) (by decide) (by decide)) (q_wd (show (0 : Int) ≤ (0 : Int64).toInt ∧ (0 : Int64).toInt ≤ (0 : Int) by decide) (by decide) (by decide))) (fun r16 S17 h18 => ?_)
  have hG := q_G_call hG h18 (by decide)
  exact q_ok_some hG
def M_X4_pushTwo_39 : List Nat := [2497, 2560]
set_option maxHeartbeats 4000000 in
set_option maxRecDepth 100000 in
theorem s_X4_pushTwo_39 {ρ : Nat → Nat} {L : List Nat} {n : Nat} (hn : 18446744073709551616 ≤ n) {S : q_S} (hI : q_Inv ρ L S) {o : Nat} (mo : o ∈ L) (ro : ρ o = 39) {p0 : Int32} : q_ok (m_X4_pushTwo n S o p0) (fun _ T => q_G ρ L M_X4_pushTwo_39 S T) := by
  have hG : q_G ρ L M_X4_pushTwo_39 S S := q_G_refl hI
  unfold m_X4_pushTwo
  have z0 : (0 : Int32).toInt = 0 := rfl
  refine q_ok_atS hG (q_trI mo ro) rfl (fun mo ro => ?_)
  refine q_ok_b (s_X4_push_39 hn hG.1 mo ro) (fun r1 S2 h3 => ?_)
  have hG := q_G_call hG h3 (by decide)
  refine q_ok_atS hG (q_trI mo ro) rfl (fun mo ro => ?_)
  refine q_ok_b (s_X4_push_39 hn hG.1 mo ro) (fun r4 S5 h6 => ?_)
  have hG := q_G_call hG h6 (by decide)
  exact q_ok_some hG
def M_X4_pushFour_39 : List Nat := [2497, 2560]
set_option maxHeartbeats 4000000 in
set_option maxRecDepth 100000 in
theorem s_X4_pushFour_39 {ρ : Nat → Nat} {L : List Nat} {n : Nat} (hn : 18446744073709551616 ≤ n) {S : q_S} (hI : q_Inv ρ L S) {o : Nat} (mo : o ∈ L) (ro : ρ o = 39) {p0 : Int32} : q_ok (m_X4_pushFour n S o p0) (fun _ T => q_G ρ L M_X4_pushFour_39 S T) := by
  have hG : q_G ρ L M_X4_pushFour_39 S S := q_G_refl hI
  unfold m_X4_pushFour
  have z0 : (0 : Int32).toInt = 0 := rfl
  refine q_ok_atS hG (q_trI mo ro) rfl (fun mo ro => ?_)
  refine q_ok_b (s_X4_pushTwo_39 hn hG.1 mo ro) (fun r1 S2 h3 => ?_)
  have hG := q_G_call hG h3 (by decide)
  refine q_ok_atS hG (q_trI mo ro) rfl (fun mo ro => ?_)
  refine q_ok_b (s_X4_pushTwo_39 hn hG.1 mo ro) (fun r4 S5 h6 => ?_)
  have hG := q_G_call hG h6 (by decide)
  exact q_ok_some hG
def M_X10_putLoca_38 : List Nat := [2497, 2560]
set_option maxHeartbeats 4000000 in
set_option maxRecDepth 100000 in
theorem s_X10_putLoca_38_54 {ρ : Nat → Nat} {L : List Nat} {n : Nat} (hn : 18446744073709551616 ≤ n) {S0 : q_S}  {k2 : q_S → Option Nat → Int32 → Option (Unit × q_S)} {B2 : Int} (hk2 : ∀ (S : q_S) (z0 : Option Nat) (z1 : Int32), q_G ρ L M_X10_putLoca_38 S0 S → q_tr ρ L z0 38 → (0 ≤ z1.toInt ∧ z1.toInt ≤ 201) → 2147483648 - z1.toInt < B2 → q_ok (k2 S z0 z1) (fun _ T => q_G ρ L M_X10_putLoca_38 S0 T)) (S : q_S) (l0 : Option Nat) (l1 : Int32) (hG : q_G ρ L M_X10_putLoca_38 S0 S) (hl0 : q_tr ρ L l0 38) (hl1 : (0 ≤ l1.toInt ∧ l1.toInt ≤ 200)) (hm2 : 2147483648 - l1.toInt ≤ B2) : q_ok (m_X10_putLoca_54 n k2 S l0 l1) (fun _ T => q_G ρ L M_X10_putLoca_38 S0 T) := by
  unfold m_X10_putLoca_54
  have z0 : (0 : Int32).toInt = 0 := rfl
  obtain ⟨v1, ev1⟩ := q_ev ((l1 + (1)).toInt)
  have f2 : v1 = l1.toInt + (1) := q_addVI ev1 q_evr (show q_eqv ((1 : Int32)).toInt (1) by unfold q_eqv; decide) (by omega) (by omega)
  exact hk2 _ _ _ hG hl0 (q_wd (q_addBI (1) (201) hl1 (show (1 : Int) ≤ (1 : Int32).toInt ∧ (1 : Int32).toInt ≤ (1 : Int) by decide) (by decide) (by decide) (by decide) (by decide)) (by decide) (by decide))  (q_upVl ev1 (by omega))
set_option maxHeartbeats 4000000 in
set_option maxRecDepth 100000 in
theorem s_X10_putLoca_38_2 {ρ : Nat → Nat} {L : List Nat} {n : Nat} (hn : 18446744073709551616 ≤ n) {S0 : q_S}  : ∀ (k : Nat) (S : q_S) (l0 : Option Nat) (l1 : Int32), q_G ρ L M_X10_putLoca_38 S0 S → q_tr ρ L l0 38 → (0 ≤ l1.toInt ∧ l1.toInt ≤ 201) → 2147483648 - l1.toInt ≤ (k : Int) → q_ok (m_X10_putLoca_2 n k S l0 l1) (fun _ T => q_G ρ L M_X10_putLoca_38 S0 T) := by
  intro k
  induction k with
  | zero =>
    intro S l0 l1 hG hl0 hl1 hm
    have f0 := q_rngI l1
    exfalso; omega
  | succ k ih =>
    intro S l0 l1 hG hl0 hl1 hm
    rw [m_X10_putLoca_2]
    have z0 : (0 : Int32).toInt = 0 := rfl
    refine q_ok_at hG hl0 rfl (fun a1 ma1 ra1 ea1 => ?_)
    have t2 := g_38_R2 hG ma1 ra1
    refine q_ok_at hG t2 rfl (fun a3 ma3 ra3 ea3 => ?_)
    refine q_ok_b (s_X6_size_9 hn hG.1 ma3 ra3) (fun r4 S5 h6 => ?_)
    obtain ⟨eS5, h6⟩ := h6
    replace eS5 := eS5.symm
    subst eS5
    have f7 := h6
    refine q_ok_ite (fun g8 => ?_) (fun g8 => ?_)
    · have f9 := q_ltV q_evr q_evr (q_p_gt g8)
      exact q_ok_some hG
    · have f10 := q_leV q_evr q_evr (q_n_gt g8)
      refine q_ok_atA hG ea1 ma1 ra1 rfl ?_
      have t11 := g_38_R2 hG ma1 ra1
      refine q_ok_atA hG ea3 ma3 ra3 rfl ?_
      refine q_ok_b (s_X6_haveLongPlaces_9 hn hG.1 ma3 ra3) (fun r12 S13 h14 => ?_)
      obtain ⟨eS13, h14⟩ := h14
      replace eS13 := eS13.symm
      subst eS13
      have f15 := h14
      refine q_ok_ite (fun g16 => ?_) (fun g16 => ?_)
      · have f17 := q_eqV q_evr (show q_eqv ((0 : Int32)).toInt (0) by unfold q_eqv; decide) (q_p_eq g16)
        refine q_ok_atA hG ea1 ma1 ra1 rfl ?_
        have t18 := g_38_R3 hG ma1 ra1
        have t19 := g_38_R7 hG ma1 ra1
        refine q_ok_at hG t19 rfl (fun a20 ma20 ra20 ea20 => ?_)
        refine q_ok_if (q_inV (g_43_N hG ma20 ra20) q_evr (by omega) (by omega)) ?_
        refine q_ok_if (q_ne0VI (show q_eqv ((2 : Int32)).toInt (2) by unfold q_eqv; decide) (by omega)) ?_
        refine q_ok_at hG t18 rfl (fun a21 ma21 ra21 ea21 => ?_)
        refine q_ok_b (s_X4_pushTwo_39 hn hG.1 ma21 ra21) (fun r22 S23 h24 => ?_)
        have hG := q_G_call hG h24 (by decide)
        exact s_X10_putLoca_38_54 hn (B2 := (k : Int) + 1) (fun S9 z0 z1 hG9 hz0 hz1  hm9 => ih S9 z0 z1 hG9 hz0 hz1  (by omega)) _ _ _ hG hl0 (q_oV q_evr (by omega) (by omega)) (q_upV q_evr (by omega))
      · have f25 := q_neV q_evr (show q_eqv ((0 : Int32)).toInt (0) by unfold q_eqv; decide) (q_n_eq g16)
        refine q_ok_atA hG ea1 ma1 ra1 rfl ?_
        have t26 := g_38_R3 hG ma1 ra1
        have t27 := g_38_R7 hG ma1 ra1
        refine q_ok_at hG t27 rfl (fun a28 ma28 ra28 ea28 => ?_)
        refine q_ok_if (q_inV (g_43_N hG ma28 ra28) q_evr (by omega) (by omega)) ?_
        refine q_ok_at hG t26 rfl (fun a29 ma29 ra29 ea29 => ?_)
        refine q_ok_b (s_X4_pushFour_39 hn hG.1 ma29 ra29) (fun r30 S31 h32 => ?_)
        have hG := q_G_call hG h32 (by decide)
        exact s_X10_putLoca_38_54 hn (B2 := (k : Int) + 1) (fun S9 z0 z1 hG9 hz0 hz1  hm9 => ih S9 z0 z1 hG9 hz0 hz1  (by omega)) _ _ _ hG hl0 (q_oV q_evr (by omega) (by omega)) (q_upV q_evr (by omega))
set_option maxHeartbeats 4000000 in
set_option maxRecDepth 100000 in
theorem s_X10_putLoca_38 {ρ : Nat → Nat} {L : List Nat} {n : Nat} (hn : 18446744073709551616 ≤ n) {S : q_S} (hI : q_Inv ρ L S) {o : Nat} (mo : o ∈ L) (ro : ρ o = 38) : q_ok (m_X10_putLoca n S o) (fun _ T => q_G ρ L M_X10_putLoca_38 S T) := by
  have hG : q_G ρ L M_X10_putLoca_38 S S := q_G_refl hI
  unfold m_X10_putLoca
  have z0 : (0 : Int32).toInt = 0 := rfl
  exact s_X10_putLoca_38_2 hn n _ _ _ hG (q_trI mo ro) (q_wd (show (0 : Int) ≤ (0 : Int32).toInt ∧ (0 : Int32).toInt ≤ (0 : Int) by decide) (by decide) (by decide))  (q_upV (show q_eqv ((0 : Int32)).toInt (0) by unfold q_eqv; decide) (by omega))
def M_X10_putBody_38 : List Nat := [2440, 2497, 2560]
set_option maxHeartbeats 4000000 in
set_option maxRecDepth 100000 in
theorem s_X10_putBody_38 {ρ : Nat → Nat} {L : List Nat} {n : Nat} (hn : 18446744073709551616 ≤ n) {S : q_S} (hI : q_Inv ρ L S) {o : Nat} (mo : o ∈ L) (ro : ρ o = 38) {p0 : Int32} (hp0 : (0 ≤ p0.toInt ∧ p0.toInt ≤ 23)) : q_ok (m_X10_putBody n S o p0) (fun _ T => q_G ρ L M_X10_putBody_38 S T) := by
  have hG : q_G ρ L M_X10_putBody_38 S S := q_G_refl hI
  unfold m_X10_putBody
  have z0 : (0 : Int32).toInt = 0 := rfl
  refine q_ok_atS hG (q_trI mo ro) rfl (fun mo ro => ?_)
  have t1 := g_38_R1 hG mo ro
  refine q_ok_at hG t1 rfl (fun a2 ma2 ra2 ea2 => ?_)
  refine q_ok_b (s_X8_indexOf_6 hn hG.1 ma2 ra2 (q_wd (show (1735162214 : Int) ≤ (1735162214 : Int64).toInt ∧ (1735162214 : Int64).toInt ≤ (1735162214 : Int) by decide) (by decide) (by decide))) (fun r3 S4 h5 => ?_)
  obtain ⟨eS4, h5⟩ := h5
  replace eS4 := eS4.symm
  subst eS4
  have f6 := h5
  refine q_ok_ite (fun g7 => ?_) (fun g7 => ?_)
  · have f8 := q_eqV q_evr q_evr (q_p_eq g7)
    refine q_ok_atS hG (q_trI mo ro) rfl (fun mo ro => ?_)
    have t9 := g_38_R1 hG mo ro
    refine q_ok_atA hG ea2 ma2 ra2 rfl ?_
    refine q_ok_b (s_X8_get_6 hn hG.1 ma2 ra2) (fun r10 S11 h12 => ?_)
    obtain ⟨eS11, h12⟩ := h12
    replace eS11 := eS11.symm
    subst eS11
    refine q_ok_atS hG (q_trI mo ro) rfl (fun mo ro => ?_)
    refine q_ok_b (s_X10_putGlyf_38_8 hn hG.1 mo ro (q_trI h12.1 h12.2)) (fun r13 S14 h15 => ?_)
    have hG := q_G_call hG h15 (by decide)
    unfold m_X10_putBody_103
    exact q_ok_some hG
  · have f16 := q_neV q_evr q_evr (q_n_eq g7)
    refine q_ok_atS hG (q_trI mo ro) rfl (fun mo ro => ?_)
    have t17 := g_38_R1 hG mo ro
    refine q_ok_atA hG ea2 ma2 ra2 rfl ?_
    refine q_ok_b (s_X8_indexOf_6 hn hG.1 ma2 ra2 (q_wd (show (1819239265 : Int) ≤ (1819239265 : Int64).toInt ∧ (1819239265 : Int64).toInt ≤ (1819239265 : Int) by decide) (by decide) (by decide))) (fun r18 S19 h20 => ?_)
    obtain ⟨eS19, h20⟩ := h20
    replace eS19 := eS19.symm
    subst eS19
    have f21 := h20
    refine q_ok_ite (fun g22 => ?_) (fun g22 => ?_)
    · have f23 := q_eqV q_evr q_evr (q_p_eq g22)
      refine q_ok_atS hG (q_trI mo ro) rfl (fun mo ro => ?_)
      refine q_ok_b (s_X10_putLoca_38 hn hG.1 mo ro) (fun r24 S25 h26 => ?_)
      have hG := q_G_call hG h26 (by decide)
      unfold m_X10_putBody_103
      exact q_ok_some hG
    · have f27 := q_neV q_evr q_evr (q_n_eq g22)
      refine q_ok_atS hG (q_trI mo ro) rfl (fun mo ro => ?_)
      have t28 := g_38_R1 hG mo ro
      refine q_ok_atA hG ea2 ma2 ra2 rfl ?_
      refine q_ok_b (s_X8_indexOf_6 hn hG.1 ma2 ra2 (q_wd (show (1751474532 : Int) ≤ (1751474532 : Int64).toInt ∧ (1751474532 : Int64).toInt ≤ (1751474532 : Int) by decide) (by decide) (by decide))) (fun r29 S30 h31 => ?_)
      obtain ⟨eS30, h31⟩ := h31
      replace eS30 := eS30.symm
      subst eS30
      have f32 := h31
      refine q_ok_ite (fun g33 => ?_) (fun g33 => ?_)
      · have f34 := q_eqV q_evr q_evr (q_p_eq g33)
        refine q_ok_atS hG (q_trI mo ro) rfl (fun mo ro => ?_)
        have t35 := g_38_R1 hG mo ro
        refine q_ok_atA hG ea2 ma2 ra2 rfl ?_
        refine q_ok_b (s_X8_get_6 hn hG.1 ma2 ra2) (fun r36 S37 h38 => ?_)
        obtain ⟨eS37, h38⟩ := h38
        replace eS37 := eS37.symm
        subst eS37
        refine q_ok_atS hG (q_trI mo ro) rfl (fun mo ro => ?_)
        refine q_ok_b (s_X10_putHead_38_8 hn hG.1 mo ro (q_trI h38.1 h38.2)) (fun r39 S40 h41 => ?_)
        have hG := q_G_call hG h41 (by decide)
        unfold m_X10_putBody_103
        exact q_ok_some hG
      · have f42 := q_neV q_evr q_evr (q_n_eq g33)
        refine q_ok_atS hG (q_trI mo ro) rfl (fun mo ro => ?_)
        have t43 := g_38_R1 hG mo ro
        refine q_ok_atA hG ea2 ma2 ra2 rfl ?_
        refine q_ok_b (s_X8_get_6 hn hG.1 ma2 ra2) (fun r44 S45 h46 => ?_)
        obtain ⟨eS45, h46⟩ := h46
        replace eS45 := eS45.symm
        subst eS45
        refine q_ok_atS hG (q_trI mo ro) rfl (fun mo ro => ?_)
        have t47 := g_38_R1 hG mo ro
        refine q_ok_atA hG ea2 ma2 ra2 rfl ?_
        refine q_ok_b (s_X8_get_6 hn hG.1 ma2 ra2) (fun r48 S49 h50 => ?_)
        obtain ⟨eS49, h50⟩ := h50
        replace eS49 := eS49.symm
        subst eS49
        refine q_ok_atS hG (q_trI h50.1 h50.2) rfl (fun mr48 rr48 => ?_)
        have f51 : q_sm _ := g_8_I4 hG mr48 rr48
        refine q_ok_atS hG (q_trI mo ro) rfl (fun mo ro => ?_)
        refine q_ok_b (s_X10_putBytes_38_8 hn hG.1 mo ro (q_trI h46.1 h46.2) (q_wd (show (0 : Int) ≤ (0 : Int64).toInt ∧ (0 : Int64).toInt ≤ (0 : Int) by decide) (by decide) (by decide))) (fun r52 S53 h54 => ?_)
        have hG := q_G_call hG h54 (by decide)
        unfold m_X10_putBody_103
        exact q_ok_some hG
def M_X10_putTable_38 : List Nat := [2440, 2497, 2560, 2817, 2818, 2819, 2820]
set_option maxHeartbeats 4000000 in
set_option maxRecDepth 100000 in
theorem s_X10_putTable_38_131 {ρ : Nat → Nat} {L : List Nat} {n : Nat} (hn : 18446744073709551616 ≤ n) {S0 : q_S}  : ∀ (k : Nat) (S : q_S) (l0 : Option Nat) (l8 : Int32) (l9 : Int32), q_G ρ L M_X10_putTable_38 S0 S → q_tr ρ L l0 38 → (0 ≤ l9.toInt ∧ l9.toInt ≤ 2147483647) → 2147483648 - l9.toInt ≤ (k : Int) → q_ok (m_X10_putTable_131 n k S l0 l8 l9) (fun _ T => q_G ρ L M_X10_putTable_38 S0 T) := by
  intro k
  induction k with
  | zero =>
    intro S l0 l8 l9 hG hl0 hl9 hm
    have f0 := q_rngI l9
    exfalso; omega
  | succ k ih =>
    intro S l0 l8 l9 hG hl0 hl9 hm
    rw [m_X10_putTable_131]
    have z0 : (0 : Int32).toInt = 0 := rfl
    have f1 := q_rVI (x := l9) q_evr
    have f2 := q_rVI (x := l8) q_evr
    refine q_ok_ite (fun g3 => ?_) (fun g3 => ?_)
    · have f4 := q_leV q_evr q_evr (q_p_ge g3)
      exact q_ok_some hG
    · have f5 := q_ltV q_evr q_evr (q_n_ge g3)
      refine q_ok_at hG hl0 rfl (fun a6 ma6 ra6 ea6 => ?_)
      have t7 := g_38_R3 hG ma6 ra6
      refine q_ok_at hG t7 rfl (fun a8 ma8 ra8 ea8 => ?_)
      refine q_ok_b (s_X4_push_39 hn hG.1 ma8 ra8) (fun r9 S10 h11 => ?_)
      have hG := q_G_call hG h11 (by decide)
      obtain ⟨v12, ev12⟩ := q_ev ((l9 + (1)).toInt)
      have f13 : v12 = l9.toInt + (1) := q_addVI ev12 q_evr (show q_eqv ((1 : Int32)).toInt (1) by unfold q_eqv; decide) (by omega) (by omega)
      have f14 := q_rVI (x := l9 + (1)) ev12
      exact ih _ _ _ _ hG hl0 (q_oV ev12 (by omega) (by omega))  (q_upV ev12 (by omega))
set_option maxHeartbeats 4000000 in
set_option maxRecDepth 100000 in
theorem s_X10_putTable_38 {ρ : Nat → Nat} {L : List Nat} {n : Nat} (hn : 18446744073709551616 ≤ n) {S : q_S} (hI : q_Inv ρ L S) {o : Nat} (mo : o ∈ L) (ro : ρ o = 38) {p0 : Int32} (hp0 : (0 ≤ p0.toInt ∧ p0.toInt ≤ 23)) {p1 : Int32} (hp1 : (0 ≤ p1.toInt ∧ p1.toInt ≤ 23)) : q_ok (m_X10_putTable n S o p0 p1) (fun _ T => q_G ρ L M_X10_putTable_38 S T) := by
  have hG : q_G ρ L M_X10_putTable_38 S S := q_G_refl hI
  unfold m_X10_putTable
  have z0 : (0 : Int32).toInt = 0 := rfl
  refine q_ok_atS hG (q_trI mo ro) rfl (fun mo ro => ?_)
  have t1 := g_38_R3 hG mo ro
  refine q_ok_at hG t1 rfl (fun a2 ma2 ra2 ea2 => ?_)
  refine q_ok_b (s_X4_size_39 hn hG.1 ma2 ra2) (fun r3 S4 h5 => ?_)
  obtain ⟨eS4, h5⟩ := h5
  replace eS4 := eS4.symm
  subst eS4
  have f6 := h5
  refine q_ok_atS hG (q_trI mo ro) rfl (fun mo ro => ?_)
  refine q_ok_b (s_X10_putBody_38 hn hG.1 mo ro (q_wd hp1 (by decide) (by decide))) (fun r7 S8 h9 => ?_)
  have hG := q_G_call hG h9 (by decide)
  refine q_ok_atS hG (q_trI mo ro) rfl (fun mo ro => ?_)
  have t10 := g_38_R3 hG mo ro
  have e11 : q_R (S8) o 3 = q_R (S) o 3 := (q_unR h9 mo ro (by decide))
  refine q_ok_atA hG (Eq.trans e11 ea2) ma2 ra2 rfl ?_
  refine q_ok_b (s_X4_size_39 hn hG.1 ma2 ra2) (fun r12 S13 h14 => ?_)
  obtain ⟨eS13, h14⟩ := h14
  replace eS13 := eS13.symm
  subst eS13
  have f15 := h14
  refine q_ok_atS hG (q_trI mo ro) rfl (fun mo ro => ?_)
  have t16 := g_38_R1 hG mo ro
  refine q_ok_at hG t16 rfl (fun a17 ma17 ra17 ea17 => ?_)
  refine q_ok_b (s_X8_get_6 hn hG.1 ma17 ra17) (fun r18 S19 h20 => ?_)
  obtain ⟨eS19, h20⟩ := h20
  replace eS19 := eS19.symm
  subst eS19
  refine q_ok_atS hG (q_trI h20.1 h20.2) rfl (fun mr18 rr18 => ?_)
  have f21 : q_sm _ := g_8_J1 hG mr18 rr18
  refine q_ok_atS hG (q_trI mo ro) rfl (fun mo ro => ?_)
  have t22 := g_38_R4 hG mo ro
  refine q_ok_at hG t22 rfl (fun a23 ma23 ra23 ea23 => ?_)
  refine q_ok_b (s_X7_set_44 hn hG.1 ma23 ra23 (q_wd f21 (by decide) (by decide)) (q_wd (show (0 : Int) ≤ (0 : Int64).toInt ∧ (0 : Int64).toInt ≤ (0 : Int) by decide) (by decide) (by decide)) (q_wd f6 (by decide) (by decide)) (q_wd (q_subBI (-2400) (2400) f15 f6 (by decide) (by decide) (by decide) (by decide)) (by decide) (by decide))) (fun r24 S25 h26 => ?_)
  have hG := q_G_call hG h26 (by decide)
  refine q_ok_atS hG (q_trI mo ro) rfl (fun mo ro => ?_)
  have t27 := g_38_R3 hG mo ro
  have e28 : q_R (S25) o 3 = q_R (S8) o 3 := (q_unR h26 mo ro (by decide))
  refine q_ok_atA hG (Eq.trans e28 (Eq.trans e11 ea2)) ma2 ra2 rfl ?_
  obtain ⟨v32, ev32⟩ := q_ev (((12 : Int32) + ((16 : Int32) * p0)).toInt)
  obtain ⟨v33, ev33⟩ := q_ev (((16 : Int32) * p0).toInt)
  have f34 : v33 = (16) * p0.toInt := q_mulVI ev33 (show q_eqv ((16 : Int32)).toInt (16) by unfold q_eqv; decide) q_evr (by omega) (by omega)
  have f35 : v32 = (12) + v33 := q_addVI ev32 (show q_eqv ((12 : Int32)).toInt (12) by unfold q_eqv; decide) ev33 (by omega) (by omega)
  refine q_ok_b (s_X4_setFour_39 hn hG.1 ma2 ra2 (q_oV ev32 (by omega) (by omega)) (q_wd f21 (by decide) (by decide))) (fun r29 S30 h31 => ?_)
  have hG := q_G_call hG h31 (by decide)
  refine q_ok_atS hG (q_trI mo ro) rfl (fun mo ro => ?_)
  have t36 := g_38_R3 hG mo ro
  have e37 : q_R (S30) o 3 = q_R (S25) o 3 := (q_unR h31 mo ro (by decide))
  have t38 := g_38_R4 hG mo ro
  have e39 : q_R (S30) o 4 = q_R (S8) o 4 := (Eq.trans (q_unR h31 mo ro (by decide)) (q_unR h26 mo ro (by decide)))
  refine q_ok_atA hG (Eq.trans e39 ea23) ma23 ra23 rfl ?_
  refine q_ok_b (s_X7_total_44 hn hG.1 ma23 ra23 (q_wd (show (0 : Int) ≤ (0 : Int32).toInt ∧ (0 : Int32).toInt ≤ (0 : Int) by decide) (by decide) (by decide))) (fun r40 S41 h42 => ?_)
  obtain ⟨eS41, h42⟩ := h42
  replace eS41 := eS41.symm
  subst eS41
  have f43 := h42
  refine q_ok_atA hG (Eq.trans e37 (Eq.trans e28 (Eq.trans e11 ea2))) ma2 ra2 rfl ?_
  obtain ⟨v47, ev47⟩ := q_ev ((((12 : Int32) + ((16 : Int32) * p0)) + (4 : Int32)).toInt)
  have f48 : v47 = v32 + (4) := q_addVI ev47 ev32 (show q_eqv ((4 : Int32)).toInt (4) by unfold q_eqv; decide) (by omega) (by omega)
  refine q_ok_b (s_X4_setFour_39 hn hG.1 ma2 ra2 (q_oV ev47 (by omega) (by omega)) (q_wd f43 (by decide) (by decide))) (fun r44 S45 h46 => ?_)
  have hG := q_G_call hG h46 (by decide)
  refine q_ok_atS hG (q_trI mo ro) rfl (fun mo ro => ?_)
  have t49 := g_38_R3 hG mo ro
  have e50 : q_R (S45) o 3 = q_R (S30) o 3 := (q_unR h46 mo ro (by decide))
  refine q_ok_atA hG (Eq.trans e50 (Eq.trans e37 (Eq.trans e28 (Eq.trans e11 ea2)))) ma2 ra2 rfl ?_
  obtain ⟨v54, ev54⟩ := q_ev ((((12 : Int32) + ((16 : Int32) * p0)) + (8 : Int32)).toInt)
  have f55 : v54 = v32 + (8) := q_addVI ev54 ev32 (show q_eqv ((8 : Int32)).toInt (8) by unfold q_eqv; decide) (by omega) (by omega)
  refine q_ok_b (s_X4_setFour_39 hn hG.1 ma2 ra2 (q_oV ev54 (by omega) (by omega)) (q_wd (q_i2lB f6) (by decide) (by decide))) (fun r51 S52 h53 => ?_)
  have hG := q_G_call hG h53 (by decide)
  refine q_ok_atS hG (q_trI mo ro) rfl (fun mo ro => ?_)
  have t56 := g_38_R3 hG mo ro
  have e57 : q_R (S52) o 3 = q_R (S45) o 3 := (q_unR h53 mo ro (by decide))
  refine q_ok_atA hG (Eq.trans e57 (Eq.trans e50 (Eq.trans e37 (Eq.trans e28 (Eq.trans e11 ea2))))) ma2 ra2 rfl ?_
  obtain ⟨v61, ev61⟩ := q_ev ((((12 : Int32) + ((16 : Int32) * p0)) + (12 : Int32)).toInt)
  have f62 : v61 = v32 + (12) := q_addVI ev61 ev32 (show q_eqv ((12 : Int32)).toInt (12) by unfold q_eqv; decide) (by omega) (by omega)
  refine q_ok_b (s_X4_setFour_39 hn hG.1 ma2 ra2 (q_oV ev61 (by omega) (by omega)) (q_wd (q_i2lB (q_subBI (-2400) (2400) f15 f6 (by decide) (by decide) (by decide) (by decide))) (by decide) (by decide))) (fun r58 S59 h60 => ?_)
  have hG := q_G_call hG h60 (by decide)
  refine q_ok_b (s_X10_padded hn hG.1 ) (fun r63 S64 h65 => ?_)
  have eS64 := h65
  replace eS64 := eS64.symm
  subst eS64
  exact s_X10_putTable_38_131 hn n _ _ _ _ hG (q_trI mo ro) (q_wd (show (0 : Int) ≤ (0 : Int32).toInt ∧ (0 : Int32).toInt ≤ (0 : Int) by decide) (by decide) (by decide))  (q_upV (show q_eqv ((0 : Int32)).toInt (0) by unfold q_eqv; decide) (by omega))
def M_X10_sortByTags_38 : List Nat := [2624]
set_option maxHeartbeats 4000000 in
set_option maxRecDepth 100000 in
theorem s_X10_sortByTags_38_72 {ρ : Nat → Nat} {L : List Nat} {n : Nat} (hn : 18446744073709551616 ≤ n) {S0 : q_S}  {k2 : q_S → Option Nat → Int32 → Option (Unit × q_S)} {B2 : Int} (hk2 : ∀ (S : q_S) (z0 : Option Nat) (z1 : Int32), q_G ρ L M_X10_sortByTags_38 S0 S → q_tr ρ L z0 38 → (0 ≤ z1.toInt ∧ z1.toInt ≤ 24) → 2147483648 - z1.toInt < B2 → q_ok (k2 S z0 z1) (fun _ T => q_G ρ L M_X10_sortByTags_38 S0 T)) (S : q_S) (l0 : Option Nat) (l1 : Int32) (l2 : Int32) (hG : q_G ρ L M_X10_sortByTags_38 S0 S) (hl0 : q_tr ρ L l0 38) (hl1 : (0 ≤ l1.toInt ∧ l1.toInt ≤ 23)) (hl2 : (0 ≤ l2.toInt ∧ l2.toInt ≤ 23)) (hm2 : 2147483648 - l1.toInt ≤ B2) : q_ok (m_X10_sortByTags_72 n k2 S l0 l1 l2) (fun _ T => q_G ρ L M_X10_sortByTags_38 S0 T) := by
  unfold m_X10_sortByTags_72
  have z0 : (0 : Int32).toInt = 0 := rfl
  refine q_ok_at hG hl0 rfl (fun a1 ma1 ra1 ea1 => ?_)
  have t2 := g_38_R5 hG ma1 ra1
  refine q_ok_at hG t2 rfl (fun a3 ma3 ra3 ea3 => ?_)
  refine q_ok_if (q_inV (g_41_N hG ma3 ra3) q_evr (by omega) (by omega)) ?_
  have hG := u_41_E (k := (l2).toNatClampNeg) (x := l1) hG ma3 ra3 (by decide) (q_wd hl1 (by decide) (by decide))
  obtain ⟨v4, ev4⟩ := q_ev ((l1 + (1)).toInt)
  have f5 : v4 = l1.toInt + (1) := q_addVI ev4 q_evr (show q_eqv ((1 : Int32)).toInt (1) by unfold q_eqv; decide) (by omega) (by omega)
  exact hk2 _ _ _ hG hl0 (q_wd (q_addBI (1) (24) hl1 (show (1 : Int) ≤ (1 : Int32).toInt ∧ (1 : Int32).toInt ≤ (1 : Int) by decide) (by decide) (by decide) (by decide) (by decide)) (by decide) (by decide))  (q_upVl ev4 (by omega))
set_option maxHeartbeats 4000000 in
set_option maxRecDepth 100000 in
theorem s_X10_sortByTags_38_15 {ρ : Nat → Nat} {L : List Nat} {n : Nat} (hn : 18446744073709551616 ≤ n) {S0 : q_S}  {k2 : q_S → Option Nat → Int32 → Option (Unit × q_S)} {B2 : Int} (hk2 : ∀ (S : q_S) (z0 : Option Nat) (z1 : Int32), q_G ρ L M_X10_sortByTags_38 S0 S → q_tr ρ L z0 38 → (0 ≤ z1.toInt ∧ z1.toInt ≤ 24) → 2147483648 - z1.toInt < B2 → q_ok (k2 S z0 z1) (fun _ T => q_G ρ L M_X10_sortByTags_38 S0 T)) : ∀ (k : Nat) (S : q_S) (l0 : Option Nat) (l1 : Int32) (l2 : Int32), q_G ρ L M_X10_sortByTags_38 S0 S → q_tr ρ L l0 38 → (0 ≤ l1.toInt ∧ l1.toInt ≤ 23) → (0 ≤ l2.toInt ∧ l2.toInt ≤ 23) → 2147483648 - l1.toInt ≤ B2 → l2.toInt + 2147483648 ≤ (k : Int) → q_ok (m_X10_sortByTags_15 n k2 k S l0 l1 l2) (fun _ T => q_G ρ L M_X10_sortByTags_38 S0 T) := by
  intro k
  induction k with
  | zero =>
    intro S l0 l1 l2 hG hl0 hl1 hl2 hm2 hm
    have f0 := q_rngI l2
    exfalso; omega
  | succ k ih =>
    intro S l0 l1 l2 hG hl0 hl1 hl2 hm2 hm
    rw [m_X10_sortByTags_15]
    have z0 : (0 : Int32).toInt = 0 := rfl
    refine q_ok_ite (fun g1 => ?_) (fun g1 => ?_)
    · have f2 := q_leV q_evr (show q_eqv ((0 : Int32)).toInt (0) by unfold q_eqv; decide) (q_p_le g1)
      exact s_X10_sortByTags_38_72 hn hk2 _ _ _ _ hG hl0 (q_wd hl1 (by decide) (by decide)) (q_wd hl2 (by decide) (by decide)) (q_upV q_evr (by omega))
    · have f3 := q_ltV (show q_eqv ((0 : Int32)).toInt (0) by unfold q_eqv; decide) q_evr (q_n_le g1)
      refine q_ok_at hG hl0 rfl (fun a4 ma4 ra4 ea4 => ?_)
      have t5 := g_38_R1 hG ma4 ra4
      have t6 := g_38_R5 hG ma4 ra4
      refine q_ok_at hG t6 rfl (fun a7 ma7 ra7 ea7 => ?_)
      obtain ⟨v8, ev8⟩ := q_ev ((l2 - (1 : Int32)).toInt)
      have f9 : v8 = l2.toInt - (1) := q_subVI ev8 q_evr (show q_eqv ((1 : Int32)).toInt (1) by unfold q_eqv; decide) (by omega) (by omega)
      refine q_ok_if (q_inV (g_41_N hG ma7 ra7) ev8 (by omega) (by omega)) ?_
      have f10 : q_sm _ := g_41_E hG ma7 ra7 (k := (l2 - (1 : Int32)).toNatClampNeg)
      refine q_ok_at hG t5 rfl (fun a11 ma11 ra11 ea11 => ?_)
      refine q_ok_b (s_X8_get_6 hn hG.1 ma11 ra11) (fun r12 S13 h14 => ?_)
      obtain ⟨eS13, h14⟩ := h14
      replace eS13 := eS13.symm
      subst eS13
      refine q_ok_atS hG (q_trI h14.1 h14.2) rfl (fun mr12 rr12 => ?_)
      have f15 : q_sm _ := g_8_J1 hG mr12 rr12
      refine q_ok_atA hG ea4 ma4 ra4 rfl ?_
      have t16 := g_38_R1 hG ma4 ra4
      refine q_ok_atA hG ea11 ma11 ra11 rfl ?_
      refine q_ok_b (s_X8_get_6 hn hG.1 ma11 ra11) (fun r17 S18 h19 => ?_)
      obtain ⟨eS18, h19⟩ := h19
      replace eS18 := eS18.symm
      subst eS18
      refine q_ok_atS hG (q_trI h19.1 h19.2) rfl (fun mr17 rr17 => ?_)
      have f20 : q_sm _ := g_8_J1 hG mr17 rr17
      obtain ⟨v21, ev21⟩ := q_ev ((q_J (S) r12 1).toInt)
      have f22 := q_bV ev21 f15
      obtain ⟨v23, ev23⟩ := q_ev ((q_J (S) r17 1).toInt)
      have f24 := q_bV ev23 f20
      refine q_ok_ite (fun g25 => ?_) (fun g25 => ?_)
      · have f26 := q_leV ev21 ev23 (q_cp_le g25)
        exact s_X10_sortByTags_38_72 hn hk2 _ _ _ _ hG hl0 (q_wd hl1 (by decide) (by decide)) (q_wd hl2 (by decide) (by decide)) (q_upV q_evr (by omega))
      · have f27 := q_ltV ev23 ev21 (q_cn_le g25)
        refine q_ok_atA hG ea4 ma4 ra4 rfl ?_
        have t28 := g_38_R5 hG ma4 ra4
        have t29 := g_38_R5 hG ma4 ra4
        refine q_ok_atA hG ea7 ma7 ra7 rfl ?_
        refine q_ok_if (q_inV (g_41_N hG ma7 ra7) ev8 (by omega) (by omega)) ?_
        refine q_ok_if (q_inV (g_41_N hG ma7 ra7) q_evr (by omega) (by omega)) ?_
        have hG := u_41_E (k := (l2).toNatClampNeg) (x := q_I (S) a7 (l2 - (1 : Int32)).toNatClampNeg) hG ma7 ra7 (by decide) (q_wd f10 (by decide) (by decide))
        obtain ⟨v30, ev30⟩ := q_ev ((l2 + (-1)).toInt)
        have f31 : v30 = l2.toInt + (-1) := q_addVI ev30 q_evr (show q_eqv ((-1 : Int32)).toInt (-1) by unfold q_eqv; decide) (by omega) (by omega)
        exact ih _ _ _ _ hG hl0 (q_wd hl1 (by decide) (by decide)) (q_oV ev30 (by omega) (by omega)) (q_upV q_evr (by omega)) (q_dnV ev30 (by omega))
set_option maxHeartbeats 4000000 in
set_option maxRecDepth 100000 in
theorem s_X10_sortByTags_38_2 {ρ : Nat → Nat} {L : List Nat} {n : Nat} (hn : 18446744073709551616 ≤ n) {S0 : q_S}  : ∀ (k : Nat) (S : q_S) (l0 : Option Nat) (l1 : Int32), q_G ρ L M_X10_sortByTags_38 S0 S → q_tr ρ L l0 38 → (0 ≤ l1.toInt ∧ l1.toInt ≤ 24) → 2147483648 - l1.toInt ≤ (k : Int) → q_ok (m_X10_sortByTags_2 n k S l0 l1) (fun _ T => q_G ρ L M_X10_sortByTags_38 S0 T) := by
  intro k
  induction k with
  | zero =>
    intro S l0 l1 hG hl0 hl1 hm
    have f0 := q_rngI l1
    exfalso; omega
  | succ k ih =>
    intro S l0 l1 hG hl0 hl1 hm
    rw [m_X10_sortByTags_2]
    have z0 : (0 : Int32).toInt = 0 := rfl
    refine q_ok_at hG hl0 rfl (fun a1 ma1 ra1 ea1 => ?_)
    have t2 := g_38_R1 hG ma1 ra1
    refine q_ok_at hG t2 rfl (fun a3 ma3 ra3 ea3 => ?_)
    refine q_ok_b (s_X8_size_6 hn hG.1 ma3 ra3) (fun r4 S5 h6 => ?_)
    obtain ⟨eS5, h6⟩ := h6
    replace eS5 := eS5.symm
    subst eS5
    have f7 := h6
    refine q_ok_ite (fun g8 => ?_) (fun g8 => ?_)
    · have f9 := q_leV q_evr q_evr (q_p_ge g8)
      exact q_ok_some hG
    · have f10 := q_ltV q_evr q_evr (q_n_ge g8)
      exact s_X10_sortByTags_38_15 hn (B2 := (k : Int) + 1) (fun S9 z0 z1 hG9 hz0 hz1  hm9 => ih S9 z0 z1 hG9 hz0 hz1  (by omega)) n _ _ _ _ hG hl0 (q_oV q_evr (by omega) (by omega)) (q_oV q_evr (by omega) (by omega)) (q_upV q_evr (by omega)) (q_dnV q_evr (by omega))
set_option maxHeartbeats 4000000 in
set_option maxRecDepth 100000 in
theorem s_X10_sortByTags_38 {ρ : Nat → Nat} {L : List Nat} {n : Nat} (hn : 18446744073709551616 ≤ n) {S : q_S} (hI : q_Inv ρ L S) {o : Nat} (mo : o ∈ L) (ro : ρ o = 38) : q_ok (m_X10_sortByTags n S o) (fun _ T => q_G ρ L M_X10_sortByTags_38 S T) := by
  have hG : q_G ρ L M_X10_sortByTags_38 S S := q_G_refl hI
  unfold m_X10_sortByTags
  have z0 : (0 : Int32).toInt = 0 := rfl
  exact s_X10_sortByTags_38_2 hn n _ _ _ hG (q_trI mo ro) (q_wd (show (0 : Int) ≤ (0 : Int32).toInt ∧ (0 : Int32).toInt ≤ (0 : Int) by decide) (by decide) (by decide))  (q_upV (show q_eqv ((0 : Int32)).toInt (0) by unfold q_eqv; decide) (by omega))
def M_X4_clear_39 : List Nat := [2497]
set_option maxHeartbeats 4000000 in
set_option maxRecDepth 100000 in
theorem s_X4_clear_39 {ρ : Nat → Nat} {L : List Nat} {n : Nat} (hn : 18446744073709551616 ≤ n) {S : q_S} (hI : q_Inv ρ L S) {o : Nat} (mo : o ∈ L) (ro : ρ o = 39) : q_ok (m_X4_clear n S o) (fun _ T => q_G ρ L M_X4_clear_39 S T) := by
  have hG : q_G ρ L M_X4_clear_39 S S := q_G_refl hI
  unfold m_X4_clear
  have z0 : (0 : Int32).toInt = 0 := rfl
  refine q_ok_atS hG (q_trI mo ro) rfl (fun mo ro => ?_)
  have hG := u_39_I1 (x := (0 : Int32)) hG mo ro (by decide) (q_wd (show (0 : Int) ≤ (0 : Int32).toInt ∧ (0 : Int32).toInt ≤ (0 : Int) by decide) (by decide) (by decide))
  exact q_ok_some hG
def M_X10_make_38 : List Nat := [2440, 2497, 2560, 2624, 2688, 2752, 2817, 2818, 2819, 2820]
set_option maxHeartbeats 4000000 in
set_option maxRecDepth 100000 in
theorem s_X10_make_38_42 {ρ : Nat → Nat} {L : List Nat} {n : Nat} (hn : 18446744073709551616 ≤ n) {S0 : q_S}  : ∀ (k : Nat) (S : q_S) (l0 : Option Nat) (l1 : Int32), q_G ρ L M_X10_make_38 S0 S → q_tr ρ L l0 38 → (0 ≤ l1.toInt ∧ l1.toInt ≤ 24) → 2147483648 - l1.toInt ≤ (k : Int) → q_ok (m_X10_make_42 n k S l0 l1) (fun r T => q_G ρ L M_X10_make_38 S0 T ∧ (-1 ≤ r.toInt ∧ r.toInt ≤ 2400)) := by
  intro k
  induction k with
  | zero =>
    intro S l0 l1 hG hl0 hl1 hm
    have f0 := q_rngI l1
    exfalso; omega
  | succ k ih =>
    intro S l0 l1 hG hl0 hl1 hm
    rw [m_X10_make_42]
    have z0 : (0 : Int32).toInt = 0 := rfl
    refine q_ok_at hG hl0 rfl (fun a1 ma1 ra1 ea1 => ?_)
    have t2 := g_38_R1 hG ma1 ra1
    refine q_ok_at hG t2 rfl (fun a3 ma3 ra3 ea3 => ?_)
    refine q_ok_b (s_X8_size_6 hn hG.1 ma3 ra3) (fun r4 S5 h6 => ?_)
    obtain ⟨eS5, h6⟩ := h6
    replace eS5 := eS5.symm
    subst eS5
    have f7 := h6
    refine q_ok_ite (fun g8 => ?_) (fun g8 => ?_)
    · have f9 := q_leV q_evr q_evr (q_p_ge g8)
      refine q_ok_atA hG ea1 ma1 ra1 rfl ?_
      refine q_ok_b (s_X10_putFileSum_38 hn hG.1 ma1 ra1) (fun r10 S11 h12 => ?_)
      have hG := q_G_call hG h12 (by decide)
      refine q_ok_atA hG ea1 ma1 ra1 rfl ?_
      have t13 := g_38_R3 hG ma1 ra1
      refine q_ok_at hG t13 rfl (fun a14 ma14 ra14 ea14 => ?_)
      refine q_ok_b (s_X4_size_39 hn hG.1 ma14 ra14) (fun r15 S16 h17 => ?_)
      obtain ⟨eS16, h17⟩ := h17
      replace eS16 := eS16.symm
      subst eS16
      have f18 := h17
      exact q_ok_some ⟨hG, (q_wd f18 (by decide) (by decide))⟩
    · have f19 := q_ltV q_evr q_evr (q_n_ge g8)
      refine q_ok_atA hG ea1 ma1 ra1 rfl ?_
      have t20 := g_38_R5 hG ma1 ra1
      refine q_ok_at hG t20 rfl (fun a21 ma21 ra21 ea21 => ?_)
      refine q_ok_if (q_inV (g_41_N hG ma21 ra21) q_evr (by omega) (by omega)) ?_
      have f22 : q_sm _ := g_41_E hG ma21 ra21 (k := (l1).toNatClampNeg)
      refine q_ok_b (s_X10_putTable_38 hn hG.1 ma1 ra1 (q_oV q_evr (by omega) (by omega)) (q_wd f22 (by decide) (by decide))) (fun r23 S24 h25 => ?_)
      have hG := q_G_call hG h25 (by decide)
      obtain ⟨v26, ev26⟩ := q_ev ((l1 + (1)).toInt)
      have f27 : v26 = l1.toInt + (1) := q_addVI ev26 q_evr (show q_eqv ((1 : Int32)).toInt (1) by unfold q_eqv; decide) (by omega) (by omega)
      exact ih _ _ _ hG hl0 (q_oV ev26 (by omega) (by omega))  (q_upV ev26 (by omega))
set_option maxHeartbeats 4000000 in
set_option maxRecDepth 100000 in
theorem s_X10_make_38 {ρ : Nat → Nat} {L : List Nat} {n : Nat} (hn : 18446744073709551616 ≤ n) {S : q_S} (hI : q_Inv ρ L S) {o : Nat} (mo : o ∈ L) (ro : ρ o = 38) : q_ok (m_X10_make n S o) (fun r T => q_G ρ L M_X10_make_38 S T ∧ (-1 ≤ r.toInt ∧ r.toInt ≤ 2400)) := by
  have hG : q_G ρ L M_X10_make_38 S S := q_G_refl hI
  unfold m_X10_make
  have z0 : (0 : Int32).toInt = 0 := rfl
  refine q_ok_atS hG (q_trI mo ro) rfl (fun mo ro => ?_)
  refine q_ok_b (s_X10_isPossible_38 hn hG.1 mo ro) (fun r1 S2 h3 => ?_)
  obtain ⟨eS2, h3⟩ := h3
  replace eS2 := eS2.symm
  subst eS2
  have f4 := h3
  refine q_ok_ite (fun g5 => ?_) (fun g5 => ?_)
  · have f6 := q_eqV q_evr (show q_eqv ((0 : Int32)).toInt (0) by unfold q_eqv; decide) (q_p_eq g5)
    exact q_ok_some ⟨hG, (q_wd (show (-1 : Int) ≤ (-1 : Int32).toInt ∧ (-1 : Int32).toInt ≤ (-1 : Int) by decide) (by decide) (by decide))⟩
  · have f7 := q_neV q_evr (show q_eqv ((0 : Int32)).toInt (0) by unfold q_eqv; decide) (q_n_eq g5)
    refine q_ok_atS hG (q_trI mo ro) rfl (fun mo ro => ?_)
    refine q_ok_b (s_X10_findPlaces_38 hn hG.1 mo ro) (fun r8 S9 h10 => ?_)
    have hG := q_G_call hG h10 (by decide)
    refine q_ok_atS hG (q_trI mo ro) rfl (fun mo ro => ?_)
    refine q_ok_b (s_X10_newSize_38 hn hG.1 mo ro) (fun r11 S12 h13 => ?_)
    have eS12 := h13
    replace eS12 := eS12.symm
    subst eS12
    have f14 := q_rVI (x := r11) q_evr
    refine q_ok_ite (fun g15 => ?_) (fun g15 => ?_)
    · have f16 := q_leV q_evr (show q_eqv ((2400 : Int32)).toInt (2400) by unfold q_eqv; decide) (q_p_le g15)
      refine q_ok_atS hG (q_trI mo ro) rfl (fun mo ro => ?_)
      refine q_ok_b (s_X10_sortByTags_38 hn hG.1 mo ro) (fun r17 S18 h19 => ?_)
      have hG := q_G_call hG h19 (by decide)
      refine q_ok_atS hG (q_trI mo ro) rfl (fun mo ro => ?_)
      have t20 := g_38_R3 hG mo ro
      refine q_ok_at hG t20 rfl (fun a21 ma21 ra21 ea21 => ?_)
      refine q_ok_b (s_X4_clear_39 hn hG.1 ma21 ra21) (fun r22 S23 h24 => ?_)
      have hG := q_G_call hG h24 (by decide)
      refine q_ok_atS hG (q_trI mo ro) rfl (fun mo ro => ?_)
      refine q_ok_b (s_X10_putHeader_38 hn hG.1 mo ro) (fun r25 S26 h27 => ?_)
      have hG := q_G_call hG h27 (by decide)
      exact s_X10_make_38_42 hn n _ _ _ hG (q_trI mo ro) (q_wd (show (0 : Int) ≤ (0 : Int32).toInt ∧ (0 : Int32).toInt ≤ (0 : Int) by decide) (by decide) (by decide))  (q_upV (show q_eqv ((0 : Int32)).toInt (0) by unfold q_eqv; decide) (by omega))
    · have f28 := q_ltV (show q_eqv ((2400 : Int32)).toInt (2400) by unfold q_eqv; decide) q_evr (q_n_le g15)
      exact q_ok_some ⟨hG, (q_wd (show (-1 : Int) ≤ (-1 : Int32).toInt ∧ (-1 : Int32).toInt ≤ (-1 : Int) by decide) (by decide) (by decide))⟩
