def M_X12_cut_45 : List Nat := [2880, 2888, 2901, 2902, 2903, 3264, 4160, 4288, 4352, 4416, 4480]
theorem q_cut_in {ρ : Nat → Nat} {L : List Nat} {n : Nat} (hn : 18446744073709551616 ≤ n) {S0 : q_S} {o : Nat} (mo : o ∈ L) (ro : ρ o = 45) {b : Nat} (mb : b ∈ L) (rb : ρ b = 51) {C : Nat} {k24 : q_S → Option Nat → Int32 → Option (Int32 × q_S)} {P : Int32 → q_S → Prop} (hk24 : ∀ (S : q_S) (l2 : Int32), q_G ρ L M_X12_cut_45 S0 S → q_R S o 9 = some b → (0 ≤ l2.toInt ∧ l2.toInt ≤ 1) → (C : Int) + l2.toInt ≤ (q_cu (q_I S b) 200 : Int) → q_ok (k24 S (some o) l2) P) : ∀ (k : Nat) (S : q_S) (l2 l3 : Int32), q_G ρ L M_X12_cut_45 S0 S → q_R S o 9 = some b → (0 ≤ l2.toInt ∧ l2.toInt ≤ 1) → (0 ≤ l3.toInt ∧ l3.toInt ≤ 200) → (C : Int) + l2.toInt ≤ (q_cu (q_I S b) 200 : Int) → 200 - l3.toInt < (k : Int) → q_ok (m_X12_cut_32 n k24 k S (some o) l2 l3) P := by
  intro k
  have z200 : (200 : Int32).toInt = 200 := rfl
  have z1 : (1 : Int32).toInt = 1 := rfl
  have z0 : (0 : Int32).toInt = 0 := rfl
  induction k with
  | zero => intro S l2 l3 hG eb h2 h3 hC hk; omega
  | succ k ih =>
    intro S l2 l3 hG eb h2 h3 hC hk
    rw [m_X12_cut_32]
    refine q_ok_ite (fun g => hk24 S l2 hG eb h2 hC) (fun g => ?_)
    have g3 : l3.toInt < 200 := by have := mt Int32.le_iff_toInt_le.mpr g; omega
    have e3 : (l3 + 1).toInt = l3.toInt + 1 := by rw [q_addI (by rw [z1]; omega) (by rw [z1]; omega), z1]
    have go56 : ∀ (T : q_S), q_G ρ L M_X12_cut_45 S0 T → q_R T o 9 = some b → (C : Int) + l2.toInt ≤ (q_cu (q_I T b) 200 : Int) → q_ok (m_X12_cut_56 n k24 (m_X12_cut_32 n k24 k) T (some o) l2 l3) P := by
      intro T hT eT hCT
      unfold m_X12_cut_56
      refine q_ok_ite (fun g2 => ?_) (fun g2 => ?_)
      · unfold m_X12_cut_65
        exact ih T 0 (l3 + 1) hT eT (by rw [z0]; omega) (by rw [e3]; omega) (by rw [z0]; omega) (by rw [e3]; omega)
      · unfold m_X12_cut_60 m_X12_cut_65
        have g9 : l2.toInt ≠ 0 := fun e => g2 (Int32.toInt_inj.mp (by rw [e]; rfl))
        exact ih T 1 (l3 + 1) hT eT (by rw [z1]; omega) (by rw [e3]; omega) (by rw [z1]; omega) (by rw [e3]; omega)
    refine q_ok_atS hG (q_trI mo ro) rfl (fun _ _ => ?_)
    refine q_ok_atA hG eb mb rb rfl ?_
    refine q_ok_if (q_inI (g_51_N hG mb rb) (by omega) (by omega)) ?_
    refine q_ok_ite (fun g2 => go56 S hG eb hC) (fun g2 => ?_)
    refine q_ok_b (s_X12_useParts_45 hn hG.1 mo ro ⟨by omega, by omega⟩) (fun r6 T hT => ?_)
    have hGT := q_G_call hG hT.1 (by decide)
    have eT : q_R T o 9 = some b := (q_unR hT.1 mo ro (by decide)).trans eb
    have hu : q_us S T b r6.toInt := q_smE hT.2.2 b eT
    unfold q_us at hu
    have hr := hT.2.1
    refine q_ok_ite (fun g4 => go56 T hGT eT (by omega)) (fun g4 => ?_)
    have g9 : r6.toInt ≠ 0 := fun e => g4 (Int32.toInt_inj.mp (by rw [e]; rfl))
    unfold m_X12_cut_60 m_X12_cut_65
    exact ih T 1 (l3 + 1) hGT eT (by rw [z1]; omega) (by rw [e3]; omega) (by rw [z1]; omega) (by rw [e3]; omega)
theorem q_cut_go {ρ : Nat → Nat} {L : List Nat} {n : Nat} (hn : 18446744073709551616 ≤ n) {S0 : q_S} {o : Nat} (mo : o ∈ L) (ro : ρ o = 45) {b : Nat} (mb : b ∈ L) (rb : ρ b = 51) : ∀ (k : Nat) (S : q_S) (l2 : Int32), q_G ρ L M_X12_cut_45 S0 S → q_R S o 9 = some b → (0 ≤ l2.toInt ∧ l2.toInt ≤ 1) → 202 - (q_cu (q_I S b) 200 : Int) + l2.toInt < (k : Int) → q_ok (m_X12_cut_24 n k S (some o) l2) (fun r T => q_G ρ L M_X12_cut_45 S0 T) := by
  intro k
  have z1 : (1 : Int32).toInt = 1 := rfl
  have z0 : (0 : Int32).toInt = 0 := rfl
  induction k with
  | zero =>
    intro S l2 hG eb h2 hk
    have := q_cu_le (q_I S b) 200
    omega
  | succ k ih =>
    intro S l2 hG eb h2 hk
    rw [m_X12_cut_24]
    refine q_ok_ite (fun g => ?_) (fun g => ?_)
    · refine q_ok_atS hG (q_trI mo ro) rfl (fun _ _ => ?_)
      refine q_ok_b (s_X12_count_45 hn hG.1 mo ro) (fun r T hT => ?_)
      exact q_ok_some (q_G_call hG hT (by decide))
    · have g9 : l2.toInt ≠ 0 := fun e => g (Int32.toInt_inj.mp (by rw [e]; rfl))
      refine q_cut_in hn mo ro mb rb (C := q_cu (q_I S b) 200) (fun T l hT eT hl hC => ?_) n S 0 0 hG eb (by rw [z0]; omega) (by rw [z0]; omega) (by rw [z0]; omega) (by rw [z0]; omega)
      exact ih T l hT eT hl (by omega)
set_option maxHeartbeats 4000000 in
set_option maxRecDepth 100000 in
theorem s_X12_cut_45 {ρ : Nat → Nat} {L : List Nat} {n : Nat} (hn : 18446744073709551616 ≤ n) {S : q_S} (hI : q_Inv ρ L S) {o : Nat} (mo : o ∈ L) (ro : ρ o = 45) {p0 : Int32} : q_ok (m_X12_cut n S o p0) (fun r T => q_G ρ L M_X12_cut_45 S T) := by
  have hG0 : q_G ρ L M_X12_cut_45 S S := q_G_refl hI
  unfold m_X12_cut
  refine q_ok_atS hG0 (q_trI mo ro) rfl (fun _ _ => ?_)
  have hG1 := u_45_I0 (x := 0) hG0 mo ro (by decide) ⟨by decide, by decide⟩
  refine q_ok_b (s_X12_isSign_45 hn hG1.1 mo ro) (fun r2 S3 h3 => ?_)
  have hG3 := q_G_call hG1 h3.1 (by decide)
  refine q_ok_ite (fun _ => q_ok_some hG3) (fun g => ?_)
  have hr1 : r2.toInt = 1 := by
    have h9 := h3.2.1
    have h8 : r2.toInt ≠ 0 := fun e => g (Int32.toInt_inj.mp (by rw [e]; rfl))
    omega
  have hp := q_smE h3.2.2 hr1
  refine q_ok_atS hG3 (q_trI mo ro) rfl (fun _ _ => ?_)
  obtain ⟨b, eb, mb, rb⟩ := g_45_R9 hG3 mo ro
  refine q_ok_atA hG3 eb mb rb rfl ?_
  refine q_ok_if (q_inI (g_51_N hG3 mb rb) (by omega) (by omega)) ?_
  have hG4 := u_51_E (k := (p0).toNatClampNeg) (x := vp_nar .boolean ((1 : Int32))) hG3 mb rb (by decide) (by decide)
  have hc := q_cu_le (q_I (q_sI S3 b (p0).toNatClampNeg (vp_nar .boolean ((1 : Int32)))) b) 200
  have z1 : (1 : Int32).toInt = 1 := rfl
  exact q_cut_go hn mo ro mb rb n _ 1 hG4 eb ⟨by decide, by decide⟩ (by rw [z1]; omega)
def M_X12_tell_45 : List Nat := [2891, 3392, 3456]
set_option maxHeartbeats 4000000 in
set_option maxRecDepth 100000 in
theorem s_X12_tell_45 {ρ : Nat → Nat} {L : List Nat} {n : Nat} (hn : 18446744073709551616 ≤ n) {S : q_S} (hI : q_Inv ρ L S) {o : Nat} (mo : o ∈ L) (ro : ρ o = 45) {p0 : Int32} (hp0 : (1 ≤ p0.toInt ∧ p0.toInt ≤ 5)) {p1 : Int32} (hp1 : (0 ≤ p1.toInt ∧ p1.toInt ≤ 65535)) : q_ok (m_X12_tell n S o p0 p1) (fun _ T => q_G ρ L M_X12_tell_45 S T) := by
  have hG : q_G ρ L M_X12_tell_45 S S := q_G_refl hI
  unfold m_X12_tell
  have z0 : (0 : Int32).toInt = 0 := rfl
  refine q_ok_atS hG (q_trI mo ro) rfl (fun mo ro => ?_)
  have f1 : q_sm _ := g_45_I11 hG mo ro
  obtain ⟨v2, ev2⟩ := q_ev ((q_I (S) o 11).toInt)
  have f3 := q_bV ev2 f1
  refine q_ok_ite (fun g4 => ?_) (fun g4 => ?_)
  · have f5 := q_leV (show q_eqv ((100 : Int32)).toInt (100) by unfold q_eqv; decide) ev2 (q_p_ge g4)
    unfold m_X12_tell_39
    exact q_ok_some hG
  · have f6 := q_ltV ev2 (show q_eqv ((100 : Int32)).toInt (100) by unfold q_eqv; decide) (q_n_ge g4)
    have t7 := g_45_R12 hG mo ro
    refine q_ok_at hG t7 rfl (fun a8 ma8 ra8 ea8 => ?_)
    refine q_ok_if (q_inV (g_53_N hG ma8 ra8) ev2 (by omega) (by omega)) ?_
    have hG := u_53_E (k := (q_I (S) o 11).toNatClampNeg) (x := p0) hG ma8 ra8 (by decide) (q_wd hp0 (by decide) (by decide))
    have t9 := g_45_R13 hG mo ro
    have f10 : q_sm _ := g_45_I11 hG mo ro
    have e11 : q_I (q_sI (S) a8 (q_I (S) o 11).toNatClampNeg (p0)) o 11 = q_I (S) o 11 := (q_fwI ro ra8 (by decide))
    refine q_ok_at hG t9 rfl (fun a12 ma12 ra12 ea12 => ?_)
    obtain ⟨v13, ev13⟩ := q_ev ((q_I (q_sI (S) a8 (q_I (S) o 11).toNatClampNeg (p0)) o 11).toInt)
    have f14 : v13 = v2 := q_eqVI e11 ev13 ev2
    refine q_ok_if (q_inV (g_54_N hG ma12 ra12) ev13 (by omega) (by omega)) ?_
    have hG := u_54_E (k := (q_I (q_sI (S) a8 (q_I (S) o 11).toNatClampNeg (p0)) o 11).toNatClampNeg) (x := p1) hG ma12 ra12 (by decide) (q_wd hp1 (by decide) (by decide))
    refine q_ok_let (fun S15 eS15 => ?_)
    rw [← eS15] at hG
    have f16 : q_sm _ := g_45_I11 hG mo ro
    have e17 : q_I (S15) o 11 = q_I (q_sI (S) a8 (q_I (S) o 11).toNatClampNeg (p0)) o 11 := (Eq.trans (q_leI eS15) (q_fwI ro ra12 (by decide)))
    obtain ⟨v18, ev18⟩ := q_ev (((q_I (S15) o 11) + (1 : Int32)).toInt)
    obtain ⟨v19, ev19⟩ := q_ev ((q_I (S15) o 11).toInt)
    have f20 : v19 = v13 := q_eqVI e17 ev19 ev13
    have f21 : v18 = v19 + (1) := q_addVI ev18 ev19 (show q_eqv ((1 : Int32)).toInt (1) by unfold q_eqv; decide) (by omega) (by omega)
    have hG := u_45_I11 (x := (q_I (S15) o 11) + (1 : Int32)) hG mo ro (by decide) (q_oV ev18 (by omega) (by omega))
    unfold m_X12_tell_39
    exact q_ok_some hG
