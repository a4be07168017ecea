def M_X12_run_45 : List Nat := [2880, 2888, 2891, 2894, 2898, 2901, 2902, 2903, 2904, 2916, 2922, 3392, 3456, 3520, 3584, 3648, 3712, 3776, 3840, 3904, 3968, 4032, 4096, 4160, 4224, 4288, 4352, 4416, 4480, 4544]
set_option maxHeartbeats 4000000 in
set_option maxRecDepth 100000 in
theorem s_X12_run_45_53 {ρ : Nat → Nat} {L : List Nat} {n : Nat} (hn : 18446744073709551616 ≤ n) {S0 : q_S} {o : Nat} (mo : o ∈ L) (ro : ρ o = 45) {p0 : Int32}  : ∀ (k : Nat) (S : q_S) (l3 : Int32) (l4 : Int32), q_G ρ L M_X12_run_45 S0 S → (0 ≤ l3.toInt ∧ l3.toInt ≤ 120) → (0 ≤ l4.toInt ∧ l4.toInt ≤ 120) → (q_N3x S o (q_I S o 18).toInt 0) → ((q_I S o 36).toInt ≤ (l3).toInt) → ((l4).toInt < (q_I S o 18).toInt → (l3).toInt ≤ (q_fE S o 19 (l4 : Int32).toNatClampNeg).toInt) → 2147483648 - l4.toInt ≤ (k : Int) → q_ok (m_X12_run_53 n k S (some o) l3 l4) (fun r T => q_G ρ L M_X12_run_45 S0 T ∧ (-1 ≤ r.toInt ∧ r.toInt ≤ 120)) := by
  intro k
  induction k with
  | zero =>
    intro S l3 l4 hG hl3 hl4 hf0 hf1 hf2 hm
    have f0 := q_rngI l4
    exfalso; omega
  | succ k ih =>
    intro S l3 l4 hG hl3 hl4 hf0 hf1 hf2 hm
    rw [m_X12_run_53]
    have z0 : (0 : Int32).toInt = 0 := rfl
    have t1 := g_45_R19 hG mo ro
    obtain ⟨a2, ea2, ma2, ra2⟩ := id t1
    have t3 := g_45_R28 hG mo ro
    obtain ⟨a4, ea4, ma4, ra4⟩ := id t3
    have t5 := g_45_R27 hG mo ro
    obtain ⟨a6, ea6, ma6, ra6⟩ := id t5
    have n7 := hf0 _ _ _ ea2 ea4 ea6
    have f8 : q_sm _ := g_45_I18 hG mo ro
    have f9 : q_sm _ := g_45_I14 hG mo ro
    obtain ⟨v10, ev10⟩ := q_ev ((q_I (S) o 18).toInt)
    have f11 := q_bV ev10 f8
    obtain ⟨v12, ev12⟩ := q_ev ((q_I (S) o 14).toInt)
    have f13 := q_bV ev12 f9
    have f14 : 0 ≤ v10 ∧ v10 ≤ v10 ∧ v10 ≤ v10 + 0 ∧ v10 ≤ v12 := q_to3 (fun x0 x1 x2 => 0 ≤ x0 ∧ x0 ≤ x1 ∧ x1 ≤ x0 + 0 ∧ x0 ≤ x2) ev10 ev10 ev12 (q_N3lin n7)
    have f15 : q_sm _ := g_45_I36 hG mo ro
    obtain ⟨v16, ev16⟩ := q_ev ((q_I (S) o 36).toInt)
    have f17 := q_bV ev16 f15
    have f18 : v16 ≤ l3.toInt := q_to2 (fun x0 x1 => x0 ≤ x1) ev16 q_evr hf1
    have t19 := g_45_R19 hG mo ro
    have f20 : q_sm _ := g_58_E hG ma2 ra2 (k := (l4).toNatClampNeg)
    have e21 : q_fE (S) o 19 ((l4 : Int32)).toNatClampNeg = q_I (S) a2 (l4).toNatClampNeg := q_fEe ea2
    obtain ⟨v22, ev22⟩ := q_ev ((q_fE (S) o 19 ((l4 : Int32)).toNatClampNeg).toInt)
    obtain ⟨v23, ev23⟩ := q_ev ((q_I (S) a2 (l4).toNatClampNeg).toInt)
    have f24 := q_bV ev23 f20
    have f25 : v22 = v23 := q_eqVI e21 ev22 ev23
    have f26 : l4.toInt < v10 → l3.toInt ≤ v22 := q_to4 (fun x0 x1 x2 x3 => x0 < x1 → x2 ≤ x3) q_evr ev10 q_evr ev22 hf2
    refine q_ok_atS hG (q_trI mo ro) rfl (fun mo ro => ?_)
    refine q_ok_ite (fun g27 => ?_) (fun g27 => ?_)
    · have f28 := q_leV ev10 q_evr (q_p_ge g27)
      exact q_ok_some ⟨hG, (q_wd f15 (by decide) (by decide))⟩
    · have f29 := q_ltV q_evr ev10 (q_n_ge g27)
      have t30 := g_45_R19 hG mo ro
      refine q_ok_atA hG ea2 ma2 ra2 rfl ?_
      refine q_ok_if (q_inV (g_58_N hG ma2 ra2) q_evr (by omega) (by omega)) ?_
      obtain ⟨v31, ev31⟩ := q_ev ((((q_I (S) a2 (l4).toNatClampNeg) + (1 : Int32)) - l3).toInt)
      obtain ⟨v32, ev32⟩ := q_ev (((q_I (S) a2 (l4).toNatClampNeg) + (1 : Int32)).toInt)
      have f33 : v32 = v23 + (1) := q_addVI ev32 ev23 (show q_eqv ((1 : Int32)).toInt (1) by unfold q_eqv; decide) (by omega) (by omega)
      have f34 : v31 = v32 - l3.toInt := q_subVI ev31 ev32 q_evr (by omega) (by omega)
      refine q_ok_ite (fun g35 => ?_) (fun g35 => ?_)
      · have f36 := q_leV ev31 (show q_eqv ((1 : Int32)).toInt (1) by unfold q_eqv; decide) (q_p_le g35)
        unfold m_X12_run_90
        refine q_ok_atS hG (q_trI mo ro) rfl (fun mo ro => ?_)
        have t37 := g_45_R19 hG mo ro
        refine q_ok_atA hG ea2 ma2 ra2 rfl ?_
        refine q_ok_if (q_inV (g_58_N hG ma2 ra2) q_evr (by omega) (by omega)) ?_
        obtain ⟨v38, ev38⟩ := q_ev ((l4 + (1)).toInt)
        have f39 : v38 = l4.toInt + (1) := q_addVI ev38 q_evr (show q_eqv ((1 : Int32)).toInt (1) by unfold q_eqv; decide) (by omega) (by omega)
        have t40 := g_45_R19 hG mo ro
        have t41 := g_45_R19 hG mo ro
        have f42 : q_sm _ := g_58_E hG ma2 ra2 (k := (l4 + (1)).toNatClampNeg)
        obtain ⟨v43, ev43⟩ := q_ev ((q_I (S) a2 (l4 + (1)).toNatClampNeg).toInt)
        have f44 := q_bV ev43 f42
        have f45 : v38 < v10 → v23 < v43 := fun h9 => q_to2 (fun x0 x1 => x0 < x1) ev23 ev43 (q_N3asc n7 (q_clLt (q_bw1 (fun x0 => 0 ≤ x0) q_evr (by omega)) (q_bw2 (fun x0 x1 => x0 < x1) q_evr ev38 (by omega))) (q_clI (q_bw1 (fun x0 => 0 ≤ x0) ev38 (by omega)) (q_bw2 (fun x0 x1 => x0 < x1) ev38 ev10 (by omega))))
        have t46 := g_45_R19 hG mo ro
        have t47 := g_45_R28 hG mo ro
        have t48 := g_45_R27 hG mo ro
        have t49 := g_45_R19 hG mo ro
        have e50 : q_fE (S) o 19 ((l4 + (1) : Int32)).toNatClampNeg = q_I (S) a2 (l4 + (1)).toNatClampNeg := q_fEe ea2
        obtain ⟨v51, ev51⟩ := q_ev ((q_fE (S) o 19 ((l4 + (1) : Int32)).toNatClampNeg).toInt)
        have f52 : v51 = v43 := q_eqVI e50 ev51 ev43
        exact ih _ _ _ hG (q_wd (q_addBI (1) (120) f20 (show (1 : Int) ≤ (1 : Int32).toInt ∧ (1 : Int32).toInt ≤ (1 : Int) by decide) (by decide) (by decide) (by decide) (by decide)) (by decide) (by decide)) (q_oV ev38 (by omega) (by omega)) (q_N3xI ea2 ea4 ea6 (q_N3c n7 (q_bw2 (fun x0 x1 => x0 = x1) ev10 ev10 (by omega)) rfl)) (q_bw2 (fun x0 x1 => x0 ≤ x1) ev16 ev32 (by omega)) (q_bw4 (fun x0 x1 x2 x3 => x0 < x1 → x2 ≤ x3) ev38 ev10 ev32 ev51 (by omega))  (q_upV ev38 (by omega))
      · have f53 := q_ltV (show q_eqv ((1 : Int32)).toInt (1) by unfold q_eqv; decide) ev31 (q_n_le g35)
        refine q_ok_b (s_X12_goRound_45 hn hG.1 mo ro (q_oV q_evr (by omega) (by omega)) (q_oV q_evr (by omega) (by omega)) (q_oV ev31 (by omega) (by omega)) (q_bw2 (fun x0 x1 => x0 + x1 ≤ 120) q_evr ev31 (by omega)) (q_bw2 (fun x0 x1 => x0 ≤ x1) ev16 q_evr (by omega))) (fun r54 S55 h56 => ?_)
        have hG := q_G_call hG h56.1 (by decide)
        have n57 := q_N3U h56.1 mo ro ma2 ra2 ma4 ra4 ma6 ra6 rfl rfl rfl rfl rfl rfl n7
        have f58 : q_sm _ := g_45_I36 hG mo ro
        obtain ⟨v59, ev59⟩ := q_ev ((q_I (S55) o 36).toInt)
        have f60 := q_bV ev59 f58
        have f61 : v59 ≤ l3.toInt + v31 := q_to3 (fun x0 x1 x2 => x0 ≤ x1 + x2) ev59 q_evr ev31 ((q_smE (h56.2)))
        unfold m_X12_run_90
        refine q_ok_atS hG (q_trI mo ro) rfl (fun mo ro => ?_)
        have t62 := g_45_R19 hG mo ro
        have e63 : q_R (S55) o 19 = q_R (S) o 19 := (q_unR h56.1 mo ro (by decide))
        refine q_ok_atA hG (Eq.trans e63 ea2) ma2 ra2 rfl ?_
        refine q_ok_if (q_inV (g_58_N hG ma2 ra2) q_evr (by omega) (by omega)) ?_
        have f64 : q_sm _ := g_58_E hG ma2 ra2 (k := (l4).toNatClampNeg)
        have e65 : q_I (S55) a2 (l4).toNatClampNeg = q_I (S) a2 (l4).toNatClampNeg := (q_unIA h56.1 ma2 ra2 (by decide) (by decide))
        obtain ⟨v66, ev66⟩ := q_ev ((l4 + (1)).toInt)
        have f67 : v66 = l4.toInt + (1) := q_addVI ev66 q_evr (show q_eqv ((1 : Int32)).toInt (1) by unfold q_eqv; decide) (by omega) (by omega)
        have t68 := g_45_R19 hG mo ro
        have t69 := g_45_R19 hG mo ro
        have f70 : q_sm _ := g_58_E hG ma2 ra2 (k := (l4 + (1)).toNatClampNeg)
        have f71 : q_sm _ := g_45_I18 hG mo ro
        have e72 : q_I (S55) o 18 = q_I (S) o 18 := (q_unI h56.1 mo ro (by decide))
        obtain ⟨v73, ev73⟩ := q_ev ((q_I (S55) a2 (l4).toNatClampNeg).toInt)
        have f74 : v73 = v23 := q_eqVI e65 ev73 ev23
        obtain ⟨v75, ev75⟩ := q_ev ((q_I (S55) a2 (l4 + (1)).toNatClampNeg).toInt)
        have f76 := q_bV ev75 f70
        obtain ⟨v77, ev77⟩ := q_ev ((q_I (S55) o 18).toInt)
        have f78 : v77 = v10 := q_eqVI e72 ev77 ev10
        have f79 : v66 < v77 → v73 < v75 := fun h9 => q_to2 (fun x0 x1 => x0 < x1) ev73 ev75 (q_N3asc n57 (q_clLt (q_bw1 (fun x0 => 0 ≤ x0) q_evr (by omega)) (q_bw2 (fun x0 x1 => x0 < x1) q_evr ev66 (by omega))) (q_clI (q_bw1 (fun x0 => 0 ≤ x0) ev66 (by omega)) (q_bw2 (fun x0 x1 => x0 < x1) ev66 ev77 (by omega))))
        have t80 := g_45_R19 hG mo ro
        have t81 := g_45_R28 hG mo ro
        have e82 : q_R (S55) o 28 = q_R (S) o 28 := (q_unR h56.1 mo ro (by decide))
        have t83 := g_45_R27 hG mo ro
        have e84 : q_R (S55) o 27 = q_R (S) o 27 := (q_unR h56.1 mo ro (by decide))
        obtain ⟨v85, ev85⟩ := q_ev (((q_I (S55) a2 (l4).toNatClampNeg) + (1 : Int32)).toInt)
        have f86 : v85 = v73 + (1) := q_addVI ev85 ev73 (show q_eqv ((1 : Int32)).toInt (1) by unfold q_eqv; decide) (by omega) (by omega)
        have t87 := g_45_R19 hG mo ro
        have e88 : q_fE (S55) o 19 ((l4 + (1) : Int32)).toNatClampNeg = q_I (S55) a2 (l4 + (1)).toNatClampNeg := q_fEe (Eq.trans e63 ea2)
        obtain ⟨v89, ev89⟩ := q_ev ((q_fE (S55) o 19 ((l4 + (1) : Int32)).toNatClampNeg).toInt)
        have f90 : v89 = v75 := q_eqVI e88 ev89 ev75
        exact ih _ _ _ hG (q_wd (q_addBI (1) (120) f64 (show (1 : Int) ≤ (1 : Int32).toInt ∧ (1 : Int32).toInt ≤ (1 : Int) by decide) (by decide) (by decide) (by decide) (by decide)) (by decide) (by decide)) (q_oV ev66 (by omega) (by omega)) (q_N3xI (Eq.trans e63 ea2) (Eq.trans e82 ea4) (Eq.trans e84 ea6) (q_N3c n57 (q_bw2 (fun x0 x1 => x0 = x1) ev77 ev10 (by omega)) rfl)) (q_bw2 (fun x0 x1 => x0 ≤ x1) ev59 ev85 (by omega)) (q_bw4 (fun x0 x1 x2 x3 => x0 < x1 → x2 ≤ x3) ev66 ev77 ev85 ev89 (by omega))  (q_upV ev66 (by omega))
def q_vw (pl mo : Int) : Nat := if mo = 0 then 1 else 2 + ((1700 - pl) / 6).toNat
theorem q_vw1 (pl mo : Int) : 1 ≤ q_vw pl mo := by unfold q_vw; split <;> omega
theorem q_vw2 {pl mo : Int} (h : 0 ≤ pl) : q_vw pl mo ≤ 285 := by unfold q_vw; split <;> omega
def q_mu (f : Nat → Nat) : Nat → Nat
  | 0 => 0
  | D + 1 => q_mu f D + f D * 286 ^ (6 - D)
theorem q_mu_congr {f g : Nat → Nat} : ∀ D, (∀ d, d < D → g d = f d) → q_mu g D = q_mu f D
  | 0, _ => rfl
  | D + 1, h => by rw [q_mu, q_mu, q_mu_congr D (fun d hd => h d (by omega)), h D (by omega)]
theorem q_pow_pos : ∀ k : Nat, 1 ≤ 286 ^ k
  | 0 => by decide
  | k + 1 => by have := q_pow_pos k; rw [Nat.pow_succ]; omega
theorem q_pow1 {D : Nat} (h : D ≤ 6) : 286 ^ (7 - D) = 286 * 286 ^ (6 - D) := by
  have e : 7 - D = (6 - D) + 1 := by omega
  rw [e, Nat.pow_succ, Nat.mul_comm]
theorem q_mu_bound {f : Nat → Nat} (hf : ∀ d, f d ≤ 285) : ∀ D, D ≤ 6 → q_mu f D + 286 ^ (7 - D) ≤ 156517258339252096
  | 0, _ => by rw [q_mu]; decide
  | D + 1, h => by
    have ih := q_mu_bound hf D (by omega)
    rw [q_pow1 (by omega)] at ih
    have e2 : 7 - (D + 1) = 6 - D := by omega
    rw [q_mu, e2]
    have h2 : f D * 286 ^ (6 - D) ≤ 285 * 286 ^ (6 - D) := Nat.mul_le_mul_right _ (hf D)
    generalize 286 ^ (6 - D) = X at *
    generalize f D * X = Y at *
    omega
theorem q_mu_step {f g : Nat → Nat} (hf : ∀ d, 1 ≤ f d) (hg : ∀ d, g d ≤ 285) {D D' : Nat} (hD : 1 ≤ D) (hD6 : D' ≤ 6) (hc : ∀ d, d < D - 1 → g d = f d) (h : D' = D - 1 ∨ (D' = D ∨ D' = D + 1) ∧ g (D - 1) + 1 ≤ f (D - 1)) : q_mu g D' < q_mu f D := by
  obtain ⟨E, rfl⟩ : ∃ E, D = E + 1 := ⟨D - 1, by omega⟩
  have hE : E + 1 - 1 = E := by omega
  rw [hE] at hc h
  have hX : 1 ≤ 286 ^ (6 - E) := q_pow_pos _
  have ec := q_mu_congr E hc
  rw [q_mu]
  rcases h with h | ⟨h | h, h2⟩
  · rw [h, ec]
    have : 1 * 1 ≤ f E * 286 ^ (6 - E) := Nat.mul_le_mul (hf E) hX
    omega
  · rw [h, q_mu, ec]
    have h3 : (g E + 1) * 286 ^ (6 - E) ≤ f E * 286 ^ (6 - E) := Nat.mul_le_mul_right _ h2
    rw [Nat.add_mul] at h3
    omega
  · rw [h, q_mu, q_mu, ec]
    have h3 : (g E + 1) * 286 ^ (6 - E) ≤ f E * 286 ^ (6 - E) := Nat.mul_le_mul_right _ h2
    rw [Nat.add_mul] at h3
    have e5 : 286 ^ (6 - E) = 286 * 286 ^ (6 - (E + 1)) := by
      have e : 6 - E = (6 - (E + 1)) + 1 := by omega
      rw [e, Nat.pow_succ, Nat.mul_comm]
    have h4 : g (E + 1) * 286 ^ (6 - (E + 1)) ≤ 285 * 286 ^ (6 - (E + 1)) := Nat.mul_le_mul_right _ (hg (E + 1))
    have h5 : 1 ≤ 286 ^ (6 - (E + 1)) := q_pow_pos _
    generalize g (E + 1) * 286 ^ (6 - (E + 1)) = Z at *
    generalize 286 ^ (6 - (E + 1)) = Y at *
    generalize g E * 286 ^ (6 - E) = U at *
    generalize f E * 286 ^ (6 - E) = V at *
    omega
def q_muS (S : q_S) (o : Nat) : Nat := q_mu (fun d => q_vw (q_fE S o 26 d).toInt (q_fE S o 29 d).toInt) (q_I S o 24).toInt.toNat
def q_PBa (S : q_S) (o : Nat) : Prop := ∀ d : Nat, (d : Int) + 1 < (q_I S o 24).toInt → ((q_fE S o 32 d) &&& (2 : Int32)).toInt = 0 → 0 ≤ (q_fE S o 33 d).toInt ∧ 0 ≤ (q_fE S o 34 d).toInt
section QR
variable {ρ : Nat → Nat} {L m : List Nat} {S T : q_S} {o : Nat} {K : Int}
theorem q_fE_place (hG : q_G ρ L m T S) (mo : o ∈ L) (ro : ρ o = 45) (d : Nat) : 0 ≤ (q_fE S o 26 d).toInt ∧ (q_fE S o 26 d).toInt ≤ 1700 := by
  obtain ⟨b, e, mb, rb⟩ := g_45_R26 hG mo ro
  rw [q_fEe e]
  exact g_61_E hG mb rb
theorem q_efE (g : q_G ρ L m S T) (mo : o ∈ L) (ro : ρ o = 45) (h1 : m.contains (q_ar 45 26) = false) (h2 : m.contains (q_ar 45 29) = false) (h3 : m.contains (q_ar 45 32) = false) (h4 : m.contains (q_ar 45 33) = false) (h5 : m.contains (q_ar 45 34) = false) (h : q_efx S T o K) {d : Nat} (hd : (d : Int) < K) : q_fE T o 26 d = q_fE S o 26 d ∧ q_fE T o 29 d = q_fE S o 29 d ∧ q_fE T o 32 d = q_fE S o 32 d ∧ q_fE T o 33 d = q_fE S o 33 d ∧ q_fE T o 34 d = q_fE S o 34 d := by
  obtain ⟨b1, e1, _, _⟩ := g_45_R26 g mo ro
  obtain ⟨b2, e2, _, _⟩ := g_45_R29 g mo ro
  obtain ⟨b3, e3, _, _⟩ := g_45_R32 g mo ro
  obtain ⟨b4, e4, _, _⟩ := g_45_R33 g mo ro
  obtain ⟨b5, e5, _, _⟩ := g_45_R34 g mo ro
  obtain ⟨f1, f2, f3, f4, f5⟩ := h b1 b2 b3 b4 b5 e1 e2 e3 e4 e5 d hd
  rw [q_fEe e1, q_fEe e2, q_fEe e3, q_fEe e4, q_fEe e5, q_fEe ((q_unR g mo ro h1).symm.trans e1), q_fEe ((q_unR g mo ro h2).symm.trans e2), q_fEe ((q_unR g mo ro h3).symm.trans e3), q_fEe ((q_unR g mo ro h4).symm.trans e4), q_fEe ((q_unR g mo ro h5).symm.trans e5)]
  exact ⟨f1, f2, f3, f4, f5⟩
end QR
theorem q_run_go {ρ : Nat → Nat} {L : List Nat} {n : Nat} (hn : 18446744073709551616 ≤ n) {S0 : q_S} {o : Nat} (mo : o ∈ L) (ro : ρ o = 45) {p0 : Int32} : ∀ (k : Nat) (S : q_S) (l2 : Int32), q_G ρ L M_X12_run_45 S0 S → q_N3x S o (q_I S o 18).toInt 0 → (q_I S o 36).toInt = 0 → q_PBa S o → q_muS S o < k → q_ok (m_X12_run_30 n k S (some o) l2) (fun r T => q_G ρ L M_X12_run_45 S0 T ∧ (-1 ≤ r.toInt ∧ r.toInt ≤ 120)) := by
  intro k
  induction k with
  | zero => intro S l2 hG hN hp hB hk; omega
  | succ k ih =>
    intro S l2 hG hN hp hB hk
    have hD := g_45_I24 hG mo ro
    have tail : q_ok (m_X12_run_48 n S (some o)) (fun r T => q_G ρ L M_X12_run_45 S0 T ∧ (-1 ≤ r.toInt ∧ r.toInt ≤ 120)) := by
      unfold m_X12_run_48
      have z0 : (0 : Int32).toInt = 0 := rfl
      have hl : 0 ≤ (q_fE S o 19 (0 : Int32).toNatClampNeg).toInt := by
        obtain ⟨b, e, mb, rb⟩ := g_45_R19 hG mo ro
        rw [q_fEe e]
        exact (g_58_E hG mb rb).1
      exact s_X12_run_45_53 hn mo ro (p0 := p0) n S 0 0 hG ⟨by decide, by decide⟩ ⟨by decide, by decide⟩ hN (by omega) (fun _ => by rw [z0]; exact hl) (by rw [z0]; omega)
    rw [m_X12_run_30]
    refine q_ok_ite (fun _ => tail) (fun _ => ?_)
    refine q_ok_atS hG (q_trI mo ro) rfl (fun _ _ => ?_)
    refine q_ok_ite (fun _ => tail) (fun g => ?_)
    have hd1 : 1 ≤ (q_I S o 24).toInt := by
      have h9 := mt Int32.le_iff_toInt_le.mpr g
      have z0 : (0 : Int32).toInt = 0 := rfl
      omega
    have e2 : 2 ≤ (q_I S o 24).toInt → (((q_I S o 24) - (2 : Int32) : Int32).toNatClampNeg : Int) = (q_I S o 24).toInt - 2 := fun h2 => by
      have z2 : (2 : Int32).toInt = 2 := rfl
      have h3 : ((q_I S o 24) - (2 : Int32)).toInt = (q_I S o 24).toInt - 2 := by rw [q_subI (by rw [z2]; omega) (by rw [z2]; omega), z2]
      exact q_clamp (by omega) h3
    have e1 : (((q_I S o 24) - (1 : Int32) : Int32).toNatClampNeg : Int) = (q_I S o 24).toInt - 1 := by
      have z2 : (1 : Int32).toInt = 1 := rfl
      have h3 : ((q_I S o 24) - (1 : Int32)).toInt = (q_I S o 24).toInt - 1 := by rw [q_subI (by rw [z2]; omega) (by rw [z2]; omega), z2]
      exact q_clamp (by omega) h3
    refine q_ok_b (s_X12_goOn_45 hn hG.1 mo ro hN hd1 (fun h2 => hB _ (by rw [e2 h2]; omega))) (fun _ T hT => ?_)
    have hG2 := q_G_call hG hT.1 (by decide)
    obtain ⟨t1, t2, t3, t4⟩ := q_smE hT.2
    have hDT := g_45_I24 hG2 mo ro
    have hE : ∀ d : Nat, (d : Int) < (q_I S o 24).toInt - 1 → _ := fun d hd => q_efE hT.1 mo ro (by decide) (by decide) (by decide) (by decide) (by decide) t2 hd
    refine ih T l2 hG2 t1 ?_ ?_ ?_
    · rw [q_unI hT.1 mo ro (by decide)]; exact hp
    · intro d hd
      by_cases h9 : (d : Int) < (q_I S o 24).toInt - 1
      · obtain ⟨_, _, f3, f4, f5⟩ := hE d h9
        rw [f3, f4, f5]
        exact hB d (by omega)
      · rcases t3 with t3 | t3
        · exfalso; omega
        · have hd9 : ((q_I S o 24) - (1 : Int32) : Int32).toNatClampNeg = d := by omega
          rw [hd9] at t3
          exact t3
    · have hst : q_muS T o < q_muS S o := by
        unfold q_muS
        have hd9 : ((q_I S o 24) - (1 : Int32) : Int32).toNatClampNeg = (q_I S o 24).toInt.toNat - 1 := by omega
        rw [hd9] at t4
        refine q_mu_step (fun d => q_vw1 _ _) (fun d => q_vw2 (q_fE_place hG2 mo ro d).1) (by omega) (by omega) (fun d hd => ?_) ?_
        · obtain ⟨f1, f2, _, _, _⟩ := hE d (by omega)
          show q_vw (q_fE T o 26 d).toInt (q_fE T o 29 d).toInt = q_vw (q_fE S o 26 d).toInt (q_fE S o 29 d).toInt
          rw [f1, f2]
        · have hpS := q_fE_place hG mo ro ((q_I S o 24).toInt.toNat - 1)
          have hpT := q_fE_place hG2 mo ro ((q_I S o 24).toInt.toNat - 1)
          show _ ∨ _ ∧ q_vw (q_fE T o 26 ((q_I S o 24).toInt.toNat - 1)).toInt (q_fE T o 29 ((q_I S o 24).toInt.toNat - 1)).toInt + 1 ≤ q_vw (q_fE S o 26 ((q_I S o 24).toInt.toNat - 1)).toInt (q_fE S o 29 ((q_I S o 24).toInt.toNat - 1)).toInt
          rcases t4 with t4 | ⟨u1, u2, u3⟩ | ⟨u1, u2, u3⟩
          · left; omega
          · right
            refine ⟨by omega, ?_⟩
            rw [u1, u3]; unfold q_vw; rw [if_pos rfl, if_neg (by decide)]; omega
          · right
            refine ⟨by omega, ?_⟩
            rw [u1]; unfold q_vw; rw [if_neg (show ¬ (1 : Int) = 0 by decide)]
            split <;> omega
      omega
set_option maxHeartbeats 4000000 in
set_option maxRecDepth 100000 in
theorem s_X12_run_45 {ρ : Nat → Nat} {L : List Nat} {n : Nat} (hn : 18446744073709551616 ≤ n) {S : q_S} (hI : q_Inv ρ L S) {o : Nat} (mo : o ∈ L) (ro : ρ o = 45) {p0 : Int32} : q_ok (m_X12_run n S o p0) (fun r T => q_G ρ L M_X12_run_45 S T ∧ (-1 ≤ r.toInt ∧ r.toInt ≤ 120)) := by
  have hG0 : q_G ρ L M_X12_run_45 S S := q_G_refl hI
  unfold m_X12_run
  refine q_ok_atS hG0 (q_trI mo ro) rfl (fun _ _ => ?_)
  have hG1 := u_45_I0 (x := 0) hG0 mo ro (by decide) ⟨by decide, by decide⟩
  refine q_ok_b (s_X12_forgetRun_45 hn hG1.1 mo ro) (fun _ S2 h2 => ?_)
  have hG2 := q_G_call hG1 h2.1 (by decide)
  obtain ⟨c1, c2, c3⟩ := q_smE h2.2
  refine q_ok_atS hG2 (q_trI mo ro) rfl (fun _ _ => ?_)
  refine q_ok_b (s_X12_isSign_45 hn hG2.1 mo ro) (fun r6 S7 h7 => ?_)
  have hG7 := q_G_call hG2 h7.1 (by decide)
  refine q_ok_ite (fun _ => q_ok_some ⟨hG7, by decide, by decide⟩) (fun g => ?_)
  refine q_ok_atS hG7 (q_trI mo ro) rfl (fun _ _ => ?_)
  have hG8 := u_45_I24 (x := 0) hG7 mo ro (by decide) ⟨by decide, by decide⟩
  have hr1 : r6.toInt = 1 := by
    have h9 := h7.2.1
    have h8 : r6.toInt ≠ 0 := fun e => g (Int32.toInt_inj.mp (by rw [e]; rfl))
    omega
  have hp := q_smE h7.2.2 hr1
  have d1 : (q_I (q_sI S7 o 24 0) o 14).toInt = 0 := by rw [q_ffI (by decide), q_unI h7.1 mo ro (by decide)]; exact c1
  have d2 : (q_I (q_sI S7 o 24 0) o 18).toInt = 0 := by rw [q_ffI (by decide), q_unI h7.1 mo ro (by decide)]; exact c2
  have d3 : (q_I (q_sI S7 o 24 0) o 36).toInt = 0 := by rw [q_ffI (by decide), q_unI h7.1 mo ro (by decide)]; exact c3
  have d4 : (q_I (q_sI S7 o 24 0) o 24).toInt = 0 := by rw [q_hitI]; rfl
  have hN : q_N3x (q_sI S7 o 24 0) o (q_I (q_sI S7 o 24 0) o 18).toInt 0 := fun bL bC bP _ _ _ => by rw [d2]; exact q_N3zero ⟨d2, d1, d4⟩
  refine q_ok_b (s_X12_enter_45 hn hG8.1 mo ro hp hN (by rw [d4]; decide)) (fun r11 S12 h12 => ?_)
  have hG12 := q_G_call hG8 h12.1 (by decide)
  obtain ⟨t1, t2, t3, t4⟩ := q_smE h12.2.2
  have hb := h12.2.1
  have hD := g_45_I24 hG12 mo ro
  have hD1 : (q_I S12 o 24).toInt ≤ 1 := by
    rcases (show r11.toInt = 0 ∨ r11.toInt = 1 by omega) with e | e
    · have := t2 e; omega
    · have := t3 e; omega
  refine q_run_go hn mo ro (p0 := p0) n S12 r11 hG12 t1 (by rw [q_unI h12.1 mo ro (by decide)]; exact d3) (fun d hd => by omega) ?_
  have h9 := q_mu_bound (f := fun d => q_vw (q_fE S12 o 26 d).toInt (q_fE S12 o 29 d).toInt) (fun d => q_vw2 (q_fE_place hG12 mo ro d).1) (q_I S12 o 24).toInt.toNat (by omega)
  exact Nat.lt_of_le_of_lt (Nat.le_trans (Nat.le_add_right _ _) h9) (by omega)
def M_X12_scaled_45 : List Nat := [2880, 2888]
set_option maxHeartbeats 4000000 in
set_option maxRecDepth 100000 in
theorem s_X12_scaled_45 {ρ : Nat → Nat} {L : List Nat} {n : Nat} (hn : 18446744073709551616 ≤ n) {S : q_S} (hI : q_Inv ρ L S) {o : Nat} (mo : o ∈ L) (ro : ρ o = 45) {p0 : Int32} {p1 : Int32} : q_ok (m_X12_scaled n S o p0 p1) (fun r T => q_G ρ L M_X12_scaled_45 S T) := by
  have hG : q_G ρ L M_X12_scaled_45 S S := q_G_refl hI
  unfold m_X12_scaled
  have z0 : (0 : Int32).toInt = 0 := rfl
  refine q_ok_atS hG (q_trI mo ro) rfl (fun mo ro => ?_)
  have hG := u_45_I0 (x := (0 : Int32)) hG mo ro (by decide) (q_wd (show (0 : Int) ≤ (0 : Int32).toInt ∧ (0 : Int32).toInt ≤ (0 : Int) by decide) (by decide) (by decide))
  obtain ⟨v4, ev4⟩ := q_ev ((p1.toInt64).toInt)
  have f5 := q_rVI (x := p1) q_evr
  have f6 : v4 = p1.toInt := q_i2lV ev4 q_evr
  refine q_ok_b (s_X12_in hn hG.1 (q_oV ev4 (by omega) (by omega)) (q_wd (show (0 : Int) ≤ (0 : Int64).toInt ∧ (0 : Int64).toInt ≤ (0 : Int) by decide) (by decide) (by decide)) (q_wd (show (1000 : Int) ≤ (1000 : Int64).toInt ∧ (1000 : Int64).toInt ≤ (1000 : Int) by decide) (by decide) (by decide))) (fun r1 S2 h3 => ?_)
  obtain ⟨eS2, h3⟩ := h3
  replace eS2 := eS2.symm
  subst eS2
  have f7 := And.intro h3.1 h3.2.1
  have f8 : r1.toInt = 1 → (0) ≤ v4 := fun h9 => q_leV (show q_eqv ((0 : Int64)).toInt (0) by unfold q_eqv; decide) ev4 (f7.2 h9).1
  have f9 : r1.toInt = 1 → v4 ≤ (1000) := fun h9 => q_leV ev4 (show q_eqv ((1000 : Int64)).toInt (1000) by unfold q_eqv; decide) (f7.2 h9).2
  have f10 : r1.toInt = 1 → (0) ≤ v4 ∧ v4 ≤ (1000) := q_to4 (fun x0 x1 x2 x3 => x0 = 1 → x1 ≤ x2 ∧ x2 ≤ x3) q_evr (show q_eqv ((0 : Int64)).toInt (0) by unfold q_eqv; decide) ev4 (show q_eqv ((1000 : Int64)).toInt (1000) by unfold q_eqv; decide) ((q_smE (h3.2.2)).1)
  have f11 : r1.toInt = 0 → v4 < (0) ∨ (1000) < v4 := q_to4 (fun x0 x1 x2 x3 => x0 = 0 → x1 < x2 ∨ x3 < x1) q_evr ev4 (show q_eqv ((0 : Int64)).toInt (0) by unfold q_eqv; decide) (show q_eqv ((1000 : Int64)).toInt (1000) by unfold q_eqv; decide) ((q_smE (h3.2.2)).2)
  refine q_ok_ite (fun g12 => ?_) (fun g12 => ?_)
  · have f13 := q_eqV q_evr (show q_eqv ((0 : Int32)).toInt (0) by unfold q_eqv; decide) (q_p_eq g12)
    exact q_ok_some hG
  · have f14 := q_neV q_evr (show q_eqv ((0 : Int32)).toInt (0) by unfold q_eqv; decide) (q_n_eq g12)
    refine q_ok_atS hG (q_trI mo ro) rfl (fun mo ro => ?_)
    refine q_ok_if (q_b01V (show q_eqv ((0 : Int32)).toInt (0) by unfold q_eqv; decide) (by omega) (by omega)) ?_
    have hG := u_45_I8 (x := (0 : Int32)) hG mo ro (by decide) (q_wd (show (0 : Int) ≤ (0 : Int32).toInt ∧ (0 : Int32).toInt ≤ (0 : Int) by decide) (by decide) (by decide))
    refine q_ok_b (s_X12_find_45 hn hG.1 mo ro (q_wd (show (1751474532 : Int) ≤ (1751474532 : Int64).toInt ∧ (1751474532 : Int64).toInt ≤ (1751474532 : Int) by decide) (by decide) (by decide))) (fun r15 S16 h17 => ?_)
    obtain ⟨eS16, h17⟩ := h17
    replace eS16 := eS16.symm
    subst eS16
    have f18 := h17.1
    have e19 : r15 = q_fd (q_sI (q_sI (S) o 0 ((0 : Int32))) o 8 ((0 : Int32))) o ((1751474532 : Int64)) := Int32.toInt_inj.mp (q_smE (h17.2))
    subst e19
    obtain ⟨v20, ev20⟩ := q_ev ((q_fd (q_sI (q_sI (S) o 0 ((0 : Int32))) o 8 ((0 : Int32))) o ((1751474532 : Int64))).toInt)
    have f21 := q_rVI (x := q_fd (q_sI (q_sI (S) o 0 ((0 : Int32))) o 8 ((0 : Int32))) o ((1751474532 : Int64))) ev20
    have f22 := q_bV ev20 f18
    refine q_ok_atS hG (q_trI mo ro) rfl (fun mo ro => ?_)
    have f26 : q_sm _ := g_45_I8 hG mo ro
    have e27 : q_I (q_sI (q_sI (S) o 0 ((0 : Int32))) o 8 ((0 : Int32))) o 8 = (0 : Int32) := q_hitI
    refine q_ok_b (s_X12_two_45 hn hG.1 mo ro (q_oV ev20 (by omega) (by omega)) (q_wd (show (18 : Int) ≤ (18 : Int64).toInt ∧ (18 : Int64).toInt ≤ (18 : Int) by decide) (by decide) (by decide))) (fun r23 S24 h25 => ?_)
    have hG := q_G_call hG h25.1 (by decide)
    have f28 := h25.2.1
    have f29 : q_sm _ := g_45_I8 hG mo ro
    obtain ⟨v30, ev30⟩ := q_ev ((q_I (S24) o 8).toInt)
    have f31 := q_bV ev30 f29
    obtain ⟨v32, ev32⟩ := q_ev ((q_I (q_sI (q_sI (S) o 0 ((0 : Int32))) o 8 ((0 : Int32))) o 8).toInt)
    have f33 : v32 = (0) := q_eqVI e27 ev32 (show q_eqv ((0 : Int32)).toInt (0) by unfold q_eqv; decide)
    have f34 : v30 = 0 → v32 = 0 := q_to2 (fun x0 x1 => x0 = 0 → x1 = 0) ev30 ev32 ((q_smE (h25.2.2)))
    refine q_ok_atS hG (q_trI mo ro) rfl (fun mo ro => ?_)
    refine q_ok_ite (fun g35 => ?_) (fun g35 => ?_)
    · have f36 := q_eqV ev30 (show q_eqv ((0 : Int32)).toInt (0) by unfold q_eqv; decide) (q_p_eq g35)
      obtain ⟨v37, ev37⟩ := q_ev ((r23.toInt64).toInt)
      have f38 : v37 = r23.toInt := q_i2lV ev37 q_evr
      refine q_ok_ite (fun g39 => ?_) (fun g39 => ?_)
      · have f40 := q_eqV ev37 (show q_eqv ((0 : Int64)).toInt (0) by unfold q_eqv; decide) (q_cp_eq g39)
        unfold m_X12_scaled_55
        exact q_ok_some hG
      · have f41 := q_neV ev37 (show q_eqv ((0 : Int64)).toInt (0) by unfold q_eqv; decide) (q_cn_eq g39)
        obtain ⟨v42, ev42⟩ := q_ev (((2 : Int64) * (r23.toInt64)).toInt)
        have f43 : v42 = (2) * v37 := q_mulVJ ev42 (show q_eqv ((2 : Int64)).toInt (2) by unfold q_eqv; decide) ev37 (by omega) (by omega)
        refine q_ok_if (q_ne0VJ ev42 (by omega)) ?_
        refine q_ok_if (q_ne0VJ ev42 (by omega)) ?_
        obtain ⟨v44, ev44⟩ := q_ev ((((((128 : Int64) * (p1.toInt64)) * (p0.toInt64)) + (r23.toInt64)) - ((((128 : Int64) * (p1.toInt64)) * (p0.toInt64)) + (r23.toInt64)) / ((2 : Int64) * (r23.toInt64)) * ((2 : Int64) * (r23.toInt64))).toInt)
        have f45 := q_rVJ (X := ((((128 : Int64) * (p1.toInt64)) * (p0.toInt64)) + (r23.toInt64)) - ((((128 : Int64) * (p1.toInt64)) * (p0.toInt64)) + (r23.toInt64)) / ((2 : Int64) * (r23.toInt64)) * ((2 : Int64) * (r23.toInt64))) ev44
        refine q_ok_ite (fun g46 => ?_) (fun g46 => ?_)
        · have f47 := q_leV (show q_eqv ((0 : Int64)).toInt (0) by unfold q_eqv; decide) ev44 (q_cp_ge g46)
          unfold m_X12_scaled_102
          exact q_ok_some hG
        · have f48 := q_ltV ev44 (show q_eqv ((0 : Int64)).toInt (0) by unfold q_eqv; decide) (q_cn_ge g46)
          unfold m_X12_scaled_102
          exact q_ok_some hG
    · have f49 := q_neV ev30 (show q_eqv ((0 : Int32)).toInt (0) by unfold q_eqv; decide) (q_n_eq g35)
      unfold m_X12_scaled_55
      exact q_ok_some hG
def M_X12_setFour_45 : List Nat := [4608]
set_option maxHeartbeats 4000000 in
set_option maxRecDepth 100000 in
theorem s_X12_setFour_45_3 {ρ : Nat → Nat} {L : List Nat} {n : Nat} (hn : 18446744073709551616 ≤ n) {S0 : q_S} {o : Nat} (mo : o ∈ L) (ro : ρ o = 45) {p0 : Int32} {p1 : Int64}  : ∀ (k : Nat) (S : q_S) (l1 : Int32) (l2 : Int64) (l4 : Int32), q_G ρ L M_X12_setFour_45 S0 S → (0 ≤ l1.toInt ∧ l1.toInt ≤ 2500) → (-2400 ≤ l2.toInt ∧ l2.toInt ≤ 4294967295) → (0 ≤ l4.toInt ∧ l4.toInt ≤ 5) → 2147483648 - l4.toInt ≤ (k : Int) → q_ok (m_X12_setFour_3 n k S (some o) l1 l2 l4) (fun _ T => q_G ρ L M_X12_setFour_45 S0 T) := by
  intro k
  induction k with
  | zero =>
    intro S l1 l2 l4 hG hl1 hl2 hl4 hm
    have f0 := q_rngI l4
    exfalso; omega
  | succ k ih =>
    intro S l1 l2 l4 hG hl1 hl2 hl4 hm
    rw [m_X12_setFour_3]
    have z0 : (0 : Int32).toInt = 0 := rfl
    refine q_ok_ite (fun g1 => ?_) (fun g1 => ?_)
    · have f2 := q_leV (show q_eqv ((4 : Int32)).toInt (4) by unfold q_eqv; decide) q_evr (q_p_ge g1)
      unfold m_X12_setFour_49
      exact q_ok_some hG
    · have f3 := q_ltV q_evr (show q_eqv ((4 : Int32)).toInt (4) by unfold q_eqv; decide) (q_n_ge g1)
      obtain ⟨v4, ev4⟩ := q_ev ((l1 + l4).toInt)
      have f5 : v4 = l1.toInt + l4.toInt := q_addVI ev4 q_evr q_evr (by omega) (by omega)
      refine q_ok_ite (fun g6 => ?_) (fun g6 => ?_)
      · have f7 := q_leV (show q_eqv ((2400 : Int32)).toInt (2400) by unfold q_eqv; decide) ev4 (q_p_ge g6)
        unfold m_X12_setFour_49
        exact q_ok_some hG
      · have f8 := q_ltV ev4 (show q_eqv ((2400 : Int32)).toInt (2400) by unfold q_eqv; decide) (q_n_ge g6)
        refine q_ok_atS hG (q_trI mo ro) rfl (fun mo ro => ?_)
        have t9 := g_45_R39 hG mo ro
        refine q_ok_at hG t9 rfl (fun a10 ma10 ra10 ea10 => ?_)
        refine q_ok_if (q_inV (g_72_N hG ma10 ra10) ev4 (by omega) (by omega)) ?_
        obtain ⟨v11, ev11⟩ := q_ev ((((l2 >>> ((((24 : Int32) - ((8 : Int32) * l4))).toInt64 &&& 63)) &&& (255 : Int64)).toInt32).toInt)
        obtain ⟨v12, ev12⟩ := q_ev (((l2 >>> ((((24 : Int32) - ((8 : Int32) * l4))).toInt64 &&& 63)) &&& (255 : Int64)).toInt)
        have f13 := q_andRVJ ev12 (show q_eqv ((255 : Int64)).toInt (255) by unfold q_eqv; decide) (by omega)
        have f14 : v11 = v12 := q_l2iV ev11 ev12 (by omega) (by omega)
        have hG := u_72_E (k := (l1 + l4).toNatClampNeg) (x := ((l2 >>> ((((24 : Int32) - ((8 : Int32) * l4))).toInt64 &&& 63)) &&& (255 : Int64)).toInt32) hG ma10 ra10 (by decide) (q_oV ev11 (by omega) (by omega))
        obtain ⟨v15, ev15⟩ := q_ev ((l4 + (1)).toInt)
        have f16 : v15 = l4.toInt + (1) := q_addVI ev15 q_evr (show q_eqv ((1 : Int32)).toInt (1) by unfold q_eqv; decide) (by omega) (by omega)
        exact ih _ _ _ _ hG (q_wd hl1 (by decide) (by decide)) (q_wd hl2 (by decide) (by decide)) (q_oV ev15 (by omega) (by omega))  (q_upV ev15 (by omega))
set_option maxHeartbeats 4000000 in
set_option maxRecDepth 100000 in
theorem s_X12_setFour_45 {ρ : Nat → Nat} {L : List Nat} {n : Nat} (hn : 18446744073709551616 ≤ n) {S : q_S} (hI : q_Inv ρ L S) {o : Nat} (mo : o ∈ L) (ro : ρ o = 45) {p0 : Int32} (hp0 : (0 ≤ p0.toInt ∧ p0.toInt ≤ 2500)) {p1 : Int64} (hp1 : (-2400 ≤ p1.toInt ∧ p1.toInt ≤ 4294967295)) : q_ok (m_X12_setFour n S o p0 p1) (fun _ T => q_G ρ L M_X12_setFour_45 S T) := by
  have hG : q_G ρ L M_X12_setFour_45 S S := q_G_refl hI
  unfold m_X12_setFour
  have z0 : (0 : Int32).toInt = 0 := rfl
  exact s_X12_setFour_45_3 hn mo ro (p0 := p0) (p1 := p1) n _ _ _ _ hG (q_wd hp0 (by decide) (by decide)) (q_wd hp1 (by decide) (by decide)) (q_wd (show (0 : Int) ≤ (0 : Int32).toInt ∧ (0 : Int32).toInt ≤ (0 : Int) by decide) (by decide) (by decide))  (q_upV (show q_eqv ((0 : Int32)).toInt (0) by unfold q_eqv; decide) (by omega))
