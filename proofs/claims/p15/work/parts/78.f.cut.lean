/-! VALUES: cut(), both sides: the least closed set -/
/-- h is a PART of k, and a SIGN -/
def p_P (S : q_S) (m fF fB fL : Nat) (k h : Nat) : Prop := p_of S m fF fB fL k h ∧ (h : Int) < v_sg S m fF fB fL
def p_cl (P : Nat → Nat → Prop) (C : Nat → Prop) : Prop := ∀ k h, k < 200 → h < 200 → C k → P k h → C h
section QCT
variable {ρ : Nat → Nat} {L M9 : List Nat} {n : Nat} {S T : q_S} {x wo ce tb en ab m fF fT fS fB fL sg dt tl tg uC oC us cs pf : Nat} {N : Int}
theorem p_P_un (hI : q_Inv ρ L S) (g : q_G ρ L M9 S T) (hA : v_Ad ρ L x wo ce tb en ab m fF fT fS fB fL) (h : v_fr9 M9 = true) : p_P T m fF fB fL = p_P S m fF fB fL := by
  obtain ⟨u1, -, -, u4, -, u6⟩ := z_un hI g hA h
  have hz : ∀ k, z_pl T m fF fB fL k = z_pl S m fF fB fL k := fun k => z_pl_un hI g hA h
  have hF : ∀ k, p_F T m fF fB fL k = p_F S m fF fB fL k := fun k => funext fun p => by unfold p_F; rw [hz, u4, u1]
  have hl : ∀ k, p_lim T m fF fB fL k = p_lim S m fF fB fL k := fun k => by unfold p_lim; rw [hz, hz, u4, u6]
  funext k h
  unfold p_P p_of p_is
  rw [hF, hl, hz, hz, v_sg_un hI g hA (by assumption)]
/-- what the Signs of the one side hold -/
def w_s (ρ : Nat → Nat) (L : List Nat) (wo m fF fB fL sg tl tg : Nat) (S : q_S) : Prop := q_I S sg 7 = (if z_tw S m fF fB fL (q_fd S m 1751474532).toInt 50 = 1 then 1 else 0) ∧ q_R S sg 8 = some tl ∧ v_is ρ L wo m fB fL S tl (q_fd S m 1819239265).toInt ∧ q_R S sg 9 = some tg ∧ v_is ρ L wo m fB fL S tg (q_fd S m 1735162214).toInt ∧ (q_I S sg 5).toInt = v_sg S m fF fB fL
def w_fr (M9 : List Nat) : Bool := v_fr9 M9 && (!M9.contains 583 && (!M9.contains 584 && (!M9.contains 585 && !M9.contains 581)))
theorem w_frE {M9 : List Nat} (h : w_fr M9 = true) : v_fr9 M9 = true ∧ M9.contains 583 = false ∧ M9.contains 584 = false ∧ M9.contains 585 = false ∧ M9.contains 581 = false := by
  unfold w_fr at h
  simp only [Bool.and_eq_true, Bool.not_eq_true'] at h
  exact h
theorem v_is_un (hI : q_Inv ρ L S) (g : q_G ρ L M9 S T) (hA : v_Ad ρ L x wo ce tb en ab m fF fT fS fB fL) (h : v_fr9 M9 = true) {t : Nat} {p : Int} (hi : v_is ρ L wo m fB fL S t p) : v_is ρ L wo m fB fL T t p := by
  obtain ⟨h8, h1, h2, h3⟩ := hi
  obtain ⟨-, -, -, -, u5, u6⟩ := z_un hI g hA h
  have f3 : ∀ k, q_I T fB k = q_I S fB k := fun k => q_unIA g hA.2.2.2.2.2.2.2.2.2.2.1.1 hA.2.2.2.2.2.2.2.2.2.2.1.2 (by decide) (v_fr9E h (z := 3136) (by decide))
  have es : v_st T m fB p = v_st S m fB p := by unfold v_st; rw [u5, f3]
  have e3 : q_I T t 3 = q_I S t 3 := q_unI (k := 3) g h8.1 h8.2 (v_fr9E h (z := 515) (by decide))
  have e4 : q_I T t 4 = q_I S t 4 := q_unI (k := 4) g h8.1 h8.2 (v_fr9E h (z := 516) (by decide))
  have ew : q_I T wo 1 = q_I S wo 1 := q_unI (k := 1) g hA.2.1.1 hA.2.1.2 (v_fr9E h (z := 65) (by decide))
  unfold v_is
  rw [e3, e4, ew, es, u6]
  exact ⟨h8, h1, h2, h3⟩
theorem w_s_un (hI : q_Inv ρ L S) (g : q_G ρ L M9 S T) (hA : v_Ad ρ L x wo ce tb en ab m fF fT fS fB fL) (hs : sg ∈ L ∧ ρ sg = 9) (h : w_fr M9 = true) (hw : w_s ρ L wo m fF fB fL sg tl tg S) : w_s ρ L wo m fF fB fL sg tl tg T := by
  obtain ⟨h1, h2, h3, h4, h5⟩ := w_frE h
  obtain ⟨w1, w2, w3, w4, w5, w6⟩ := hw
  obtain ⟨u1, -, -, u4, -, -⟩ := z_un hI g hA h1
  unfold w_s
  rw [q_unI (k := 7) g hs.1 hs.2 h2, q_unR (k := 8) g hs.1 hs.2 h3, q_unR (k := 9) g hs.1 hs.2 h4, q_unI (k := 5) g hs.1 hs.2 h5, u4, u4, u4, u1, v_sg_un hI g hA h1]
  exact ⟨w1, w2, v_is_un hI g hA h1 w3, w4, v_is_un hI g hA h1 w5, w6⟩
theorem c_use (hn : 18446744073709551616 ≤ n) (hI : q_Inv ρ L S) (hA : v_Ad ρ L x wo ce tb en ab m fF fT fS fB fL) (hR : v_Rl wo ce tb en ab m fF fT fS fB fL S) (hs : sg ∈ L ∧ ρ sg = 9) (hd : dt ∈ L ∧ ρ dt = 12) (hu : uC ∈ L ∧ ρ uC = 10) (ho : oC ∈ L ∧ ρ oC = 11) (hW : w_s ρ L wo m fF fB fL sg tl tg S) (hU : u_c S sg uC oC (v_sg S m fF fB fL)) (hcl : p_cl (p_P S m fF fB fL) (fun k => q_I S uC k ≠ 0)) {g : Int32} (hg : 0 ≤ g.toInt ∧ g.toInt < v_sg S m fF fB fL) : ∃ T, m_X6_use n S sg g = some ((), T) ∧ q_G ρ L M_X6_use_9 S T ∧ u_c T sg uC oC (v_sg S m fF fB fL) ∧ p_cl (p_P S m fF fB fL) (fun k => q_I T uC k ≠ 0) ∧ (∀ k : Nat, k < 200 → q_I S uC k ≠ 0 ∨ g.toInt = k → q_I T uC k ≠ 0) ∧ ∀ C : Nat → Prop, p_cl (p_P S m fF fB fL) C → (∀ k : Nat, k < 200 → q_I S uC k ≠ 0 ∨ g.toInt = k → C k) → ∀ k : Nat, k < 200 → q_I T uC k ≠ 0 → C k := by
  have hG : q_G ρ L M_X6_use_9 S S := q_G_refl hI
  have y200 : (200 : Int32).toInt = 200 := rfl
  have y1 : (1 : Int32).toInt = 1 := rfl
  have hsb := v_sg_b (S := S) (m := m) (fF := fF) (fB := fB) (fL := fL)
  have l3r : ∀ U, q_Inv ρ L U → q_R U sg 3 = some oC := fun U hU => v_ln hU (g_9_R3 (q_G_refl (m := []) hU) hs.1 hs.2) ho rfl
  obtain ⟨T1, e1, g1, m2, m3, m4, m5⟩ := c_mark (n := n) (h := g) hI hs hu ho hW.2.2.2.2.2 hsb.2 hU
  have G1 := q_G_call hG g1 (by decide)
  have b4 := g_9_I4 hG hs.1 hs.2
  have loop : ∀ (j k : Nat) (U : q_S) (l3 : Int32), q_G ρ L M_X6_use_9 S U → u_c U sg uC oC (v_sg S m fF fB fL) → 0 ≤ l3.toInt → j = (200 - l3.toInt).toNat → j < k → (∀ i : Nat, (i : Int) < l3.toInt → (i : Int) < (q_I U sg 4).toInt → ∀ h, h < 200 → p_P S m fF fB fL (q_I U oC i).toInt.toNat h → q_I U uC h ≠ 0) → (∀ k : Nat, k < 200 → q_I S uC k ≠ 0 ∨ g.toInt = k → q_I U uC k ≠ 0) → (∀ C : Nat → Prop, p_cl (p_P S m fF fB fL) C → (∀ k : Nat, k < 200 → q_I S uC k ≠ 0 ∨ g.toInt = k → C k) → ∀ k : Nat, k < 200 → q_I U uC k ≠ 0 → C k) → ∃ T, m_X6_use_12 n k U (some sg) l3 = some ((), T) ∧ q_G ρ L M_X6_use_9 S T ∧ u_c T sg uC oC (v_sg S m fF fB fL) ∧ p_cl (p_P S m fF fB fL) (fun k => q_I T uC k ≠ 0) ∧ (∀ k : Nat, k < 200 → q_I S uC k ≠ 0 ∨ g.toInt = k → q_I T uC k ≠ 0) ∧ ∀ C : Nat → Prop, p_cl (p_P S m fF fB fL) C → (∀ k : Nat, k < 200 → q_I S uC k ≠ 0 ∨ g.toInt = k → C k) → ∀ k : Nat, k < 200 → q_I T uC k ≠ 0 → C k := by
    have stop : ∀ (U : q_S) (l3 : Int32), u_c U sg uC oC (v_sg S m fF fB fL) → (q_I U sg 4).toInt ≤ l3.toInt → (∀ i : Nat, (i : Int) < l3.toInt → (i : Int) < (q_I U sg 4).toInt → ∀ h, h < 200 → p_P S m fF fB fL (q_I U oC i).toInt.toNat h → q_I U uC h ≠ 0) → p_cl (p_P S m fF fB fL) (fun k => q_I U uC k ≠ 0) := by
      intro U l3 hUu hle hpr k h hk hh hku hP
      obtain ⟨i, hi, hi2⟩ := hUu.2.2.2 k hk hku
      have := hpr i (by omega) hi h hh
      rw [hi2] at this
      exact this hP
    intro j
    induction j with
    | zero =>
      intro k U l3 gU hUu h3 hj hk hpr hmo hmi
      obtain ⟨k, rfl⟩ : ∃ k', k = k' + 1 := ⟨k - 1, by omega⟩
      have b4U := g_9_I4 gU hs.1 hs.2
      have hcl2 := stop U l3 hUu (by omega) hpr
      rw [m_X6_use_12, q_at_pos (k_s gU.1 hs)]
      unfold m_X6_use_43
      by_cases g2 : q_I U sg 4 ≤ l3
      · rw [if_pos g2]; exact ⟨U, rfl, gU, hUu, hcl2, hmo, hmi⟩
      · rw [if_neg g2, if_pos (i_le.mpr (by rw [y200]; omega))]; exact ⟨U, rfl, gU, hUu, hcl2, hmo, hmi⟩
    | succ j ih =>
      intro k U l3 gU hUu h3 hj hk hpr hmo hmi
      obtain ⟨k, rfl⟩ : ∃ k', k = k' + 1 := ⟨k - 1, by omega⟩
      have b4U := g_9_I4 gU hs.1 hs.2
      rw [m_X6_use_12, q_at_pos (k_s gU.1 hs)]
      unfold m_X6_use_43
      by_cases g2 : (q_I U sg 4).toInt ≤ l3.toInt
      · rw [if_pos (i_le.mpr g2)]; exact ⟨U, rfl, gU, hUu, stop U l3 hUu g2 hpr, hmo, hmi⟩
      rw [if_neg (fun h => g2 (i_le.mp h)), if_neg (fun h => by have := i_le.mp h; rw [y200] at this; omega), l3r _ gU.1, q_at_pos (v_at (c := 100) gU.1 ho rfl), q_if_pos (q_inI (g_11_N gU ho.1 ho.2) h3 (by omega)), v_cl (i := l3) rfl]
      have bo := g_11_E gU ho.1 ho.2 (k := l3.toInt.toNat)
      have W := w_s_un hI gU hA hs (by decide) hW
      have hsgU : v_sg U m fF fB fL = v_sg S m fF fB fL := v_sg_un hI gU hA (by decide)
      have hPU : p_P U m fF fB fL = p_P S m fF fB fL := p_P_un hI gU hA (by decide)
      obtain ⟨V, eV, q1, q2, q3, q4, q5⟩ := c_parts (k := q_I U oC l3.toInt.toNat) (N := v_sg S m fF fB fL) gU.1 hA (v_RlU hA gU (by decide) hR) hs hd hu ho W.1 W.2.1 W.2.2.1 W.2.2.2.1 W.2.2.2.2.1 (by rw [W.2.2.2.2.2, hsgU]) hsb.2 hUu hn bo
      have gV := q_G_call gU q1 (by decide)
      rw [eV, q_b_some]
      have el : (l3 + 1).toInt = l3.toInt + 1 := by rw [q_addI (by rw [y1]; omega) (by rw [y1]; omega), y1]
      have hqP : ∀ h : Nat, (p_of U m fF fB fL (q_I U oC l3.toInt.toNat).toInt h ∧ (h : Int) < v_sg S m fF fB fL) ↔ p_P S m fF fB fL (q_I U oC l3.toInt.toNat).toInt.toNat h := fun h => by
        rw [← hPU]
        unfold p_P
        rw [hsgU, show (((q_I U oC l3.toInt.toNat).toInt.toNat : Nat) : Int) = (q_I U oC l3.toInt.toNat).toInt by omega]
      refine ih k V (l3 + 1) gV q2 (by omega) (by omega) (by omega) (fun i hi hi2 h hh hP => ?_) (fun k hk2 h => (q3 k hk2).mpr (Or.inl (hmo k hk2 h))) (fun C hC hC2 k hk2 h => ?_)
      · by_cases e : i = l3.toInt.toNat
        · subst e
          rw [q5 _ (by omega)] at hP
          exact (q3 h hh).mpr (Or.inr ((hqP h).mpr hP))
        · have h5 : (i : Int) < l3.toInt := by omega
          rw [q5 i (by omega)] at hP
          exact (q3 h hh).mpr (Or.inl (hpr i h5 (by omega) h hh hP))
      · rcases (q3 k hk2).mp h with h5 | h5
        · exact hmi C hC hC2 k hk2 h5
        · have hu2 := hUu.2.2.1 l3.toInt.toNat (by omega)
          exact hC (q_I U oC l3.toInt.toNat).toInt.toNat k (by omega) hk2 (hmi C hC hC2 _ (by omega) hu2) ((hqP k).mp h5)
  have h1 : ∀ i : Nat, (i : Int) < (q_I S sg 4).toInt → (i : Int) < (q_I T1 sg 4).toInt → ∀ h, h < 200 → p_P S m fF fB fL (q_I T1 oC i).toInt.toNat h → q_I T1 uC h ≠ 0 := fun i hi hi2 h hh hP => by
    rw [m5 i hi] at hP
    have bo := g_11_E hG ho.1 ho.2 (k := i)
    exact (m3 h hh).mpr (Or.inl (hcl _ h (by omega) hh (hU.2.2.1 i hi) hP))
  have h2 : ∀ C : Nat → Prop, p_cl (p_P S m fF fB fL) C → (∀ k : Nat, k < 200 → q_I S uC k ≠ 0 ∨ g.toInt = k → C k) → ∀ k : Nat, k < 200 → q_I T1 uC k ≠ 0 → C k := fun C hC hC2 k hk h => by
    rcases (m3 k hk).mp h with h2 | h2
    · exact hC2 k hk (Or.inl h2)
    · exact hC2 k hk (Or.inr h2.1)
  obtain ⟨T, eT, r⟩ := loop (200 - (q_I S sg 4).toInt).toNat n T1 (q_I S sg 4) G1 m2 b4.1 rfl (by omega) h1 (fun k hk h => (m3 k hk).mpr (h.elim Or.inl (fun h2 => Or.inr ⟨h2, by omega⟩))) h2
  refine ⟨T, ?_, r⟩
  unfold m_X6_use
  rw [q_at_pos (k_s hI hs), e1, q_b_some]
  exact eT
/-! the reference -/
theorem r_cut (hn : 18446744073709551616 ≤ n) (hI : q_Inv ρ L S) (hA : v_Ad ρ L x wo ce tb en ab m fF fT fS fB fL) (hus : us ∈ L ∧ ρ us = 51) (h50 : 0 ≤ z_tw S m fF fB fL (q_fd S m 1751474532).toInt 50) {g : Int32} (hg : 0 ≤ g.toInt ∧ g.toInt < v_sg S m fF fB fL) : ∃ (r : Int32) (T : q_S), m_X12_cut n S m g = some (r, T) ∧ q_G ρ L M_X12_cut_45 S T ∧ p_cl (p_P S m fF fB fL) (fun k => q_I T us k ≠ 0) ∧ (∀ k : Nat, k < 200 → q_I S us k ≠ 0 ∨ g.toInt = k → q_I T us k ≠ 0) ∧ ∀ C : Nat → Prop, p_cl (p_P S m fF fB fL) C → (∀ k : Nat, k < 200 → q_I S us k ≠ 0 ∨ g.toInt = k → C k) → ∀ k : Nat, k < 200 → q_I T us k ≠ 0 → C k := by
  have hm := hA.2.2.2.2.2.2.1
  have y200 : (200 : Int32).toInt = 200 := rfl
  have y1 : (1 : Int32).toInt = 1 := rfl
  have hG : q_G ρ L M_X12_cut_45 S S := q_G_refl hI
  have hsb := v_sg_b (S := S) (m := m) (fF := fF) (fB := fB) (fL := fL)
  have l9 : ∀ U, q_Inv ρ L U → q_R U m 9 = some us := fun U hU => v_ln hU (g_45_R9 (q_G_refl (m := []) hU) hm.1 hm.2) hus rfl
  obtain ⟨r, T, e, gT⟩ := s_X12_cut_45 hn hI hm.1 hm.2 (p0 := g)
  refine ⟨r, T, e, gT, ?_⟩
  -- from a store U on
  have inv2 : ∀ (P : q_S → Prop), P = (fun U => q_G ρ L M_X12_cut_45 S U ∧ (∀ k : Nat, k < 200 → q_I S us k ≠ 0 ∨ g.toInt = k → q_I U us k ≠ 0) ∧ ∀ C : Nat → Prop, p_cl (p_P S m fF fB fL) C → (∀ k : Nat, k < 200 → q_I S us k ≠ 0 ∨ g.toInt = k → C k) → ∀ k : Nat, k < 200 → q_I U us k ≠ 0 → C k) → ∀ (k : Nat) (U : q_S) (l2 : Int32), P U → (l2 = 0 → p_cl (p_P S m fF fB fL) (fun k => q_I U us k ≠ 0)) → m_X12_cut_24 n k U (some m) l2 = some (r, T) → p_cl (p_P S m fF fB fL) (fun k => q_I T us k ≠ 0) ∧ P T := by
    intro P hP k
    induction k with
    | zero => intro U l2 hU hl h; rw [m_X12_cut_24] at h; cases h
    | succ k ih =>
      intro U l2 hU hl h
      rw [m_X12_cut_24] at h
      have hU' := hU
      rw [hP] at hU'
      by_cases g0 : l2 = 0
      · rw [if_pos g0, q_at_pos (k_m hU'.1.1 hm)] at h
        obtain ⟨r3, T3, e3, g3⟩ := s_X12_count_45 hn hU'.1.1 hm.1 hm.2 (p0 := 2)
        rw [e3, q_b_some] at h
        cases h
        have eu : ∀ k, q_I T us k = q_I U us k := fun k => q_unIA g3 hus.1 hus.2 (by decide) (by decide)
        refine ⟨fun k h hk hh hku hPk => ?_, ?_⟩
        · show q_I T us h ≠ 0
          rw [eu]
          exact hl g0 k h hk hh (by show q_I U us k ≠ 0; rw [← eu]; exact hku) hPk
        · rw [hP]
          exact ⟨q_G_call hU'.1 g3 (by decide), fun k hk h => by rw [eu]; exact hU'.2.1 k hk h, fun C hC hC2 k hk h => hU'.2.2 C hC hC2 k hk (by rw [← eu]; exact h)⟩
      · rw [if_neg g0] at h
        -- one pass
        have pass : ∀ (q : Nat) (V : q_S) (l2 l3 : Int32), P V → 0 ≤ l3.toInt → l3.toInt ≤ 200 → (l2 = 0 → ∀ k h : Nat, (k : Int) < l3.toInt → k < 200 → h < 200 → q_I V us k ≠ 0 → p_P S m fF fB fL k h → q_I V us h ≠ 0) → m_X12_cut_32 n (m_X12_cut_24 n k) q V (some m) l2 l3 = some (r, T) → p_cl (p_P S m fF fB fL) (fun k => q_I T us k ≠ 0) ∧ P T := by
          intro q
          induction q with
          | zero => intro V l2 l3 hV h3 h32 hpa h; rw [m_X12_cut_32] at h; cases h
          | succ q ihq =>
            intro V l2 l3 hV h3 h32 hpa h
            rw [m_X12_cut_32] at h
            have hV' := hV
            rw [hP] at hV'
            by_cases g2 : 200 ≤ l3.toInt
            · rw [if_pos (i_le.mpr (by rw [y200]; exact g2))] at h
              exact ih V l2 hV (fun h0 k h hk hh hku hPk => hpa h0 k h (by omega) hk hh hku hPk) h
            have el : (l3 + 1).toInt = l3.toInt + 1 := by rw [q_addI (by rw [y1]; omega) (by rw [y1]; omega), y1]
            rw [if_neg (fun h => g2 (by have := i_le.mp h; rw [y200] at this; exact this)), q_at_pos (k_m hV'.1.1 hm), l9 _ hV'.1.1, q_at_pos (v_at (c := 102) hV'.1.1 hus rfl), q_if_pos (q_inI (g_51_N hV'.1 hus.1 hus.2) h3 (by omega)), v_cl (i := l3) rfl] at h
            by_cases g3 : q_I V us l3.toInt.toNat = 0
            · rw [if_pos g3] at h
              unfold m_X12_cut_56 m_X12_cut_60 m_X12_cut_65 at h
              have hpa2 : l2 = 0 → ∀ k h : Nat, (k : Int) < (l3 + 1).toInt → k < 200 → h < 200 → q_I V us k ≠ 0 → p_P S m fF fB fL k h → q_I V us h ≠ 0 := fun h0 k h hk1 hk hh hku hPk => by
                by_cases e : k = l3.toInt.toNat
                · rw [e] at hku; exact absurd g3 hku
                · exact hpa h0 k h (by omega) hk hh hku hPk
              by_cases g4 : l2 = 0
              · rw [if_pos g4] at h
                exact ihq V 0 (l3 + 1) hV (by omega) (by omega) (fun _ => hpa2 g4) h
              · rw [if_neg g4] at h
                exact ihq V 1 (l3 + 1) hV (by omega) (by omega) (fun h0 => absurd h0 (by decide)) h
            · rw [if_neg g3] at h
              obtain ⟨z1, -, -, z4, -, -⟩ := z_un hI hV'.1 hA (by decide)
              have hsgV : v_sg V m fF fB fL = v_sg S m fF fB fL := v_sg_un hI hV'.1 hA (by decide)
              have hPV : p_P V m fF fB fL = p_P S m fF fB fL := p_P_un hI hV'.1 hA (by decide)
              obtain ⟨r6, V7, e6, q1, q2, q3, q4⟩ := r_parts (k := l3) hn hV'.1.1 hA hus (by rw [z1, z4]; exact h50) (by rw [hsgV]; omega) ⟨h3, by omega⟩
              have hqP : ∀ h : Nat, (p_of V m fF fB fL l3.toInt h ∧ (h : Int) < v_sg V m fF fB fL) ↔ p_P S m fF fB fL l3.toInt.toNat h := fun h => by
                rw [← hPV]
                unfold p_P
                rw [show ((l3.toInt.toNat : Nat) : Int) = l3.toInt by omega]
              rw [e6, q_b_some] at h
              have hV7 : P V7 := by
                rw [hP]
                refine ⟨q_G_call hV'.1 q1 (by decide), fun k hk h => (q3 k hk).mpr (Or.inl (hV'.2.1 k hk h)), fun C hC hC2 k hk h => ?_⟩
                rcases (q3 k hk).mp h with h5 | h5
                · exact hV'.2.2 C hC hC2 k hk h5
                · exact hC l3.toInt.toNat k (by omega) hk (hV'.2.2 C hC hC2 _ (by omega) g3) ((hqP k).mp h5)
              unfold m_X12_cut_56 m_X12_cut_60 m_X12_cut_65 at h
              by_cases g5 : r6 = 0
              · rw [if_pos g5] at h
                have hall := q4.mp g5
                have same : ∀ k : Nat, k < 200 → (q_I V7 us k ≠ 0 ↔ q_I V us k ≠ 0) := fun k hk => by
                  rw [q3 k hk]
                  exact ⟨fun h => h.elim id (fun h2 => hall k hk h2.1 h2.2), Or.inl⟩
                by_cases g4 : l2 = 0
                · rw [if_pos g4] at h
                  refine ihq V7 0 (l3 + 1) hV7 (by omega) (by omega) (fun _ k h hk1 hk hh hku hPk => ?_) h
                  rw [same k hk] at hku
                  rw [same h hh]
                  by_cases e : k = l3.toInt.toNat
                  · rw [e] at hPk
                    have := (hqP h).mpr hPk
                    exact hall h hh this.1 this.2
                  · exact hpa g4 k h (by omega) hk hh hku hPk
                · rw [if_neg g4] at h
                  exact ihq V7 1 (l3 + 1) hV7 (by omega) (by omega) (fun h0 => absurd h0 (by decide)) h
              · rw [if_neg g5] at h
                exact ihq V7 1 (l3 + 1) hV7 (by omega) (by omega) (fun h0 => absurd h0 (by decide)) h
        exact pass n U 0 0 hU (by decide) (by decide) (fun _ k h hk => by have : (0 : Int32).toInt = 0 := rfl; omega) h
  have inv := inv2 _ rfl
  have hG0 := u_45_I0 (x := 0) hG hm.1 hm.2 (by decide) ⟨by decide, by decide⟩
  obtain ⟨T2, e2, g2, -⟩ := r_isS (p := g) hn hG0.1 hA
  rw [v_sg_un hI hG0 hA (by decide), if_pos hg] at e2
  have G2 := q_G_call hG0 g2 (by decide)
  unfold m_X12_cut at e
  rw [q_at_pos (k_m hI hm), e2, q_b_some, if_neg (by decide), q_at_pos (k_m g2.1 hm), l9 _ g2.1, q_at_pos (v_at (c := 102) g2.1 hus rfl), q_if_pos (q_inI (g_51_N G2 hus.1 hus.2) hg.1 (by omega)), v_cl (i := g) rfl] at e
  have G3 := u_51_E (k := g.toInt.toNat) (x := vp_nar .boolean 1) G2 hus.1 hus.2 (by decide) ⟨by decide, by decide⟩
  have eu : ∀ k, q_I T2 us k = q_I S us k := fun k => by rw [q_unIA g2 hus.1 hus.2 (by decide) (by decide), q_fwI hus.2 hm.2 (by decide)]
  have hu3 : ∀ k : Nat, k < 200 → (q_I (q_sI T2 us g.toInt.toNat (vp_nar .boolean 1)) us k ≠ 0 ↔ q_I S us k ≠ 0 ∨ g.toInt = k) := fun k hk => by
    by_cases e9 : k = g.toInt.toNat
    · rw [e9, q_hitI]; exact ⟨fun _ => Or.inr (by omega), fun _ => by decide⟩
    · rw [q_ffI e9, eu]; exact ⟨Or.inl, fun h => h.elim id (fun h2 => by omega)⟩
  obtain ⟨i1, i2⟩ := inv n _ 1 ⟨G3, fun k hk h => (hu3 k hk).mpr h, fun C hC hC2 k hk h => hC2 k hk ((hu3 k hk).mp h)⟩ (fun h => absurd h (by decide)) e
  exact ⟨i1, i2.2.1, i2.2.2⟩
end QCT
