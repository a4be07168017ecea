/-! VALUES: write(), the other side's answer -/
section QRW
variable {ρ : Nat → Nat} {L M9 : List Nat} {n : Nat} {S S0 T : q_S} {x wo ce tb en ab m fF fT fS fB fL us oR : Nat}
theorem q_rdZ {c l2 : Int32} {z : Int} (hc : c.toInt = z) (hz : 0 ≤ z ∧ z ≤ 100) (h1 : 0 ≤ l2.toInt) (h2 : l2.toInt ≤ 23) : (c + ((16 : Int32) * l2)).toInt = z + 16 * l2.toInt := by
  have y16 : (16 : Int32).toInt = 16 := rfl
  have e : ((16 : Int32) * l2).toInt = 16 * l2.toInt := q_mulLI y16 (by omega) (by omega)
  rw [q_addI (by omega) (by omega), hc, e]
theorem r_339 (hn : 18446744073709551616 ≤ n) (hI : q_Inv ρ L S) (hA : v_Ad ρ L x wo ce tb en ab m fF fT fS fB fL) {k205 : q_S → Option Nat → Int32 → Int32 → Int32 → Int32 → Int32 → Option (Int32 × q_S)} {l1 l2 l4 l5 l6 l7 l8 : Int32} (h5 : 0 ≤ l5.toInt ∧ l5.toInt ≤ 2408) (h6 : 0 ≤ l6.toInt ∧ l6.toInt ≤ 23) (h7 : 0 ≤ l7.toInt ∧ l7.toInt ≤ 23) (h8 : 0 ≤ l8.toInt ∧ l8.toInt ≤ 2400) : ∃ (T : q_S) (l9 : Int32), m_X12_write_339 n k205 S (some m) l1 l2 l4 l5 l6 l7 l8 = k205 T (some m) l1 l2 l4 l9 (l6 + 1) ∧ q_G ρ L M_X12_setFour_45 S T ∧ (0 ≤ l9.toInt ∧ l9.toInt ≤ 2408) := by
  have hm := hA.2.2.2.2.2.2.1
  have hT := hA.2.2.2.2.2.2.2.2.1
  have hG : q_G ρ L M_X12_setFour_45 S S := q_G_refl hI
  have y8 : (8 : Int32).toInt = 8 := rfl
  have p12 := q_rdZ (c := 12) (z := 12) rfl ⟨by decide, by decide⟩ h6.1 h6.2
  have p16 := q_rdZ (c := 16) (z := 16) rfl ⟨by decide, by decide⟩ h6.1 h6.2
  have p20 := q_rdZ (c := 20) (z := 20) rfl ⟨by decide, by decide⟩ h6.1 h6.2
  have p24 := q_rdZ (c := 24) (z := 24) rfl ⟨by decide, by decide⟩ h6.1 h6.2
  have bt := g_47_E hG hT.1 hT.2 (k := l7.toNatClampNeg)
  obtain ⟨_, T1, e1, g1⟩ := s_X12_setFour_45 hn hI hm.1 hm.2 (p0 := (12 : Int32) + ((16 : Int32) * l6)) ⟨by omega, by omega⟩ (p1 := q_J S fT l7.toNatClampNeg) ⟨by omega, by omega⟩
  have b1 := g_45_I38 g1 hm.1 hm.2
  obtain ⟨r2, T2, e2, eT2, b2⟩ := s_X12_sumWritten_45 hn g1.1 hm.1 hm.2 (p0 := l8) h8 (p1 := q_I T1 m 38) b1
  subst eT2
  obtain ⟨_, T3, e3, g3⟩ := s_X12_setFour_45 hn g1.1 hm.1 hm.2 (p0 := (16 : Int32) + ((16 : Int32) * l6)) ⟨by omega, by omega⟩ (p1 := r2) ⟨by omega, by omega⟩
  have G3 := q_G_call g1 g3 (by decide)
  obtain ⟨_, T4, e4, g4⟩ := s_X12_setFour_45 hn g3.1 hm.1 hm.2 (p0 := (20 : Int32) + ((16 : Int32) * l6)) ⟨by omega, by omega⟩ (p1 := l8.toInt64) ⟨by rw [q_wil]; omega, by rw [q_wil]; omega⟩
  have G4 := q_G_call G3 g4 (by decide)
  have b4 := g_45_I38 g4 hm.1 hm.2
  have ed : ((q_I T4 m 38) - l8).toInt = (q_I T4 m 38).toInt - l8.toInt := q_subI (by omega) (by omega)
  obtain ⟨_, T5, e5, g5⟩ := s_X12_setFour_45 hn g4.1 hm.1 hm.2 (p0 := (24 : Int32) + ((16 : Int32) * l6)) ⟨by omega, by omega⟩ (p1 := ((q_I T4 m 38) - l8).toInt64) ⟨by rw [q_wil]; omega, by rw [q_wil]; omega⟩
  have G5 := q_G_call G4 g5 (by decide)
  have tail : ∀ s0, m_X12_write_355 n k205 S (some m) l1 l2 l4 l6 l7 l8 s0 = k205 T5 (some m) l1 l2 l4 s0 (l6 + 1) := fun s0 => by
    unfold m_X12_write_355
    rw [q_at_pos (k_m hI hm), v_m4 hI hm hT, q_at_pos (k_T hI hT), q_if_pos (q_inI (g_47_N hG hT.1 hT.2) (by omega) (by omega)), e1, q_b_some, q_at_pos (k_m g1.1 hm), e2, q_b_some, q_at_pos (k_m g1.1 hm), e3, q_b_some, q_at_pos (k_m g3.1 hm), e4, q_b_some, q_at_pos (k_m g4.1 hm), e5, q_b_some]
  unfold m_X12_write_339
  by_cases g : l7 = l1
  · rw [if_pos g]
    exact ⟨T5, _, tail _, G5, by rw [q_addI (by rw [y8]; omega) (by rw [y8]; omega), y8]; omega⟩
  · rw [if_neg g]
    exact ⟨T5, _, tail _, G5, h5⟩
theorem r_278 (hn : 18446744073709551616 ≤ n) (hI : q_Inv ρ L S) (hA : v_Ad ρ L x wo ce tb en ab m fF fT fS fB fL) (hR : v_Rl wo ce tb en ab m fF fT fS fB fL S) {k205 : q_S → Option Nat → Int32 → Int32 → Int32 → Int32 → Int32 → Option (Int32 × q_S)} {l1 l2 l4 l5 l6 l7 l8 : Int32} (h7 : 0 ≤ l7.toInt ∧ l7.toInt < (q_I S m 3).toInt) : ∀ (j q : Nat) (U : q_S) (l9 : Int32) (u : Int), q_G ρ L M_X12_put_45 S U → 0 ≤ l9.toInt → l9.toInt + j = v_len S m fL l7.toInt → j < q → r_at U m u → ∃ T, m_X12_write_278 n k205 q U (some m) l1 l2 l4 l5 l6 l7 l8 l9 = m_X12_write_339 n k205 T (some m) l1 l2 l4 l5 l6 l7 l8 ∧ q_G ρ L M_X12_put_45 S T ∧ r_at T m (u + j) := by
  have hm := hA.2.2.2.2.2.2.1
  have hF := hA.2.2.2.2.2.2.2.1
  have hB := hA.2.2.2.2.2.2.2.2.2.2.1
  have hL := hA.2.2.2.2.2.2.2.2.2.2.2
  have hG0 : q_G ρ L [] S S := q_G_refl hI
  have b3 := g_45_I3 hG0 hm.1 hm.2
  have b2 := g_45_I2 hG0 hm.1 hm.2
  have y1 : (1 : Int32).toInt = 1 := rfl
  have hst := (hR.2.2.2.1 l7.toInt.toNat (by omega)).2
  have hlen : v_len S m fL l7.toInt = (q_I S fL l7.toInt.toNat).toInt := by unfold v_len; rw [if_pos h7]
  have bB := g_49_E hG0 hB.1 hB.2 (k := l7.toInt.toNat)
  have bL := g_50_E hG0 hL.1 hL.2 (k := l7.toInt.toNat)
  intro j
  induction j with
  | zero =>
    intro q U l9 u gU h9 hj hq hu
    obtain ⟨q, rfl⟩ : ∃ k', q = k' + 1 := ⟨q - 1, by omega⟩
    have eL : q_I U fL l7.toNatClampNeg = q_I S fL l7.toInt.toNat := by rw [q_unIA gU hL.1 hL.2 (by decide) (by decide), v_cl (i := l7) rfl]
    rw [m_X12_write_278, q_at_pos (k_m gU.1 hm), v_m7 gU.1 hm hL, q_at_pos (k_L gU.1 hL), q_if_pos (q_inI (g_50_N gU hL.1 hL.2) (by omega) (by omega)), eL, if_pos (i_le.mpr (by omega))]
    exact ⟨U, rfl, gU, by simpa using hu⟩
  | succ j ih =>
    intro q U l9 u gU h9 hj hq hu
    obtain ⟨q, rfl⟩ : ∃ k', q = k' + 1 := ⟨q - 1, by omega⟩
    have eL : q_I U fL l7.toNatClampNeg = q_I S fL l7.toInt.toNat := by rw [q_unIA gU hL.1 hL.2 (by decide) (by decide), v_cl (i := l7) rfl]
    have eBv : q_I U fB l7.toNatClampNeg = q_I S fB l7.toInt.toNat := by rw [q_unIA gU hB.1 hB.2 (by decide) (by decide), v_cl (i := l7) rfl]
    have ea : ((q_I S fB l7.toInt.toNat) + l9).toInt = (q_I S fB l7.toInt.toNat).toInt + l9.toInt := q_addI (by omega) (by omega)
    have el : (l9 + 1).toInt = l9.toInt + 1 := by rw [q_addI (by rw [y1]; omega) (by rw [y1]; omega), y1]
    have step : ∀ b : Int32, 0 ≤ b.toInt ∧ b.toInt ≤ 255 → ∃ T, m_X12_write_330 n k205 (m_X12_write_278 n k205 q) U (some m) l1 l2 l4 l5 l6 l7 l8 l9 b (some m) = m_X12_write_339 n k205 T (some m) l1 l2 l4 l5 l6 l7 l8 ∧ q_G ρ L M_X12_put_45 S T ∧ r_at T m (u + ((j + 1 : Nat) : Int)) := by
      intro b hb
      obtain ⟨T1, e1, g1, a1⟩ := r_put (n := n) (b := b) gU.1 hm hu hb
      obtain ⟨T, e, g, a⟩ := ih q T1 (l9 + 1) (u + 1) (q_G_call gU g1 (by decide)) (by omega) (by omega) (by omega) a1
      unfold m_X12_write_330
      rw [q_at_pos (k_m gU.1 hm), e1, q_b_some]
      exact ⟨T, e, g, by rw [show u + ((j + 1 : Nat) : Int) = u + 1 + j by omega]; exact a⟩
    have st2 : ∃ T, m_X12_write_315 n k205 (m_X12_write_278 n k205 q) U (some m) l1 l2 l4 l5 l6 l7 l8 l9 (some m) = m_X12_write_339 n k205 T (some m) l1 l2 l4 l5 l6 l7 l8 ∧ q_G ρ L M_X12_put_45 S T ∧ r_at T m (u + ((j + 1 : Nat) : Int)) := by
      unfold m_X12_write_315
      rw [q_at_pos (k_m gU.1 hm), v_m6 gU.1 hm hB, q_at_pos (k_B gU.1 hB), q_if_pos (q_inI (g_49_N gU hB.1 hB.2) (by omega) (by omega)), v_m1 gU.1 hm hF, q_at_pos (k_F gU.1 hF), eBv, q_if_pos (q_inI (g_46_N gU hF.1 hF.2) (by omega) (by omega))]
      exact step _ (g_46_E gU hF.1 hF.2)
    rw [m_X12_write_278, q_at_pos (k_m gU.1 hm), v_m7 gU.1 hm hL, q_at_pos (k_L gU.1 hL), q_if_pos (q_inI (g_50_N gU hL.1 hL.2) (by omega) (by omega)), eL, if_neg (fun h => by have := i_le.mp h; omega)]
    by_cases g1 : l7 = l1
    · rw [if_pos g1]
      by_cases g2 : l9 < (8 : Int32)
      · rw [if_pos g2]; exact st2
      · rw [if_neg g2]
        by_cases g3 : (12 : Int32) ≤ l9
        · rw [if_pos g3]; exact st2
        · rw [if_neg g3]; exact step 0 ⟨by decide, by decide⟩
    · rw [if_neg g1]; exact st2
/-- where the new file stands after i TABLES (z: with the padding of the last) -/
def r_P (v z : Int) : Prop := 0 ≤ v ∧ z % 4 = 0 ∧ (v ≤ 2400 → s_pad v = z) ∧ (2400 < v → 2400 < z)
theorem r_P_step {v z k : Int} (h : r_P v z) (hk : 0 ≤ k) : r_P (r_ev v + k) (z + s_pad k) := by
  obtain ⟨h0, h1, h2, h3⟩ := h
  unfold r_P r_ev
  by_cases g : v ≤ 2400
  · rw [if_pos g, h2 g]
    have h4 := h2 g
    unfold s_pad at *
    refine ⟨by omega, by omega, fun _ => by omega, fun _ => by omega⟩
  · rw [if_neg g]
    have h4 := h3 (by omega)
    unfold s_pad at *
    refine ⟨by omega, by omega, fun _ => by omega, fun _ => by omega⟩
theorem r_205 (hn : 18446744073709551616 ≤ n) (hI : q_Inv ρ L S) (hA : v_Ad ρ L x wo ce tb en ab m fF fT fS fB fL) (hR : v_Rl wo ce tb en ab m fF fT fS fB fL S) (hus : us ∈ L ∧ ρ us = 51) (hoR : oR ∈ L ∧ ρ oR = 73) (h50 : 0 ≤ z_tw S m fF fB fL (q_fd S m 1751474532).toInt 50) (hgl : 0 ≤ (q_fd S m 1735162214).toInt) {l1 l2 l4 : Int32} (h2 : l2.toInt = v_sg S m fF fB fL) (h4 : (l4 = 0 ∧ s_wd S m fF fB fL = 2) ∨ (l4 ≠ 0 ∧ s_wd S m fF fB fL = 4)) (ho : ∀ j : Nat, (j : Int) < (q_I S m 3).toInt → (q_I S oR j).toInt < (q_I S m 3).toInt) {v0 : Int} (hv0 : r_at S m v0) (hP0 : r_P v0 (12 + 16 * (q_I S m 3).toInt)) : ∃ (r : Int32) (T : q_S), m_X12_write_205 n n S (some m) l1 l2 l4 0 0 = some (r, T) ∧ q_G ρ L M_X12_putGlyf_45 S T ∧ (12 + 16 * (q_I S m 3).toInt + s_sum (fun j => s_pad (s_len S m fF fB fL us (q_I S oR j).toInt.toNat)) (q_I S m 3).toInt.toNat ≤ 2400 → r.toInt = 12 + 16 * (q_I S m 3).toInt + s_sum (fun j => s_pad (s_len S m fF fB fL us (q_I S oR j).toInt.toNat)) (q_I S m 3).toInt.toNat) ∧ (2400 < 12 + 16 * (q_I S m 3).toInt + s_sum (fun j => s_pad (s_len S m fF fB fL us (q_I S oR j).toInt.toNat)) (q_I S m 3).toInt.toNat → r = -1) := by
  have hm := hA.2.2.2.2.2.2.1
  have hT := hA.2.2.2.2.2.2.2.2.1
  have hL := hA.2.2.2.2.2.2.2.2.2.2.2
  have hG0 : q_G ρ L [] S S := q_G_refl hI
  have b3 := g_45_I3 hG0 hm.1 hm.2
  have y1 : (1 : Int32).toInt = 1 := rfl
  have hsb := v_sg_b (S := S) (m := m) (fF := fF) (fB := fB) (fL := fL)
  have e40 : ∀ U, q_Inv ρ L U → q_R U m 40 = some oR := fun U hU => v_ln hU (g_45_R40 (q_G_refl (m := []) hU) hm.1 hm.2) hoR rfl
  have e3 : ∀ U, q_G ρ L M_X12_putGlyf_45 S U → q_I U m 3 = q_I S m 3 := fun U g => q_unI g hm.1 hm.2 (by decide)
  have loop : ∀ (j q i : Nat) (U : q_S) (l5 l6 : Int32) (u : Int), q_G ρ L M_X12_putGlyf_45 S U → l6.toInt = i → (i : Int) + j = (q_I S m 3).toInt → j < q → 0 ≤ l5.toInt ∧ l5.toInt ≤ 2408 → r_at U m u → r_P u (12 + 16 * (q_I S m 3).toInt + s_sum (fun j => s_pad (s_len S m fF fB fL us (q_I S oR j).toInt.toNat)) i) → ∃ (r : Int32) (T : q_S), m_X12_write_205 n q U (some m) l1 l2 l4 l5 l6 = some (r, T) ∧ q_G ρ L M_X12_putGlyf_45 S T ∧ (12 + 16 * (q_I S m 3).toInt + s_sum (fun j => s_pad (s_len S m fF fB fL us (q_I S oR j).toInt.toNat)) (q_I S m 3).toInt.toNat ≤ 2400 → r.toInt = 12 + 16 * (q_I S m 3).toInt + s_sum (fun j => s_pad (s_len S m fF fB fL us (q_I S oR j).toInt.toNat)) (q_I S m 3).toInt.toNat) ∧ (2400 < 12 + 16 * (q_I S m 3).toInt + s_sum (fun j => s_pad (s_len S m fF fB fL us (q_I S oR j).toInt.toNat)) (q_I S m 3).toInt.toNat → r = -1) := by
    intro j
    induction j with
    | zero =>
      intro q i U l5 l6 u gU h6 hj hq h5 hu hP
      obtain ⟨q, rfl⟩ : ∃ k', q = k' + 1 := ⟨q - 1, by omega⟩
      rw [show i = (q_I S m 3).toInt.toNat by omega] at hP
      obtain ⟨T1, e1, g1, a1⟩ := r_even (n := n) hn gU.1 hm hu
      have G1 := q_G_call gU g1 (by decide)
      obtain ⟨p0, p1, p2, p3⟩ := hP
      rw [m_X12_write_205, q_at_pos (k_m gU.1 hm), e3 U gU, if_pos (i_le.mpr (by omega)), e1, q_b_some, q_at_pos (k_m G1.1 hm)]
      by_cases g9 : u ≤ 2400
      · have p4 := p2 g9
        unfold r_ev at a1
        rw [if_pos g9, p4] at a1
        have hle : 12 + 16 * (q_I S m 3).toInt + s_sum (fun j => s_pad (s_len S m fF fB fL us (q_I S oR j).toInt.toNat)) (q_I S m 3).toInt.toNat ≤ 2400 := by rw [← p4]; unfold s_pad; omega
        obtain ⟨c1, c2⟩ := a1.2.1 hle
        have b38 := g_45_I38 G1 hm.1 hm.2
        obtain ⟨r8, T8, e8, eT8, b8⟩ := s_X12_sumWritten_45 hn G1.1 hm.1 hm.2 (p0 := 0) ⟨by decide, by decide⟩ (p1 := q_I T1 m 38) b38
        subst eT8
        have z255 : (4294967295 : Int64).toInt = 4294967295 := rfl
        have hb := q_andRJ (x := (2981146554 : Int64) - r8) (y := 4294967295) (by decide)
        rw [z255] at hb
        obtain ⟨_, T9, e9, g9'⟩ := s_X12_setFour_45 hn G1.1 hm.1 hm.2 (p0 := l5) ⟨by omega, by omega⟩ (p1 := ((2981146554 : Int64) - r8) &&& (4294967295 : Int64)) ⟨Int.le_trans (by decide) hb.1, hb.2⟩
        rw [if_pos c2, e8, q_b_some, q_at_pos (k_m G1.1 hm), e9, q_b_some, q_at_pos (k_m g9'.1 hm)]
        exact ⟨_, T9, rfl, q_G_call G1 g9' (by decide), fun _ => by rw [q_unI g9' hm.1 hm.2 (by decide)]; exact c1, fun h => by omega⟩
      · have p4 := p3 (by omega)
        unfold r_ev at a1
        rw [if_neg g9] at a1
        obtain ⟨c1, c2⟩ := a1.2.2 (by omega)
        rw [if_neg c2]
        exact ⟨-1, _, rfl, u_45_I38 G1 hm.1 hm.2 (by decide) ⟨by decide, by decide⟩, fun h => by omega, fun _ => rfl⟩
    | succ j ih =>
      intro q i U l5 l6 u gU h6 hj hq h5 hu hP
      obtain ⟨q, rfl⟩ : ∃ k', q = k' + 1 := ⟨q - 1, by omega⟩
      obtain ⟨T1, e1, g1, a1⟩ := r_even (n := n) hn gU.1 hm hu
      have G1 := q_G_call gU g1 (by decide)
      have c6 : l6.toNatClampNeg = i := by rw [v_cl h6]; rfl
      have eo : q_I U oR i = q_I S oR i := q_unIA gU hoR.1 hoR.2 (by decide) (by decide)
      have bo := g_73_E gU hoR.1 hoR.2 (k := i)
      rw [eo] at bo
      have ho' := ho i (by omega)
      have zu := z_un hI G1 hA (by decide)
      obtain ⟨-, sgu, slu, -⟩ := s_un (a := us) hI G1 hA (by decide) (fun k => q_unIA G1 hus.1 hus.2 (by decide) (by decide))
      have b38 := g_45_I38 G1 hm.1 hm.2
      have bl := s_len_b (a := us) (t := (q_I S oR i).toInt.toNat) hI hA
      have hP' := r_P_step hP bl.1
      have el : (l6 + 1).toInt = ((i + 1 : Nat) : Int) := by rw [q_addI (by rw [y1]; omega) (by rw [y1]; omega), y1, h6]; rfl
      have fin : ∀ (T2 : q_S) , q_G ρ L M_X12_putGlyf_45 S T2 → r_at T2 m (r_ev u + s_len S m fF fB fL us (q_I S oR i).toInt.toNat) → ∃ (r : Int32) (T : q_S), m_X12_write_339 n (m_X12_write_205 n q) T2 (some m) l1 l2 l4 l5 l6 (q_I S oR i) (q_I T1 m 38) = some (r, T) ∧ q_G ρ L M_X12_putGlyf_45 S T ∧ (12 + 16 * (q_I S m 3).toInt + s_sum (fun j => s_pad (s_len S m fF fB fL us (q_I S oR j).toInt.toNat)) (q_I S m 3).toInt.toNat ≤ 2400 → r.toInt = 12 + 16 * (q_I S m 3).toInt + s_sum (fun j => s_pad (s_len S m fF fB fL us (q_I S oR j).toInt.toNat)) (q_I S m 3).toInt.toNat) ∧ (2400 < 12 + 16 * (q_I S m 3).toInt + s_sum (fun j => s_pad (s_len S m fF fB fL us (q_I S oR j).toInt.toNat)) (q_I S m 3).toInt.toNat → r = -1) := by
        intro T2 G2 a2
        obtain ⟨T3, l9, e3', g3, b9⟩ := r_339 (n := n) (k205 := m_X12_write_205 n q) (l1 := l1) (l2 := l2) (l4 := l4) (l5 := l5) (l6 := l6) (l7 := q_I S oR i) (l8 := q_I T1 m 38) hn G2.1 hA h5 ⟨by omega, by omega⟩ bo b38
        rw [e3']
        refine ih q (i + 1) T3 l9 (l6 + 1) _ (q_G_call G2 g3 (by decide)) el (by omega) (by omega) b9 (r_at_un g3 hm (by decide) (by decide) a2) ?_
        rw [s_sum, ← Int.add_assoc]
        exact hP'
      have etn : (((q_I S oR i).toInt.toNat : Nat) : Int) = (q_I S oR i).toInt := by omega
      rw [m_X12_write_205, q_at_pos (k_m gU.1 hm), e3 U gU, if_neg (fun h => by have := i_le.mp h; omega), e40 _ gU.1, q_at_pos (v_at (c := 100) gU.1 hoR rfl), q_if_pos (q_inI (g_73_N gU hoR.1 hoR.2) (by omega) (by omega)), c6, eo, e1, q_b_some, q_at_pos (k_m G1.1 hm), v_fdM hn G1.1 hm ⟨by decide, by decide⟩, q_b_some, zu.2.2.2.1]
      unfold s_len at fin
      rw [etn] at fin
      by_cases t1 : (q_I S oR i) = q_fd S m 1735162214
      · have t1' : (q_I S oR i).toInt = (q_fd S m 1735162214).toInt := by rw [t1]
        rw [if_pos t1'] at fin
        obtain ⟨T2, e2, g2, a2⟩ := r_glyf (n := n) (us := us) (l1 := l2) hn G1.1 hA (v_RlU hA G1 (by decide) hR) hus (by rw [zu.1, zu.2.2.2.1]; exact h50) (by rw [zu.2.2.2.1]; exact hgl) a1 ⟨by omega, by omega⟩
        rw [if_pos t1, q_at_pos (k_m G1.1 hm), e2, q_b_some]
        exact fin T2 (q_G_call G1 g2 (by decide)) (by rw [sgu, h2] at a2; exact a2)
      have t1' : ¬ (q_I S oR i).toInt = (q_fd S m 1735162214).toInt := fun h => t1 (Int32.toInt_inj.mp h)
      rw [if_neg t1'] at fin
      rw [if_neg t1, q_at_pos (k_m G1.1 hm), v_fdM hn G1.1 hm ⟨by decide, by decide⟩, q_b_some, zu.2.2.2.1]
      by_cases t2 : (q_I S oR i) = q_fd S m 1819239265
      · have t2' : (q_I S oR i).toInt = (q_fd S m 1819239265).toInt := by rw [t2]
        rw [if_pos t2'] at fin
        obtain ⟨T2, e2, g2, a2⟩ := r_loca2 (n := n) (us := us) (l1 := l2) (l2 := l4) (W := s_wd S m fF fB fL) hn G1.1 hA hus (by rw [zu.1, zu.2.2.2.1]; exact h50) (by rw [zu.2.2.2.1]; exact hgl) a1 ⟨by omega, by omega⟩ h4
        rw [if_pos t2, q_at_pos (k_m G1.1 hm), e2, q_b_some]
        exact fin T2 (q_G_call G1 g2 (by decide)) (by rw [h2] at a2; exact a2)
      have t2' : ¬ (q_I S oR i).toInt = (q_fd S m 1819239265).toInt := fun h => t2 (Int32.toInt_inj.mp h)
      rw [if_neg t2'] at fin
      have bp := p_lim_b (p := (q_I S oR i).toInt) hI hm hL
      rw [if_neg t2]
      obtain ⟨T2, e2, g2, a2⟩ := r_278 (n := n) (k205 := m_X12_write_205 n q) (l1 := l1) (l2 := l2) (l4 := l4) (l5 := l5) (l6 := l6) (l7 := q_I S oR i) (l8 := q_I T1 m 38) hn G1.1 hA (v_RlU hA G1 (by decide) hR) ⟨by omega, by rw [e3 _ G1]; exact ho'⟩ (v_len S m fL (q_I S oR i).toInt).toNat n T1 0 (r_ev u) (q_G_refl G1.1) (by decide) (by rw [zu.2.2.2.2.2]; show (0 : Int) + _ = _; omega) (by omega) a1
      rw [e2]
      exact fin T2 (q_G_call G1 g2 (by decide)) (by rw [show (v_len S m fL (q_I S oR i).toInt) = (((v_len S m fL (q_I S oR i).toInt).toNat : Nat) : Int) by omega]; exact a2)
  exact loop (q_I S m 3).toInt.toNat n 0 S 0 0 v0 (q_G_refl hI) rfl (by omega) (by omega) ⟨by decide, by decide⟩ hv0 (by rw [s_sum, Int.add_zero]; exact hP0)
end QRW
