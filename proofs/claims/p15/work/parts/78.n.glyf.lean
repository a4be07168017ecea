/-! VALUES: write(), the other side: glyf and loca -/
section QRG
variable {ρ : Nat → Nat} {L M9 : List Nat} {n : Nat} {S S0 T : q_S} {x wo ce tb en ab m fF fT fS fB fL us : Nat}
theorem r_gl29 (hn : 18446744073709551616 ≤ n) (hI : q_Inv ρ L S) (hA : v_Ad ρ L x wo ce tb en ab m fF fT fS fB fL) (hR : v_Rl wo ce tb en ab m fF fT fS fB fL S) (hgl : 0 ≤ (q_fd S m 1735162214).toInt) {k2 : q_S → Option Nat → Int32 → Int32 → Option (Unit × q_S)} {l1 l2 l3 l4 : Int32} (h3 : 0 ≤ l3.toInt ∧ l3.toInt ≤ l4.toInt) (h4 : l4.toInt ≤ v_len S m fL (q_fd S m 1735162214).toInt) : ∀ (j q : Nat) (U : q_S) (l5 : Int32) (u : Int), q_G ρ L M_X12_put_45 S U → 0 ≤ l5.toInt → l5.toInt + j = l4.toInt → j < q → r_at U m u → ∃ T, m_X12_putGlyf_29 n k2 q U (some m) l1 l2 l3 l4 l5 = k2 T (some m) l1 (l2 + 1) ∧ q_G ρ L M_X12_put_45 S T ∧ r_at T m (u + j + (l4.toInt - l3.toInt) % 2) := by
  have hm := hA.2.2.2.2.2.2.1
  have hF := hA.2.2.2.2.2.2.2.1
  have hT := hA.2.2.2.2.2.2.2.2.1
  have hB := hA.2.2.2.2.2.2.2.2.2.2.1
  have hL := hA.2.2.2.2.2.2.2.2.2.2.2
  have bl := p_lim_b (p := (q_fd S m 1735162214).toInt) hI hm hL
  have hfr := v_fdR (tag := 1735162214) hI hm hT
  have hG0 : q_G ρ L [] S S := q_G_refl hI
  have b3 := g_45_I3 hG0 hm.1 hm.2
  have b2 := g_45_I2 hG0 hm.1 hm.2
  have y1 : (1 : Int32).toInt = 1 := rfl
  have y2 : (2 : Int32).toInt = 2 := rfl
  have hst := (hR.2.2.2.1 (q_fd S m 1735162214).toInt.toNat (by omega)).2
  have hlen : v_len S m fL (q_fd S m 1735162214).toInt = (q_I S fL (q_fd S m 1735162214).toInt.toNat).toInt := by unfold v_len; rw [if_pos (by omega)]
  intro j
  induction j with
  | zero =>
    intro q U l5 u gU h5 hj hq hu
    obtain ⟨q, rfl⟩ : ∃ k', q = k' + 1 := ⟨q - 1, by omega⟩
    have es : (l4 - l3).toInt = l4.toInt - l3.toInt := q_subI (by omega) (by omega)
    have er : ((l4 - l3) - (l4 - l3) / (2 : Int32) * (2 : Int32)).toInt = (l4.toInt - l3.toInt) % 2 := by rw [q_remI (by omega) (by decide), es]; rfl
    rw [m_X12_putGlyf_29, if_pos (i_le.mpr (by omega)), q_if_pos (by decide)]
    unfold m_X12_putGlyf_81
    by_cases g1 : (l4.toInt - l3.toInt) % 2 = 1
    · obtain ⟨T1, e1, g1', a1⟩ := r_put (n := n) (b := 0) gU.1 hm hu ⟨by decide, by decide⟩
      rw [if_pos (i_eq.mpr (by rw [er, g1]; rfl)), q_at_pos (k_m gU.1 hm), e1, q_b_some]
      exact ⟨T1, rfl, q_G_call gU g1' (by decide), by rw [g1]; simpa using a1⟩
    · rw [if_neg (fun h => g1 (by rw [← er, h]; rfl))]
      exact ⟨U, rfl, gU, by rw [show (l4.toInt - l3.toInt) % 2 = 0 by omega]; simpa using hu⟩
  | succ j ih =>
    intro q U l5 u gU h5 hj hq hu
    obtain ⟨q, rfl⟩ : ∃ k', q = k' + 1 := ⟨q - 1, by omega⟩
    have eB : q_R U m 6 = some fB := v_m6 gU.1 hm hB
    have eF1 : q_R U m 1 = some fF := v_m1 gU.1 hm hF
    have eF : q_fd U m 1735162214 = q_fd S m 1735162214 := (z_un hI gU hA (by decide)).2.2.2.1 _
    have eBv : q_I U fB (q_fd S m 1735162214).toNatClampNeg = q_I S fB (q_fd S m 1735162214).toInt.toNat := by rw [q_unIA gU hB.1 hB.2 (by decide) (by decide), v_cl (i := q_fd S m 1735162214) rfl]
    have bB := g_49_E hG0 hB.1 hB.2 (k := (q_fd S m 1735162214).toInt.toNat)
    have ea : ((q_I S fB (q_fd S m 1735162214).toInt.toNat) + l5).toInt = (q_I S fB (q_fd S m 1735162214).toInt.toNat).toInt + l5.toInt := q_addI (by omega) (by omega)
    obtain ⟨T1, e1, g1, a1⟩ := r_put (n := n) (b := q_I U fF ((q_I S fB (q_fd S m 1735162214).toInt.toNat) + l5).toNatClampNeg) gU.1 hm hu (g_46_E gU hF.1 hF.2)
    rw [m_X12_putGlyf_29, if_neg (fun h => by have := i_le.mp h; omega), q_at_pos (k_m gU.1 hm), v_fdM hn gU.1 hm ⟨by decide, by decide⟩, q_b_some, eB, q_at_pos (k_B gU.1 hB), eF, q_if_pos (q_inI (g_49_N gU hB.1 hB.2) (by omega) (by omega)), eF1, q_at_pos (k_F gU.1 hF), eBv, q_if_pos (q_inI (g_46_N gU hF.1 hF.2) (by omega) (by omega)), q_at_pos (k_m gU.1 hm), e1, q_b_some]
    obtain ⟨T, e, g, a⟩ := ih q T1 (l5 + 1) (u + 1) (q_G_call gU g1 (by decide)) (by rw [q_addI (by rw [y1]; omega) (by rw [y1]; omega), y1]; omega) (by rw [q_addI (by rw [y1]; omega) (by rw [y1]; omega), y1]; omega) (by omega) a1
    exact ⟨T, e, g, by rw [show u + ((j + 1 : Nat) : Int) + (l4.toInt - l3.toInt) % 2 = u + 1 + j + (l4.toInt - l3.toInt) % 2 by omega]; exact a⟩
theorem r_glyf (hn : 18446744073709551616 ≤ n) (hI : q_Inv ρ L S) (hA : v_Ad ρ L x wo ce tb en ab m fF fT fS fB fL) (hR : v_Rl wo ce tb en ab m fF fT fS fB fL S) (hus : us ∈ L ∧ ρ us = 51) (h50 : 0 ≤ z_tw S m fF fB fL (q_fd S m 1751474532).toInt 50) (hgl : 0 ≤ (q_fd S m 1735162214).toInt) {v : Int} (hv : r_at S m v) {l1 : Int32} (h1 : 0 ≤ l1.toInt ∧ l1.toInt ≤ 200) : ∃ T, m_X12_putGlyf n S m l1 = some ((), T) ∧ q_G ρ L M_X12_putGlyf_45 S T ∧ r_at T m (v + s_gl S m fF fB fL us l1.toInt.toNat) := by
  have hm := hA.2.2.2.2.2.2.1
  have y1 : (1 : Int32).toInt = 1 := rfl
  have loop : ∀ (j q i : Nat) (U : q_S) (l2 : Int32), q_G ρ L M_X12_putGlyf_45 S U → l2.toInt = i → (i : Int) + j = l1.toInt → j < q → r_at U m (v + s_gl S m fF fB fL us i) → ∃ T, m_X12_putGlyf_2 n q U (some m) l1 l2 = some ((), T) ∧ q_G ρ L M_X12_putGlyf_45 S T ∧ r_at T m (v + s_gl S m fF fB fL us l1.toInt.toNat) := by
    intro j
    induction j with
    | zero =>
      intro q i U l2 gU h2 hj hq hu
      obtain ⟨q, rfl⟩ : ∃ k', q = k' + 1 := ⟨q - 1, by omega⟩
      rw [m_X12_putGlyf_2, if_pos (i_le.mpr (by omega))]
      exact ⟨U, rfl, gU, by rw [show l1.toInt.toNat = i by omega]; exact hu⟩
    | succ j ih =>
      intro q i U l2 gU h2 hj hq hu
      obtain ⟨q, rfl⟩ : ∃ k', q = k' + 1 := ⟨q - 1, by omega⟩
      have zu := z_un hI gU hA (by decide)
      obtain ⟨su, -, -, -⟩ := s_un (a := us) hI gU hA (by decide) (fun k => q_unIA gU hus.1 hus.2 (by decide) (by decide))
      have eF : ∀ t, q_fd U m t = q_fd S m t := zu.2.2.2.1
      obtain ⟨r, T1, e1, g1, c1, d1⟩ := r_goes (k := l2) hn gU.1 hA hus (by rw [zu.1, eF]; exact h50) (by rw [eF]; exact hgl) ⟨by omega, by omega⟩
      rw [su, show l2.toInt.toNat = i by omega] at c1 d1
      have G1 := q_G_call gU g1 (by decide)
      have a1 := r_at_un g1 hm (by decide) (by decide) hu
      have e2 : (l2 + 1).toInt = ((i + 1 : Nat) : Int) := by rw [q_addI (by rw [y1]; omega) (by rw [y1]; omega), y1, h2]; rfl
      rw [m_X12_putGlyf_2, if_neg (fun h => by have := i_le.mp h; omega), q_at_pos (k_m gU.1 hm), e1, q_b_some]
      by_cases g0 : r = 0
      · rw [if_pos g0]
        unfold m_X12_putGlyf_81
        exact ih q (i + 1) T1 (l2 + 1) G1 e2 (by omega) (by omega) (by rw [s_gl, c1 g0]; simpa using a1)
      · obtain ⟨d2, d3, d4, d5⟩ := d1 g0
        have zu1 := z_un hI G1 hA (by decide)
        have hlen : v_len T1 m fL (q_fd T1 m 1735162214).toInt = v_len U m fL (q_fd U m 1735162214).toInt := by rw [zu1.2.2.2.1, zu1.2.2.2.2.2, eF, zu.2.2.2.2.2]
        rw [if_neg g0, q_at_pos (k_m G1.1 hm)]
        obtain ⟨T2, e3, g3, a3⟩ := r_gl29 (n := n) (k2 := m_X12_putGlyf_2 n q) (l1 := l1) (l2 := l2) (l3 := q_I T1 m 21) (l4 := q_I T1 m 22) hn G1.1 hA (v_RlU hA G1 (by decide) hR) (by rw [zu1.2.2.2.1]; exact hgl) ⟨d3, by omega⟩ (by rw [hlen]; exact d5) ((q_I T1 m 22).toInt - (q_I T1 m 21).toInt).toNat n T1 (q_I T1 m 21) (v + s_gl S m fF fB fL us i) (q_G_refl G1.1) d3 (by omega) (by have := g_45_I22 G1 hm.1 hm.2; omega) a1
        rw [e3]
        exact ih q (i + 1) T2 (l2 + 1) (q_G_call G1 g3 (by decide)) e2 (by omega) (by omega) (by
          rw [s_gl]
          rw [d2] at a3
          rw [show v + (s_gl S m fF fB fL us i + (s_one S m fF fB fL us i + s_one S m fF fB fL us i % 2)) = v + s_gl S m fF fB fL us i + ((s_one S m fF fB fL us i).toNat : Int) + s_one S m fF fB fL us i % 2 by omega]
          exact a3)
  unfold m_X12_putGlyf
  exact loop l1.toInt.toNat n 0 S 0 (q_G_refl hI) rfl (by omega) (by omega) (by rw [s_gl]; simpa using hv)
theorem r_loca2 (hn : 18446744073709551616 ≤ n) (hI : q_Inv ρ L S) (hA : v_Ad ρ L x wo ce tb en ab m fF fT fS fB fL) (hus : us ∈ L ∧ ρ us = 51) (h50 : 0 ≤ z_tw S m fF fB fL (q_fd S m 1751474532).toInt 50) (hgl : 0 ≤ (q_fd S m 1735162214).toInt) {v : Int} (hv : r_at S m v) {l1 l2 : Int32} (h1 : 0 ≤ l1.toInt ∧ l1.toInt ≤ 200) {W : Int} (hW : (l2 = 0 ∧ W = 2) ∨ (l2 ≠ 0 ∧ W = 4)) : ∃ T, m_X12_putLoca n S m l1 l2 = some ((), T) ∧ q_G ρ L M_X12_putLoca_45 S T ∧ r_at T m (v + (l1.toInt + 1) * W) := by
  have hm := hA.2.2.2.2.2.2.1
  have y1 : (1 : Int32).toInt = 1 := rfl
  have loop : ∀ (j q i : Nat) (U : q_S) (l3 : Int64) (l5 : Int32), q_G ρ L M_X12_putLoca_45 S U → l5.toInt = i → (i : Int) + j = l1.toInt + 1 → j < q → r_at U m (v + i * W) → ∃ T, m_X12_putLoca_5 n q U (some m) l1 l2 l3 l5 = some ((), T) ∧ q_G ρ L M_X12_putLoca_45 S T ∧ r_at T m (v + (l1.toInt + 1) * W) := by
    intro j
    induction j with
    | zero =>
      intro q i U l3 l5 gU h5 hj hq hu
      obtain ⟨q, rfl⟩ : ∃ k', q = k' + 1 := ⟨q - 1, by omega⟩
      rw [m_X12_putLoca_5, if_pos (i_lt.mpr (by omega))]
      exact ⟨U, rfl, gU, by rw [show l1.toInt + 1 = (i : Int) by omega]; exact hu⟩
    | succ j ih =>
      intro q i U l3 l5 gU h5 hj hq hu
      obtain ⟨q, rfl⟩ : ∃ k', q = k' + 1 := ⟨q - 1, by omega⟩
      have e2 : (l5 + 1).toInt = ((i + 1 : Nat) : Int) := by rw [q_addI (by rw [y1]; omega) (by rw [y1]; omega), y1, h5]; rfl
      have hiW : v + ((i + 1 : Nat) : Int) * W = v + i * W + W := by
        rw [show ((i + 1 : Nat) : Int) = (i : Int) + 1 from rfl, Int.add_mul, Int.one_mul]; omega
      have step : ∀ (w : Int64) (c : Int32), c.toInt = W → ∃ T, m_X12_putLoca_34 n (m_X12_putLoca_5 n q) U (some m) l1 l2 l3 l5 c w (some m) = some ((), T) ∧ q_G ρ L M_X12_putLoca_45 S T ∧ r_at T m (v + (l1.toInt + 1) * W) := by
        intro w c hc
        obtain ⟨T1, e1, g1, a1⟩ := r_putN (n := n) (w := w) (c := c) hn gU.1 hm hu ⟨by omega, by omega⟩
        have G1 := q_G_call gU g1 (by decide)
        rw [hc, ← hiW] at a1
        unfold m_X12_putLoca_34 m_X12_putLoca_71
        rw [q_at_pos (k_m gU.1 hm), e1, q_b_some]
        by_cases g0 : l1.toInt ≤ l5.toInt
        · rw [if_pos (i_le.mpr g0)]
          exact ih q (i + 1) T1 _ (l5 + 1) G1 e2 (by omega) (by omega) a1
        · have zu := z_un hI G1 hA (by decide)
          obtain ⟨r, T2, e3, g3, -, -⟩ := r_goes (k := l5) hn G1.1 hA hus (by rw [zu.1, zu.2.2.2.1]; exact h50) (by rw [zu.2.2.2.1]; exact hgl) ⟨by omega, by omega⟩
          have a3 := r_at_un g3 hm (by decide) (by decide) a1
          have G3 := q_G_call G1 g3 (by decide)
          rw [if_neg (fun h => g0 (i_le.mp h)), q_at_pos (k_m G1.1 hm), e3, q_b_some]
          by_cases g2 : r = 0
          · rw [if_pos g2]
            exact ih q (i + 1) T2 _ (l5 + 1) G3 e2 (by omega) (by omega) a3
          · rw [if_neg g2, q_at_pos (k_m G3.1 hm), q_if_pos (by decide)]
            exact ih q (i + 1) T2 _ (l5 + 1) G3 e2 (by omega) (by omega) a3
      rw [m_X12_putLoca_5, if_neg (fun h => by have := i_lt.mp h; omega)]
      unfold m_X12_putLoca_25
      rcases hW with ⟨hl, hw⟩ | ⟨hl, hw⟩
      · rw [if_pos hl, q_if_pos (by decide), if_pos hl]
        exact step _ 2 (by rw [hw]; rfl)
      · rw [if_neg hl, if_neg hl]
        exact step _ 4 (by rw [hw]; rfl)
  unfold m_X12_putLoca
  exact loop (l1.toInt + 1).toNat n 0 S 0 0 (q_G_refl hI) rfl (by omega) (by omega) (by simpa using hv)
end QRG
