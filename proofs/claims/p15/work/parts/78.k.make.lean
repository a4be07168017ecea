/-! VALUES: write(), the one side: each TABLE, and the whole -/
section QMB
variable {ρ : Nat → Nat} {L M9 : List Nat} {n : Nat} {S S0 T : q_S} {x wo ce tb en ab m fF fT fS fB fL sg tl tg uC wr ow oA sA pA a : Nat}
/-- what a TABLE's writing leans on, and keeps -/
def w_o (ρ : Nat → Nat) (L : List Nat) (wo ce tb en ab m fF fT fS fB fL sg tl tg a sA : Nat) (S : q_S) : Prop := q_Inv ρ L S ∧ v_Rl wo ce tb en ab m fF fT fS fB fL S ∧ w_s ρ L wo m fF fB fL sg tl tg S ∧ ∀ i : Nat, (i : Int) < v_sg S m fF fB fL → (q_I S sA i).toInt = s_one S m fF fB fL a i
theorem o_body (hn : 18446744073709551616 ≤ n) (hA : v_Ad ρ L x wo ce tb en ab m fF fT fS fB fL) (hr : wr ∈ L ∧ ρ wr = 38) (h : ow ∈ L ∧ ρ ow = 39) (hs : sg ∈ L ∧ ρ sg = 9) (hsA : sA ∈ L ∧ ρ sA = 42) (hpA : pA ∈ L ∧ ρ pA = 43) (hO : w_o ρ L wo ce tb en ab m fF fT fS fB fL sg tl tg a sA S) {t : Int32} (ht : 0 ≤ t.toInt ∧ t.toInt < (q_I S m 3).toInt) (hk : (q_I S ow 1).toInt + s_len S m fF fB fL a t.toInt.toNat ≤ 2400) : ∃ T, m_X10_putBody n S wr t = some ((), T) ∧ q_G ρ L M_X10_putBody_38 S T ∧ (q_I T ow 1).toInt = (q_I S ow 1).toInt + s_len S m fF fB fL a t.toInt.toNat := by
  obtain ⟨hI, hR, hW, hsz⟩ := hO
  have hG : q_G ρ L M_X10_putBody_38 S S := q_G_refl hI
  have hb := g_39_I1 hG h.1 h.2
  have y0 : (0 : Int64).toInt = 0 := rfl
  have y8 : (8 : Int32).toInt = 8 := rfl
  have l1 : ∀ U, q_Inv ρ L U → q_R U wr 1 = some tb := fun U hU => v_ln hU (g_38_R1 (q_G_refl (m := []) hU) hr.1 hr.2) hA.2.2.2.1 rfl
  have etn : ((t.toInt.toNat : Nat) : Int) = t.toInt := by omega
  obtain ⟨o, eo, h8, -, h82, -⟩ := v_get (n := n) (p := t) hI hA hR
  have b4 := g_8_I4 hG h8.1 h8.2
  unfold m_X10_putBody m_X10_putBody_103
  unfold s_len at hk ⊢
  rw [etn] at hk ⊢
  rw [q_at_pos (k_r hI hr), l1 _ hI, q_at_pos (k_t hI hA.2.2.2.1), v_ixE hn hI hA hR, q_b_some]
  by_cases g1 : t = q_fd S m 1735162214
  · have g1' : t.toInt = (q_fd S m 1735162214).toInt := by rw [g1]
    rw [if_pos g1'] at hk ⊢
    obtain ⟨T, e, g, c⟩ := o_glyf (t := o) hn hI hA hR hr h hs hsA hW hsz h8 hk
    rw [if_pos g1, q_at_pos (k_r hI hr), l1 _ hI, q_at_pos (k_t hI hA.2.2.2.1), eo, q_b_some, q_at_pos (k_r hI hr), e, q_b_some]
    exact ⟨T, rfl, q_G_call hG g (by decide), c⟩
  have g1' : ¬ t.toInt = (q_fd S m 1735162214).toInt := fun h9 => g1 (Int32.toInt_inj.mp h9)
  rw [if_neg g1'] at hk ⊢
  rw [if_neg g1, q_at_pos (k_r hI hr), l1 _ hI, q_at_pos (k_t hI hA.2.2.2.1), v_ixE hn hI hA hR, q_b_some]
  by_cases g2 : t = q_fd S m 1819239265
  · have g2' : t.toInt = (q_fd S m 1819239265).toInt := by rw [g2]
    rw [if_pos g2'] at hk ⊢
    obtain ⟨T, e, g, c⟩ := o_loca (pA := pA) hn hI hA hr h hs hpA hW hk
    rw [if_pos g2, q_at_pos (k_r hI hr), e, q_b_some]
    exact ⟨T, rfl, q_G_call hG g (by decide), c⟩
  have g2' : ¬ t.toInt = (q_fd S m 1819239265).toInt := fun h9 => g2 (Int32.toInt_inj.mp h9)
  rw [if_neg g2'] at hk ⊢
  rw [← h82] at hk ⊢
  rw [if_neg g2, q_at_pos (k_r hI hr), l1 _ hI, q_at_pos (k_t hI hA.2.2.2.1), v_ixE hn hI hA hR, q_b_some]
  by_cases g3 : t = q_fd S m 1751474532
  · rw [if_pos g3, q_at_pos (k_r hI hr), l1 _ hI, q_at_pos (k_t hI hA.2.2.2.1), eo, q_b_some, q_at_pos (k_r hI hr)]
    have G1 := u_38_I8 (x := q_I S ow 1) hG hr.1 hr.2 (by decide) hb
    have e4 : q_I (q_sI S wr 8 (q_I S ow 1)) o 4 = q_I S o 4 := q_fwI h8.2 hr.2 (by decide)
    have eo1 : q_I (q_sI S wr 8 (q_I S ow 1)) ow 1 = q_I S ow 1 := q_fwI h.2 hr.2 (by decide)
    obtain ⟨T, e, g, c⟩ := o_bytes (p := 0) (k := q_I S o 4) hn G1.1 hr h h8 ⟨by decide, by decide⟩ ⟨b4.1, by rw [eo1]; exact hk⟩
    rw [eo1] at c
    have GT := q_G_call G1 g (by decide)
    have e8 : q_I T wr 8 = q_I S ow 1 := by rw [q_unI g hr.1 hr.2 (by decide), q_hitI]
    have ea : ((q_I T wr 8) + (8 : Int32)).toInt = (q_I S ow 1).toInt + 8 := by rw [e8, q_addI (by rw [y8]; omega) (by rw [y8]; omega), y8]
    obtain ⟨_, T2, e2, g2⟩ := s_X4_setFour_39 hn g.1 h.1 h.2 (p0 := (q_I T wr 8) + (8 : Int32)) ⟨by omega, by omega⟩ (p1 := 0) ⟨by decide, by decide⟩
    have eH : m_X10_putHead n S wr (some o) = some ((), T2) := by
      unfold m_X10_putHead
      have es : m_X4_size n S ow = some (q_I S ow 1, S) := by unfold m_X4_size; rw [q_at_pos (k_o hI h)]
      rw [q_at_pos (k_r hI hr), l_r3 hI hr h, q_at_pos (k_o hI h), es, q_b_some, q_at_pos (k_r hI hr), q_at_pos (k_8 G1.1 h8), e4, e, q_b_some, q_at_pos (k_r g.1 hr), l_r3 g.1 hr h, q_at_pos (k_o g.1 h), e2, q_b_some]
    rw [eH, q_b_some]
    exact ⟨T2, rfl, q_G_call GT g2 (by decide), by rw [q_unI g2 h.1 h.2 (by decide)]; exact c⟩
  · rw [if_neg g3, q_at_pos (k_r hI hr), l1 _ hI, q_at_pos (k_t hI hA.2.2.2.1), eo, q_b_some, q_at_pos (k_r hI hr), l1 _ hI, q_at_pos (k_t hI hA.2.2.2.1), eo, q_b_some, q_at_pos (k_8 hI h8), q_at_pos (k_r hI hr)]
    obtain ⟨T, e, g, c⟩ := o_bytes (p := 0) (k := q_I S o 4) hn hI hr h h8 ⟨by decide, by decide⟩ ⟨b4.1, hk⟩
    rw [e, q_b_some]
    exact ⟨T, rfl, q_G_call hG g (by decide), c⟩
theorem o_table (hn : 18446744073709551616 ≤ n) (hA : v_Ad ρ L x wo ce tb en ab m fF fT fS fB fL) (hr : wr ∈ L ∧ ρ wr = 38) (h : ow ∈ L ∧ ρ ow = 39) (hs : sg ∈ L ∧ ρ sg = 9) (hsA : sA ∈ L ∧ ρ sA = 42) (hpA : pA ∈ L ∧ ρ pA = 43) (hO : w_o ρ L wo ce tb en ab m fF fT fS fB fL sg tl tg a sA S) {i t : Int32} (hi : 0 ≤ i.toInt ∧ i.toInt ≤ 23) (ht : 0 ≤ t.toInt ∧ t.toInt < (q_I S m 3).toInt) (hk : (q_I S ow 1).toInt + s_pad (s_len S m fF fB fL a t.toInt.toNat) ≤ 2400) : ∃ T, m_X10_putTable n S wr i t = some ((), T) ∧ q_G ρ L M_X10_putTable_38 S T ∧ (q_I T ow 1).toInt = (q_I S ow 1).toInt + s_pad (s_len S m fF fB fL a t.toInt.toNat) := by
  have hI := hO.1
  have hR := hO.2.1
  have hG : q_G ρ L M_X10_putTable_38 S S := q_G_refl hI
  have hb := g_39_I1 hG h.1 h.2
  have bl := s_len_b (a := a) (t := t.toInt.toNat) hI hA
  have bp := s_pad_b bl
  have l1 : ∀ U, q_Inv ρ L U → q_R U wr 1 = some tb := fun U hU => v_ln hU (g_38_R1 (q_G_refl (m := []) hU) hr.1 hr.2) hA.2.2.2.1 rfl
  obtain ⟨st, -, mst, rst⟩ := g_38_R4 hG hr.1 hr.2
  have l4 : ∀ U, q_Inv ρ L U → q_R U wr 4 = some st := fun U hU => v_ln hU (g_38_R4 (q_G_refl (m := []) hU) hr.1 hr.2) ⟨mst, rst⟩ rfl
  have kst : ∀ U, q_Inv ρ L U → st ∈ q_L U ∧ q_K U st = 8 := fun U hU => v_at hU ⟨mst, rst⟩ rfl
  have es : ∀ U, q_Inv ρ L U → m_X4_size n U ow = some (q_I U ow 1, U) := fun U hU => by unfold m_X4_size; rw [q_at_pos (k_o hU h)]
  obtain ⟨T1, e1, g1, c1⟩ := o_body (t := t) hn hA hr h hs hsA hpA hO ht (by omega)
  have G1 := q_G_call hG g1 (by decide)
  have hR1 := v_RlU hA g1 (by decide) hR
  obtain ⟨o, eo, h8, -, -, -⟩ := v_get (n := n) (p := t) g1.1 hA hR1
  have bt := g_8_J1 G1 h8.1 h8.2
  have hb1 := g_39_I1 G1 h.1 h.2
  have ed : ((q_I T1 ow 1) - (q_I S ow 1)).toInt = s_len S m fF fB fL a t.toInt.toNat := by rw [q_subI (by omega) (by omega), c1]; omega
  have y12 : (12 : Int32).toInt = 12 := rfl
  have y0 : (0 : Int64).toInt = 0 := rfl
  have p0 := q_rdP hi.1 hi.2
  have pc : ∀ c : Int32, 0 ≤ c.toInt → c.toInt ≤ 12 → (((12 : Int32) + ((16 : Int32) * i)) + c).toInt = 12 + 16 * i.toInt + c.toInt := fun c h1 h2 => by rw [q_addI (by omega) (by omega), p0]
  have y4 : (4 : Int32).toInt = 4 := rfl
  have y8 : (8 : Int32).toInt = 8 := rfl
  have p4 := pc 4 (by decide) (by decide)
  have p8 := pc 8 (by decide) (by decide)
  have p12 := pc 12 (by decide) (by decide)
  rw [y4] at p4
  rw [y8] at p8
  rw [y12] at p12
  obtain ⟨_, T2, e2, g2⟩ := s_X7_set_44 hn g1.1 mst rst (p0 := q_J T1 o 1) bt (p1 := 0) ⟨by decide, by decide⟩ (p2 := q_I S ow 1) hb (p3 := (q_I T1 ow 1) - (q_I S ow 1)) ⟨by omega, by omega⟩
  have G2 := q_G_call G1 g2 (by decide)
  obtain ⟨_, T3, e3, g3⟩ := s_X4_setFour_39 hn g2.1 h.1 h.2 (p0 := (12 : Int32) + ((16 : Int32) * i)) ⟨by omega, by omega⟩ (p1 := q_J T1 o 1) ⟨by omega, by omega⟩
  have G3 := q_G_call G2 g3 (by decide)
  obtain ⟨r4, T4, e4, eT4, b4⟩ := s_X7_total_44 hn g3.1 mst rst (p0 := 0) ⟨by decide, by decide⟩
  subst eT4
  obtain ⟨_, T5, e5, g5⟩ := s_X4_setFour_39 hn g3.1 h.1 h.2 (p0 := ((12 : Int32) + ((16 : Int32) * i)) + (4 : Int32)) ⟨by omega, by omega⟩ (p1 := r4) ⟨by omega, by omega⟩
  have G5 := q_G_call G3 g5 (by decide)
  obtain ⟨_, T6, e6, g6⟩ := s_X4_setFour_39 hn g5.1 h.1 h.2 (p0 := ((12 : Int32) + ((16 : Int32) * i)) + (8 : Int32)) ⟨by omega, by omega⟩ (p1 := (q_I S ow 1).toInt64) ⟨by rw [q_wil]; omega, by rw [q_wil]; omega⟩
  have G6 := q_G_call G5 g6 (by decide)
  obtain ⟨_, T7, e7, g7⟩ := s_X4_setFour_39 hn g6.1 h.1 h.2 (p0 := ((12 : Int32) + ((16 : Int32) * i)) + (12 : Int32)) ⟨by omega, by omega⟩ (p1 := ((q_I T1 ow 1) - (q_I S ow 1)).toInt64) ⟨by rw [q_wil]; omega, by rw [q_wil]; omega⟩
  have G7 := q_G_call G6 g7 (by decide)
  obtain ⟨r8, e8, v8⟩ := c_pad (n := n) (S := T7) (z := (q_I T1 ow 1) - (q_I S ow 1)) (by omega)
  rw [ed] at v8
  have c7 : q_I T7 ow 1 = q_I T1 ow 1 := by rw [q_unI g7 h.1 h.2 (by decide), q_unI g6 h.1 h.2 (by decide), q_unI g5 h.1 h.2 (by decide), q_unI g3 h.1 h.2 (by decide), q_unI g2 h.1 h.2 (by decide)]
  have e9 : (r8 - ((q_I T1 ow 1) - (q_I S ow 1))).toInt = s_pad (s_len S m fF fB fL a t.toInt.toNat) - s_len S m fF fB fL a t.toInt.toNat := by rw [q_subI (by omega) (by omega), v8, ed]
  obtain ⟨T, eT, gT, cT⟩ := o_zeros (k := r8 - ((q_I T1 ow 1) - (q_I S ow 1))) g7.1 hr h hn ⟨by omega, by rw [c7]; omega⟩
  refine ⟨T, ?_, q_G_call G7 gT (by decide), by rw [cT, c7, c1, e9]; omega⟩
  unfold m_X10_putTable
  rw [q_at_pos (k_r hI hr), l_r3 hI hr h, q_at_pos (k_o hI h), es _ hI, q_b_some, q_at_pos (k_r hI hr), e1, q_b_some, q_at_pos (k_r g1.1 hr), l_r3 g1.1 hr h, q_at_pos (k_o g1.1 h), es _ g1.1, q_b_some, q_at_pos (k_r g1.1 hr), l1 _ g1.1, q_at_pos (k_t g1.1 hA.2.2.2.1), eo, q_b_some, q_at_pos (k_8 g1.1 h8), q_at_pos (k_r g1.1 hr), l4 _ g1.1, q_at_pos (kst _ g1.1), e2, q_b_some, q_at_pos (k_r g2.1 hr), l_r3 g2.1 hr h, q_at_pos (k_o g2.1 h), e3, q_b_some, q_at_pos (k_r g3.1 hr), l4 _ g3.1, q_at_pos (kst _ g3.1), e4, q_b_some, l_r3 g3.1 hr h, q_at_pos (k_o g3.1 h), e5, q_b_some, q_at_pos (k_r g5.1 hr), l_r3 g5.1 hr h, q_at_pos (k_o g5.1 h), e6, q_b_some, q_at_pos (k_r g6.1 hr), l_r3 g6.1 hr h, q_at_pos (k_o g6.1 h), e7, q_b_some, e8, q_b_some]
  exact eT
end QMB
