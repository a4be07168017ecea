/-! VALUES: how the new file grows, the one side (role 39 the row, 40 its cells) -/
section QOU
variable {ρ : Nat → Nat} {L M9 : List Nat} {n : Nat} {S S0 T : q_S} {x wo ce tb en ab m fF fT fS fB fL sg tl tg uC wr ow oA sA pA : Nat}
theorem k_o (hI : q_Inv ρ L S) (h : ow ∈ L ∧ ρ ow = 39) : ow ∈ q_L S ∧ q_K S ow = 5 := v_at hI h rfl
theorem l_r3 (hI : q_Inv ρ L S) (hr : wr ∈ L ∧ ρ wr = 38) (h : ow ∈ L ∧ ρ ow = 39) : q_R S wr 3 = some ow := v_ln hI (g_38_R3 (q_G_refl (m := []) hI) hr.1 hr.2) h rfl
theorem o_push (hI : q_Inv ρ L S) (h : ow ∈ L ∧ ρ ow = 39) {v : Int32} (hs : (q_I S ow 1).toInt < 2400) : ∃ T, m_X4_push n S ow v = some ((), T) ∧ q_G ρ L [2497, 2560] S T ∧ (q_I T ow 1).toInt = (q_I S ow 1).toInt + 1 := by
  have hG : q_G ρ L [2497, 2560] S S := q_G_refl hI
  have b := g_39_I1 hG h.1 h.2
  obtain ⟨oc, eoc, moc, roc⟩ := g_39_R0 hG h.1 h.2
  have hN := g_40_N hG moc roc
  have hl : (nI (q_N S oc)).toInt = 2400 := q_lenI hN (by decide)
  have y1 : (1 : Int32).toInt = 1 := rfl
  have z255 : (255 : Int32).toInt = 255 := rfl
  have e1 : q_I (q_sI S oc (q_I S ow 1).toNatClampNeg (v &&& (255 : Int32))) ow 1 = q_I S ow 1 := q_fwI h.2 roc (by decide)
  have hb := q_andRI (x := v) (y := 255) (by decide)
  rw [z255] at hb
  have ea : ((q_I S ow 1) + (1 : Int32)).toInt = (q_I S ow 1).toInt + 1 := by rw [q_addI (by rw [y1]; omega) (by rw [y1]; omega), y1]
  have G1 := u_40_E (k := (q_I S ow 1).toNatClampNeg) (x := v &&& (255 : Int32)) hG moc roc (by decide) hb
  have G2 := u_39_I1 (x := (q_I S ow 1) + (1 : Int32)) G1 h.1 h.2 (by decide) ⟨by omega, by omega⟩
  refine ⟨_, ?_, G2, by rw [q_hitI, ea]⟩
  unfold m_X4_push m_X4_push_36
  rw [q_at_pos (k_o hI h), eoc, q_at_pos (v_at (c := 100) hI ⟨moc, roc⟩ rfl), if_neg (fun h9 => by have := i_le.mp h9; omega), q_if_pos (q_inI hN (by omega) (by omega)), e1]
theorem o_two (hI : q_Inv ρ L S) (h : ow ∈ L ∧ ρ ow = 39) {v : Int32} (hs : (q_I S ow 1).toInt + 2 ≤ 2400) : ∃ T, m_X4_pushTwo n S ow v = some ((), T) ∧ q_G ρ L [2497, 2560] S T ∧ (q_I T ow 1).toInt = (q_I S ow 1).toInt + 2 := by
  obtain ⟨T1, e1, g1, a1⟩ := o_push (n := n) (v := v >>> ((8 : Int32) &&& 31)) hI h (by omega)
  obtain ⟨T2, e2, g2, a2⟩ := o_push (n := n) (v := v) g1.1 h (by omega)
  refine ⟨T2, ?_, q_G_call (q_G_call (q_G_refl hI) g1 (by decide)) g2 (by decide), by omega⟩
  unfold m_X4_pushTwo
  rw [q_at_pos (k_o hI h), e1, q_b_some, q_at_pos (k_o g1.1 h), e2, q_b_some]
theorem o_four (hI : q_Inv ρ L S) (h : ow ∈ L ∧ ρ ow = 39) {v : Int32} (hs : (q_I S ow 1).toInt + 4 ≤ 2400) : ∃ T, m_X4_pushFour n S ow v = some ((), T) ∧ q_G ρ L [2497, 2560] S T ∧ (q_I T ow 1).toInt = (q_I S ow 1).toInt + 4 := by
  obtain ⟨T1, e1, g1, a1⟩ := o_two (n := n) (v := v >>> ((16 : Int32) &&& 31)) hI h (by omega)
  obtain ⟨T2, e2, g2, a2⟩ := o_two (n := n) (v := v) g1.1 h (by omega)
  refine ⟨T2, ?_, q_G_call (q_G_call (q_G_refl hI) g1 (by decide)) g2 (by decide), by omega⟩
  unfold m_X4_pushFour
  rw [q_at_pos (k_o hI h), e1, q_b_some, q_at_pos (k_o g1.1 h), e2, q_b_some]
theorem o_bytes (hn : 18446744073709551616 ≤ n) (hI : q_Inv ρ L S) (hr : wr ∈ L ∧ ρ wr = 38) (h : ow ∈ L ∧ ρ ow = 39) {t : Nat} (h8 : t ∈ L ∧ ρ t = 8) {p : Int64} (hp : -1 ≤ p.toInt ∧ p.toInt ≤ 4294967295) {k : Int32} (hk : 0 ≤ k.toInt ∧ (q_I S ow 1).toInt + k.toInt ≤ 2400) : ∃ T, m_X10_putBytes n S wr (some t) p k = some ((), T) ∧ q_G ρ L [2497, 2560] S T ∧ (q_I T ow 1).toInt = (q_I S ow 1).toInt + k.toInt := by
  have y1 : (1 : Int32).toInt = 1 := rfl
  have hb := g_39_I1 (q_G_refl (m := []) hI) h.1 h.2
  have loop : ∀ (j q : Nat) (U : q_S) (l5 : Int32), q_G ρ L [2497, 2560] S U → 0 ≤ l5.toInt → l5.toInt + j = k.toInt → j < q → (q_I U ow 1).toInt = (q_I S ow 1).toInt + l5.toInt → ∃ T, m_X10_putBytes_3 n q U (some wr) (some t) p k l5 = some ((), T) ∧ q_G ρ L [2497, 2560] S T ∧ (q_I T ow 1).toInt = (q_I S ow 1).toInt + k.toInt := by
    intro j
    induction j with
    | zero =>
      intro q U l5 gU h0 hj hq hu
      obtain ⟨q, rfl⟩ : ∃ k', q = k' + 1 := ⟨q - 1, by omega⟩
      rw [m_X10_putBytes_3, if_pos (i_le.mpr (by omega))]
      exact ⟨U, rfl, gU, by omega⟩
    | succ j ih =>
      intro q U l5 gU h0 hj hq hu
      obtain ⟨q, rfl⟩ : ∃ k', q = k' + 1 := ⟨q - 1, by omega⟩
      have ea : (p + l5.toInt64).toInt = p.toInt + l5.toInt := by rw [q_addJ (by rw [q_wil]; omega) (by rw [q_wil]; omega), q_wil]
      obtain ⟨r, V, e, eV, -⟩ := s_X7_one_8 hn gU.1 h8.1 h8.2 (p0 := p + l5.toInt64) ⟨by omega, by omega⟩
      subst eV
      obtain ⟨T1, e1, g1, a1⟩ := o_push (n := n) (v := r) gU.1 h (by omega)
      have el : (l5 + 1).toInt = l5.toInt + 1 := by rw [q_addI (by rw [y1]; omega) (by rw [y1]; omega), y1]
      rw [m_X10_putBytes_3, if_neg (fun h9 => by have := i_le.mp h9; omega), q_at_pos (k_r gU.1 hr), q_at_pos (k_8 gU.1 h8), e, q_b_some, l_r3 gU.1 hr h, q_at_pos (k_o gU.1 h), e1, q_b_some]
      exact ih q T1 (l5 + 1) (q_G_call gU g1 (by decide)) (by omega) (by omega) (by omega) (by omega)
  unfold m_X10_putBytes
  exact loop k.toInt.toNat n S 0 (q_G_refl hI) (by decide) (by show (0 : Int) + _ = _; omega) (by omega) (by show _ = _ + (0 : Int); omega)
theorem o_head (hn : 18446744073709551616 ≤ n) (hI : q_Inv ρ L S) (hA : v_Ad ρ L x wo ce tb en ab m fF fT fS fB fL) (hR : v_Rl wo ce tb en ab m fF fT fS fB fL S) (hr : wr ∈ L ∧ ρ wr = 38) (h : ow ∈ L ∧ ρ ow = 39) (hz : (q_I S ow 1).toInt = 0) : ∃ T, m_X10_putHeader n S wr = some ((), T) ∧ q_G ρ L [2497, 2560] S T ∧ (q_I T ow 1).toInt = 12 + 16 * (q_I S m 3).toInt := by
  have hT := g_45_I3 (q_G_refl (m := []) hI) hA.2.2.2.2.2.2.1.1 hA.2.2.2.2.2.2.1.2
  have y1 : (1 : Int32).toInt = 1 := rfl
  have y12 : (12 : Int32).toInt = 12 := rfl
  have y16 : (16 : Int32).toInt = 16 := rfl
  have l0 : ∀ U, q_Inv ρ L U → q_R U wr 0 = some wo := fun U hU => v_ln hU (g_38_R0 (q_G_refl (m := []) hU) hr.1 hr.2) hA.2.1 rfl
  have l1 : ∀ U, q_Inv ρ L U → q_R U wr 1 = some tb := fun U hU => v_ln hU (g_38_R1 (q_G_refl (m := []) hU) hr.1 hr.2) hA.2.2.2.1 rfl
  have e8 : ∀ U, q_G ρ L [2497, 2560] S U → m_X8_size n U tb = some (q_I S m 3, U) := fun U g => by
    unfold m_X8_size
    rw [q_at_pos (k_t g.1 hA.2.2.2.1), q_unI g hA.2.2.2.1.1 hA.2.2.2.1.2 (by decide), hR.2.2.1]
  have em : ((16 : Int32) * (q_I S m 3)).toInt = 16 * (q_I S m 3).toInt := q_mulLI y16 (by omega) (by omega)
  have loop2 : ∀ (j q : Nat) (U : q_S) (l : Int32), q_G ρ L [2497, 2560] S U → 0 ≤ l.toInt → l.toInt + j = 16 * (q_I S m 3).toInt → j < q → (q_I U ow 1).toInt = 12 + l.toInt → ∃ T, m_X10_putHeader_35 n q U (some wr) l = some ((), T) ∧ q_G ρ L [2497, 2560] S T ∧ (q_I T ow 1).toInt = 12 + 16 * (q_I S m 3).toInt := by
    intro j
    induction j with
    | zero =>
      intro q U l gU h0 hj hq hu
      obtain ⟨q, rfl⟩ : ∃ k', q = k' + 1 := ⟨q - 1, by omega⟩
      rw [m_X10_putHeader_35, q_at_pos (k_r gU.1 hr), l1 _ gU.1, q_at_pos (k_t gU.1 hA.2.2.2.1), e8 U gU, q_b_some, if_pos (i_le.mpr (by omega))]
      exact ⟨U, rfl, gU, by omega⟩
    | succ j ih =>
      intro q U l gU h0 hj hq hu
      obtain ⟨q, rfl⟩ : ∃ k', q = k' + 1 := ⟨q - 1, by omega⟩
      obtain ⟨T1, e1, g1, a1⟩ := o_push (n := n) (v := 0) gU.1 h (by omega)
      have el : (l + 1).toInt = l.toInt + 1 := by rw [q_addI (by rw [y1]; omega) (by rw [y1]; omega), y1]
      rw [m_X10_putHeader_35, q_at_pos (k_r gU.1 hr), l1 _ gU.1, q_at_pos (k_t gU.1 hA.2.2.2.1), e8 U gU, q_b_some, if_neg (fun h9 => by have := i_le.mp h9; omega), q_at_pos (k_r gU.1 hr), l_r3 gU.1 hr h, q_at_pos (k_o gU.1 h), e1, q_b_some]
      exact ih q T1 (l + 1) (q_G_call gU g1 (by decide)) (by omega) (by omega) (by omega) (by omega)
  have loop1 : ∀ (j q : Nat) (U : q_S) (l : Int32), q_G ρ L [2497, 2560] S U → 0 ≤ l.toInt → l.toInt + j = 12 → j < q → (q_I U ow 1).toInt = l.toInt → ∃ T, m_X10_putHeader_2 n q U (some wr) l = some ((), T) ∧ q_G ρ L [2497, 2560] S T ∧ (q_I T ow 1).toInt = 12 + 16 * (q_I S m 3).toInt := by
    intro j
    induction j with
    | zero =>
      intro q U l gU h0 hj hq hu
      obtain ⟨q, rfl⟩ : ∃ k', q = k' + 1 := ⟨q - 1, by omega⟩
      rw [m_X10_putHeader_2, if_pos (i_le.mpr (by omega))]
      exact loop2 (16 * (q_I S m 3).toInt).toNat n U 0 gU (by decide) (by show (0 : Int) + _ = _; omega) (by omega) (by show _ = _ + (0 : Int); omega)
    | succ j ih =>
      intro q U l gU h0 hj hq hu
      obtain ⟨q, rfl⟩ : ∃ k', q = k' + 1 := ⟨q - 1, by omega⟩
      obtain ⟨r, er, -, -⟩ := v_rone (n := n) (p := l.toInt64) (e := 12) gU.1 hA.2.1 hA.2.2.1
      obtain ⟨T1, e1, g1, a1⟩ := o_push (n := n) (v := r) gU.1 h (by omega)
      have el : (l + 1).toInt = l.toInt + 1 := by rw [q_addI (by rw [y1]; omega) (by rw [y1]; omega), y1]
      rw [m_X10_putHeader_2, if_neg (fun h9 => by have := i_le.mp h9; omega), q_at_pos (k_r gU.1 hr), l0 _ gU.1, q_at_pos (k_w gU.1 hA.2.1), er, q_b_some, l_r3 gU.1 hr h, q_at_pos (k_o gU.1 h), e1, q_b_some]
      exact ih q T1 (l + 1) (q_G_call gU g1 (by decide)) (by omega) (by omega) (by omega) (by omega)
  unfold m_X10_putHeader
  exact loop1 12 n S 0 (q_G_refl hI) (by decide) (by decide) (by omega) (by rw [hz]; rfl)
theorem o_zeros (hI : q_Inv ρ L S) (hr : wr ∈ L ∧ ρ wr = 38) (h : ow ∈ L ∧ ρ ow = 39) {k : Int32} (hn : 18446744073709551616 ≤ n) (hk : 0 ≤ k.toInt ∧ (q_I S ow 1).toInt + k.toInt ≤ 2400) : ∃ T, m_X10_putTable_131 n n S (some wr) k 0 = some ((), T) ∧ q_G ρ L [2497, 2560] S T ∧ (q_I T ow 1).toInt = (q_I S ow 1).toInt + k.toInt := by
  have y1 : (1 : Int32).toInt = 1 := rfl
  have hb := g_39_I1 (q_G_refl (m := []) hI) h.1 h.2
  have loop : ∀ (j q : Nat) (U : q_S) (l : Int32), q_G ρ L [2497, 2560] S U → 0 ≤ l.toInt → l.toInt + j = k.toInt → j < q → (q_I U ow 1).toInt = (q_I S ow 1).toInt + l.toInt → ∃ T, m_X10_putTable_131 n q U (some wr) k l = some ((), T) ∧ q_G ρ L [2497, 2560] S T ∧ (q_I T ow 1).toInt = (q_I S ow 1).toInt + k.toInt := by
    intro j
    induction j with
    | zero =>
      intro q U l gU h0 hj hq hu
      obtain ⟨q, rfl⟩ : ∃ k', q = k' + 1 := ⟨q - 1, by omega⟩
      rw [m_X10_putTable_131, if_pos (i_le.mpr (by omega))]
      exact ⟨U, rfl, gU, by omega⟩
    | succ j ih =>
      intro q U l gU h0 hj hq hu
      obtain ⟨q, rfl⟩ : ∃ k', q = k' + 1 := ⟨q - 1, by omega⟩
      obtain ⟨T1, e1, g1, a1⟩ := o_push (n := n) (v := 0) gU.1 h (by omega)
      have el : (l + 1).toInt = l.toInt + 1 := by rw [q_addI (by rw [y1]; omega) (by rw [y1]; omega), y1]
      rw [m_X10_putTable_131, if_neg (fun h9 => by have := i_le.mp h9; omega), q_at_pos (k_r gU.1 hr), l_r3 gU.1 hr h, q_at_pos (k_o gU.1 h), e1, q_b_some]
      exact ih q T1 (l + 1) (q_G_call gU g1 (by decide)) (by omega) (by omega) (by omega) (by omega)
  exact loop k.toInt.toNat n S 0 (q_G_refl hI) (by decide) (by show (0 : Int) + _ = _; omega) (by omega) (by show _ = _ + (0 : Int); omega)
end QOU
