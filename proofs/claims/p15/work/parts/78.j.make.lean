/-! VALUES: write(), the one side -/
section QMA
variable {ρ : Nat → Nat} {L M9 : List Nat} {n : Nat} {S S0 T : q_S} {x wo ce tb en ab m fF fT fS fB fL sg tl tg uC wr ow oA sA pA a : Nat}
theorem s_gl_mono (hI : q_Inv ρ L S) (hA : v_Ad ρ L x wo ce tb en ab m fF fT fS fB fL) {i : Nat} : ∀ j, s_gl S m fF fB fL a i ≤ s_gl S m fF fB fL a (i + j)
  | 0 => Int.le_refl _
  | j + 1 => by
    have h1 := s_gl_mono (i := i) hI hA j
    have h2 := s_one_b (a := a) (k := i + j) hI hA
    rw [← Nat.add_assoc, s_gl]
    omega
theorem o_glyf (hn : 18446744073709551616 ≤ n) (hI : q_Inv ρ L S) (hA : v_Ad ρ L x wo ce tb en ab m fF fT fS fB fL) (hR : v_Rl wo ce tb en ab m fF fT fS fB fL S) (hr : wr ∈ L ∧ ρ wr = 38) (h : ow ∈ L ∧ ρ ow = 39) (hs : sg ∈ L ∧ ρ sg = 9) (hsA : sA ∈ L ∧ ρ sA = 42) (hW : w_s ρ L wo m fF fB fL sg tl tg S) (hsz : ∀ i : Nat, (i : Int) < v_sg S m fF fB fL → (q_I S sA i).toInt = s_one S m fF fB fL a i) {t : Nat} (h8 : t ∈ L ∧ ρ t = 8) (hk : (q_I S ow 1).toInt + s_gl S m fF fB fL a (v_sg S m fF fB fL).toNat ≤ 2400) : ∃ T, m_X10_putGlyf n S wr (some t) = some ((), T) ∧ q_G ρ L [2497, 2560] S T ∧ (q_I T ow 1).toInt = (q_I S ow 1).toInt + s_gl S m fF fB fL a (v_sg S m fF fB fL).toNat := by
  have hsb := v_sg_b (S := S) (m := m) (fF := fF) (fB := fB) (fL := fL)
  have hb := g_39_I1 (q_G_refl (m := []) hI) h.1 h.2
  have y1 : (1 : Int32).toInt = 1 := rfl
  have y2 : (2 : Int32).toInt = 2 := rfl
  have l2 : ∀ U, q_Inv ρ L U → q_R U wr 2 = some sg := fun U hU => v_ln hU (g_38_R2 (q_G_refl (m := []) hU) hr.1 hr.2) hs rfl
  have l6 : ∀ U, q_Inv ρ L U → q_R U wr 6 = some sA := fun U hU => v_ln hU (g_38_R6 (q_G_refl (m := []) hU) hr.1 hr.2) hsA rfl
  have loop : ∀ (j q i : Nat) (U : q_S) (l : Int32), q_G ρ L [2497, 2560] S U → l.toInt = i → (i : Int) + j = v_sg S m fF fB fL → j < q → (q_I U ow 1).toInt = (q_I S ow 1).toInt + s_gl S m fF fB fL a i → ∃ T, m_X10_putGlyf_2 n q U (some wr) (some t) l = some ((), T) ∧ q_G ρ L [2497, 2560] S T ∧ (q_I T ow 1).toInt = (q_I S ow 1).toInt + s_gl S m fF fB fL a (v_sg S m fF fB fL).toNat := by
    intro j
    induction j with
    | zero =>
      intro q i U l gU h0 hj hq hu
      obtain ⟨q, rfl⟩ : ∃ k', q = k' + 1 := ⟨q - 1, by omega⟩
      have W := w_s_un hI gU hA hs (by decide) hW
      have e6 : m_X6_size n U sg = some (q_I U sg 5, U) := by unfold m_X6_size; rw [q_at_pos (k_s gU.1 hs)]
      rw [m_X10_putGlyf_2, q_at_pos (k_r gU.1 hr), l2 _ gU.1, q_at_pos (k_s gU.1 hs), e6, q_b_some, if_pos (i_le.mpr (by rw [W.2.2.2.2.2, v_sg_un hI gU hA (by decide)]; omega))]
      exact ⟨U, rfl, gU, by rw [hu, show i = (v_sg S m fF fB fL).toNat by omega]⟩
    | succ j ih =>
      intro q i U l gU h0 hj hq hu
      obtain ⟨q, rfl⟩ : ∃ k', q = k' + 1 := ⟨q - 1, by omega⟩
      have W := w_s_un hI gU hA hs (by decide) hW
      have hsgU : v_sg U m fF fB fL = v_sg S m fF fB fL := v_sg_un hI gU hA (by decide)
      have e6 : m_X6_size n U sg = some (q_I U sg 5, U) := by unfold m_X6_size; rw [q_at_pos (k_s gU.1 hs)]
      obtain ⟨r9, e9, v9⟩ := c_place (n := n) (k := l) gU.1 hA (v_RlU hA gU (by decide) hR) hs W.1 W.2.1 W.2.2.1 ⟨by omega, by omega⟩
      have b9 := z_pl_b (m := m) (fB := fB) (fL := fL) (k := l.toInt) gU.1 hA.2.2.2.2.2.2.2.1
      have ec : l.toNatClampNeg = i := by rw [v_cl h0]; rfl
      have hsi : (q_I U sA i).toInt = s_one S m fF fB fL a i := by rw [q_unIA gU hsA.1 hsA.2 (by decide) (by decide)]; exact hsz i (by omega)
      have bo := s_one_b (a := a) (k := i) hI hA
      have mo := s_gl_mono (a := a) (i := i + 1) hI hA j
      rw [show i + 1 + j = (v_sg S m fF fB fL).toNat by omega, s_gl] at mo
      obtain ⟨T1, e1, g1, a1⟩ := o_bytes (p := r9) (k := q_I U sA i) hn gU.1 hr h h8 ⟨by omega, by omega⟩ ⟨by omega, by omega⟩
      have G1 := q_G_call gU g1 (by decide)
      have hs1 : q_I T1 sA i = q_I U sA i := q_unIA g1 hsA.1 hsA.2 (by decide) (by decide)
      have el : (l + 1).toInt = ((i + 1 : Nat) : Int) := by rw [q_addI (by rw [y1]; omega) (by rw [y1]; omega), y1, h0]; rfl
      have er : ((q_I U sA i) - (q_I U sA i) / (2 : Int32) * (2 : Int32)).toInt = s_one S m fF fB fL a i % 2 := by rw [q_remI (by omega) (by decide), hsi]; rfl
      have inA : q_in l (q_N U sA) = true := q_inI (g_42_N gU hsA.1 hsA.2) (by omega) (by omega)
      have inA1 : q_in l (q_N T1 sA) = true := q_inI (g_42_N G1 hsA.1 hsA.2) (by omega) (by omega)
      rw [m_X10_putGlyf_2, q_at_pos (k_r gU.1 hr), l2 _ gU.1, q_at_pos (k_s gU.1 hs), e6, q_b_some, if_neg (fun h9 => by have := i_le.mp h9; rw [W.2.2.2.2.2, hsgU] at this; omega), q_at_pos (k_r gU.1 hr), l2 _ gU.1, q_at_pos (k_s gU.1 hs), e9, q_b_some, q_at_pos (k_r gU.1 hr), l6 _ gU.1, q_at_pos (v_at (c := 100) gU.1 hsA rfl), q_if_pos inA, ec, e1, q_b_some, q_at_pos (k_r g1.1 hr), l6 _ g1.1, q_at_pos (v_at (c := 100) g1.1 hsA rfl), q_if_pos inA1, q_if_pos (by decide), hs1]
      unfold m_X10_putGlyf_51
      by_cases g0 : s_one S m fF fB fL a i % 2 = 0
      · rw [if_pos (i_eq.mpr (by rw [er]; exact g0))]
        exact ih q (i + 1) T1 (l + 1) G1 el (by omega) (by omega) (by rw [a1, hsi, hu, s_gl]; omega)
      · rw [if_neg (fun h9 => g0 (by rw [← er, h9]; rfl)), l_r3 g1.1 hr h, q_at_pos (k_o g1.1 h)]
        obtain ⟨T2, e2, g2, a2⟩ := o_push (n := n) (v := 0) g1.1 h (by omega)
        rw [e2, q_b_some]
        exact ih q (i + 1) T2 (l + 1) (q_G_call G1 g2 (by decide)) el (by omega) (by omega) (by rw [a2, a1, hsi, hu, s_gl]; omega)
  unfold m_X10_putGlyf
  exact loop (v_sg S m fF fB fL).toNat n 0 S 0 (q_G_refl hI) rfl (by omega) (by omega) (by rw [s_gl]; omega)
theorem o_loca (hn : 18446744073709551616 ≤ n) (hI : q_Inv ρ L S) (hA : v_Ad ρ L x wo ce tb en ab m fF fT fS fB fL) (hr : wr ∈ L ∧ ρ wr = 38) (h : ow ∈ L ∧ ρ ow = 39) (hs : sg ∈ L ∧ ρ sg = 9) (hpA : pA ∈ L ∧ ρ pA = 43) (hW : w_s ρ L wo m fF fB fL sg tl tg S) (hk : (q_I S ow 1).toInt + (v_sg S m fF fB fL + 1) * s_wd S m fF fB fL ≤ 2400) : ∃ T, m_X10_putLoca n S wr = some ((), T) ∧ q_G ρ L [2497, 2560] S T ∧ (q_I T ow 1).toInt = (q_I S ow 1).toInt + (v_sg S m fF fB fL + 1) * s_wd S m fF fB fL := by
  have hsb := v_sg_b (S := S) (m := m) (fF := fF) (fB := fB) (fL := fL)
  have hb := g_39_I1 (q_G_refl (m := []) hI) h.1 h.2
  have y1 : (1 : Int32).toInt = 1 := rfl
  have l2 : ∀ U, q_Inv ρ L U → q_R U wr 2 = some sg := fun U hU => v_ln hU (g_38_R2 (q_G_refl (m := []) hU) hr.1 hr.2) hs rfl
  have l7 : ∀ U, q_Inv ρ L U → q_R U wr 7 = some pA := fun U hU => v_ln hU (g_38_R7 (q_G_refl (m := []) hU) hr.1 hr.2) hpA rfl
  have hwd : s_wd S m fF fB fL = 4 ∨ s_wd S m fF fB fL = 2 := by unfold s_wd; split <;> simp
  have loop : ∀ (j q i : Nat) (U : q_S) (l : Int32), q_G ρ L [2497, 2560] S U → l.toInt = i → (i : Int) + j = v_sg S m fF fB fL + 1 → j < q → (q_I U ow 1).toInt = (q_I S ow 1).toInt + i * s_wd S m fF fB fL → ∃ T, m_X10_putLoca_2 n q U (some wr) l = some ((), T) ∧ q_G ρ L [2497, 2560] S T ∧ (q_I T ow 1).toInt = (q_I S ow 1).toInt + (v_sg S m fF fB fL + 1) * s_wd S m fF fB fL := by
    intro j
    induction j with
    | zero =>
      intro q i U l gU h0 hj hq hu
      obtain ⟨q, rfl⟩ : ∃ k', q = k' + 1 := ⟨q - 1, by omega⟩
      have W := w_s_un hI gU hA hs (by decide) hW
      have e6 : m_X6_size n U sg = some (q_I U sg 5, U) := by unfold m_X6_size; rw [q_at_pos (k_s gU.1 hs)]
      rw [m_X10_putLoca_2, q_at_pos (k_r gU.1 hr), l2 _ gU.1, q_at_pos (k_s gU.1 hs), e6, q_b_some, if_pos (i_lt.mpr (by rw [W.2.2.2.2.2, v_sg_un hI gU hA (by decide)]; omega))]
      exact ⟨U, rfl, gU, by rw [hu, show (i : Int) = v_sg S m fF fB fL + 1 by omega]⟩
    | succ j ih =>
      intro q i U l gU h0 hj hq hu
      obtain ⟨q, rfl⟩ : ∃ k', q = k' + 1 := ⟨q - 1, by omega⟩
      have W := w_s_un hI gU hA hs (by decide) hW
      obtain ⟨z1, -, -, z4, -, -⟩ := z_un hI gU hA (by decide)
      have w1 := W.1
      rw [z1, z4] at w1
      have hsgU : v_sg U m fF fB fL = v_sg S m fF fB fL := v_sg_un hI gU hA (by decide)
      have e6 : m_X6_size n U sg = some (q_I U sg 5, U) := by unfold m_X6_size; rw [q_at_pos (k_s gU.1 hs)]
      have hLP : m_X6_haveLongPlaces n U sg = some (q_I U sg 7, U) := by
        unfold m_X6_haveLongPlaces
        have b := g_9_I7 gU hs.1 hs.2
        rw [q_at_pos (k_s gU.1 hs), q_if_pos (q_b01 b.1 b.2)]
      have el : (l + 1).toInt = ((i + 1 : Nat) : Int) := by rw [q_addI (by rw [y1]; omega) (by rw [y1]; omega), y1, h0]; rfl
      have inP : q_in l (q_N U pA) = true := q_inI (g_43_N gU hpA.1 hpA.2) (by omega) (by omega)
      have hle : ((i : Int) + 1) * s_wd S m fF fB fL ≤ (v_sg S m fF fB fL + 1) * s_wd S m fF fB fL := Int.mul_le_mul_of_nonneg_right (by omega) (by omega)
      have hex : ((i : Int) + 1) * s_wd S m fF fB fL = i * s_wd S m fF fB fL + s_wd S m fF fB fL := by rw [Int.add_mul, Int.one_mul]
      rw [m_X10_putLoca_2, q_at_pos (k_r gU.1 hr), l2 _ gU.1, q_at_pos (k_s gU.1 hs), e6, q_b_some, if_neg (fun h9 => by have := i_lt.mp h9; rw [W.2.2.2.2.2, hsgU] at this; omega), q_at_pos (k_r gU.1 hr), l2 _ gU.1, q_at_pos (k_s gU.1 hs), hLP, q_b_some]
      unfold m_X10_putLoca_54
      by_cases g0 : z_tw S m fF fB fL (q_fd S m 1751474532).toInt 50 = 1
      · have e4 : s_wd S m fF fB fL = 4 := by unfold s_wd; rw [if_pos g0]
        rw [if_pos g0] at w1
        obtain ⟨T2, e2, g2, a2⟩ := o_four (n := n) (v := q_I U pA l.toNatClampNeg) gU.1 h (by omega)
        rw [w1, if_neg (by decide), q_at_pos (k_r gU.1 hr), l7 _ gU.1, q_at_pos (v_at (c := 100) gU.1 hpA rfl), q_if_pos inP, l_r3 gU.1 hr h, q_at_pos (k_o gU.1 h), e2, q_b_some]
        exact ih q (i + 1) T2 (l + 1) (q_G_call gU g2 (by decide)) el (by omega) (by omega) (by rw [a2, hu, show ((i + 1 : Nat) : Int) = (i : Int) + 1 from rfl, hex, e4]; omega)
      · have e4 : s_wd S m fF fB fL = 2 := by unfold s_wd; rw [if_neg g0]
        rw [if_neg g0] at w1
        obtain ⟨T2, e2, g2, a2⟩ := o_two (n := n) (v := (q_I U pA l.toNatClampNeg) / (2 : Int32)) gU.1 h (by omega)
        rw [w1, if_pos rfl, q_at_pos (k_r gU.1 hr), l7 _ gU.1, q_at_pos (v_at (c := 100) gU.1 hpA rfl), q_if_pos inP, q_if_pos (by decide), l_r3 gU.1 hr h, q_at_pos (k_o gU.1 h), e2, q_b_some]
        exact ih q (i + 1) T2 (l + 1) (q_G_call gU g2 (by decide)) el (by omega) (by omega) (by rw [a2, hu, show ((i + 1 : Nat) : Int) = (i : Int) + 1 from rfl, hex, e4]; omega)
  unfold m_X10_putLoca
  exact loop (v_sg S m fF fB fL + 1).toNat n 0 S 0 (q_G_refl hI) rfl (by omega) (by omega) (by simp)
end QMA
