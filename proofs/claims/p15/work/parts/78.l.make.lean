/-! VALUES: write(), the one side's answer -/
def s_ok (S : q_S) (m fL : Nat) : Prop := 0 ≤ (q_fd S m 1751474532).toInt ∧ 0 ≤ (q_fd S m 1835104368).toInt ∧ 0 ≤ (q_fd S m 1819239265).toInt ∧ 0 ≤ (q_fd S m 1735162214).toInt ∧ 52 ≤ v_len S m fL (q_fd S m 1751474532).toInt
section QMC
variable {ρ : Nat → Nat} {L M9 : List Nat} {n : Nat} {S S0 T : q_S} {x wo ce tb en ab m fF fT fS fB fL sg tl tg uC wr ow oA sA pA a : Nat}
theorem c_there (hn : 18446744073709551616 ≤ n) (hI : q_Inv ρ L S) (hA : v_Ad ρ L x wo ce tb en ab m fF fT fS fB fL) (hR : v_Rl wo ce tb en ab m fF fT fS fB fL S) {tag : Int64} : m_X8_isThere n S tb tag = some (if 0 ≤ (q_fd S m tag).toInt then 1 else 0, S) := by
  have y0 : (0 : Int32).toInt = 0 := rfl
  unfold m_X8_isThere m_X8_isThere_13
  rw [q_at_pos (k_t hI hA.2.2.2.1), v_ixE hn hI hA hR, q_b_some]
  by_cases g : 0 ≤ (q_fd S m tag).toInt
  · rw [if_neg (fun h => by have := i_lt.mp h; omega), if_pos g, q_if_pos (by decide)]
  · rw [if_pos (i_lt.mpr (by omega)), if_neg g, q_if_pos (by decide)]
theorem c_poss (hn : 18446744073709551616 ≤ n) (hI : q_Inv ρ L S) (hA : v_Ad ρ L x wo ce tb en ab m fF fT fS fB fL) (hR : v_Rl wo ce tb en ab m fF fT fS fB fL S) (hr : wr ∈ L ∧ ρ wr = 38) (hs : sg ∈ L ∧ ρ sg = 9) : ∃ r : Int32, m_X10_isPossible n S wr = some (r, S) ∧ (r = 0 ↔ ¬ (s_ok S m fL ∧ q_I S sg 6 = 0)) := by
  have l1 : q_R S wr 1 = some tb := v_ln hI (g_38_R1 (q_G_refl (m := []) hI) hr.1 hr.2) hA.2.2.2.1 rfl
  have l2 : q_R S wr 2 = some sg := v_ln hI (g_38_R2 (q_G_refl (m := []) hI) hr.1 hr.2) hs rfl
  have b6 := g_9_I6 (q_G_refl (m := []) hI) hs.1 hs.2
  have y52 : (52 : Int32).toInt = 52 := rfl
  obtain ⟨t, et, h8, -, h4, -⟩ := v_first (n := n) (tag := 1751474532) hn hI hA hR
  have eC : m_X6_areCutShort n S sg = some (q_I S sg 6, S) := by
    unfold m_X6_areCutShort
    rw [q_at_pos (k_s hI hs), q_if_pos (q_b01 b6.1 b6.2)]
  unfold m_X10_isPossible m_X10_isPossible_84 m_X10_isPossible_85 s_ok
  rw [q_at_pos (k_r hI hr), l1, q_at_pos (k_t hI hA.2.2.2.1), c_there hn hI hA hR, q_b_some]
  by_cases g1 : 0 ≤ (q_fd S m 1751474532).toInt
  case neg => rw [if_neg g1, if_pos rfl, q_if_pos (by decide)]; exact ⟨0, rfl, ⟨fun _ h => g1 h.1.1, fun _ => rfl⟩⟩
  rw [if_pos g1, if_neg (by decide), q_at_pos (k_r hI hr), l1, q_at_pos (k_t hI hA.2.2.2.1), c_there hn hI hA hR, q_b_some]
  by_cases g2 : 0 ≤ (q_fd S m 1835104368).toInt
  case neg => rw [if_neg g2, if_pos rfl, q_if_pos (by decide)]; exact ⟨0, rfl, ⟨fun _ h => g2 h.1.2.1, fun _ => rfl⟩⟩
  rw [if_pos g2, if_neg (by decide), q_at_pos (k_r hI hr), l1, q_at_pos (k_t hI hA.2.2.2.1), c_there hn hI hA hR, q_b_some]
  by_cases g3 : 0 ≤ (q_fd S m 1819239265).toInt
  case neg => rw [if_neg g3, if_pos rfl, q_if_pos (by decide)]; exact ⟨0, rfl, ⟨fun _ h => g3 h.1.2.2.1, fun _ => rfl⟩⟩
  rw [if_pos g3, if_neg (by decide), q_at_pos (k_r hI hr), l1, q_at_pos (k_t hI hA.2.2.2.1), c_there hn hI hA hR, q_b_some]
  by_cases g4 : 0 ≤ (q_fd S m 1735162214).toInt
  case neg => rw [if_neg g4, if_pos rfl, q_if_pos (by decide)]; exact ⟨0, rfl, ⟨fun _ h => g4 h.1.2.2.2.1, fun _ => rfl⟩⟩
  rw [if_pos g4, if_neg (by decide), q_at_pos (k_r hI hr), l1, q_at_pos (k_t hI hA.2.2.2.1), et, q_b_some, q_at_pos (k_8 hI h8)]
  by_cases g5 : 52 ≤ v_len S m fL (q_fd S m 1751474532).toInt
  case neg => rw [if_pos (i_lt.mpr (by omega)), q_if_pos (by decide)]; exact ⟨0, rfl, ⟨fun _ h => g5 h.1.2.2.2.2, fun _ => rfl⟩⟩
  rw [if_neg (fun h => by have := i_lt.mp h; omega), q_at_pos (k_r hI hr), l2, q_at_pos (k_s hI hs), eC, q_b_some]
  by_cases g6 : q_I S sg 6 = 0
  case neg => rw [if_neg g6, q_if_pos (by decide)]; exact ⟨0, rfl, ⟨fun _ h => g6 h.2, fun _ => rfl⟩⟩
  rw [if_pos g6, q_if_pos (by decide)]
  exact ⟨1, rfl, ⟨fun h => absurd h (by decide), fun h => absurd ⟨⟨g1, g2, g3, g4, g5⟩, g6⟩ h⟩⟩
theorem w_o_un (hA : v_Ad ρ L x wo ce tb en ab m fF fT fS fB fL) (hs : sg ∈ L ∧ ρ sg = 9) (hu : uC ∈ L ∧ ρ uC = 10) (hsA : sA ∈ L ∧ ρ sA = 42) (hO : w_o ρ L wo ce tb en ab m fF fT fS fB fL sg tl tg uC sA S) (g : q_G ρ L M9 S T) (h : w_fr M9 = true) (h1 : M9.contains 640 = false) (h2 : M9.contains 2688 = false) : w_o ρ L wo ce tb en ab m fF fT fS fB fL sg tl tg uC sA T := by
  obtain ⟨hI, hR, hW, hz⟩ := hO
  have h9 := (w_frE h).1
  obtain ⟨su, -, -, -⟩ := s_un (a := uC) hI g hA h9 (fun k => q_unIA g hu.1 hu.2 (by decide) h1)
  refine ⟨g.1, v_RlU hA g h9 hR, w_s_un hI g hA hs h hW, fun i hi => ?_⟩
  rw [v_sg_un hI g hA h9] at hi
  rw [su, q_unIA g hsA.1 hsA.2 (by decide) h2]
  exact hz i hi
theorem s_sum_mono {f : Nat → Int} (h : ∀ i, 0 ≤ f i) {i : Nat} : ∀ j, s_sum f i ≤ s_sum f (i + j)
  | 0 => Int.le_refl _
  | j + 1 => by
    have h1 := s_sum_mono h (i := i) j
    have h2 := h (i + j)
    rw [← Nat.add_assoc, s_sum]
    omega
theorem o_make42 (hn : 18446744073709551616 ≤ n) (hA : v_Ad ρ L x wo ce tb en ab m fF fT fS fB fL) (hr : wr ∈ L ∧ ρ wr = 38) (h : ow ∈ L ∧ ρ ow = 39) (hs : sg ∈ L ∧ ρ sg = 9) (hu : uC ∈ L ∧ ρ uC = 10) (hoA : oA ∈ L ∧ ρ oA = 41) (hsA : sA ∈ L ∧ ρ sA = 42) (hpA : pA ∈ L ∧ ρ pA = 43) (hO : w_o ρ L wo ce tb en ab m fF fT fS fB fL sg tl tg uC sA S) (ho : ∀ j : Nat, (j : Int) < (q_I S m 3).toInt → (q_I S oA j).toInt < (q_I S m 3).toInt) (hk : (q_I S ow 1).toInt + s_sum (fun j => s_pad (s_len S m fF fB fL uC (q_I S oA j).toInt.toNat)) (q_I S m 3).toInt.toNat ≤ 2400) : ∃ (r : Int32) (T : q_S), m_X10_make_42 n n S (some wr) 0 = some (r, T) ∧ q_G ρ L M_X10_putTable_38 S T ∧ r.toInt = (q_I S ow 1).toInt + s_sum (fun j => s_pad (s_len S m fF fB fL uC (q_I S oA j).toInt.toNat)) (q_I S m 3).toInt.toNat := by
  have hI := hO.1
  have hR := hO.2.1
  have hT := g_45_I3 (q_G_refl (m := []) hI) hA.2.2.2.2.2.2.1.1 hA.2.2.2.2.2.2.1.2
  have y1 : (1 : Int32).toInt = 1 := rfl
  have y0 : (0 : Int32).toInt = 0 := rfl
  have l1 : ∀ U, q_Inv ρ L U → q_R U wr 1 = some tb := fun U hU => v_ln hU (g_38_R1 (q_G_refl (m := []) hU) hr.1 hr.2) hA.2.2.2.1 rfl
  have l5 : ∀ U, q_Inv ρ L U → q_R U wr 5 = some oA := fun U hU => v_ln hU (g_38_R5 (q_G_refl (m := []) hU) hr.1 hr.2) hoA rfl
  have es : ∀ U, q_Inv ρ L U → m_X4_size n U ow = some (q_I U ow 1, U) := fun U hU => by unfold m_X4_size; rw [q_at_pos (k_o hU h)]
  have e8 : ∀ U, q_G ρ L M_X10_putTable_38 S U → m_X8_size n U tb = some (q_I S m 3, U) := fun U g => by
    unfold m_X8_size
    rw [q_at_pos (k_t g.1 hA.2.2.2.1), q_unI g hA.2.2.2.1.1 hA.2.2.2.1.2 (by decide), hR.2.2.1]
  have hf : ∀ i, 0 ≤ (fun j => s_pad (s_len S m fF fB fL uC (q_I S oA j).toInt.toNat)) i := fun i => (s_pad_b (s_len_b (a := uC) (t := (q_I S oA i).toInt.toNat) hI hA)).1
  have loop : ∀ (j q i : Nat) (U : q_S) (l : Int32), q_G ρ L M_X10_putTable_38 S U → l.toInt = i → (i : Int) + j = (q_I S m 3).toInt → j < q → (q_I U ow 1).toInt = (q_I S ow 1).toInt + s_sum (fun j => s_pad (s_len S m fF fB fL uC (q_I S oA j).toInt.toNat)) i → ∃ (r : Int32) (T : q_S), m_X10_make_42 n q U (some wr) l = some (r, T) ∧ q_G ρ L M_X10_putTable_38 S T ∧ r.toInt = (q_I S ow 1).toInt + s_sum (fun j => s_pad (s_len S m fF fB fL uC (q_I S oA j).toInt.toNat)) (q_I S m 3).toInt.toNat := by
    intro j
    induction j with
    | zero =>
      intro q i U l gU h0 hj hq hu9
      obtain ⟨q, rfl⟩ : ∃ k', q = k' + 1 := ⟨q - 1, by omega⟩
      obtain ⟨_, T, eT, gT⟩ := s_X10_putFileSum_38 hn gU.1 hr.1 hr.2
      rw [m_X10_make_42, q_at_pos (k_r gU.1 hr), l1 _ gU.1, q_at_pos (k_t gU.1 hA.2.2.2.1), e8 U gU, q_b_some, if_pos (i_le.mpr (by omega)), q_at_pos (k_r gU.1 hr), eT, q_b_some, q_at_pos (k_r gT.1 hr), l_r3 gT.1 hr h, q_at_pos (k_o gT.1 h), es _ gT.1, q_b_some]
      exact ⟨_, T, rfl, q_G_call gU gT (by decide), by rw [q_unI gT h.1 h.2 (by decide), hu9, show i = (q_I S m 3).toInt.toNat by omega]⟩
    | succ j ih =>
      intro q i U l gU h0 hj hq hu9
      obtain ⟨q, rfl⟩ : ∃ k', q = k' + 1 := ⟨q - 1, by omega⟩
      have hOU := w_o_un hA hs hu hsA hO gU (by decide) (by decide) (by decide)
      obtain ⟨-, -, sl, -⟩ := s_un (a := uC) hI gU hA (by decide) (fun k => q_unIA gU hu.1 hu.2 (by decide) (by decide))
      have eo : q_I U oA i = q_I S oA i := q_unIA gU hoA.1 hoA.2 (by decide) (by decide)
      have ec : l.toNatClampNeg = i := by rw [v_cl h0]; rfl
      have bo := g_41_E gU hoA.1 hoA.2 (k := i)
      rw [eo] at bo
      have ho' := ho i (by omega)
      have e3 : q_I U m 3 = q_I S m 3 := q_unI gU hA.2.2.2.2.2.2.1.1 hA.2.2.2.2.2.2.1.2 (by decide)
      have mo := s_sum_mono hf (i := i + 1) j
      rw [show i + 1 + j = (q_I S m 3).toInt.toNat by omega, s_sum] at mo
      obtain ⟨T1, eT1, g1, c1⟩ := o_table (i := l) (t := q_I U oA i) (pA := pA) hn hA hr h hs hsA hpA hOU ⟨by omega, by omega⟩ ⟨by rw [eo]; omega, by rw [eo, e3]; exact ho'⟩ (by rw [sl, eo, hu9]; omega)
      rw [sl, eo] at c1
      have inA : q_in l (q_N U oA) = true := q_inI (g_41_N gU hoA.1 hoA.2) (by omega) (by omega)
      rw [m_X10_make_42, q_at_pos (k_r gU.1 hr), l1 _ gU.1, q_at_pos (k_t gU.1 hA.2.2.2.1), e8 U gU, q_b_some, if_neg (fun h9 => by have := i_le.mp h9; omega), q_at_pos (k_r gU.1 hr), l5 _ gU.1, q_at_pos (v_at (c := 100) gU.1 hoA rfl), q_if_pos inA, ec, eT1, q_b_some]
      exact ih q (i + 1) T1 (l + 1) (q_G_call gU g1 (by decide)) (by rw [q_addI (by rw [y1]; omega) (by rw [y1]; omega), y1, h0]; rfl) (by omega) (by omega) (by rw [c1, hu9, s_sum]; omega)
  exact loop (q_I S m 3).toInt.toNat n 0 S 0 (q_G_refl hI) rfl (by omega) (by omega) (by rw [s_sum]; omega)
theorem c_make (hn : 18446744073709551616 ≤ n) (hI : q_Inv ρ L S) (hA : v_Ad ρ L x wo ce tb en ab m fF fT fS fB fL) (hR : v_Rl wo ce tb en ab m fF fT fS fB fL S) (hr : wr ∈ L ∧ ρ wr = 38) (hs : sg ∈ L ∧ ρ sg = 9) (hu : uC ∈ L ∧ ρ uC = 10) (hpA : pA ∈ L ∧ ρ pA = 43) (hW : w_s ρ L wo m fF fB fL sg tl tg S) (hp0 : q_I S pA 0 = 0) : ∃ (r : Int32) (T : q_S), m_X10_make n S wr = some (r, T) ∧ q_G ρ L M_X10_make_38 S T ∧ q_I T pA 0 = 0 ∧ (s_ok S m fL ∧ q_I S sg 6 = 0 ∧ s_tot S m fF fB fL uC ≤ 2400 → r.toInt = s_tot S m fF fB fL uC) ∧ (¬ (s_ok S m fL ∧ q_I S sg 6 = 0 ∧ s_tot S m fF fB fL uC ≤ 2400) → r = -1) := by
  have hG : q_G ρ L M_X10_make_38 S S := q_G_refl hI
  have y24 : (2400 : Int32).toInt = 2400 := rfl
  have y0 : (0 : Int32).toInt = 0 := rfl
  obtain ⟨ow, -, mow, row⟩ := g_38_R3 hG hr.1 hr.2
  obtain ⟨oA, -, moA, roA⟩ := g_38_R5 hG hr.1 hr.2
  obtain ⟨sA, -, msA, rsA⟩ := g_38_R6 hG hr.1 hr.2
  have h : ow ∈ L ∧ ρ ow = 39 := ⟨mow, row⟩
  have hoA : oA ∈ L ∧ ρ oA = 41 := ⟨moA, roA⟩
  have hsA : sA ∈ L ∧ ρ sA = 42 := ⟨msA, rsA⟩
  obtain ⟨r1, e1, v1⟩ := c_poss (n := n) hn hI hA hR hr hs
  unfold m_X10_make
  rw [q_at_pos (k_r hI hr), e1, q_b_some]
  by_cases g1 : s_ok S m fL ∧ q_I S sg 6 = 0
  case neg =>
    rw [if_pos (v1.mpr g1)]
    exact ⟨-1, S, rfl, hG, hp0, fun h9 => absurd ⟨h9.1, h9.2.1⟩ g1, fun _ => rfl⟩
  obtain ⟨T2, e2, G2, p2, sz2, pl2⟩ := c_findP (n := n) hn hI hA hR hr hs hu hsA hpA hW hp0
  have W2 := w_s_un hI G2 hA hs (by decide) hW
  have R2 := v_RlU hA G2 (by decide) hR
  obtain ⟨so, sg2, sl, st⟩ := s_un (a := uC) hI G2 hA (by decide) (fun k => q_unIA G2 hu.1 hu.2 (by decide) (by decide))
  have hsg : v_sg T2 m fF fB fL = v_sg S m fF fB fL := v_sg_un hI G2 hA (by decide)
  have e3 : q_I T2 m 3 = q_I S m 3 := q_unI G2 hA.2.2.2.2.2.2.1.1 hA.2.2.2.2.2.2.1.2 (by decide)
  obtain ⟨r3, eS, v3⟩ := c_newSize (n := n) (uC := uC) hn G2.1 hA R2 hr hs hpA W2 (fun i hi => by rw [sg2]; rw [hsg] at hi; exact pl2 i hi)
  rw [st] at v3
  have G2' : q_G ρ L M_X10_make_38 S T2 := q_G_call hG G2 (by decide)
  rw [if_neg (fun h9 => v1.mp h9 g1), q_at_pos (k_r hI hr), e2, q_b_some, q_at_pos (k_r G2.1 hr), eS, q_b_some]
  by_cases g2 : s_tot S m fF fB fL uC ≤ 2400
  case neg =>
    rw [if_neg (fun h9 => by have := i_le.mp h9; omega)]
    exact ⟨-1, T2, rfl, G2', p2, fun h9 => absurd h9.2.2 g2, fun _ => rfl⟩
  rw [if_pos (i_le.mpr (by omega))]
  obtain ⟨T4, e4, G4, su4, or4⟩ := c_sort (n := n) hn G2.1 hA R2 hr hoA
  have G4' := q_G_call G2' G4 (by decide)
  have R4 := v_RlU hA G4 (by decide) R2
  have O2 : w_o ρ L wo ce tb en ab m fF fT fS fB fL sg tl tg uC sA T2 := ⟨G2.1, R2, W2, fun i hi => by rw [so]; rw [hsg] at hi; exact sz2 i hi⟩
  have O4 := w_o_un hA hs hu hsA O2 G4 (by decide) (by decide) (by decide)
  have G5 := u_39_I1 (x := 0) (q_G_refl (m := [2497]) G4.1) mow row (by decide) ⟨by decide, by decide⟩
  have G5' := q_G_call G4' G5 (by decide)
  have O5 := w_o_un hA hs hu hsA O4 G5 (by decide) (by decide) (by decide)
  have R5 := O5.2.1
  have eCl : m_X4_clear n T4 ow = some ((), q_sI T4 ow 1 0) := by unfold m_X4_clear; rw [q_at_pos (k_o G4.1 h)]
  obtain ⟨T6, e6, G6, c6⟩ := o_head (n := n) hn G5.1 hA R5 hr h (by rw [q_hitI]; rfl)
  have G6' := q_G_call G5' G6 (by decide)
  have O6 := w_o_un hA hs hu hsA O5 G6 (by decide) (by decide) (by decide)
  have m3 : ∀ {M9 : List Nat} {U V : q_S}, q_G ρ L M9 U V → M9.contains 2883 = false → q_I V m 3 = q_I U m 3 := fun g hm => q_unI (k := 3) g hA.2.2.2.2.2.2.1.1 hA.2.2.2.2.2.2.1.2 hm
  have e36 : q_I T6 m 3 = q_I S m 3 := by rw [m3 G6 (by decide), m3 G5 (by decide), m3 G4 (by decide), e3]
  have eoA : ∀ j, q_I T6 oA j = q_I T4 oA j := fun j => by rw [q_unIA G6 hoA.1 hoA.2 (by decide) (by decide), q_unIA G5 hoA.1 hoA.2 (by decide) (by decide)]
  have esl : s_len T6 m fF fB fL uC = s_len S m fF fB fL uC := funext fun t => by
    obtain ⟨-, -, s6, -⟩ := s_un (a := uC) G5.1 G6 hA (by decide) (fun k => q_unIA G6 hu.1 hu.2 (by decide) (by decide))
    obtain ⟨-, -, s5, -⟩ := s_un (a := uC) G4.1 G5 hA (by decide) (fun k => q_unIA G5 hu.1 hu.2 (by decide) (by decide))
    obtain ⟨-, -, s4, -⟩ := s_un (a := uC) G2.1 G4 hA (by decide) (fun k => q_unIA G4 hu.1 hu.2 (by decide) (by decide))
    rw [s6, s5, s4, sl]
  have e5m : q_I (q_sI T4 ow 1 0) m 3 = q_I S m 3 := by rw [m3 G5 (by decide), m3 G4 (by decide), e3]
  rw [e5m] at c6
  rw [e3] at su4 or4
  have eq : (q_I T6 ow 1).toInt + s_sum (fun j => s_pad (s_len T6 m fF fB fL uC (q_I T6 oA j).toInt.toNat)) (q_I T6 m 3).toInt.toNat = s_tot S m fF fB fL uC := by
    rw [c6, e36, esl]
    unfold s_tot
    have := su4 (fun t => s_pad (s_len S m fF fB fL uC t))
    rw [← this]
    congr 1
    exact s_sum_cg _ (fun j _ => by rw [eoA])
  obtain ⟨r, T, eT, GT, vT⟩ := o_make42 (n := n) (pA := pA) hn hA hr h hs hu hoA hsA hpA O6 (fun j hj => by rw [eoA, e36]; rw [e36] at hj; exact or4 j hj) (by rw [eq]; exact g2)
  rw [eq] at vT
  rw [q_at_pos (k_r G2.1 hr), e4, q_b_some, q_at_pos (k_r G4.1 hr), l_r3 G4.1 hr h, q_at_pos (k_o G4.1 h), eCl, q_b_some, q_at_pos (k_r G5.1 hr), e6, q_b_some, eT]
  refine ⟨r, T, rfl, q_G_call G6' GT (by decide), ?_, fun _ => vT, fun h9 => absurd ⟨g1.1, g1.2, g2⟩ h9⟩
  rw [q_unIA GT hpA.1 hpA.2 (by decide) (by decide), q_unIA G6 hpA.1 hpA.2 (by decide) (by decide), q_unIA G5 hpA.1 hpA.2 (by decide) (by decide), q_unIA G4 hpA.1 hpA.2 (by decide) (by decide)]
  exact p2
theorem c_write (hn : 18446744073709551616 ≤ n) (hI : q_Inv ρ L S) (hA : v_Ad ρ L x wo ce tb en ab m fF fT fS fB fL) (hR : v_Rl wo ce tb en ab m fF fT fS fB fL S) (hs : sg ∈ L ∧ ρ sg = 9) (hu : uC ∈ L ∧ ρ uC = 10) (hpA : pA ∈ L ∧ ρ pA = 43) (hW : w_s ρ L wo m fF fB fL sg tl tg S) (hp0 : q_I S pA 0 = 0) : ∃ (r : Int32) (T : q_S), m_X11_write n S x = some (r, T) ∧ q_G ρ L M_X11_write_0 S T ∧ q_I T pA 0 = 0 ∧ (s_ok S m fL ∧ q_I S sg 6 = 0 ∧ s_tot S m fF fB fL uC ≤ 2400 → r.toInt = s_tot S m fF fB fL uC) ∧ (¬ (s_ok S m fL ∧ q_I S sg 6 = 0 ∧ s_tot S m fF fB fL uC ≤ 2400) → r = -1) := by
  obtain ⟨wr, ewr, mwr, rwr⟩ := g_0_R7 (q_G_refl (m := []) hI) hA.1.1 hA.1.2
  obtain ⟨r, T, e, g, h⟩ := c_make (n := n) hn hI hA hR ⟨mwr, rwr⟩ hs hu hpA hW hp0
  refine ⟨r, T, ?_, g, h⟩
  unfold m_X11_write
  rw [q_at_pos (k_x hI hA.1), ewr, q_at_pos (k_r hI ⟨mwr, rwr⟩), e, q_b_some]
end QMC
