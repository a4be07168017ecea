/-! VALUES: write(), the other side's answer -/
section QRX
variable {ρ : Nat → Nat} {L M9 : List Nat} {n : Nat} {S S0 T : q_S} {x wo ce tb en ab m fF fT fS fB fL us oR : Nat}
theorem r_signs (hn : 18446744073709551616 ≤ n) (hI : q_Inv ρ L S) (hA : v_Ad ρ L x wo ce tb en ab m fF fT fS fB fL) : ∃ (w : Int32) (T : q_S), m_X12_signs n S m = some (w, T) ∧ q_G ρ L [2888] S T ∧ w.toInt = v_sg S m fF fB fL := by
  have hm := hA.2.2.2.2.2.2.1
  have y200 : (200 : Int32).toInt = 200 := rfl
  have y4 : (4 : Int64).toInt = 4 := rfl
  have hG : q_G ρ L [2888] S S := q_G_refl hI
  have G0 := u_45_I8 (x := 0) hG hm.1 hm.2 (by decide) ⟨by decide, by decide⟩
  obtain ⟨u1, u2, u3, u4, u5, u6⟩ := z_un hI G0 hA (by decide)
  have hfd := v_fdR (tag := 1835104368) hI hm hA.2.2.2.2.2.2.2.2.1
  obtain ⟨r, T, e, g, a, v, c⟩ := r_two (p := q_fd S m 1835104368) (i := 4) hn G0.1 hA (by rw [u5]; exact hfd) (by decide)
  rw [q_hitI, u1, y4] at a
  rw [u1, y4] at v
  have GT := q_G_call G0 g (by decide)
  unfold m_X12_signs m_X12_signs_45 v_sg v_cl2
  rw [q_at_pos (k_m hI hm), q_if_pos (Or.inl rfl), v_fdM hn G0.1 hm ⟨by decide, by decide⟩, q_b_some, u4, q_at_pos (k_m G0.1 hm), e, q_b_some, q_at_pos (k_m g.1 hm)]
  by_cases g1 : z_tw S m fF fB fL (q_fd S m 1835104368).toInt 4 < 0
  · rw [if_neg (fun h => by have := (a.mp h).2; omega), if_pos g1]
    exact ⟨0, T, rfl, GT, rfl⟩
  · rw [if_pos (a.mpr ⟨rfl, by omega⟩), if_neg g1]
    by_cases g2 : z_tw S m fF fB fL (q_fd S m 1835104368).toInt 4 ≤ 200
    · rw [if_pos (i_le.mpr (by rw [v (by omega), y200]; exact g2)), if_pos g2]
      exact ⟨r, T, rfl, GT, v (by omega)⟩
    · rw [if_neg (fun h => g2 (by have := i_le.mp h; rw [v (by omega), y200] at this; exact this)), if_neg g2]
      exact ⟨200, T, rfl, GT, rfl⟩
theorem r_140 (hn : 18446744073709551616 ≤ n) (hI : q_Inv ρ L S) (hA : v_Ad ρ L x wo ce tb en ab m fF fT fS fB fL) (hR : v_Rl wo ce tb en ab m fF fT fS fB fL S) (hus : us ∈ L ∧ ρ us = 51) (h50 : 0 ≤ z_tw S m fF fB fL (q_fd S m 1751474532).toInt 50) (hgl : 0 ≤ (q_fd S m 1735162214).toInt) {l1 l2 l4 : Int32} (h2 : l2.toInt = v_sg S m fF fB fL) (h4 : (l4 = 0 ∧ s_wd S m fF fB fL = 2) ∨ (l4 ≠ 0 ∧ s_wd S m fF fB fL = 4)) (hv : r_at S m 0) : ∃ (r : Int32) (T : q_S), m_X12_write_140 n S (some m) l1 l2 l4 = some (r, T) ∧ q_G ρ L M_X12_write_45 S T ∧ (s_tot S m fF fB fL us ≤ 2400 → r.toInt = s_tot S m fF fB fL us) ∧ (2400 < s_tot S m fF fB fL us → r = -1) := by
  have hm := hA.2.2.2.2.2.2.1
  have hF := hA.2.2.2.2.2.2.2.1
  have hT := hA.2.2.2.2.2.2.2.2.1
  have hG : q_G ρ L M_X12_write_45 S S := q_G_refl hI
  have b3 := g_45_I3 hG hm.1 hm.2
  have y1 : (1 : Int32).toInt = 1 := rfl
  have y12 : (12 : Int32).toInt = 12 := rfl
  have y16 : (16 : Int32).toInt = 16 := rfl
  obtain ⟨oR, -, moR, roR⟩ := g_45_R40 hG hm.1 hm.2
  obtain ⟨T1, e1, g1, su, or1⟩ := r_sort (n := n) hn hI hm hT ⟨moR, roR⟩
  have G1 := q_G_call hG g1 (by decide)
  have a1 := r_at_un g1 hm (by decide) (by decide) hv
  have e3 : ∀ U, q_G ρ L M_X12_put_45 T1 U → q_I U m 3 = q_I S m 3 := fun U g => by rw [q_unI g hm.1 hm.2 (by decide), q_unI g1 hm.1 hm.2 (by decide)]
  have em : ((16 : Int32) * (q_I S m 3)).toInt = 16 * (q_I S m 3).toInt := q_mulLI y16 (by omega) (by omega)
  -- the end
  have fin : ∀ U, q_G ρ L M_X12_put_45 T1 U → r_at U m (12 + 16 * (q_I S m 3).toInt) → ∃ (r : Int32) (T : q_S), m_X12_write_205 n n U (some m) l1 l2 l4 0 0 = some (r, T) ∧ q_G ρ L M_X12_write_45 S T ∧ (s_tot S m fF fB fL us ≤ 2400 → r.toInt = s_tot S m fF fB fL us) ∧ (2400 < s_tot S m fF fB fL us → r = -1) := by
    intro U gU aU
    have GU := q_G_call G1 gU (by decide)
    have zu := z_un hI GU hA (by decide)
    obtain ⟨-, -, slu, -⟩ := s_un (a := us) hI GU hA (by decide) (fun k => q_unIA GU hus.1 hus.2 (by decide) (by decide))
    have esl : s_len U m fF fB fL us = s_len S m fF fB fL us := funext slu
    have esg : v_sg U m fF fB fL = v_sg S m fF fB fL := v_sg_un hI GU hA (by decide)
    have ewd : s_wd U m fF fB fL = s_wd S m fF fB fL := by unfold s_wd; rw [zu.1, zu.2.2.2.1]
    have eoR : ∀ j, q_I U oR j = q_I T1 oR j := fun j => q_unIA gU moR roR (by decide) (by decide)
    obtain ⟨r, T, e, g, c1, c2⟩ := r_205 (n := n) (us := us) (oR := oR) (l1 := l1) (l2 := l2) (l4 := l4) (v0 := 12 + 16 * (q_I S m 3).toInt) hn GU.1 hA (v_RlU hA GU (by decide) hR) hus ⟨moR, roR⟩ (by rw [zu.1, zu.2.2.2.1]; exact h50) (by rw [zu.2.2.2.1]; exact hgl) (by rw [esg]; exact h2) (by rw [ewd]; exact h4) (fun j hj => by rw [eoR, e3 U gU]; rw [e3 U gU] at hj; exact or1 j hj) aU (by
      rw [e3 U gU]
      unfold r_P s_pad
      refine ⟨by omega, by omega, fun _ => by omega, fun h => h⟩)
    have es : 12 + 16 * (q_I U m 3).toInt + s_sum (fun j => s_pad (s_len U m fF fB fL us (q_I U oR j).toInt.toNat)) (q_I U m 3).toInt.toNat = s_tot S m fF fB fL us := by
      rw [e3 U gU, esl]
      unfold s_tot
      rw [← su (fun t => s_pad (s_len S m fF fB fL us t))]
      congr 1
      exact s_sum_cg _ (fun j _ => by rw [eoR])
    rw [es] at c1 c2
    exact ⟨r, T, e, q_G_call GU g (by decide), c1, c2⟩
  have loop2 : ∀ (j q : Nat) (U : q_S) (l5 : Int32), q_G ρ L M_X12_put_45 T1 U → 0 ≤ l5.toInt → l5.toInt + j = 16 * (q_I S m 3).toInt → j < q → r_at U m (12 + l5.toInt) → ∃ (r : Int32) (T : q_S), m_X12_write_176 n q U (some m) l1 l2 l4 l5 = some (r, T) ∧ q_G ρ L M_X12_write_45 S T ∧ (s_tot S m fF fB fL us ≤ 2400 → r.toInt = s_tot S m fF fB fL us) ∧ (2400 < s_tot S m fF fB fL us → r = -1) := by
    intro j
    induction j with
    | zero =>
      intro q U l5 gU h5 hj hq hu
      obtain ⟨q, rfl⟩ : ∃ k', q = k' + 1 := ⟨q - 1, by omega⟩
      rw [m_X12_write_176, q_at_pos (k_m gU.1 hm), e3 U gU, if_pos (i_le.mpr (by omega))]
      exact fin U gU (by rw [show 16 * (q_I S m 3).toInt = l5.toInt by omega]; exact hu)
    | succ j ih =>
      intro q U l5 gU h5 hj hq hu
      obtain ⟨q, rfl⟩ : ∃ k', q = k' + 1 := ⟨q - 1, by omega⟩
      have el : (l5 + 1).toInt = l5.toInt + 1 := by rw [q_addI (by rw [y1]; omega) (by rw [y1]; omega), y1]
      obtain ⟨T2, e2, g2, a2⟩ := r_put (n := n) (b := 0) gU.1 hm hu ⟨by decide, by decide⟩
      rw [m_X12_write_176, q_at_pos (k_m gU.1 hm), e3 U gU, if_neg (fun h => by have := i_le.mp h; omega), e2, q_b_some]
      exact ih q T2 (l5 + 1) (q_G_call gU g2 (by decide)) (by omega) (by omega) (by omega) (by rw [el, ← Int.add_assoc]; exact a2)
  have loop1 : ∀ (j q : Nat) (U : q_S) (l5 : Int32), q_G ρ L M_X12_put_45 T1 U → 0 ≤ l5.toInt → l5.toInt + j = 12 → j < q → r_at U m l5.toInt → ∃ (r : Int32) (T : q_S), m_X12_write_149 n q U (some m) l1 l2 l4 l5 = some (r, T) ∧ q_G ρ L M_X12_write_45 S T ∧ (s_tot S m fF fB fL us ≤ 2400 → r.toInt = s_tot S m fF fB fL us) ∧ (2400 < s_tot S m fF fB fL us → r = -1) := by
    intro j
    induction j with
    | zero =>
      intro q U l5 gU h5 hj hq hu
      obtain ⟨q, rfl⟩ : ∃ k', q = k' + 1 := ⟨q - 1, by omega⟩
      rw [m_X12_write_149, if_pos (i_le.mpr (by omega))]
      exact loop2 (16 * (q_I S m 3).toInt).toNat n U 0 gU (by decide) (by show (0 : Int) + _ = _; omega) (by omega) (by rw [show l5.toInt = 12 by omega] at hu; exact hu)
    | succ j ih =>
      intro q U l5 gU h5 hj hq hu
      obtain ⟨q, rfl⟩ : ∃ k', q = k' + 1 := ⟨q - 1, by omega⟩
      have el : (l5 + 1).toInt = l5.toInt + 1 := by rw [q_addI (by rw [y1]; omega) (by rw [y1]; omega), y1]
      obtain ⟨T2, e2, g2, a2⟩ := r_put (n := n) (b := q_I U fF l5.toNatClampNeg) gU.1 hm hu (g_46_E gU hF.1 hF.2)
      rw [m_X12_write_149, if_neg (fun h => by have := i_le.mp h; omega), q_at_pos (k_m gU.1 hm), v_m1 gU.1 hm hF, q_at_pos (k_F gU.1 hF), q_if_pos (q_inI (g_46_N gU hF.1 hF.2) (by omega) (by omega)), e2, q_b_some]
      exact ih q T2 (l5 + 1) (q_G_call gU g2 (by decide)) (by omega) (by omega) (by omega) (by rw [el]; exact a2)
  unfold m_X12_write_140
  rw [q_at_pos (k_m hI hm), e1, q_b_some]
  exact loop1 12 n T1 0 (q_G_refl g1.1) (by decide) (by decide) (by omega) a1
theorem r_62 (hn : 18446744073709551616 ≤ n) (hI : q_Inv ρ L S) (hA : v_Ad ρ L x wo ce tb en ab m fF fT fS fB fL) (hR : v_Rl wo ce tb en ab m fF fT fS fB fL S) (hus : us ∈ L ∧ ρ us = 51) {s0 : Int32} (hv : r_at S m 0) : ∃ (r : Int32) (T : q_S), m_X12_write_62 n S (some m) (q_fd S m 1751474532) s0 = some (r, T) ∧ q_G ρ L M_X12_write_45 S T ∧ (s_ok S m fL ∧ s0 = 0 ∧ s_tot S m fF fB fL us ≤ 2400 → r.toInt = s_tot S m fF fB fL us) ∧ (¬ (s_ok S m fL ∧ s0 = 0 ∧ s_tot S m fF fB fL us ≤ 2400) → r = -1) := by
  have hm := hA.2.2.2.2.2.2.1
  have hF := hA.2.2.2.2.2.2.2.1
  have hT := hA.2.2.2.2.2.2.2.2.1
  have hL := hA.2.2.2.2.2.2.2.2.2.2.2
  have hG : q_G ρ L M_X12_write_45 S S := q_G_refl hI
  have b3 := g_45_I3 hG hm.1 hm.2
  have ym : (-1 : Int32).toInt = -1 := rfl
  have y52 : (52 : Int32).toInt = 52 := rfl
  have y50 : (50 : Int64).toInt = 50 := rfl
  have fr : ∀ tag, (q_fd S m tag).toInt = -1 ∨ (0 ≤ (q_fd S m tag).toInt ∧ (q_fd S m tag).toInt < (q_I S m 3).toInt) := fun tag => v_fdR (tag := tag) hI hm hT
  have bad : ¬ (s_ok S m fL ∧ s0 = 0) → ∃ (r : Int32) (T : q_S), m_X12_write_116 n S = some (r, T) ∧ q_G ρ L M_X12_write_45 S T ∧ (s_ok S m fL ∧ s0 = 0 ∧ s_tot S m fF fB fL us ≤ 2400 → r.toInt = s_tot S m fF fB fL us) ∧ (¬ (s_ok S m fL ∧ s0 = 0 ∧ s_tot S m fF fB fL us ≤ 2400) → r = -1) := fun h => ⟨-1, S, by unfold m_X12_write_116; rfl, hG, fun h9 => absurd ⟨h9.1, h9.2.1⟩ h, fun _ => rfl⟩
  have m1 : ∀ tag, q_fd S m tag = (-1 : Int32) ↔ ¬ 0 ≤ (q_fd S m tag).toInt := fun tag => by
    have := fr tag
    rw [i_eq, ym]
    omega
  unfold m_X12_write_62
  by_cases g1 : 0 ≤ (q_fd S m 1751474532).toInt
  case neg => rw [if_pos ((m1 _).mpr g1)]; exact bad (fun h => g1 h.1.1)
  rw [if_neg (fun h => (m1 _).mp h g1), q_at_pos (k_m hI hm), v_fdM hn hI hm ⟨by decide, by decide⟩, q_b_some]
  by_cases g2 : 0 ≤ (q_fd S m 1835104368).toInt
  case neg => rw [if_pos ((m1 _).mpr g2)]; exact bad (fun h => g2 h.1.2.1)
  rw [if_neg (fun h => (m1 _).mp h g2), q_at_pos (k_m hI hm), v_fdM hn hI hm ⟨by decide, by decide⟩, q_b_some]
  by_cases g3 : 0 ≤ (q_fd S m 1819239265).toInt
  case neg => rw [if_pos ((m1 _).mpr g3)]; exact bad (fun h => g3 h.1.2.2.1)
  rw [if_neg (fun h => (m1 _).mp h g3), q_at_pos (k_m hI hm), v_fdM hn hI hm ⟨by decide, by decide⟩, q_b_some]
  by_cases g4 : 0 ≤ (q_fd S m 1735162214).toInt
  case neg => rw [if_pos ((m1 _).mpr g4)]; exact bad (fun h => g4 h.1.2.2.2.1)
  have f1 := fr 1751474532
  have el : (q_I S fL (q_fd S m 1751474532).toNatClampNeg).toInt = v_len S m fL (q_fd S m 1751474532).toInt := by
    unfold v_len
    rw [if_pos (by omega), v_cl (i := q_fd S m 1751474532) rfl]
  rw [if_neg (fun h => (m1 _).mp h g4), q_at_pos (k_m hI hm), v_m7 hI hm hL, q_at_pos (k_L hI hL), q_if_pos (q_inI (g_50_N hG hL.1 hL.2) (by omega) (by omega))]
  by_cases g5 : 52 ≤ v_len S m fL (q_fd S m 1751474532).toInt
  case neg => rw [if_pos (i_lt.mpr (by omega))]; exact bad (fun h => g5 h.1.2.2.2.2)
  rw [if_neg (fun h => by have := i_lt.mp h; omega)]
  by_cases g6 : s0 = 0
  case neg => rw [if_neg g6]; exact bad (fun h => g6 h.2)
  have hok : s_ok S m fL := ⟨g1, g2, g3, g4, g5⟩
  have h50 : 0 ≤ z_tw S m fF fB fL (q_fd S m 1751474532).toInt 50 := by
    unfold z_tw v_tw
    rw [if_pos (by omega)]
    have c1 := g_46_E hG hF.1 hF.2 (k := (v_st S m fB (q_fd S m 1751474532).toInt + 50).toNat)
    have c2 := g_46_E hG hF.1 hF.2 (k := (v_st S m fB (q_fd S m 1751474532).toInt + 50 + 1).toNat)
    omega
  obtain ⟨w, T1, e1, q1, v1⟩ := r_signs (n := n) hn hI hA
  have G1 := q_G_call hG q1 (by decide)
  have zu := z_un hI G1 hA (by decide)
  obtain ⟨r2, T2, e2, q2, -, v2, -⟩ := r_two (p := q_fd S m 1751474532) (i := 50) hn G1.1 hA (by rw [zu.2.2.2.2.1]; exact f1) (by decide)
  rw [zu.1, y50] at v2
  have v2 := v2 h50
  have G2 := q_G_call G1 q2 (by decide)
  have zu2 := z_un hI G2 hA (by decide)
  have a2 := r_at_un q2 hm (by decide) (by decide) (r_at_un q1 hm (by decide) (by decide) hv)
  obtain ⟨-, -, -, st⟩ := s_un (a := us) hI G2 hA (by decide) (fun k => q_unIA G2 hus.1 hus.2 (by decide) (by decide))
  have ewd : s_wd T2 m fF fB fL = s_wd S m fF fB fL := by unfold s_wd; rw [zu2.1, zu2.2.2.2.1]
  have fin : ∀ l4 : Int32, ((l4 = 0 ∧ s_wd S m fF fB fL = 2) ∨ (l4 ≠ 0 ∧ s_wd S m fF fB fL = 4)) → ∃ (r : Int32) (T : q_S), m_X12_write_140 n T2 (some m) (q_fd S m 1751474532) w l4 = some (r, T) ∧ q_G ρ L M_X12_write_45 S T ∧ (s_ok S m fL ∧ s0 = 0 ∧ s_tot S m fF fB fL us ≤ 2400 → r.toInt = s_tot S m fF fB fL us) ∧ (¬ (s_ok S m fL ∧ s0 = 0 ∧ s_tot S m fF fB fL us ≤ 2400) → r = -1) := by
    intro l4 h4
    obtain ⟨r, T, e, g, c1, c2⟩ := r_140 (n := n) (us := us) (l1 := q_fd S m 1751474532) (l2 := w) (l4 := l4) hn G2.1 hA (v_RlU hA G2 (by decide) hR) hus (by rw [zu2.1, zu2.2.2.2.1]; exact h50) (by rw [zu2.2.2.2.1]; exact g4) (by rw [v_sg_un hI G2 hA (by decide)]; exact v1) (by rw [ewd]; exact h4) a2
    rw [st] at c1 c2
    refine ⟨r, T, e, q_G_call G2 g (by decide), fun h => c1 h.2.2, fun h => c2 ?_⟩
    rcases Int.lt_or_le 2400 (s_tot S m fF fB fL us) with h9 | h9
    · exact h9
    · exact absurd ⟨hok, g6, h9⟩ h
  rw [if_pos g6, e1, q_b_some, q_at_pos (k_m G1.1 hm), e2, q_b_some]
  by_cases g7 : r2 = 1
  · rw [if_pos g7]
    refine fin 1 (Or.inr ⟨by decide, ?_⟩)
    unfold s_wd
    rw [if_pos (by rw [← v2, g7]; rfl)]
  · rw [if_neg g7]
    refine fin 0 (Or.inl ⟨rfl, ?_⟩)
    unfold s_wd
    rw [if_neg (fun h => g7 (i_eq.mpr (by rw [v2, h]; rfl)))]
theorem r_write (hn : 18446744073709551616 ≤ n) (hI : q_Inv ρ L S) (hA : v_Ad ρ L x wo ce tb en ab m fF fT fS fB fL) (hR : v_Rl wo ce tb en ab m fF fT fS fB fL S) (hus : us ∈ L ∧ ρ us = 51) : ∃ (r : Int32) (T : q_S), m_X12_write n S m = some (r, T) ∧ q_G ρ L M_X12_write_45 S T ∧ (s_ok S m fL ∧ z_tw S m fF fB fL (q_fd S m 1835104368).toInt 4 ≤ 200 ∧ s_tot S m fF fB fL us ≤ 2400 → r.toInt = s_tot S m fF fB fL us) ∧ (¬ (s_ok S m fL ∧ z_tw S m fF fB fL (q_fd S m 1835104368).toInt 4 ≤ 200 ∧ s_tot S m fF fB fL us ≤ 2400) → r = -1) := by
  have hm := hA.2.2.2.2.2.2.1
  have hT := hA.2.2.2.2.2.2.2.2.1
  have hL := hA.2.2.2.2.2.2.2.2.2.2.2
  have hG : q_G ρ L M_X12_write_45 S S := q_G_refl hI
  have y200 : (200 : Int32).toInt = 200 := rfl
  have y4 : (4 : Int64).toInt = 4 := rfl
  have H1 := u_45_I0 (x := 0) hG hm.1 hm.2 (by decide) ⟨by decide, by decide⟩
  have H2 := u_45_I38 (x := 0) H1 hm.1 hm.2 (by decide) ⟨by decide, by decide⟩
  have H3 := u_45_I41 (x := 0) H2 hm.1 hm.2 (by decide) ⟨by decide, by decide⟩
  have H4 := u_45_I8 (x := 0) H3 hm.1 hm.2 (by decide) ⟨by decide, by decide⟩
  have a0 : r_at (q_sI (q_sI (q_sI (q_sI S m 0 0) m 38 0) m 41 0) m 8 0) m 0 := ⟨by decide, fun _ => ⟨by rw [q_ffI (by decide), q_ffI (by decide), q_hitI]; rfl, by rw [q_ffI (by decide), q_hitI]⟩, fun h => by omega⟩
  have p0 : q_I (q_sI (q_sI (q_sI (q_sI S m 0 0) m 38 0) m 41 0) m 8 0) m 8 = 0 := q_hitI
  unfold m_X12_write
  rw [q_at_pos (k_m hI hm), q_let_eq, q_if_pos (by decide), q_if_pos (by decide), q_let_eq]
  generalize q_sI (q_sI (q_sI (q_sI S m 0 0) m 38 0) m 41 0) m 8 0 = U at H4 a0 p0 ⊢
  have zu := z_un hI H4 hA (by decide)
  have hfd := v_fdR (tag := 1835104368) hI hm hT
  obtain ⟨r, T, e, g, a, v, c⟩ := r_two (p := q_fd S m 1835104368) (i := 4) hn H4.1 hA (by rw [zu.2.2.2.2.1]; exact hfd) (by decide)
  rw [p0, zu.1, y4] at a
  rw [zu.1, y4] at v
  have GT := q_G_call H4 g (by decide)
  have zt := z_un hI GT hA (by decide)
  have aT := r_at_un g hm (by decide) (by decide) a0
  have fin : ∀ s0 : Int32, (s0 = 0 ↔ z_tw S m fF fB fL (q_fd S m 1835104368).toInt 4 ≤ 200) → ∃ (r : Int32) (T2 : q_S), m_X12_write_62 n T (some m) (q_fd S m 1751474532) s0 = some (r, T2) ∧ q_G ρ L M_X12_write_45 S T2 ∧ (s_ok S m fL ∧ z_tw S m fF fB fL (q_fd S m 1835104368).toInt 4 ≤ 200 ∧ s_tot S m fF fB fL us ≤ 2400 → r.toInt = s_tot S m fF fB fL us) ∧ (¬ (s_ok S m fL ∧ z_tw S m fF fB fL (q_fd S m 1835104368).toInt 4 ≤ 200 ∧ s_tot S m fF fB fL us ≤ 2400) → r = -1) := by
    intro s0 hs
    obtain ⟨r9, T9, e9, g9, c9, d9⟩ := r_62 (n := n) (us := us) (s0 := s0) hn GT.1 hA (v_RlU hA GT (by decide) hR) hus aT
    have eok : s_ok T m fL ↔ s_ok S m fL := by unfold s_ok; rw [zt.2.2.2.1, zt.2.2.2.1, zt.2.2.2.1, zt.2.2.2.1, zt.2.2.2.2.2]
    obtain ⟨-, -, -, st⟩ := s_un (a := us) hI GT hA (by decide) (fun k => q_unIA GT hus.1 hus.2 (by decide) (by decide))
    rw [zt.2.2.2.1] at e9
    rw [eok, hs, st] at c9 d9
    exact ⟨r9, T9, e9, q_G_call GT g9 (by decide), c9, d9⟩
  rw [v_fdM hn H4.1 hm ⟨by decide, by decide⟩, q_b_some, q_at_pos (k_m H4.1 hm), v_fdM hn H4.1 hm ⟨by decide, by decide⟩, q_b_some, q_at_pos (k_m H4.1 hm), zu.2.2.2.1, zu.2.2.2.1, e, q_b_some, q_at_pos (k_m GT.1 hm)]
  unfold m_X12_write_61
  by_cases g1 : z_tw S m fF fB fL (q_fd S m 1835104368).toInt 4 < 0
  · rw [if_neg (fun h => by have := (a.mp h).2; omega)]
    exact fin 0 ⟨fun _ => by omega, fun _ => rfl⟩
  · rw [if_pos (a.mpr ⟨rfl, by omega⟩)]
    have v := v (by omega)
    by_cases g2 : z_tw S m fF fB fL (q_fd S m 1835104368).toInt 4 ≤ 200
    · rw [if_pos (i_le.mpr (by rw [v, y200]; exact g2))]
      exact fin 0 ⟨fun _ => g2, fun _ => rfl⟩
    · rw [if_neg (fun h => g2 (by have := i_le.mp h; rw [v, y200] at this; exact this))]
      exact fin 1 ⟨fun h => absurd h (by decide), fun h => absurd h g2⟩
end QRX
