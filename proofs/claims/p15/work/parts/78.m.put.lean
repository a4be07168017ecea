/-! VALUES: write(), the other side: how much is put (v: as if there were no end) -/
def r_at (S : q_S) (m : Nat) (v : Int) : Prop := 0 ≤ v ∧ (v ≤ 2400 → (q_I S m 38).toInt = v ∧ q_I S m 41 = 0) ∧ (2400 < v → (q_I S m 38).toInt = 2400 ∧ q_I S m 41 ≠ 0)
section QRP
variable {ρ : Nat → Nat} {L M9 : List Nat} {n : Nat} {S S0 T : q_S} {x wo ce tb en ab m fF fT fS fB fL us : Nat}
theorem r_at_un (g : q_G ρ L M9 S T) (hm : m ∈ L ∧ ρ m = 45) (h1 : M9.contains 2918 = false) (h2 : M9.contains 2921 = false) {v : Int} (h : r_at S m v) : r_at T m v := by
  unfold r_at
  rw [q_unI (k := 38) g hm.1 hm.2 h1, q_unI (k := 41) g hm.1 hm.2 h2]
  exact h
theorem r_put (hI : q_Inv ρ L S) (hm : m ∈ L ∧ ρ m = 45) {v : Int} (h : r_at S m v) {b : Int32} (hb : 0 ≤ b.toInt ∧ b.toInt ≤ 255) : ∃ T, m_X12_put n S m b = some ((), T) ∧ q_G ρ L M_X12_put_45 S T ∧ r_at T m (v + 1) := by
  have hG : q_G ρ L M_X12_put_45 S S := q_G_refl hI
  obtain ⟨h0, h1, h2⟩ := h
  have y24 : (2400 : Int32).toInt = 2400 := rfl
  have y1 : (1 : Int32).toInt = 1 := rfl
  unfold m_X12_put m_X12_put_38
  rw [q_at_pos (k_m hI hm)]
  by_cases g : 2400 ≤ v
  · have h38 : (q_I S m 38).toInt = 2400 := by
      by_cases g2 : v ≤ 2400
      · rw [(h1 g2).1]; omega
      · exact (h2 (by omega)).1
    have G1 := u_45_I41 (x := 1) hG hm.1 hm.2 (by decide) ⟨by decide, by decide⟩
    rw [if_pos (i_le.mpr (by omega)), q_if_pos (by decide)]
    refine ⟨_, rfl, G1, by omega, fun h9 => by omega, fun _ => ⟨?_, ?_⟩⟩
    · rw [q_ffI (by decide)]; exact h38
    · rw [q_hitI]; decide
  · obtain ⟨h3, h4⟩ := h1 (by omega)
    obtain ⟨wt, ewt, mwt, rwt⟩ := g_45_R39 hG hm.1 hm.2
    have G1 := u_72_E (k := (q_I S m 38).toNatClampNeg) (x := b) hG mwt rwt (by decide) hb
    have f38 : q_I (q_sI S wt (q_I S m 38).toNatClampNeg b) m 38 = q_I S m 38 := q_fwI hm.2 rwt (by decide)
    have f41 : q_I (q_sI S wt (q_I S m 38).toNatClampNeg b) m 41 = q_I S m 41 := q_fwI hm.2 rwt (by decide)
    have ea : ((q_I S m 38) + (1 : Int32)).toInt = v + 1 := by rw [q_addI (by rw [y1]; omega) (by rw [y1]; omega), y1, h3]
    have G2 := u_45_I38 (x := (q_I S m 38) + (1 : Int32)) G1 hm.1 hm.2 (by decide) ⟨by omega, by omega⟩
    rw [if_neg (fun h9 => by have := i_le.mp h9; omega), ewt, q_at_pos (v_at (c := 100) hI ⟨mwt, rwt⟩ rfl), q_if_pos (q_inI (g_72_N hG mwt rwt) (by omega) (by omega)), q_let_eq, f38]
    refine ⟨_, rfl, G2, by omega, fun _ => ⟨?_, ?_⟩, fun h9 => by omega⟩
    · rw [q_hitI, ea]
    · rw [q_ffI (by decide), f41]; exact h4
theorem r_putN (hn : 18446744073709551616 ≤ n) (hI : q_Inv ρ L S) (hm : m ∈ L ∧ ρ m = 45) {v : Int} (h : r_at S m v) {w : Int64} {c : Int32} (hc : 0 ≤ c.toInt ∧ c.toInt ≤ 8) : ∃ T, m_X12_putNumber n S m w c = some ((), T) ∧ q_G ρ L M_X12_put_45 S T ∧ r_at T m (v + c.toInt) := by
  have ym : (-1 : Int32).toInt = -1 := rfl
  have y1 : (1 : Int32).toInt = 1 := rfl
  have y0 : (0 : Int32).toInt = 0 := rfl
  have z255 : (255 : Int64).toInt = 255 := rfl
  have loop : ∀ (j q : Nat) (U : q_S) (l4 : Int32) (u : Int), q_G ρ L M_X12_put_45 S U → l4.toInt + 1 = j → j < q → j ≤ 8 → r_at U m u → ∃ T, m_X12_putNumber_5 n q U (some m) w l4 = some ((), T) ∧ q_G ρ L M_X12_put_45 S T ∧ r_at T m (u + j) := by
    intro j
    induction j with
    | zero =>
      intro q U l4 u gU hl hq hj hu
      obtain ⟨q, rfl⟩ : ∃ k', q = k' + 1 := ⟨q - 1, by omega⟩
      rw [m_X12_putNumber_5, if_pos (i_lt.mpr (by omega))]
      exact ⟨U, rfl, gU, by simpa using hu⟩
    | succ j ih =>
      intro q U l4 u gU hl hq hj hu
      obtain ⟨q, rfl⟩ : ∃ k', q = k' + 1 := ⟨q - 1, by omega⟩
      have hb := q_andRJ (x := w >>> ((((8 : Int32) * l4)).toInt64 &&& 63)) (y := 255) (by decide)
      rw [z255] at hb
      have hb2 : ((((w >>> ((((8 : Int32) * l4)).toInt64 &&& 63)) &&& (255 : Int64)).toInt32)).toInt = ((w >>> ((((8 : Int32) * l4)).toInt64 &&& 63)) &&& (255 : Int64)).toInt := q_wli (by omega) (by omega)
      obtain ⟨T1, e1, g1, a1⟩ := r_put (n := n) (b := ((w >>> ((((8 : Int32) * l4)).toInt64 &&& 63)) &&& (255 : Int64)).toInt32) gU.1 hm hu ⟨by omega, by omega⟩
      rw [m_X12_putNumber_5, if_neg (fun h9 => by have := i_lt.mp h9; omega), q_at_pos (k_m gU.1 hm), e1, q_b_some]
      obtain ⟨T, e, g, a⟩ := ih q T1 (l4 + (-1)) (u + 1) (q_G_call gU g1 (by decide)) (by rw [q_addI (by rw [ym]; omega) (by rw [ym]; omega), ym]; omega) (by omega) (by omega) a1
      exact ⟨T, e, g, by rw [show u + ((j + 1 : Nat) : Int) = u + 1 + j by omega]; exact a⟩
  have e1 : (c - (1 : Int32)).toInt = c.toInt - 1 := by rw [q_subI (by rw [y1]; omega) (by rw [y1]; omega), y1]
  obtain ⟨T, e, g, a⟩ := loop c.toInt.toNat n S (c - 1) v (q_G_refl hI) (by omega) (by omega) (by omega) h
  unfold m_X12_putNumber
  exact ⟨T, e, g, by rw [show c.toInt = ((c.toInt.toNat : Nat) : Int) by omega]; exact a⟩
def r_ev (v : Int) : Int := if v ≤ 2400 then s_pad v else v
theorem r_even (hn : 18446744073709551616 ≤ n) (hI : q_Inv ρ L S) (hm : m ∈ L ∧ ρ m = 45) {v : Int} (h : r_at S m v) : ∃ T, m_X12_even n S m = some ((), T) ∧ q_G ρ L M_X12_put_45 S T ∧ r_at T m (r_ev v) := by
  have y4 : (4 : Int32).toInt = 4 := rfl
  have loop : ∀ (j q : Nat) (U : q_S) (u : Int), q_G ρ L M_X12_put_45 S U → ((4 - u % 4) % 4 = j) → j < q → r_at U m u → ∃ T, m_X12_even_0 n q U (some m) = some ((), T) ∧ q_G ρ L M_X12_put_45 S T ∧ r_at T m (r_ev u) := by
    intro j
    induction j with
    | zero =>
      intro q U u gU hl hq hu
      obtain ⟨q, rfl⟩ : ∃ k', q = k' + 1 := ⟨q - 1, by omega⟩
      have b := g_45_I38 gU hm.1 hm.2
      have er : ((q_I U m 38) - (q_I U m 38) / (4 : Int32) * (4 : Int32)).toInt = (q_I U m 38).toInt % 4 := by rw [q_remI b.1 (by decide)]; rfl
      have e0 : (q_I U m 38).toInt % 4 = 0 := by
        by_cases g9 : u ≤ 2400
        · rw [(hu.2.1 g9).1]; omega
        · rw [(hu.2.2 (by omega)).1]; decide
      have ee : r_ev u = u := by unfold r_ev s_pad; split <;> omega
      unfold m_X12_even_0 m_X12_even_24
      rw [q_at_pos (k_m gU.1 hm), q_if_pos (by decide), if_pos (i_eq.mpr (by rw [er, e0]; rfl)), ee]
      exact ⟨U, rfl, gU, hu⟩
    | succ j ih =>
      intro q U u gU hl hq hu
      obtain ⟨q, rfl⟩ : ∃ k', q = k' + 1 := ⟨q - 1, by omega⟩
      have b := g_45_I38 gU hm.1 hm.2
      have er : ((q_I U m 38) - (q_I U m 38) / (4 : Int32) * (4 : Int32)).toInt = (q_I U m 38).toInt % 4 := by rw [q_remI b.1 (by decide)]; rfl
      unfold m_X12_even_0 m_X12_even_24
      rw [q_at_pos (k_m gU.1 hm), q_if_pos (by decide)]
      by_cases g9 : u ≤ 2400
      · obtain ⟨a1, a2⟩ := hu.2.1 g9
        obtain ⟨T1, e1, g1, c1⟩ := r_put (n := n) (b := 0) gU.1 hm hu ⟨by decide, by decide⟩
        obtain ⟨T, e, g, c⟩ := ih q T1 (u + 1) (q_G_call gU g1 (by decide)) (by omega) (by omega) c1
        have y0 : (0 : Int32).toInt = 0 := rfl
        rw [if_neg (fun h9 => by have := i_eq.mp h9; rw [er, a1] at this; omega), if_pos a2, e1, q_b_some]
        have ee : r_ev (u + 1) = r_ev u := by unfold r_ev s_pad; split <;> omega
        exact ⟨T, e, g, by rw [← ee]; exact c⟩
      · obtain ⟨a1, a2⟩ := hu.2.2 (by omega)
        have ee : r_ev u = u := by unfold r_ev; rw [if_neg g9]
        rw [if_pos (i_eq.mpr (by rw [er, a1]; rfl)), ee]
        exact ⟨U, rfl, gU, hu⟩
  unfold m_X12_even
  exact loop ((4 - v % 4) % 4).toNat n S v (q_G_refl hI) (by omega) (by omega) h
theorem r_goes (hn : 18446744073709551616 ≤ n) (hI : q_Inv ρ L S) (hA : v_Ad ρ L x wo ce tb en ab m fF fT fS fB fL) (hus : us ∈ L ∧ ρ us = 51) (h50 : 0 ≤ z_tw S m fF fB fL (q_fd S m 1751474532).toInt 50) (hgl : 0 ≤ (q_fd S m 1735162214).toInt) {k : Int32} (hk : 0 ≤ k.toInt ∧ k.toInt ≤ 199) : ∃ (r : Int32) (T : q_S), m_X12_goes n S m k = some (r, T) ∧ q_G ρ L M_X12_goes_45 S T ∧ (r = 0 → s_one S m fF fB fL us k.toInt.toNat = 0) ∧ (r ≠ 0 → (q_I T m 22).toInt - (q_I T m 21).toInt = s_one S m fF fB fL us k.toInt.toNat ∧ 0 ≤ (q_I T m 21).toInt ∧ (q_I T m 21).toInt < (q_I T m 22).toInt ∧ (q_I T m 22).toInt ≤ v_len S m fL (q_fd S m 1735162214).toInt) := by
  have hm := hA.2.2.2.2.2.2.1
  have hL := hA.2.2.2.2.2.2.2.2.2.2.2
  have hG : q_G ρ L M_X12_goes_45 S S := q_G_refl hI
  have eus : q_R S m 9 = some us := v_ln hI (g_45_R9 hG hm.1 hm.2) hus rfl
  have ekn : ((k.toInt.toNat : Nat) : Int) = k.toInt := by omega
  obtain ⟨r5, T5, e5, g5, c5, d5, -, f5⟩ := r_look (k := k) hn hI hA h50 hk
  have G5 : q_G ρ L M_X12_goes_45 S T5 := q_G_call hG g5 (by decide)
  have bl := p_lim_b (p := (q_fd S m 1735162214).toInt) hI hm hL
  have b21 := g_45_I21 G5 hm.1 hm.2
  have b22 := g_45_I22 G5 hm.1 hm.2
  have hfr := v_fdR (tag := 1735162214) hI hm hA.2.2.2.2.2.2.2.2.1
  have hT3 := g_45_I3 hG hm.1 hm.2
  unfold m_X12_goes m_X12_goes_51 m_X12_goes_52 s_one
  rw [q_at_pos (k_m hI hm), eus, q_at_pos (v_at (c := 102) hI hus rfl), q_if_pos (q_inI (g_51_N hG hus.1 hus.2) hk.1 (by omega)), v_cl (i := k) rfl, ekn]
  by_cases g0 : q_I S us k.toInt.toNat = 0
  · rw [if_pos g0, q_if_pos (by decide)]
    exact ⟨0, S, rfl, hG, fun _ => if_neg (fun h => h.1 g0), fun h => absurd rfl h⟩
  rw [if_neg g0, e5, q_b_some]
  by_cases g1 : 0 ≤ z_pl S m fF fB fL k.toInt ∧ 0 ≤ z_pl S m fF fB fL (k.toInt + 1)
  case neg =>
    have : r5 = 0 := by rcases c5 with h | h; exact h; exact absurd (d5.mp h) g1
    rw [if_pos this, q_if_pos (by decide)]
    exact ⟨0, T5, rfl, G5, fun _ => if_neg (fun h => g1 ⟨h.2.1, h.2.2.1⟩), fun h => absurd rfl h⟩
  obtain ⟨-, h21, h22⟩ := f5 g1
  rw [if_neg (by rw [d5.mpr g1]; decide), q_at_pos (k_m G5.1 hm)]
  by_cases g2 : (q_I T5 m 22).toInt ≤ (q_I T5 m 21).toInt
  · rw [if_pos (i_le.mpr g2), q_if_pos (by decide)]
    exact ⟨0, T5, rfl, G5, fun _ => by split <;> omega, fun h => absurd rfl h⟩
  have eL : q_R T5 m 7 = some fL := v_m7 G5.1 hm hL
  have eF : q_fd T5 m 1735162214 = q_fd S m 1735162214 := (z_un hI G5 hA (by decide)).2.2.2.1 _
  have eLe : (q_I T5 fL (q_fd S m 1735162214).toNatClampNeg).toInt = v_len S m fL (q_fd S m 1735162214).toInt := by
    unfold v_len
    rw [q_unIA G5 hL.1 hL.2 (by decide) (by decide), if_pos (by omega), v_cl (i := q_fd S m 1735162214) rfl]
  rw [if_neg (fun h => g2 (i_le.mp h)), v_fdM hn G5.1 hm ⟨by decide, by decide⟩, q_b_some, eL, q_at_pos (k_L G5.1 hL), eF, q_if_pos (q_inI (g_50_N G5 hL.1 hL.2) (by omega) (by omega))]
  by_cases g3 : v_len S m fL (q_fd S m 1735162214).toInt < (q_I T5 m 22).toInt
  · rw [if_pos (i_lt.mpr (by rw [eLe]; exact g3)), q_if_pos (by decide)]
    exact ⟨0, T5, rfl, G5, fun _ => by split <;> omega, fun h => absurd rfl h⟩
  · rw [if_neg (fun h => g3 (by have := i_lt.mp h; rw [eLe] at this; exact this)), q_if_pos (by decide)]
    exact ⟨1, T5, rfl, G5, fun h => absurd h (by decide), fun _ => ⟨by rw [if_pos ⟨g0, g1.1, g1.2, by omega, by omega⟩]; omega, b21.1, by omega, by omega⟩⟩
end QRP
