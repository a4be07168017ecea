/-! VALUES: DATA of a SIGN, the one side (role 9: 7 longPlaces, rows 8 loca, 9 glyf) -/
section QOP
variable {ρ : Nat → Nat} {L M9 : List Nat} {n : Nat} {S T : q_S} {x wo ce tb en ab m fF fT fS fB fL sg dt tl tg : Nat}
theorem k_s (hI : q_Inv ρ L S) (h : sg ∈ L ∧ ρ sg = 9) : sg ∈ q_L S ∧ q_K S sg = 7 := v_at hI h rfl
theorem c_place (hI : q_Inv ρ L S) (hA : v_Ad ρ L x wo ce tb en ab m fF fT fS fB fL) (hR : v_Rl wo ce tb en ab m fF fT fS fB fL S) (hs : sg ∈ L ∧ ρ sg = 9) (h7 : q_I S sg 7 = if z_tw S m fF fB fL (q_fd S m 1751474532).toInt 50 = 1 then 1 else 0) (h8 : q_R S sg 8 = some tl) (hl : v_is ρ L wo m fB fL S tl (q_fd S m 1819239265).toInt) {k : Int32} (hk : 0 ≤ k.toInt ∧ k.toInt ≤ 200) : ∃ r : Int64, m_X6_placeAt n S sg k = some (r, S) ∧ r.toInt = z_pl S m fF fB fL k.toInt := by
  have y2 : (2 : Int64).toInt = 2 := rfl
  have y4 : (4 : Int64).toInt = 4 := rfl
  have ym : (-1 : Int32).toInt = -1 := rfl
  have e2k : ((2 : Int64) * (k.toInt64)).toInt = 2 * k.toInt := by rw [q_mulLJ y2 (by rw [q_wil]; omega) (by rw [q_wil]; omega), q_wil]
  have e4k : ((4 : Int64) * (k.toInt64)).toInt = 4 * k.toInt := by rw [q_mulLJ y4 (by rw [q_wil]; omega) (by rw [q_wil]; omega), q_wil]
  unfold m_X6_placeAt m_X6_placeAt_52 z_pl
  rw [q_at_pos (k_s hI hs), h7, h8]
  by_cases g : z_tw S m fF fB fL (q_fd S m 1751474532).toInt 50 = 1
  · obtain ⟨r, e, v⟩ := v_cfr (n := n) (i := (4 : Int64) * (k.toInt64)) hI hA hR hl (by omega)
    rw [if_pos g, if_neg (by decide), q_at_pos (k_8 hI hl.1), e, q_b_some, if_pos g]
    exact ⟨r, rfl, by rw [v, e4k]⟩
  · obtain ⟨r, e, v⟩ := v_ctw (n := n) (i := (2 : Int64) * (k.toInt64)) hI hA hR hl (by omega)
    have hb := z_tw_b (m := m) (fB := fB) (fL := fL) (p := (q_fd S m 1819239265).toInt) (i := 2 * k.toInt) hI hA.2.2.2.2.2.2.2.1
    rw [e2k] at v
    rw [if_neg g, if_pos rfl, q_at_pos (k_8 hI hl.1), e, q_b_some, if_neg g]
    by_cases g2 : z_tw S m fF fB fL (q_fd S m 1819239265).toInt (2 * k.toInt) < 0
    · rw [if_pos (i_eq.mpr (by rw [v, ym]; omega)), if_pos g2]
      exact ⟨_, rfl, rfl⟩
    · have er : ((2 : Int64) * (r.toInt64)).toInt = 2 * r.toInt := by rw [q_mulLJ y2 (by rw [q_wil]; omega) (by rw [q_wil]; omega), q_wil]
      rw [if_neg (fun h => g2 (by have := i_eq.mp h; rw [v, ym] at this; omega)), if_neg g2]
      exact ⟨_, rfl, by rw [er, v]⟩
theorem d_skip (hI : q_Inv ρ L S) (hd : dt ∈ L ∧ ρ dt = 12) (hp : (q_J S dt 3).toInt ≤ 281474976000000) (hp0 : 0 ≤ (q_J S dt 3).toInt) : ∃ T, m_X1_skip n S dt 8 = some ((), T) ∧ q_G ρ L [770, 771] S T ∧ (q_J T dt 3).toInt = (q_J S dt 3).toInt + 8 ∧ (q_I T dt 2 = 0 ↔ q_I S dt 2 = 0 ∧ (q_J S dt 3).toInt + 8 ≤ (q_J S dt 4).toInt) := by
  have y8 : (8 : Int32).toInt = 8 := rfl
  have ea : ((q_J S dt 3) + (8 : Int32).toInt64).toInt = (q_J S dt 3).toInt + 8 := by rw [q_addJ (by rw [q_wil, y8]; omega) (by rw [q_wil, y8]; omega), q_wil, y8]
  have hG : q_G ρ L [770, 771] S S := q_G_refl hI
  have hG1 := u_12_J3 (x := (q_J S dt 3) + (8 : Int32).toInt64) hG hd.1 hd.2 (by decide) (by rw [ea]; omega)
  have e2 : q_I (q_sJ S dt 3 ((q_J S dt 3) + (8 : Int32).toInt64)) dt 2 = q_I S dt 2 := q_skIJ
  have e3 : q_J (q_sJ S dt 3 ((q_J S dt 3) + (8 : Int32).toInt64)) dt 3 = (q_J S dt 3) + (8 : Int32).toInt64 := q_hitJ
  have e4 : q_J (q_sJ S dt 3 ((q_J S dt 3) + (8 : Int32).toInt64)) dt 4 = q_J S dt 4 := q_ffJ (by decide)
  have fin : ∀ c : Int32, (c = 0 ∨ c = 1) → (c = 0 ↔ q_I S dt 2 = 0 ∧ (q_J S dt 3).toInt + 8 ≤ (q_J S dt 4).toInt) → m_X1_skip n S dt 8 = some ((), d_S S dt ((q_J S dt 3) + (8 : Int32).toInt64) c) → ∃ T, m_X1_skip n S dt 8 = some ((), T) ∧ q_G ρ L [770, 771] S T ∧ (q_J T dt 3).toInt = (q_J S dt 3).toInt + 8 ∧ (q_I T dt 2 = 0 ↔ q_I S dt 2 = 0 ∧ (q_J S dt 3).toInt + 8 ≤ (q_J S dt 4).toInt) := fun c hc h e => ⟨_, e, v_G2b hI hd (by rw [ea]; omega) hc, by unfold d_S; rw [q_skJI, q_hitJ, ea], by unfold d_S; rw [q_hitI]; exact h⟩
  by_cases g1 : q_I S dt 2 = 0
  · by_cases g2 : (q_J S dt 3).toInt + 8 ≤ (q_J S dt 4).toInt
    · refine fin 0 (Or.inl rfl) ⟨fun _ => ⟨g1, g2⟩, fun _ => rfl⟩ ?_
      unfold m_X1_skip m_X1_skip_36 d_S
      rw [q_at_pos (k_d hI hd), e2, if_pos g1, e3, e4, if_pos (c_le.mpr (by rw [ea]; exact g2)), q_at_pos (k_d hG1.1 hd), q_if_pos (Or.inl rfl)]
    · refine fin 1 (Or.inr rfl) ⟨fun h => absurd h (by decide), fun h => absurd h.2 g2⟩ ?_
      unfold m_X1_skip m_X1_skip_31 m_X1_skip_36 d_S
      rw [q_at_pos (k_d hI hd), e2, if_pos g1, e3, e4, if_neg (fun h => g2 (by have := c_le.mp h; rw [ea] at this; exact this)), q_at_pos (k_d hG1.1 hd), q_if_pos (Or.inr rfl)]
  · refine fin 1 (Or.inr rfl) ⟨fun h => absurd h (by decide), fun h => absurd h.1 g1⟩ ?_
    unfold m_X1_skip m_X1_skip_31 m_X1_skip_36 d_S
    rw [q_at_pos (k_d hI hd), e2, if_neg g1, q_at_pos (k_d hG1.1 hd), q_if_pos (Or.inr rfl)]
theorem d_open (hI : q_Inv ρ L S) (hd : dt ∈ L ∧ ρ dt = 12) (hw : wo ∈ L ∧ ρ wo = 1) (hc : ce ∈ L ∧ ρ ce = 2) {b : Int32} {p e : Int64} (hb : b = 0 ∨ b = 1) (hp : 0 ≤ p.toInt ∧ p.toInt ≤ 8589934592) (he : 0 ≤ e.toInt ∧ e.toInt ≤ 65535) (hz : e.toInt ≤ (q_I S wo 1).toInt) : ∃ T, m_X1_open n S dt b p e = some ((), T) ∧ q_G ρ L M_X6_open_9_12 S T ∧ q_I T dt 1 = b ∧ q_J T dt 4 = e ∧ (q_J T dt 3).toInt = p.toInt + 10 ∧ (q_I T dt 2 = 0 ↔ p.toInt + 10 ≤ e.toInt) ∧ (p.toInt + 2 ≤ e.toInt → (q_I T dt 5).toInt = v_sgn (v_F (q_I S ce) p.toInt)) ∧ (¬ p.toInt + 2 ≤ e.toInt → (q_I T dt 5).toInt = 0) := by
  have hG : q_G ρ L M_X6_open_9_12 S S := q_G_refl hI
  have G1 := u_12_I1 (x := b) hG hd.1 hd.2 (by decide) (by rcases hb with h | h <;> rw [h] <;> decide)
  have G2 := u_12_I2 (x := 0) G1 hd.1 hd.2 (by decide) ⟨by decide, by decide⟩
  have G3 := u_12_J3 (x := p) G2 hd.1 hd.2 (by decide) ⟨by omega, by omega⟩
  have G4 := u_12_J4 (x := e) G3 hd.1 hd.2 (by decide) he
  generalize hB : q_sJ (q_sJ (q_sI (q_sI S dt 1 b) dt 2 0) dt 3 p) dt 4 e = B at G4
  have b1 : q_I B dt 1 = b := by rw [← hB, q_skIJ, q_skIJ, q_ffI (by decide), q_hitI]
  have b2 : q_I B dt 2 = 0 := by rw [← hB, q_skIJ, q_skIJ, q_hitI]
  have b3 : q_J B dt 3 = p := by rw [← hB, q_ffJ (by decide), q_hitJ]
  have b4 : q_J B dt 4 = e := by rw [← hB, q_hitJ]
  have bw : q_I B wo 1 = q_I S wo 1 := q_unI G4 hw.1 hw.2 (by decide)
  have bc : q_I B ce = q_I S ce := funext fun k => q_unIA G4 hc.1 hc.2 (by decide) (by decide)
  obtain ⟨r, T, er, g, a1, a2, a3, a4, a5⟩ := d_sig (n := n) G4.1 hd hw hc (by rw [b3]; exact hp.1) (by rw [b3]; omega) (by rw [b4, bw]; exact hz)
  rw [b3] at a1 a2 a3 a4
  rw [b4] at a2 a3 a4
  rw [b2] at a2
  rw [bc] at a3
  have GT := q_G_call G4 g (by decide)
  have GS := u_12_I5 (x := r) GT hd.1 hd.2 (by decide) a5
  have s3 : q_J (q_sI T dt 5 r) dt 3 = q_J T dt 3 := q_skJI
  have s4 : q_J (q_sI T dt 5 r) dt 4 = e := by rw [q_skJI, q_unJ g hd.1 hd.2 (by decide), b4]
  have s2 : q_I (q_sI T dt 5 r) dt 2 = q_I T dt 2 := q_ffI (by decide)
  obtain ⟨T9, e9, g9, c3, c2⟩ := d_skip (n := n) GS.1 hd (by rw [s3, a1]; omega) (by rw [s3, a1]; omega)
  rw [s3, a1] at c3 c2
  rw [s4, s2, a2] at c2
  refine ⟨T9, ?_, q_G_call GS g9 (by decide), ?_, ?_, by rw [c3]; omega, ?_, ?_, ?_⟩
  · unfold m_X1_open
    rw [q_at_pos (k_d hI hd), q_if_pos hb, q_if_pos (Or.inl rfl), q_let_eq, q_let_eq, hB, er, q_b_some, q_at_pos (k_d g.1 hd), e9, q_b_some]
  · rw [q_unI g9 hd.1 hd.2 (by decide), q_ffI (by decide), q_unI g hd.1 hd.2 (by decide), b1]
  · rw [q_unJ g9 hd.1 hd.2 (by decide), s4]
  · rw [c2]
    constructor
    · rintro ⟨⟨-, -⟩, h⟩; omega
    · intro h; exact ⟨⟨rfl, by omega⟩, by omega⟩
  · intro h
    rw [q_unI g9 hd.1 hd.2 (by decide), q_hitI]; exact a3 h
  · intro h
    rw [q_unI g9 hd.1 hd.2 (by decide), q_hitI]; exact a4 h
theorem c_open (hI : q_Inv ρ L S) (hA : v_Ad ρ L x wo ce tb en ab m fF fT fS fB fL) (hR : v_Rl wo ce tb en ab m fF fT fS fB fL S) (hs : sg ∈ L ∧ ρ sg = 9) (hd : dt ∈ L ∧ ρ dt = 12) (h7 : q_I S sg 7 = if z_tw S m fF fB fL (q_fd S m 1751474532).toInt 50 = 1 then 1 else 0) (h8 : q_R S sg 8 = some tl) (hl : v_is ρ L wo m fB fL S tl (q_fd S m 1819239265).toInt) (h9 : q_R S sg 9 = some tg) (hg : v_is ρ L wo m fB fL S tg (q_fd S m 1735162214).toInt) {k : Int32} (hk : 0 ≤ k.toInt ∧ k.toInt ≤ 199) : ∃ T, m_X6_open n S sg k (some dt) = some ((), T) ∧ q_G ρ L M_X6_open_9_12 S T ∧ (¬ (0 ≤ z_pl S m fF fB fL k.toInt ∧ 0 ≤ z_pl S m fF fB fL (k.toInt + 1)) → q_I T dt 1 = 0 ∧ (q_I T dt 5).toInt = 0) ∧ (0 ≤ z_pl S m fF fB fL k.toInt ∧ 0 ≤ z_pl S m fF fB fL (k.toInt + 1) → (q_I T dt 1 = 0 ↔ z_pl S m fF fB fL k.toInt ≠ z_pl S m fF fB fL (k.toInt + 1)) ∧ (q_I T dt 1 = 0 ∨ q_I T dt 1 = 1) ∧ (q_J T dt 4).toInt = v_st S m fB (q_fd S m 1735162214).toInt + min (z_pl S m fF fB fL (k.toInt + 1)) (v_len S m fL (q_fd S m 1735162214).toInt) ∧ (q_J T dt 3).toInt = v_st S m fB (q_fd S m 1735162214).toInt + z_pl S m fF fB fL k.toInt + 10 ∧ (q_I T dt 2 = 0 ↔ z_pl S m fF fB fL k.toInt + 10 ≤ min (z_pl S m fF fB fL (k.toInt + 1)) (v_len S m fL (q_fd S m 1735162214).toInt)) ∧ (z_pl S m fF fB fL k.toInt + 2 ≤ min (z_pl S m fF fB fL (k.toInt + 1)) (v_len S m fL (q_fd S m 1735162214).toInt) → (q_I T dt 5).toInt = v_sgn (v_F (q_I S ce) (v_st S m fB (q_fd S m 1735162214).toInt + z_pl S m fF fB fL k.toInt))) ∧ (¬ z_pl S m fF fB fL k.toInt + 2 ≤ min (z_pl S m fF fB fL (k.toInt + 1)) (v_len S m fL (q_fd S m 1735162214).toInt) → (q_I T dt 5).toInt = 0)) := by
  have hw := hA.2.1
  have hc := hA.2.2.1
  have hF := hA.2.2.2.2.2.2.2.1
  have y1 : (1 : Int32).toInt = 1 := rfl
  have ym : (-1 : Int64).toInt = -1 := rfl
  have y0 : (0 : Int64).toInt = 0 := rfl
  have ek : (k + (1 : Int32)).toInt = k.toInt + 1 := by rw [q_addI (by rw [y1]; omega) (by rw [y1]; omega), y1]
  obtain ⟨r2, e2, v2⟩ := c_place (n := n) (k := k) hI hA hR hs h7 h8 hl ⟨hk.1, by omega⟩
  obtain ⟨r6, e6, v6⟩ := c_place (n := n) (k := k + (1 : Int32)) hI hA hR hs h7 h8 hl ⟨by omega, by omega⟩
  rw [ek] at v6
  have b2 := z_pl_b (m := m) (fB := fB) (fL := fL) (k := k.toInt) hI hF
  have b6 := z_pl_b (m := m) (fB := fB) (fL := fL) (k := k.toInt + 1) hI hF
  have hsz := g_1_I1 (q_G_refl (m := []) hI) hw.1 hw.2
  have t3 := g_8_I3 (q_G_refl (m := []) hI) hg.1.1 hg.1.2
  have t4 := g_8_I4 (q_G_refl (m := []) hI) hg.1.1 hg.1.2
  obtain ⟨hgT, hg3, hg4, hgz⟩ := hg
  unfold m_X6_open
  rw [q_at_pos (k_s hI hs), e2, q_b_some, q_at_pos (k_s hI hs), e6, q_b_some]
  have bad : ¬ (0 ≤ z_pl S m fF fB fL k.toInt ∧ 0 ≤ z_pl S m fF fB fL (k.toInt + 1)) → ∃ T, m_X6_open_32 n S (some dt) = some ((), T) ∧ q_G ρ L M_X6_open_9_12 S T ∧ q_I T dt 1 = 0 ∧ (q_I T dt 5).toInt = 0 := fun h => by
    obtain ⟨T, e, g, a1, a2, a3, a4, a5, a6⟩ := d_open (n := n) (b := 0) (p := 0) (e := 0) hI hd hw hc (Or.inl rfl) ⟨by decide, by decide⟩ ⟨by decide, by decide⟩ (by rw [y0]; omega)
    unfold m_X6_open_32 m_X6_open_89
    rw [q_at_pos (k_d hI hd), e, q_b_some]
    exact ⟨T, rfl, g, a1, a6 (by decide)⟩
  by_cases g1 : 0 ≤ z_pl S m fF fB fL k.toInt
  · rw [if_neg (fun h => by have := c_eq.mp h; rw [v2, ym] at this; omega)]
    by_cases g2 : 0 ≤ z_pl S m fF fB fL (k.toInt + 1)
    · rw [if_neg (fun h => by have := c_eq.mp h; rw [v6, ym] at this; omega)]
      obtain ⟨ee, eend, vend⟩ := v_end (n := n) hI hgT
      have ea : (((q_I S tg 3).toInt64) + r2).toInt = (q_I S tg 3).toInt + z_pl S m fF fB fL k.toInt := by rw [q_addJ (by rw [q_wil]; omega) (by rw [q_wil]; omega), q_wil, v2]
      have eb : (((q_I S tg 3).toInt64) + r6).toInt = (q_I S tg 3).toInt + z_pl S m fF fB fL (k.toInt + 1) := by rw [q_addJ (by rw [q_wil]; omega) (by rw [q_wil]; omega), q_wil, v6]
      obtain ⟨rm, Tm, em, eTm, m1, m2, m3⟩ := s_J9_min_f86c9 n S (((q_I S tg 3).toInt64) + r6) ee
      subst eTm
      rw [eb, vend] at m1
      rw [eb] at m2
      rw [vend] at m3
      have vm : rm.toInt = (q_I Tm tg 3).toInt + min (z_pl Tm m fF fB fL (k.toInt + 1)) (v_len Tm m fL (q_fd Tm m 1735162214).toInt) := by rw [← hg4]; omega
      have fin : ∀ b : Int32, (b = 0 ∨ b = 1) → (b = 0 ↔ z_pl Tm m fF fB fL k.toInt ≠ z_pl Tm m fF fB fL (k.toInt + 1)) → ∃ T, m_X6_open_55 n Tm (some sg) r2 r6 b (some dt) = some ((), T) ∧ q_G ρ L M_X6_open_9_12 Tm T ∧ (¬ (0 ≤ z_pl Tm m fF fB fL k.toInt ∧ 0 ≤ z_pl Tm m fF fB fL (k.toInt + 1)) → q_I T dt 1 = 0 ∧ (q_I T dt 5).toInt = 0) ∧ (0 ≤ z_pl Tm m fF fB fL k.toInt ∧ 0 ≤ z_pl Tm m fF fB fL (k.toInt + 1) → (q_I T dt 1 = 0 ↔ z_pl Tm m fF fB fL k.toInt ≠ z_pl Tm m fF fB fL (k.toInt + 1)) ∧ (q_I T dt 1 = 0 ∨ q_I T dt 1 = 1) ∧ (q_J T dt 4).toInt = v_st Tm m fB (q_fd Tm m 1735162214).toInt + min (z_pl Tm m fF fB fL (k.toInt + 1)) (v_len Tm m fL (q_fd Tm m 1735162214).toInt) ∧ (q_J T dt 3).toInt = v_st Tm m fB (q_fd Tm m 1735162214).toInt + z_pl Tm m fF fB fL k.toInt + 10 ∧ (q_I T dt 2 = 0 ↔ z_pl Tm m fF fB fL k.toInt + 10 ≤ min (z_pl Tm m fF fB fL (k.toInt + 1)) (v_len Tm m fL (q_fd Tm m 1735162214).toInt)) ∧ (z_pl Tm m fF fB fL k.toInt + 2 ≤ min (z_pl Tm m fF fB fL (k.toInt + 1)) (v_len Tm m fL (q_fd Tm m 1735162214).toInt) → (q_I T dt 5).toInt = v_sgn (v_F (q_I Tm ce) (v_st Tm m fB (q_fd Tm m 1735162214).toInt + z_pl Tm m fF fB fL k.toInt))) ∧ (¬ z_pl Tm m fF fB fL k.toInt + 2 ≤ min (z_pl Tm m fF fB fL (k.toInt + 1)) (v_len Tm m fL (q_fd Tm m 1735162214).toInt) → (q_I T dt 5).toInt = 0)) := by
        intro b hb hbe
        obtain ⟨T, e, g, a1, a2, a3, a4, a5, a6⟩ := d_open (n := n) (b := b) (p := ((q_I Tm tg 3).toInt64) + r2) (e := rm) hI hd hw hc hb (by rw [ea]; omega) (by omega) (by omega)
        rw [ea] at a3 a4 a5 a6
        refine ⟨T, ?_, g, fun h => absurd ⟨g1, g2⟩ h, fun _ => ⟨by rw [a1]; exact hbe, by rw [a1]; exact hb, by rw [a2, vm, hg3], by rw [a3, hg3], ?_, fun h => ?_, fun h => ?_⟩⟩
        · unfold m_X6_open_55 m_X6_open_89
          rw [q_at_pos (k_s hI hs), h9, q_at_pos (k_8 hI hgT), eend, q_b_some, em, q_b_some, q_at_pos (k_d hI hd), e, q_b_some]
        · rw [a4, vm]
          exact ⟨fun h => by omega, fun h => by omega⟩
        · rw [a5 (by rw [vm]; omega), hg3]
        · exact a6 (by rw [vm]; omega)
      by_cases g3 : r2.toInt = r6.toInt
      · rw [if_pos (c_eq.mpr g3)]
        exact fin 1 (Or.inr rfl) ⟨fun h => absurd h (by decide), fun h => absurd (by rw [← v2, ← v6]; exact g3) h⟩
      · rw [if_neg (fun h => g3 (c_eq.mp h))]
        exact fin 0 (Or.inl rfl) ⟨fun _ h => g3 (by rw [v2, v6]; exact h), fun _ => rfl⟩
    · rw [if_pos (c_eq.mpr (by rw [v6, ym]; omega))]
      obtain ⟨T, e, g, a1, a2⟩ := bad (fun h => g2 h.2)
      exact ⟨T, e, g, fun _ => ⟨a1, a2⟩, fun h => absurd h.2 g2⟩
  · rw [if_pos (c_eq.mpr (by rw [v2, ym]; omega))]
    obtain ⟨T, e, g, a1, a2⟩ := bad (fun h => g1 h.1)
    exact ⟨T, e, g, fun _ => ⟨a1, a2⟩, fun h => absurd h.1 g1⟩
end QOP
