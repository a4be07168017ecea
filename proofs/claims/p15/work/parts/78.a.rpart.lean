/-! VALUES: a PART of DATA, the reference (21 dataFrom, 22 dataTo; rows 65 childSign, 67 partFlags, 68, 69, 70) -/
/-- how many bytes of DATA can be read; TWO at a place of them -/
def r_lim (S : q_S) (m fL : Nat) : Int := min (q_I S m 22).toInt (v_len S m fL (q_fd S m 1735162214).toInt) - (q_I S m 21).toInt
def r_F (S : q_S) (m fF fB fL : Nat) (p : Int) : Int := z_tw S m fF fB fL (q_fd S m 1735162214).toInt ((q_I S m 21).toInt + p)
section QRP
variable {ρ : Nat → Nat} {L M9 : List Nat} {n : Nat} {S T : q_S} {x wo ce tb en ab m fF fT fS fB fL : Nat}
theorem z_by_lt (hI : q_Inv ρ L S) (hF : fF ∈ L ∧ ρ fF = 46) {p i : Int} : z_by S m fF fB fL p i < 0 ↔ ¬ (0 ≤ i ∧ i < v_len S m fL p) := by
  unfold z_by v_by
  by_cases g : 0 ≤ i ∧ i < v_len S m fL p
  · rw [if_pos g]
    have := g_46_E (q_G_refl (m := []) hI) hF.1 hF.2 (k := (v_st S m fB p + i).toNat)
    exact ⟨fun h => by omega, fun h => absurd g h⟩
  · rw [if_neg g]; exact ⟨fun _ => g, fun _ => by omega⟩
theorem r_data (hn : 18446744073709551616 ≤ n) (hI : q_Inv ρ L S) (hA : v_Ad ρ L x wo ce tb en ab m fF fT fS fB fL) {p k : Int32} (hp : 0 ≤ p.toInt ∧ p.toInt ≤ 70000) (hk : k = 1 ∨ k = 2) : ∃ (r : Int32) (T : q_S), m_X12_data n S m p k = some (r, T) ∧ q_G ρ L [2888] S T ∧ (q_I T m 8 = 0 ↔ q_I S m 8 = 0 ∧ p.toInt + k.toInt ≤ r_lim S m fL) ∧ (k = 2 → p.toInt + k.toInt ≤ r_lim S m fL → r.toInt = r_F S m fF fB fL p.toInt) ∧ (0 ≤ r.toInt ∧ r.toInt ≤ 65535) := by
  have hm := hA.2.2.2.2.2.2.1
  have hF := hA.2.2.2.2.2.2.2.1
  have hG : q_G ρ L [2888] S S := q_G_refl hI
  have b1 := g_45_I21 hG hm.1 hm.2
  have b2 := g_45_I22 hG hm.1 hm.2
  have hkb : 1 ≤ k.toInt ∧ k.toInt ≤ 2 := by rcases hk with e | e <;> rw [e] <;> decide
  have e1 : ((q_I S m 21) + p).toInt = (q_I S m 21).toInt + p.toInt := q_addI (by omega) (by omega)
  have e2 : (((q_I S m 21) + p) + k).toInt = (q_I S m 21).toInt + p.toInt + k.toInt := by rw [q_addI (by omega) (by omega), e1]
  have hG8 : q_G ρ L [2888] S (q_sI S m 8 1) := u_45_I8 hG hm.1 hm.2 (by decide) ⟨by decide, by decide⟩
  have past : ∀ r : Int32, (0 ≤ r.toInt ∧ r.toInt ≤ 65535) → ¬ p.toInt + k.toInt ≤ r_lim S m fL → m_X12_data n S m p k = some (r, q_sI S m 8 1) → ∃ (r : Int32) (T : q_S), m_X12_data n S m p k = some (r, T) ∧ q_G ρ L [2888] S T ∧ (q_I T m 8 = 0 ↔ q_I S m 8 = 0 ∧ p.toInt + k.toInt ≤ r_lim S m fL) ∧ (k = 2 → p.toInt + k.toInt ≤ r_lim S m fL → r.toInt = r_F S m fF fB fL p.toInt) ∧ (0 ≤ r.toInt ∧ r.toInt ≤ 65535) := fun r hr h e => ⟨r, _, e, hG8, by rw [q_hitI]; exact ⟨fun h9 => absurd h9 (by decide), fun h9 => absurd h9.2 h⟩, fun _ h9 => absurd h9 h, hr⟩
  have hfd := v_fdR (tag := 1735162214) hI hm hA.2.2.2.2.2.2.2.2.1
  have ei : (((q_I S m 21) + p).toInt64).toInt = (q_I S m 21).toInt + p.toInt := by rw [q_wil, e1]
  obtain ⟨r, h1, h2⟩ := v_num (p := q_fd S m 1735162214) (k := k) (i := ((q_I S m 21) + p).toInt64) hn hI hA hfd (by omega) (by rcases hk with e | e <;> simp [e])
  have hz : z_nu S m fF fB fL (q_fd S m 1735162214).toInt (((q_I S m 21) + p).toInt64).toInt k.toInt < 0 ↔ ¬ (q_I S m 21).toInt + p.toInt + k.toInt ≤ v_len S m fL (q_fd S m 1735162214).toInt := by
    rw [ei]
    unfold z_nu
    rcases hk with e | e
    · subst e
      have y1 : (1 : Int32).toInt = 1 := rfl
      rw [y1, if_pos rfl, z_by_lt hI hF]
      omega
    · subst e
      have y2 : (2 : Int32).toInt = 2 := rfl
      rw [y2, if_neg (by decide), if_pos rfl, z_tw_lt hI hF]
      omega
  have hb : -1 ≤ z_nu S m fF fB fL (q_fd S m 1735162214).toInt (((q_I S m 21) + p).toInt64).toInt k.toInt ∧ z_nu S m fF fB fL (q_fd S m 1735162214).toInt (((q_I S m 21) + p).toInt64).toInt k.toInt ≤ 65535 := by
    unfold z_nu
    rcases hk with e | e
    · subst e
      rw [if_pos (by decide)]
      have := z_by_b (m := m) (fB := fB) (fL := fL) (p := (q_fd S m 1735162214).toInt) (i := (((q_I S m 21) + p).toInt64).toInt) hI hF
      omega
    · subst e
      rw [if_neg (by decide), if_pos (by decide)]
      exact z_tw_b hI hF
  have ev : (q_I S m 21).toInt + p.toInt + k.toInt ≤ (q_I S m 22).toInt → m_X12_data n S m p k = q_b (m_X12_number n S m (q_fd S m 1735162214) (((q_I S m 21) + p).toInt64) k) (fun r7 S8 => some (r7.toInt32, S8)) := fun h => by
    unfold m_X12_data
    rw [q_at_pos (k_m hI hm), if_pos (i_le.mpr (by rw [e2]; exact h)), v_fdM hn hI hm ⟨by decide, by decide⟩, q_b_some, q_at_pos (k_m hI hm)]
  by_cases g : (q_I S m 21).toInt + p.toInt + k.toInt ≤ (q_I S m 22).toInt
  · by_cases g2 : (q_I S m 21).toInt + p.toInt + k.toInt ≤ v_len S m fL (q_fd S m 1735162214).toInt
    · obtain ⟨e3, v3⟩ := h1 (by have := mt hz.mp (fun h => h g2); omega)
      have hl : p.toInt + k.toInt ≤ r_lim S m fL := by unfold r_lim; omega
      refine ⟨r.toInt32, S, by rw [ev g, e3, q_b_some], hG, ⟨fun h => ⟨h, hl⟩, fun h => h.1⟩, fun e _ => ?_, ?_⟩
      · rw [q_wli (by omega) (by omega), v3, ei]
        subst e
        unfold z_nu r_F
        rw [if_neg (by decide), if_pos (by decide)]
      · rw [q_wli (by omega) (by omega)]
        have := mt hz.mp (fun h => h g2)
        omega
    · obtain ⟨e3, v3⟩ := h2 (hz.mpr g2)
      refine past r.toInt32 (by rw [v3]; decide) (fun h => g2 (by unfold r_lim at h; omega)) ?_
      rw [ev g, e3, q_b_some]
  · refine past 0 (by decide) (fun h => g (by unfold r_lim at h; omega)) ?_
    unfold m_X12_data
    rw [q_at_pos (k_m hI hm), if_neg (fun h => g (by have := i_le.mp h; rw [e2] at this; exact this)), q_if_pos (Or.inr rfl)]
theorem r_dataP (hn : 18446744073709551616 ≤ n) (hI : q_Inv ρ L S) (hA : v_Ad ρ L x wo ce tb en ab m fF fT fS fB fL) {p : Int32} (hp : 0 ≤ p.toInt ∧ p.toInt ≤ 70000) (h : ¬ p.toInt + 2 ≤ r_lim S m fL) : m_X12_data n S m p 2 = some (0, q_sI S m 8 1) := by
  have hm := hA.2.2.2.2.2.2.1
  have hF := hA.2.2.2.2.2.2.2.1
  have hG : q_G ρ L [2888] S S := q_G_refl hI
  have b1 := g_45_I21 hG hm.1 hm.2
  have b2 := g_45_I22 hG hm.1 hm.2
  have y2 : (2 : Int32).toInt = 2 := rfl
  have e1 : ((q_I S m 21) + p).toInt = (q_I S m 21).toInt + p.toInt := q_addI (by omega) (by omega)
  have e2 : (((q_I S m 21) + p) + (2 : Int32)).toInt = (q_I S m 21).toInt + p.toInt + 2 := by rw [q_addI (by rw [y2]; omega) (by rw [y2]; omega), e1, y2]
  have hfd := v_fdR (tag := 1735162214) hI hm hA.2.2.2.2.2.2.2.2.1
  have ei : (((q_I S m 21) + p).toInt64).toInt = (q_I S m 21).toInt + p.toInt := by rw [q_wil, e1]
  obtain ⟨r, -, h2⟩ := v_num (p := q_fd S m 1735162214) (k := 2) (i := ((q_I S m 21) + p).toInt64) hn hI hA hfd (by omega) (Or.inr (Or.inl rfl))
  unfold m_X12_data
  by_cases g : (q_I S m 21).toInt + p.toInt + 2 ≤ (q_I S m 22).toInt
  · have hz : z_nu S m fF fB fL (q_fd S m 1735162214).toInt (((q_I S m 21) + p).toInt64).toInt (2 : Int32).toInt < 0 := by
      rw [ei]
      unfold z_nu
      rw [if_neg (by decide), if_pos (by decide), z_tw_lt hI hF]
      intro h9
      apply h
      unfold r_lim
      omega
    obtain ⟨e3, v3⟩ := h2 hz
    rw [q_at_pos (k_m hI hm), if_pos (i_le.mpr (by rw [e2]; exact g)), v_fdM hn hI hm ⟨by decide, by decide⟩, q_b_some, q_at_pos (k_m hI hm), e3, q_b_some, v3]
    rfl
  · rw [q_at_pos (k_m hI hm), if_neg (fun h9 => g (by have := i_le.mp h9; rw [e2] at this; exact this)), q_if_pos (Or.inr rfl)]
theorem r_lim_un (hI : q_Inv ρ L S) (g : q_G ρ L M9 S T) (hA : v_Ad ρ L x wo ce tb en ab m fF fT fS fB fL) (h : v_fr9 M9 = true) (h21 : M9.contains 2901 = false) (h22 : M9.contains 2902 = false) : r_lim T m fL = r_lim S m fL ∧ ∀ p, r_F T m fF fB fL p = r_F S m fF fB fL p := by
  have hm := hA.2.2.2.2.2.2.1
  obtain ⟨u1, u2, u3, u4, u5, u6⟩ := z_un hI g hA h
  have e1 : q_I T m 21 = q_I S m 21 := q_unI (k := 21) g hm.1 hm.2 h21
  have e2 : q_I T m 22 = q_I S m 22 := q_unI (k := 22) g hm.1 hm.2 h22
  unfold r_lim r_F
  exact ⟨by rw [e1, e2, u4, u6], fun p => by rw [e1, u4, u1]⟩
theorem r_arg (hn : 18446744073709551616 ≤ n) (hI : q_Inv ρ L S) (hA : v_Ad ρ L x wo ce tb en ab m fF fT fS fB fL) {p f : Int32} (hp : 0 ≤ p.toInt ∧ p.toInt ≤ 70000) : ∃ (r : Int32) (T : q_S), m_X12_argument n S m p f = some (r, T) ∧ q_G ρ L [2888] S T ∧ (q_I T m 8 = 0 ↔ q_I S m 8 = 0 ∧ p.toInt + d_w f ≤ r_lim S m fL) ∧ (-32768 ≤ r.toInt ∧ r.toInt ≤ 65535) := by
  have hm := hA.2.2.2.2.2.2.1
  have y256 : (256 : Int32).toInt = 256 := rfl
  have y65 : (65536 : Int32).toInt = 65536 := rfl
  have y127 : (127 : Int32).toInt = 127 := rfl
  have y327 : (32767 : Int32).toInt = 32767 := rfl
  have last : ∀ (T : q_S) (v : Int32), (0 ≤ v.toInt ∧ v.toInt ≤ 65535) → ∃ r : Int32, m_X12_argument_21 n T f v = some (r, T) ∧ (-32768 ≤ r.toInt ∧ r.toInt ≤ 65535) := by
    intro T v hv
    unfold m_X12_argument_21 m_X12_argument_54 m_X12_argument_86 m_X12_argument_82 m_X12_argument_87
    by_cases g1 : f &&& (1 : Int32) = 0
    · rw [if_pos g1]
      by_cases g2 : v ≤ 127
      · rw [if_pos g2]
        by_cases g3 : f &&& (2 : Int32) = 0
        · rw [if_pos g3]; exact ⟨v, rfl, by omega, by omega⟩
        · rw [if_neg g3, if_pos rfl]; exact ⟨v, rfl, by omega, by omega⟩
      · have g2' := mt i_le.mpr g2
        rw [y127] at g2'
        rw [if_neg g2]
        by_cases g3 : f &&& (2 : Int32) = 0
        · rw [if_pos g3]; exact ⟨v, rfl, by omega, by omega⟩
        · have e : (v - (256 : Int32)).toInt = v.toInt - 256 := by rw [q_subI (by rw [y256]; omega) (by rw [y256]; omega), y256]
          rw [if_neg g3, if_neg (show ¬ (1 : Int32) = 0 by decide), if_pos g1]; exact ⟨_, rfl, by rw [e]; omega, by rw [e]; omega⟩
    · rw [if_neg g1]
      by_cases g2 : v ≤ 32767
      · rw [if_pos g2]
        by_cases g3 : f &&& (2 : Int32) = 0
        · rw [if_pos g3]; exact ⟨v, rfl, by omega, by omega⟩
        · rw [if_neg g3, if_pos rfl]; exact ⟨v, rfl, by omega, by omega⟩
      · have g2' := mt i_le.mpr g2
        rw [y327] at g2'
        rw [if_neg g2]
        by_cases g3 : f &&& (2 : Int32) = 0
        · rw [if_pos g3]; exact ⟨v, rfl, by omega, by omega⟩
        · have e : (v - (65536 : Int32)).toInt = v.toInt - 65536 := by rw [q_subI (by rw [y65]; omega) (by rw [y65]; omega), y65]
          rw [if_neg g3, if_neg (show ¬ (1 : Int32) = 0 by decide), if_neg g1]; exact ⟨_, rfl, by rw [e]; omega, by rw [e]; omega⟩
  unfold m_X12_argument d_w
  by_cases g1 : f &&& (1 : Int32) = 0
  · obtain ⟨r, T, e, g, a, -, c⟩ := r_data (k := 1) hn hI hA hp (Or.inl rfl)
    obtain ⟨r2, e2, c2⟩ := last T r c
    rw [if_pos g1, if_pos g1, q_at_pos (k_m hI hm), e, q_b_some]
    exact ⟨r2, T, e2, g, a, c2⟩
  · obtain ⟨r, T, e, g, a, -, c⟩ := r_data (k := 2) hn hI hA hp (Or.inr rfl)
    obtain ⟨r2, e2, c2⟩ := last T r c
    rw [if_neg g1, if_neg g1, q_at_pos (k_m hI hm), e, q_b_some]
    exact ⟨r2, T, e2, g, a, c2⟩
theorem r_part (hn : 18446744073709551616 ≤ n) (hI : q_Inv ρ L S) (hA : v_Ad ρ L x wo ce tb en ab m fF fT fS fB fL) {cs pf : Nat} (hcs : cs ∈ L ∧ ρ cs = 65) (hpf : pf ∈ L ∧ ρ pf = 67) {p : Int32} (hp : 0 ≤ p.toInt ∧ p.toInt ≤ 1700) : ∃ (r : Int32) (T : q_S), m_X12_readPart n S m 7 p = some (r, T) ∧ q_G ρ L M_X12_readPart_45 S T ∧ r.toInt = d_len (q_I T pf 7) ∧ (q_I T m 8 = 0 ↔ q_I S m 8 = 0 ∧ p.toInt + 2 ≤ r_lim S m fL ∧ p.toInt + d_len (q_I T pf 7) ≤ r_lim S m fL) ∧ (p.toInt + 2 ≤ r_lim S m fL → (q_I T pf 7).toInt = r_F S m fF fB fL p.toInt) ∧ (p.toInt + 4 ≤ r_lim S m fL → (q_I T cs 7).toInt = r_F S m fF fB fL (p.toInt + 2)) := by
  have hm := hA.2.2.2.2.2.2.1
  have hG : q_G ρ L M_X12_readPart_45 S S := q_G_refl hI
  have y1 : (1 : Int32).toInt = 1 := rfl
  have y2 : (2 : Int32).toInt = 2 := rfl
  have y4 : (4 : Int32).toInt = 4 := rfl
  have y8 : (8 : Int32).toInt = 8 := rfl
  obtain ⟨po, epo, mpo, rpo⟩ := g_45_R33 hG hm.1 hm.2
  obtain ⟨pt, ept, mpt, rpt⟩ := g_45_R34 hG hm.1 hm.2
  obtain ⟨sc, esc, msc, rsc⟩ := g_45_R35 hG hm.1 hm.2
  have l30 : ∀ U, q_Inv ρ L U → q_R U m 30 = some cs := fun U hU => v_ln hU (g_45_R30 (q_G_refl (m := []) hU) hm.1 hm.2) hcs rfl
  have l32 : ∀ U, q_Inv ρ L U → q_R U m 32 = some pf := fun U hU => v_ln hU (g_45_R32 (q_G_refl (m := []) hU) hm.1 hm.2) hpf rfl
  have l33 : ∀ U, q_Inv ρ L U → q_R U m 33 = some po := fun U hU => v_ln hU (g_45_R33 (q_G_refl (m := []) hU) hm.1 hm.2) ⟨mpo, rpo⟩ rfl
  have l34 : ∀ U, q_Inv ρ L U → q_R U m 34 = some pt := fun U hU => v_ln hU (g_45_R34 (q_G_refl (m := []) hU) hm.1 hm.2) ⟨mpt, rpt⟩ rfl
  have l35 : ∀ U, q_Inv ρ L U → q_R U m 35 = some sc := fun U hU => v_ln hU (g_45_R35 (q_G_refl (m := []) hU) hm.1 hm.2) ⟨msc, rsc⟩ rfl
  have kcs : ∀ U, q_Inv ρ L U → cs ∈ q_L U ∧ q_K U cs = 100 := fun U hU => v_at hU hcs rfl
  have kpf : ∀ U, q_Inv ρ L U → pf ∈ q_L U ∧ q_K U pf = 100 := fun U hU => v_at hU hpf rfl
  have kpo : ∀ U, q_Inv ρ L U → po ∈ q_L U ∧ q_K U po = 100 := fun U hU => v_at hU ⟨mpo, rpo⟩ rfl
  have kpt : ∀ U, q_Inv ρ L U → pt ∈ q_L U ∧ q_K U pt = 100 := fun U hU => v_at hU ⟨mpt, rpt⟩ rfl
  have ksc : ∀ U, q_Inv ρ L U → sc ∈ q_L U ∧ q_K U sc = 100 := fun U hU => v_at hU ⟨msc, rsc⟩ rfl
  -- flags and sign
  obtain ⟨r2, T2, e2, g2, a2, v2, w2⟩ := r_data (p := p) (k := 2) hn hI hA ⟨hp.1, by omega⟩ (Or.inr rfl)
  have v2 := v2 rfl
  rw [y2] at a2 v2
  have G2 := q_G_call hG g2 (by decide)
  have ep2 : (p + (2 : Int32)).toInt = p.toInt + 2 := by rw [q_addI (by rw [y2]; omega) (by rw [y2]; omega), y2]
  have ep4 : (p + (4 : Int32)).toInt = p.toInt + 4 := by rw [q_addI (by rw [y4]; omega) (by rw [y4]; omega), y4]
  obtain ⟨r6, T6, e6, g6, a6, v6, w6⟩ := r_data (p := p + (2 : Int32)) (k := 2) hn G2.1 hA ⟨by omega, by omega⟩ (Or.inr rfl)
  have v6 := v6 rfl
  obtain ⟨q2, q2F⟩ := r_lim_un hI g2 hA (by decide) (by decide) (by decide)
  rw [ep2, y2, q2] at a6 v6
  rw [q2F] at v6
  have G6 := q_G_call G2 g6 (by decide)
  have GC := u_65_E (k := (7 : Int32).toNatClampNeg) (x := r6) G6 hcs.1 hcs.2 (by decide) w6
  have GB := u_67_E (k := (7 : Int32).toNatClampNeg) (x := r2) GC hpf.1 hpf.2 (by decide) w2
  -- from here on B is the store to start from
  generalize hB : q_sI (q_sI T6 cs (7 : Int32).toNatClampNeg r6) pf (7 : Int32).toNatClampNeg r2 = B at GB
  have Bf : q_I B pf 7 = r2 := by rw [← hB]; exact q_hitI
  have Bc : q_I B cs 7 = r6 := by rw [← hB, q_fwI hcs.2 hpf.2 (by decide)]; exact q_hitI
  have B8 : q_I B m 8 = q_I T6 m 8 := by rw [← hB, q_fwI hm.2 hpf.2 (by decide), q_fwI hm.2 hcs.2 (by decide)]
  obtain ⟨qB, qBF⟩ := r_lim_un hI GB hA (by decide) (by decide) (by decide)
  have GB0 : q_G ρ L [2888, 4352, 4416, 4480] B B := q_G_refl GB.1
  have hl := d_len_b r2
  have num : ∀ (U : q_S) (z : Int32), q_G ρ L [2888, 4352, 4416, 4480] B U → (0 ≤ z.toInt ∧ z.toInt ≤ 70000) → ∃ (r : Int32) (T : q_S), m_X12_data n U m z 2 = some (r, T) ∧ q_G ρ L [2888, 4352, 4416, 4480] B T ∧ (q_I T m 8 = 0 ↔ q_I U m 8 = 0 ∧ z.toInt + 2 ≤ r_lim S m fL) ∧ ∃ r' : Int32, m_X12_signed n T r = some (r', T) ∧ (-32768 ≤ r'.toInt ∧ r'.toInt ≤ 32767) := by
    intro U z hU hz
    obtain ⟨r, T, e, g, a, -, c⟩ := r_data (k := 2) hn hU.1 hA hz (Or.inr rfl)
    obtain ⟨q, -⟩ := r_lim_un GB.1 hU hA (by decide) (by decide) (by decide)
    rw [q, qB, y2] at a
    obtain ⟨r', e', v'⟩ := v_sgM (n := n) (S := T) c
    refine ⟨r, T, e, q_G_call hU g (by decide), a, r', e', ?_⟩
    rw [v']; unfold v_sgn; split <;> omega
  have arg : ∀ (U : q_S) (z : Int32), q_G ρ L [2888, 4352, 4416, 4480] B U → (0 ≤ z.toInt ∧ z.toInt ≤ 70000) → ∃ (r : Int32) (T : q_S), m_X12_argument n U m z r2 = some (r, T) ∧ q_G ρ L [2888, 4352, 4416, 4480] B T ∧ (q_I T m 8 = 0 ↔ q_I U m 8 = 0 ∧ z.toInt + d_w r2 ≤ r_lim S m fL) ∧ (-32768 ≤ r.toInt ∧ r.toInt ≤ 65535) := by
    intro U z hU hz
    obtain ⟨r, T, e, g, a, c⟩ := r_arg (f := r2) hn hU.1 hA hz
    obtain ⟨q, -⟩ := r_lim_un GB.1 hU hA (by decide) (by decide) (by decide)
    rw [q, qB] at a
    exact ⟨r, T, e, q_G_call hU g (by decide), a, c⟩
  have rest : ∀ s0 : Int32, s0.toInt = d_w r2 → ∃ (r : Int32) (T : q_S), m_X12_readPart_39 n (q_sI T6 cs (7 : Int32).toNatClampNeg r6) (some m) 7 p (p + (4 : Int32)) r2 s0 = some (r, T) ∧ q_G ρ L [2888, 4352, 4416, 4480] B T ∧ r.toInt = d_len r2 ∧ (q_I T m 8 = 0 ↔ q_I B m 8 = 0 ∧ p.toInt + d_len r2 ≤ r_lim S m fL) := by
    intro s0 hs0
    have es0 : ((p + (4 : Int32)) + s0).toInt = p.toInt + 4 + d_w r2 := by rw [q_addI (by omega) (by omega), ep4, hs0]
    have e2s : ((2 : Int32) * s0).toInt = 2 * d_w r2 := by rw [q_mulLI y2 (by omega) (by omega), hs0]
    have eP : ((p + (4 : Int32)) + ((2 : Int32) * s0)).toInt = p.toInt + 4 + 2 * d_w r2 := by rw [q_addI (by omega) (by omega), ep4, e2s]
    obtain ⟨r4, T4, e4, G4, a4, w4⟩ := arg B (p + (4 : Int32)) GB0 ⟨by omega, by omega⟩
    have G4s := u_68_E (k := (7 : Int32).toNatClampNeg) (x := r4) G4 mpo rpo (by decide) w4
    have s48 : q_I (q_sI T4 po (7 : Int32).toNatClampNeg r4) m 8 = q_I T4 m 8 := q_fwI hm.2 rpo (by decide)
    obtain ⟨r5, T5, e5, G5, a5, w5⟩ := arg _ ((p + (4 : Int32)) + s0) G4s ⟨by omega, by omega⟩
    have G5s := u_69_E (k := (7 : Int32).toNatClampNeg) (x := r5) G5 mpt rpt (by decide) w5
    have s58 : q_I (q_sI T5 pt (7 : Int32).toNatClampNeg r5) m 8 = q_I T5 m 8 := q_fwI hm.2 rpt (by decide)
    have H1 := u_70_E (k := ((4 : Int32) * 7).toNatClampNeg) (x := 16384) G5s msc rsc (by decide) ⟨by decide, by decide⟩
    have H2 := u_70_E (k := (((4 : Int32) * 7) + (1 : Int32)).toNatClampNeg) (x := 0) H1 msc rsc (by decide) ⟨by decide, by decide⟩
    have H3 := u_70_E (k := (((4 : Int32) * 7) + (2 : Int32)).toNatClampNeg) (x := 0) H2 msc rsc (by decide) ⟨by decide, by decide⟩
    have H4 := u_70_E (k := (((4 : Int32) * 7) + (3 : Int32)).toNatClampNeg) (x := 16384) H3 msc rsc (by decide) ⟨by decide, by decide⟩
    have in7 : ∀ (U : q_S) (a : Nat), q_N U a = 8 → q_in (7 : Int32) (q_N U a) = true := fun U a h => q_inI h (by decide) (by decide)
    have inS : ∀ (U : q_S) (i : Int32), q_Inv ρ L U → 0 ≤ i.toInt → i.toInt < 32 → q_in i (q_N U sc) = true := fun U i hU h h2 => q_inI (g_70_N (q_G_refl (m := []) hU) msc rsc) h h2
    have sH : q_I (q_sI (q_sI (q_sI (q_sI (q_sI T5 pt (7 : Int32).toNatClampNeg r5) sc ((4 : Int32) * 7).toNatClampNeg 16384) sc (((4 : Int32) * 7) + (1 : Int32)).toNatClampNeg 0) sc (((4 : Int32) * 7) + (2 : Int32)).toNatClampNeg 0) sc (((4 : Int32) * 7) + (3 : Int32)).toNatClampNeg 16384) m 8 = q_I T5 m 8 := by
      rw [q_fwI hm.2 rsc (by decide), q_fwI hm.2 rsc (by decide), q_fwI hm.2 rsc (by decide), q_fwI hm.2 rsc (by decide), s58]
    have p5 : q_I T5 m 8 = 0 ↔ q_I B m 8 = 0 ∧ p.toInt + 4 + 2 * d_w r2 ≤ r_lim S m fL := by
      rw [a5, s48, a4, ep4, es0]
      constructor
      · rintro ⟨⟨a, -⟩, h⟩; exact ⟨a, by omega⟩
      · rintro ⟨a, h⟩; exact ⟨⟨a, by omega⟩, by omega⟩
    have sto : ∀ (U : q_S) (k : Nat) (v : Int32), q_G ρ L [2888, 4352, 4416, 4480] B U → (-32768 ≤ v.toInt ∧ v.toInt ≤ 32767) → q_G ρ L [2888, 4352, 4416, 4480] B (q_sI U sc k v) ∧ q_I (q_sI U sc k v) m 8 = q_I U m 8 := fun U k v hU hv => ⟨u_70_E hU msc rsc (by decide) hv, q_fwI hm.2 rsc (by decide)⟩
    unfold m_X12_readPart_39 m_X12_readPart_284
    rw [q_at_pos (k_m GC.1 hm), l32 _ GC.1, q_at_pos (kpf _ GC.1), q_if_pos (in7 _ _ (g_67_N GC hpf.1 hpf.2)), hB, e4, q_b_some, l33 _ GB.1, q_at_pos (kpo _ G4.1), q_if_pos (in7 _ _ (g_68_N G4 mpo rpo)), q_at_pos (k_m G4s.1 hm), e5, q_b_some, l34 _ G4s.1, q_at_pos (kpt _ G5.1), q_if_pos (in7 _ _ (g_69_N G5 mpt rpt)), q_at_pos (k_m G5s.1 hm), l35 _ G5s.1, q_at_pos (ksc _ G5s.1), q_if_pos (inS _ _ G5s.1 (by decide) (by decide)), q_let_eq, l35 _ H1.1, q_at_pos (ksc _ H1.1), q_if_pos (inS _ _ H1.1 (by decide) (by decide)), l35 _ H2.1, q_at_pos (ksc _ H2.1), q_if_pos (inS _ _ H2.1 (by decide) (by decide)), q_let_eq, l35 _ H3.1, q_at_pos (ksc _ H3.1), q_if_pos (inS _ _ H3.1 (by decide) (by decide))]
    generalize q_sI (q_sI (q_sI (q_sI (q_sI T5 pt (7 : Int32).toNatClampNeg r5) sc ((4 : Int32) * 7).toNatClampNeg 16384) sc (((4 : Int32) * 7) + (1 : Int32)).toNatClampNeg 0) sc (((4 : Int32) * 7) + (2 : Int32)).toNatClampNeg 0) sc (((4 : Int32) * 7) + (3 : Int32)).toNatClampNeg 16384 = H at H4 sH ⊢
    generalize hP : (p + (4 : Int32)) + ((2 : Int32) * s0) = P at eP ⊢
    have eD : d_len r2 = 4 + 2 * d_w r2 + d_sc r2 := rfl
    by_cases g8 : r2 &&& (8 : Int32) = 0
    · rw [if_pos g8]
      by_cases g64 : r2 &&& (64 : Int32) = 0
      · rw [if_pos g64]
        by_cases g128 : r2 &&& (128 : Int32) = 0
        · rw [if_pos g128]
          have es : d_sc r2 = 0 := by unfold d_sc; rw [if_pos g8, if_pos g64, if_pos g128]
          refine ⟨_, H, rfl, H4, ?_, ?_⟩
          · rw [q_subI (by omega) (by omega), eP, eD, es]; omega
          · rw [sH, p5, eD, es]
            constructor
            · rintro ⟨a, h⟩; exact ⟨a, by omega⟩
            · rintro ⟨a, h⟩; exact ⟨a, by omega⟩
        · rw [if_neg g128]
          have es : d_sc r2 = 8 := by unfold d_sc; rw [if_pos g8, if_pos g64, if_neg g128]
          have loop : ∀ (j k : Nat) (U : q_S) (l6 : Int32), q_G ρ L [2888, 4352, 4416, 4480] B U → 0 ≤ l6.toInt → l6.toInt + j = 4 → j < k → ∃ (r : Int32) (T : q_S), m_X12_readPart_244 n k U (some m) 7 p P l6 = some (r, T) ∧ q_G ρ L [2888, 4352, 4416, 4480] B T ∧ r = P + 8 - p ∧ (j = 0 → q_I T m 8 = q_I U m 8) ∧ (j ≠ 0 → (q_I T m 8 = 0 ↔ q_I U m 8 = 0 ∧ P.toInt + 8 ≤ r_lim S m fL)) := by
            intro j
            induction j with
            | zero =>
              intro k U l6 hU h1 h2 hk
              obtain ⟨k, rfl⟩ : ∃ k', k = k' + 1 := ⟨k - 1, by omega⟩
              rw [m_X12_readPart_244, if_pos (i_le.mpr (by rw [y4]; omega))]
              exact ⟨_, U, rfl, hU, rfl, fun _ => rfl, fun h => absurd rfl h⟩
            | succ j ih =>
              intro k U l6 hU h1 h2 hk
              obtain ⟨k, rfl⟩ : ∃ k', k = k' + 1 := ⟨k - 1, by omega⟩
              have em : ((2 : Int32) * l6).toInt = 2 * l6.toInt := q_mulLI y2 (by omega) (by omega)
              have ez : (P + ((2 : Int32) * l6)).toInt = P.toInt + 2 * l6.toInt := by rw [q_addI (by omega) (by omega), em]
              have e28 : ((4 : Int32) * 7).toInt = 28 := rfl
              have e28l : (((4 : Int32) * 7) + l6).toInt = 28 + l6.toInt := by rw [q_addI (by rw [e28]; omega) (by rw [e28]; omega), e28]
              have el : (l6 + 1).toInt = l6.toInt + 1 := by rw [q_addI (by rw [y1]; omega) (by rw [y1]; omega), y1]
              obtain ⟨r, T, e, g, a, r', e', w'⟩ := num U (P + ((2 : Int32) * l6)) hU ⟨by omega, by omega⟩
              obtain ⟨gs, s8⟩ := sto T (((4 : Int32) * 7) + l6).toNatClampNeg r' g w'
              obtain ⟨r9, T9, e9, g9, c9, d9, f9⟩ := ih k _ (l6 + 1) gs (by omega) (by omega) (by omega)
              rw [m_X12_readPart_244, if_neg (fun h => by have := i_le.mp h; rw [y4] at this; omega), q_at_pos (k_m hU.1 hm), e, q_b_some, e', q_b_some, l35 _ hU.1, q_at_pos (ksc _ g.1), q_if_pos (inS _ _ g.1 (by omega) (by omega))]
              refine ⟨r9, T9, e9, g9, c9, fun h => by omega, fun _ => ?_⟩
              by_cases hj : j = 0
              · rw [d9 hj, s8, a, ez]
                constructor
                · rintro ⟨a, h⟩; exact ⟨a, by omega⟩
                · rintro ⟨a, h⟩; exact ⟨a, by omega⟩
              · rw [f9 hj, s8, a, ez]
                constructor
                · rintro ⟨⟨a, -⟩, h⟩; exact ⟨a, h⟩
                · rintro ⟨a, h⟩; exact ⟨⟨a, by omega⟩, h⟩
          obtain ⟨r, T, e, g, c, -, f⟩ := loop 4 n H 0 H4 (by decide) (by decide) (by omega)
          have e8 : (P + (8 : Int32)).toInt = P.toInt + 8 := by rw [q_addI (by rw [y8]; omega) (by rw [y8]; omega), y8]
          refine ⟨r, T, e, g, ?_, ?_⟩
          · rw [c, q_subI (by omega) (by omega), e8, eP, eD, es]; omega
          · rw [f (by decide), sH, p5, eD, es]
            constructor
            · rintro ⟨⟨a, -⟩, h⟩; exact ⟨a, by omega⟩
            · rintro ⟨a, h⟩; exact ⟨⟨a, by omega⟩, by omega⟩
      · rw [if_neg g64]
        have es : d_sc r2 = 4 := by unfold d_sc; rw [if_pos g8, if_neg g64]
        have eP2 : (P + (2 : Int32)).toInt = P.toInt + 2 := by rw [q_addI (by rw [y2]; omega) (by rw [y2]; omega), y2]
        have eP4 : (P + (4 : Int32)).toInt = P.toInt + 4 := by rw [q_addI (by rw [y4]; omega) (by rw [y4]; omega), y4]
        obtain ⟨z1, Z1, ez1, gz1, az1, z1', ez1', wz1⟩ := num H P H4 ⟨by omega, by omega⟩
        obtain ⟨gs1, s81⟩ := sto Z1 ((4 : Int32) * 7).toNatClampNeg z1' gz1 wz1
        obtain ⟨z2, Z2, ez2, gz2, az2, z2', ez2', wz2⟩ := num _ (P + (2 : Int32)) gs1 ⟨by omega, by omega⟩
        obtain ⟨gs2, s82⟩ := sto Z2 (((4 : Int32) * 7) + (3 : Int32)).toNatClampNeg z2' gz2 wz2
        rw [ez1, q_b_some, ez1', q_b_some, l35 _ H4.1, q_at_pos (ksc _ gz1.1), q_if_pos (inS _ _ gz1.1 (by decide) (by decide)), q_at_pos (k_m gs1.1 hm), ez2, q_b_some, ez2', q_b_some, l35 _ gs1.1, q_at_pos (ksc _ gz2.1), q_if_pos (inS _ _ gz2.1 (by decide) (by decide))]
        refine ⟨_, _, rfl, gs2, ?_, ?_⟩
        · rw [q_subI (by omega) (by omega), eP4, eP, eD, es]; omega
        · rw [s82, az2, s81, az1, sH, p5, eD, es, eP2]
          constructor
          · rintro ⟨⟨⟨a, -⟩, -⟩, h⟩; exact ⟨a, by omega⟩
          · rintro ⟨a, h⟩; exact ⟨⟨⟨a, by omega⟩, by omega⟩, by omega⟩
    · rw [if_neg g8]
      have es : d_sc r2 = 2 := by unfold d_sc; rw [if_neg g8]
      have eP2 : (P + (2 : Int32)).toInt = P.toInt + 2 := by rw [q_addI (by rw [y2]; omega) (by rw [y2]; omega), y2]
      obtain ⟨z1, Z1, ez1, gz1, az1, z1', ez1', wz1⟩ := num H P H4 ⟨by omega, by omega⟩
      obtain ⟨gs1, s81⟩ := sto Z1 ((4 : Int32) * 7).toNatClampNeg z1' gz1 wz1
      have eh : q_I (q_sI Z1 sc ((4 : Int32) * 7).toNatClampNeg z1') sc ((4 : Int32) * 7).toNatClampNeg = z1' := q_hitI
      obtain ⟨gs2, s82⟩ := sto _ (((4 : Int32) * 7) + (3 : Int32)).toNatClampNeg z1' gs1 wz1
      rw [ez1, q_b_some, ez1', q_b_some, l35 _ H4.1, q_at_pos (ksc _ gz1.1), q_if_pos (inS _ _ gz1.1 (by decide) (by decide)), q_at_pos (k_m gs1.1 hm), l35 _ gs1.1, q_at_pos (ksc _ gs1.1), q_if_pos (inS _ _ gs1.1 (by decide) (by decide)), q_if_pos (inS _ _ gs1.1 (by decide) (by decide)), eh, q_let_eq]
      refine ⟨_, _, rfl, gs2, ?_, ?_⟩
      · rw [q_subI (by omega) (by omega), eP2, eP, eD, es]; omega
      · rw [s82, s81, az1, sH, p5, eD, es]
        constructor
        · rintro ⟨⟨a, -⟩, h⟩; exact ⟨a, by omega⟩
        · rintro ⟨a, h⟩; exact ⟨⟨a, by omega⟩, by omega⟩
  have fin : ∀ (r : Int32) (T : q_S), q_G ρ L [2888, 4352, 4416, 4480] B T → r.toInt = d_len r2 → (q_I T m 8 = 0 ↔ q_I B m 8 = 0 ∧ p.toInt + d_len r2 ≤ r_lim S m fL) → q_G ρ L M_X12_readPart_45 S T ∧ r.toInt = d_len (q_I T pf 7) ∧ (q_I T m 8 = 0 ↔ q_I S m 8 = 0 ∧ p.toInt + 2 ≤ r_lim S m fL ∧ p.toInt + d_len (q_I T pf 7) ≤ r_lim S m fL) ∧ (p.toInt + 2 ≤ r_lim S m fL → (q_I T pf 7).toInt = r_F S m fF fB fL p.toInt) ∧ (p.toInt + 4 ≤ r_lim S m fL → (q_I T cs 7).toInt = r_F S m fF fB fL (p.toInt + 2)) := by
    intro r T g hr ha
    have f1 : q_I T pf 7 = r2 := by rw [q_unIA g hpf.1 hpf.2 (by decide) (by decide), Bf]
    have f2 : q_I T cs 7 = r6 := by rw [q_unIA g hcs.1 hcs.2 (by decide) (by decide), Bc]
    refine ⟨q_G_call GB g (by decide), by rw [f1]; exact hr, ?_, fun h => by rw [f1]; exact v2 h, fun h => by rw [f2]; exact v6 (by omega)⟩
    rw [f1, ha, B8, a6, a2]
    constructor
    · rintro ⟨⟨⟨a, h1⟩, -⟩, h⟩; exact ⟨a, h1, h⟩
    · rintro ⟨a, h1, h⟩; exact ⟨⟨⟨a, h1⟩, by omega⟩, h⟩
  unfold m_X12_readPart
  rw [q_at_pos (k_m hI hm), e2, q_b_some, q_at_pos (k_m g2.1 hm), e6, q_b_some, l30 _ g2.1, q_at_pos (kcs _ g6.1), q_if_pos (q_inI (g_65_N G6 hcs.1 hcs.2) (by decide) (by decide))]
  by_cases g1 : r2 &&& (1 : Int32) = 0
  · rw [if_pos g1]
    obtain ⟨r, T, e, g, c, d⟩ := rest 1 (by unfold d_w; rw [if_pos g1]; rfl)
    exact ⟨r, T, e, fin r T g c d⟩
  · rw [if_neg g1]
    obtain ⟨r, T, e, g, c, d⟩ := rest 2 (by unfold d_w; rw [if_neg g1]; rfl)
    exact ⟨r, T, e, fin r T g c d⟩
end QRP
