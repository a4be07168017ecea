/-! VALUES: the DATA of a SIGN, read one number behind the other (role 12: place 3, end 4, past 2) -/
section QVD
variable {ρ : Nat → Nat} {L M9 : List Nat} {n : Nat} {S T : q_S} {x wo ce tb en ab m fF fT fS fB fL dt : Nat}
theorem k_d (hI : q_Inv ρ L S) (h : dt ∈ L ∧ ρ dt = 12) : dt ∈ q_L S ∧ q_K S dt = 2 := v_at hI h rfl
theorem v_d0 (hI : q_Inv ρ L S) (hd : dt ∈ L ∧ ρ dt = 12) (hw : wo ∈ L ∧ ρ wo = 1) : q_R S dt 0 = some wo := v_ln hI (g_12_R0 (q_G_refl (m := []) hI) hd.1 hd.2) hw rfl
/-- a store whose DATA stand at a place, PAST or not -/
def d_S (S : q_S) (dt : Nat) (p : Int64) (c : Int32) : q_S := q_sI (q_sJ S dt 3 p) dt 2 c
theorem d_seen (hI : q_Inv ρ L S) (hd : dt ∈ L ∧ ρ dt = 12) {v k : Int32} (hk : k = 1 ∨ k = 2) (hp : -281474976710656 ≤ (q_J S dt 3).toInt + k.toInt ∧ (q_J S dt 3).toInt + k.toInt ≤ 281474976710656) : m_X1_seen n S dt v k = some (if v = -1 then 0 else v, d_S S dt ((q_J S dt 3) + k.toInt64) (if q_I S dt 2 = 0 ∧ v ≠ -1 then 0 else 1)) := by
  have hG : q_G ρ L [771] S S := q_G_refl hI
  have hb := g_12_J3 hG hd.1 hd.2
  have hkb : 1 ≤ k.toInt ∧ k.toInt ≤ 2 := by rcases hk with e | e <;> rw [e] <;> decide
  have ea : ((q_J S dt 3) + k.toInt64).toInt = (q_J S dt 3).toInt + k.toInt := by rw [q_addJ (by rw [q_wil]; omega) (by rw [q_wil]; omega), q_wil]
  have hG1 := u_12_J3 (x := (q_J S dt 3) + k.toInt64) hG hd.1 hd.2 (by decide) (by rw [ea]; exact hp)
  have e2 : q_I (q_sJ S dt 3 ((q_J S dt 3) + k.toInt64)) dt 2 = q_I S dt 2 := q_skIJ
  unfold m_X1_seen m_X1_seen_24 m_X1_seen_29 m_X1_seen_42 d_S
  rw [q_at_pos (k_d hI hd), e2]
  by_cases g1 : q_I S dt 2 = 0
  · rw [if_pos g1]
    by_cases g2 : v = -1
    · rw [if_pos g2, q_at_pos (k_d hG1.1 hd), q_if_pos (Or.inr rfl), if_pos g2, if_pos g2, if_neg (fun h => h.2 g2)]
    · rw [if_neg g2, q_at_pos (k_d hG1.1 hd), q_if_pos (Or.inl rfl), if_neg g2, if_neg g2, if_pos ⟨g1, g2⟩]
  · rw [if_neg g1, q_at_pos (k_d hG1.1 hd), q_if_pos (Or.inr rfl), if_neg (fun h : q_I S dt 2 = 0 ∧ v ≠ -1 => g1 h.1)]
    by_cases g2 : v = -1
    · rw [if_pos g2, if_pos g2]
    · rw [if_neg g2, if_neg g2]
theorem v_G2b (hI : q_Inv ρ L S) (hd : dt ∈ L ∧ ρ dt = 12) {p : Int64} {c : Int32} (hp : -281474976710656 ≤ p.toInt ∧ p.toInt ≤ 281474976710656) (hc : c = 0 ∨ c = 1) : q_G ρ L [770, 771] S (d_S S dt p c) := u_12_I2 (u_12_J3 (q_G_refl hI) hd.1 hd.2 (by decide) hp) hd.1 hd.2 (by decide) (by rcases hc with e | e <;> rw [e] <;> decide)
/-- TWO at a place -/
def v_F (f : Nat → Int32) (p : Int) : Int := 256 * (f p.toNat).toInt + (f (p + 1).toNat).toInt
theorem d_two (hI : q_Inv ρ L S) (hd : dt ∈ L ∧ ρ dt = 12) (hw : wo ∈ L ∧ ρ wo = 1) (hc : ce ∈ L ∧ ρ ce = 2) (h0 : 0 ≤ (q_J S dt 3).toInt) (h1 : (q_J S dt 3).toInt ≤ 17179869184) (he : (q_J S dt 4).toInt ≤ (q_I S wo 1).toInt) : ∃ (r : Int32) (T : q_S), m_X1_two n S dt = some (r, T) ∧ q_G ρ L [770, 771] S T ∧ (q_J T dt 3).toInt = (q_J S dt 3).toInt + 2 ∧ (q_I T dt 2 = 0 ↔ q_I S dt 2 = 0 ∧ (q_J S dt 3).toInt + 2 ≤ (q_J S dt 4).toInt) ∧ ((q_J S dt 3).toInt + 2 ≤ (q_J S dt 4).toInt → r.toInt = v_F (q_I S ce) (q_J S dt 3).toInt) ∧ (0 ≤ r.toInt ∧ r.toInt ≤ 65535) := by
  have hG : q_G ρ L [] S S := q_G_refl hI
  obtain ⟨v, ev, k1, k2⟩ := v_rtwo (n := n) (p := q_J S dt 3) (e := q_J S dt 4) hI hw hc (by omega)
  have y2 : (2 : Int32).toInt = 2 := rfl
  have ea : ((q_J S dt 3) + (2 : Int32).toInt64).toInt = (q_J S dt 3).toInt + 2 := by rw [q_addJ (by rw [q_wil, y2]; omega) (by rw [q_wil, y2]; omega), q_wil, y2]
  have es := d_seen (n := n) (v := v) (k := 2) hI hd (Or.inr rfl) (by rw [y2]; omega)
  have hgG : q_G ρ L [770, 771] S (d_S S dt ((q_J S dt 3) + (2 : Int32).toInt64) (if q_I S dt 2 = 0 ∧ v ≠ -1 then 0 else 1)) := v_G2b hI hd (by rw [ea]; omega) (by split <;> simp)
  refine ⟨if v = -1 then 0 else v, _, ?_, hgG, ?_, ?_, ?_, ?_⟩
  · unfold m_X1_two
    rw [q_at_pos (k_d hI hd), v_d0 hI hd hw, q_at_pos (k_w hI hw), ev, q_b_some, q_at_pos (k_d hI hd), es, q_b_some]
  · unfold d_S
    rw [q_skJI, q_hitJ, ea]
  · unfold d_S
    rw [q_hitI]
    have hb := g_2_E hG hc.1 hc.2 (k := (q_J S dt 3).toInt.toNat)
    have hb2 := g_2_E hG hc.1 hc.2 (k := ((q_J S dt 3).toInt + 1).toNat)
    have ym : (-1 : Int32).toInt = -1 := rfl
    have hv : v ≠ -1 ↔ (q_J S dt 3).toInt + 2 ≤ (q_J S dt 4).toInt := by
      constructor
      · intro h
        rcases Int.lt_or_le (q_J S dt 4).toInt ((q_J S dt 3).toInt + 2) with g | g
        · exact absurd (k2 (by omega)) h
        · exact g
      · intro h h9
        have := k1 ⟨h0, by omega, by omega⟩
        rw [h9, ym] at this
        omega
    constructor
    · intro h
      by_cases g : q_I S dt 2 = 0 ∧ v ≠ -1
      · exact ⟨g.1, hv.mp g.2⟩
      · rw [if_neg g] at h; exact absurd h (by decide)
    · intro h
      rw [if_pos ⟨h.1, hv.mpr h.2⟩]
  · intro h
    have := k1 ⟨h0, by omega, by omega⟩
    have hb := g_2_E hG hc.1 hc.2 (k := (q_J S dt 3).toInt.toNat)
    have hb2 := g_2_E hG hc.1 hc.2 (k := ((q_J S dt 3).toInt + 1).toNat)
    have ym : (-1 : Int32).toInt = -1 := rfl
    rw [if_neg (fun h9 => by rw [h9, ym] at this; omega)]
    exact this
  · by_cases g : (q_J S dt 3).toInt + 2 ≤ (q_J S dt 4).toInt
    · have := k1 ⟨h0, by omega, by omega⟩
      have hb := g_2_E hG hc.1 hc.2 (k := (q_J S dt 3).toInt.toNat)
      have hb2 := g_2_E hG hc.1 hc.2 (k := ((q_J S dt 3).toInt + 1).toNat)
      have ym : (-1 : Int32).toInt = -1 := rfl
      rw [if_neg (fun h9 => by rw [h9, ym] at this; omega)]
      omega
    · rw [if_pos (k2 (by omega))]
      decide
theorem d_one (hI : q_Inv ρ L S) (hd : dt ∈ L ∧ ρ dt = 12) (hw : wo ∈ L ∧ ρ wo = 1) (hc : ce ∈ L ∧ ρ ce = 2) (h0 : 0 ≤ (q_J S dt 3).toInt) (h1 : (q_J S dt 3).toInt ≤ 17179869184) (he : (q_J S dt 4).toInt ≤ (q_I S wo 1).toInt) : ∃ (r : Int32) (T : q_S), m_X1_one n S dt = some (r, T) ∧ q_G ρ L [770, 771] S T ∧ (q_J T dt 3).toInt = (q_J S dt 3).toInt + 1 ∧ (q_I T dt 2 = 0 ↔ q_I S dt 2 = 0 ∧ (q_J S dt 3).toInt + 1 ≤ (q_J S dt 4).toInt) ∧ (0 ≤ r.toInt ∧ r.toInt ≤ 65535) := by
  have hG : q_G ρ L [] S S := q_G_refl hI
  obtain ⟨v, ev, k1, k2⟩ := v_rone (n := n) (p := q_J S dt 3) (e := q_J S dt 4) hI hw hc
  have y1 : (1 : Int32).toInt = 1 := rfl
  have ea : ((q_J S dt 3) + (1 : Int32).toInt64).toInt = (q_J S dt 3).toInt + 1 := by rw [q_addJ (by rw [q_wil, y1]; omega) (by rw [q_wil, y1]; omega), q_wil, y1]
  have es := d_seen (n := n) (v := v) (k := 1) hI hd (Or.inl rfl) (by rw [y1]; omega)
  have hgG : q_G ρ L [770, 771] S (d_S S dt ((q_J S dt 3) + (1 : Int32).toInt64) (if q_I S dt 2 = 0 ∧ v ≠ -1 then 0 else 1)) := v_G2b hI hd (by rw [ea]; omega) (by split <;> simp)
  have hb := g_2_E hG hc.1 hc.2 (k := (q_J S dt 3).toInt.toNat)
  have ym : (-1 : Int32).toInt = -1 := rfl
  refine ⟨if v = -1 then 0 else v, _, ?_, hgG, ?_, ?_, ?_⟩
  · unfold m_X1_one
    rw [q_at_pos (k_d hI hd), v_d0 hI hd hw, q_at_pos (k_w hI hw), ev, q_b_some, q_at_pos (k_d hI hd), es, q_b_some]
  · unfold d_S
    rw [q_skJI, q_hitJ, ea]
  · unfold d_S
    rw [q_hitI]
    have hv : v ≠ -1 ↔ (q_J S dt 3).toInt + 1 ≤ (q_J S dt 4).toInt := by
      constructor
      · intro h
        rcases Int.lt_or_le (q_J S dt 4).toInt ((q_J S dt 3).toInt + 1) with g | g
        · exact absurd (k2 (by omega)) h
        · exact g
      · intro h h9
        have := k1 ⟨h0, by omega, by omega⟩
        rw [h9] at this
        rw [← this, ym] at hb
        omega
    constructor
    · intro h
      by_cases g : q_I S dt 2 = 0 ∧ v ≠ -1
      · exact ⟨g.1, hv.mp g.2⟩
      · rw [if_neg g] at h; exact absurd h (by decide)
    · intro h
      rw [if_pos ⟨h.1, hv.mpr h.2⟩]
  · by_cases g : (q_J S dt 3).toInt + 1 ≤ (q_J S dt 4).toInt
    · have := k1 ⟨h0, by omega, by omega⟩
      rw [this]
      rw [if_neg (fun h9 => by rw [h9, ym] at hb; omega)]
      omega
    · rw [if_pos (k2 (by omega))]
      decide
theorem d_sig (hI : q_Inv ρ L S) (hd : dt ∈ L ∧ ρ dt = 12) (hw : wo ∈ L ∧ ρ wo = 1) (hc : ce ∈ L ∧ ρ ce = 2) (h0 : 0 ≤ (q_J S dt 3).toInt) (h1 : (q_J S dt 3).toInt ≤ 17179869184) (he : (q_J S dt 4).toInt ≤ (q_I S wo 1).toInt) : ∃ (r : Int32) (T : q_S), m_X1_signedTwo n S dt = some (r, T) ∧ q_G ρ L [770, 771] S T ∧ (q_J T dt 3).toInt = (q_J S dt 3).toInt + 2 ∧ (q_I T dt 2 = 0 ↔ q_I S dt 2 = 0 ∧ (q_J S dt 3).toInt + 2 ≤ (q_J S dt 4).toInt) ∧ ((q_J S dt 3).toInt + 2 ≤ (q_J S dt 4).toInt → r.toInt = v_sgn (v_F (q_I S ce) (q_J S dt 3).toInt)) ∧ (¬ (q_J S dt 3).toInt + 2 ≤ (q_J S dt 4).toInt → r.toInt = 0) ∧ (-32768 ≤ r.toInt ∧ r.toInt ≤ 32767) := by
  obtain ⟨v, ev, k1, k2⟩ := v_rtwo (n := n) (p := q_J S dt 3) (e := q_J S dt 4) hI hw hc (by omega)
  have y2 : (2 : Int32).toInt = 2 := rfl
  have es := d_seen (n := n) (v := v) (k := 2) hI hd (Or.inr rfl) (by rw [y2]; omega)
  obtain ⟨r, T, e, g, a1, a2, a3, a4⟩ := d_two (n := n) hI hd hw hc h0 h1 he
  have e2 : m_X1_two n S dt = some (if v = -1 then 0 else v, d_S S dt ((q_J S dt 3) + (2 : Int32).toInt64) (if q_I S dt 2 = 0 ∧ v ≠ -1 then 0 else 1)) := by
    unfold m_X1_two
    rw [q_at_pos (k_d hI hd), v_d0 hI hd hw, q_at_pos (k_w hI hw), ev, q_b_some, q_at_pos (k_d hI hd), es, q_b_some]
  rw [e] at e2
  cases e2
  obtain ⟨s, es2, hs⟩ := v_sgC (n := n) (S := d_S S dt ((q_J S dt 3) + (2 : Int32).toInt64) (if q_I S dt 2 = 0 ∧ v ≠ -1 then 0 else 1)) a4
  refine ⟨s, _, ?_, g, a1, a2, fun h => by rw [hs, a3 h], fun h => ?_, ?_⟩
  · unfold m_X1_signedTwo
    rw [q_at_pos (k_d hI hd), v_d0 hI hd hw, q_at_pos (k_w hI hw), ev, q_b_some, q_at_pos (k_d hI hd), es, q_b_some, es2, q_b_some]
  · rw [hs, if_pos (k2 (by omega))]
    rfl
  · rw [hs]
    clear es2 hs
    generalize (if v = -1 then (0 : Int32) else v).toInt = z at a4 ⊢
    unfold v_sgn
    split <;> omega
/-! a PART -/
def d_w (f : Int32) : Int := if f &&& (1 : Int32) = 0 then 1 else 2
def d_sc (f : Int32) : Int := if f &&& (8 : Int32) = 0 then (if f &&& (64 : Int32) = 0 then (if f &&& (128 : Int32) = 0 then 0 else 8) else 4) else 2
theorem d_num (hI : q_Inv ρ L S) (hd : dt ∈ L ∧ ρ dt = 12) (hw : wo ∈ L ∧ ρ wo = 1) (hc : ce ∈ L ∧ ρ ce = 2) (h0 : 0 ≤ (q_J S dt 3).toInt) (h1 : (q_J S dt 3).toInt ≤ 17179869184) (he : (q_J S dt 4).toInt ≤ (q_I S wo 1).toInt) : ∃ (r : Int32) (T : q_S), m_X1_nextNumber n S dt = some (r, T) ∧ q_G ρ L [770, 771] S T ∧ (q_J T dt 3).toInt = (q_J S dt 3).toInt + d_w (q_I S dt 6) ∧ (q_I T dt 2 = 0 ↔ q_I S dt 2 = 0 ∧ (q_J S dt 3).toInt + d_w (q_I S dt 6) ≤ (q_J S dt 4).toInt) ∧ (-32768 ≤ r.toInt ∧ r.toInt ≤ 65535) := by
  have last : ∀ (T : q_S) (v h : Int32), q_Inv ρ L T → (0 ≤ v.toInt ∧ v.toInt ≤ 65535) → (h = 128 ∨ h = 32768) → ∃ r : Int32, m_X1_nextNumber_43 n T (some dt) v h = some (r, T) ∧ (-32768 ≤ r.toInt ∧ r.toInt ≤ 65535) := by
    intro T v h hT hv hh
    unfold m_X1_nextNumber_43 m_X1_nextNumber_64 m_X1_nextNumber_65 m_X1_isMoved m_X1_isMoved_14
    have hh2 : 128 ≤ h.toInt ∧ h.toInt ≤ 32768 := by rcases hh with e | e <;> rw [e] <;> decide
    have y2 : (2 : Int32).toInt = 2 := rfl
    have e2 : ((2 : Int32) * h).toInt = 2 * h.toInt := q_mulLI y2 (by omega) (by omega)
    rw [q_at_pos (k_d hT hd), q_at_pos (k_d hT hd)]
    by_cases g : (q_I T dt 6) &&& (2 : Int32) = 0
    · rw [if_pos g, q_if_pos (Or.inl rfl), q_b_some, if_pos rfl]
      exact ⟨v, rfl, by omega, by omega⟩
    · rw [if_neg g, q_if_pos (Or.inr rfl), q_b_some, if_neg (by decide)]
      by_cases g2 : v < h
      · rw [if_pos g2]; exact ⟨v, rfl, by omega, by omega⟩
      · have g2' := mt i_lt.mpr g2
        rw [if_neg g2]
        have e3 : (v - (2 : Int32) * h).toInt = v.toInt - 2 * h.toInt := by rw [q_subI (by rw [e2]; omega) (by rw [e2]; omega), e2]
        exact ⟨_, rfl, by rw [e3]; omega, by rw [e3]; omega⟩
  unfold m_X1_nextNumber m_X1_nextNumber_14 m_X1_nextNumber_30 d_w
  rw [q_at_pos (k_d hI hd)]
  by_cases g : (q_I S dt 6) &&& (1 : Int32) = 0
  · rw [if_pos g, if_pos g, if_pos rfl, q_at_pos (k_d hI hd)]
    obtain ⟨r, T, e, gG, a1, a2, a4⟩ := d_one (n := n) hI hd hw hc h0 h1 he
    rw [e, q_b_some, if_pos rfl]
    obtain ⟨r2, e2, hr2⟩ := last T r 128 gG.1 a4 (Or.inl rfl)
    exact ⟨r2, T, e2, gG, a1, a2, hr2⟩
  · rw [if_neg g, if_neg g, if_neg (by decide), q_at_pos (k_d hI hd)]
    obtain ⟨r, T, e, gG, a1, a2, a3, a4⟩ := d_two (n := n) hI hd hw hc h0 h1 he
    rw [e, q_b_some, if_neg (by decide)]
    obtain ⟨r2, e2, hr2⟩ := last T r 32768 gG.1 a4 (Or.inr rfl)
    exact ⟨r2, T, e2, gG, a1, a2, hr2⟩
theorem d_scl (hI : q_Inv ρ L S) (hd : dt ∈ L ∧ ρ dt = 12) (hw : wo ∈ L ∧ ρ wo = 1) (hc : ce ∈ L ∧ ρ ce = 2) (h0 : 0 ≤ (q_J S dt 3).toInt) (h1 : (q_J S dt 3).toInt ≤ 17179869000) (he : (q_J S dt 4).toInt ≤ (q_I S wo 1).toInt) : ∃ (T : q_S), m_X1_nextScales n S dt = some ((), T) ∧ q_G ρ L [770, 771, 778, 779, 780, 781] S T ∧ (q_J T dt 3).toInt = (q_J S dt 3).toInt + d_sc (q_I S dt 6) ∧ (d_sc (q_I S dt 6) ≠ 0 → (q_I T dt 2 = 0 ↔ q_I S dt 2 = 0 ∧ (q_J S dt 3).toInt + d_sc (q_I S dt 6) ≤ (q_J S dt 4).toInt)) ∧ (d_sc (q_I S dt 6) = 0 → q_I T dt 2 = q_I S dt 2) := by
  have hG : q_G ρ L [770, 771, 778, 779, 780, 781] S S := q_G_refl hI
  have hG4 := u_12_I13 (x := 16384) (u_12_I12 (x := 0) (u_12_I11 (x := 0) (u_12_I10 (x := 16384) hG hd.1 hd.2 (by decide) ⟨by decide, by decide⟩) hd.1 hd.2 (by decide) ⟨by decide, by decide⟩) hd.1 hd.2 (by decide) ⟨by decide, by decide⟩) hd.1 hd.2 (by decide) ⟨by decide, by decide⟩
  have f2 : q_I (q_sI (q_sI (q_sI (q_sI S dt 10 16384) dt 11 0) dt 12 0) dt 13 16384) dt 2 = q_I S dt 2 := by rw [q_ffI (by decide), q_ffI (by decide), q_ffI (by decide), q_ffI (by decide)]
  have f6 : q_I (q_sI (q_sI (q_sI (q_sI S dt 10 16384) dt 11 0) dt 12 0) dt 13 16384) dt 6 = q_I S dt 6 := by rw [q_ffI (by decide), q_ffI (by decide), q_ffI (by decide), q_ffI (by decide)]
  have f3 : q_J (q_sI (q_sI (q_sI (q_sI S dt 10 16384) dt 11 0) dt 12 0) dt 13 16384) dt 3 = q_J S dt 3 := rfl
  have f4 : q_J (q_sI (q_sI (q_sI (q_sI S dt 10 16384) dt 11 0) dt 12 0) dt 13 16384) dt 4 = q_J S dt 4 := rfl
  have fw : q_I (q_sI (q_sI (q_sI (q_sI S dt 10 16384) dt 11 0) dt 12 0) dt 13 16384) wo 1 = q_I S wo 1 := by rw [q_fwI hw.2 hd.2 (by decide), q_fwI hw.2 hd.2 (by decide), q_fwI hw.2 hd.2 (by decide), q_fwI hw.2 hd.2 (by decide)]
  -- one number more, stored in a field of scales
  have step : ∀ (U : q_S) (k : Nat), q_G ρ L [770, 771, 778, 779, 780, 781] S U → (k = 10 ∨ k = 11 ∨ k = 12 ∨ k = 13) → 0 ≤ (q_J U dt 3).toInt → (q_J U dt 3).toInt ≤ 17179869184 → ∃ (r : Int32) (T : q_S), m_X1_signedTwo n U dt = some (r, T) ∧ q_G ρ L [770, 771, 778, 779, 780, 781] S T ∧ q_G ρ L [770, 771, 778, 779, 780, 781] S (q_sI T dt k r) ∧ (q_J (q_sI T dt k r) dt 3).toInt = (q_J U dt 3).toInt + 2 ∧ (q_I (q_sI T dt k r) dt 2 = 0 ↔ q_I U dt 2 = 0 ∧ (q_J U dt 3).toInt + 2 ≤ (q_J S dt 4).toInt) ∧ (-32768 ≤ r.toInt ∧ r.toInt ≤ 32767) := by
    intro U k hU hk p0 p1
    have e4 : q_J U dt 4 = q_J S dt 4 := q_unJ hU hd.1 hd.2 (by decide)
    have ew : q_I U wo 1 = q_I S wo 1 := q_unI hU hw.1 hw.2 (by decide)
    obtain ⟨r, T, e, g, a1, a2, -, -, a5⟩ := d_sig (n := n) hU.1 hd hw hc p0 p1 (by rw [e4, ew]; exact he)
    rw [e4] at a2
    have gT := q_G_call hU g (by decide)
    have k2 : 2 ≠ k := by rcases hk with h | h | h | h <;> omega
    refine ⟨r, T, e, gT, ?_, ?_, ?_, a5⟩
    · rcases hk with h | h | h | h
      · subst h; exact u_12_I10 gT hd.1 hd.2 (by decide) a5
      · subst h; exact u_12_I11 gT hd.1 hd.2 (by decide) a5
      · subst h; exact u_12_I12 gT hd.1 hd.2 (by decide) a5
      · subst h; exact u_12_I13 gT hd.1 hd.2 (by decide) a5
    · rw [q_skJI]; exact a1
    · rw [q_ffI k2]; exact a2
  unfold m_X1_nextScales m_X1_nextScales_125 d_sc
  rw [q_at_pos (k_d hI hd), q_let_eq, q_let_eq, f6]
  by_cases g8 : (q_I S dt 6) &&& (8 : Int32) = 0
  · rw [if_pos g8, if_pos g8]
    by_cases g64 : (q_I S dt 6) &&& (64 : Int32) = 0
    · rw [if_pos g64, if_pos g64]
      by_cases g128 : (q_I S dt 6) &&& (128 : Int32) = 0
      · rw [if_pos g128, if_pos g128]
        exact ⟨_, rfl, hG4, by rw [f3]; omega, fun h => absurd rfl h, fun _ => f2⟩
      · rw [if_neg g128, if_neg g128]
        obtain ⟨r1, T1, e1, t1, u1, b1, c1, d1⟩ := step _ 10 hG4 (Or.inl rfl) (by rw [f3]; exact h0) (by rw [f3]; omega)
        obtain ⟨r2, T2, e2, t2, u2, b2, c2, d2⟩ := step _ 11 u1 (Or.inr (Or.inl rfl)) (by rw [b1, f3]; omega) (by rw [b1, f3]; omega)
        obtain ⟨r3, T3, e3, t3, u3, b3, c3, d3⟩ := step _ 12 u2 (Or.inr (Or.inr (Or.inl rfl))) (by rw [b2, b1, f3]; omega) (by rw [b2, b1, f3]; omega)
        obtain ⟨r4, T4, e4, t4, u4, b4, c4, d4⟩ := step _ 13 u3 (Or.inr (Or.inr (Or.inr rfl))) (by rw [b3, b2, b1, f3]; omega) (by rw [b3, b2, b1, f3]; omega)
        rw [e1, q_b_some, q_at_pos (k_d t1.1 hd), e2, q_b_some, q_at_pos (k_d t2.1 hd), e3, q_b_some, q_at_pos (k_d t3.1 hd), e4, q_b_some, q_at_pos (k_d t4.1 hd)]
        refine ⟨_, rfl, u4, by rw [b4, b3, b2, b1, f3]; omega, fun _ => ?_, fun h => absurd h (by decide)⟩
        rw [c4, c3, c2, c1, f2, b3, b2, b1, f3]
        constructor
        · rintro ⟨⟨⟨⟨a, -⟩, -⟩, -⟩, h⟩; exact ⟨a, by omega⟩
        · rintro ⟨a, h⟩; exact ⟨⟨⟨⟨a, by omega⟩, by omega⟩, by omega⟩, by omega⟩
    · rw [if_neg g64, if_neg g64]
      obtain ⟨r1, T1, e1, t1, u1, b1, c1, d1⟩ := step _ 10 hG4 (Or.inl rfl) (by rw [f3]; exact h0) (by rw [f3]; omega)
      obtain ⟨r4, T4, e4, t4, u4, b4, c4, d4⟩ := step _ 13 u1 (Or.inr (Or.inr (Or.inr rfl))) (by rw [b1, f3]; omega) (by rw [b1, f3]; omega)
      rw [e1, q_b_some, q_at_pos (k_d t1.1 hd), e4, q_b_some, q_at_pos (k_d t4.1 hd)]
      refine ⟨_, rfl, u4, by rw [b4, b1, f3]; omega, fun _ => ?_, fun h => absurd h (by decide)⟩
      rw [c4, c1, f2, b1, f3]
      constructor
      · rintro ⟨⟨a, -⟩, h⟩; exact ⟨a, by omega⟩
      · rintro ⟨a, h⟩; exact ⟨⟨a, by omega⟩, by omega⟩
  · rw [if_neg g8, if_neg g8]
    obtain ⟨r1, T1, e1, t1, u1, b1, c1, d1⟩ := step _ 10 hG4 (Or.inl rfl) (by rw [f3]; exact h0) (by rw [f3]; omega)
    rw [e1, q_b_some, q_at_pos (k_d t1.1 hd), q_let_eq]
    have eh : q_I (q_sI T1 dt 10 r1) dt 10 = r1 := q_hitI
    rw [eh]
    have u2 := u_12_I13 (x := r1) u1 hd.1 hd.2 (by decide) d1
    refine ⟨_, rfl, u2, by rw [q_skJI, b1, f3], fun _ => ?_, fun h => absurd h (by decide)⟩
    rw [q_ffI (by decide), c1, f2, f3]
def d_len (f : Int32) : Int := 4 + 2 * d_w f + d_sc f
theorem d_len_b (f : Int32) : 6 ≤ d_len f ∧ d_len f ≤ 16 ∧ (d_w f = 1 ∨ d_w f = 2) ∧ 0 ≤ d_sc f ∧ d_sc f ≤ 8 := by
  unfold d_len d_w d_sc
  split <;> split <;> (try split) <;> (try split) <;> omega
theorem d_part (hI : q_Inv ρ L S) (hd : dt ∈ L ∧ ρ dt = 12) (hw : wo ∈ L ∧ ρ wo = 1) (hc : ce ∈ L ∧ ρ ce = 2) (h0 : 0 ≤ (q_J S dt 3).toInt) (h1 : (q_J S dt 3).toInt ≤ 17179000000) (he : (q_J S dt 4).toInt ≤ (q_I S wo 1).toInt) : ∃ (r : Int32) (T : q_S), m_X1_nextPart n S dt = some (r, T) ∧ q_G ρ L [770, 771, 774, 775, 776, 777, 778, 779, 780, 781] S T ∧ (r = 0 ∨ r = 1) ∧ (r = 1 ↔ q_I S dt 2 = 0 ∧ (q_J S dt 3).toInt + 2 ≤ (q_J S dt 4).toInt ∧ (q_J S dt 3).toInt + d_len (q_I T dt 6) ≤ (q_J S dt 4).toInt) ∧ (r = 1 → q_I T dt 2 = 0 ∧ (q_J T dt 3).toInt = (q_J S dt 3).toInt + d_len (q_I T dt 6) ∧ (q_I T dt 6).toInt = v_F (q_I S ce) (q_J S dt 3).toInt ∧ (q_I T dt 7).toInt = v_F (q_I S ce) ((q_J S dt 3).toInt + 2)) ∧ ((q_J S dt 3).toInt + 2 ≤ (q_J S dt 4).toInt → (q_I T dt 6).toInt = v_F (q_I S ce) (q_J S dt 3).toInt) := by
  have hG : q_G ρ L [770, 771, 774, 775, 776, 777, 778, 779, 780, 781] S S := q_G_refl hI
  obtain ⟨r1, T1, e1, g1, a1, b1, v1, w1⟩ := d_two (n := n) hI hd hw hc h0 (by omega) he
  have G1 := u_12_I6 (x := r1) (q_G_call hG g1 (by decide)) hd.1 hd.2 (by decide) w1
  have x4 : ∀ U, q_G ρ L [770, 771, 774, 775, 776, 777, 778, 779, 780, 781] S U → q_J U dt 4 = q_J S dt 4 := fun U g => q_unJ g hd.1 hd.2 (by decide)
  have xw : ∀ U, q_G ρ L [770, 771, 774, 775, 776, 777, 778, 779, 780, 781] S U → q_I U wo 1 = q_I S wo 1 := fun U g => q_unI g hw.1 hw.2 (by decide)
  have xc : ∀ U, q_G ρ L [770, 771, 774, 775, 776, 777, 778, 779, 780, 781] S U → q_I U ce = q_I S ce := fun U g => funext fun k => q_unIA g hc.1 hc.2 (by decide) (by decide)
  have p1 : (q_J (q_sI T1 dt 6 r1) dt 3).toInt = (q_J S dt 3).toInt + 2 := by rw [q_skJI]; exact a1
  obtain ⟨r2, T2, e2, g2, a2, b2, v2, w2⟩ := d_two (n := n) G1.1 hd hw hc (by rw [p1]; omega) (by rw [p1]; omega) (by rw [x4 _ G1, xw _ G1]; exact he)
  have G2' := q_G_call G1 g2 (by decide)
  have G2 := u_12_I7 (x := r2) G2' hd.1 hd.2 (by decide) w2
  have p2 : (q_J (q_sI T2 dt 7 r2) dt 3).toInt = (q_J S dt 3).toInt + 4 := by rw [q_skJI, a2, p1]; omega
  have f62 : q_I (q_sI T2 dt 7 r2) dt 6 = r1 := by rw [q_ffI (by decide), q_unI g2 hd.1 hd.2 (by decide), q_hitI]
  have hl := d_len_b r1
  obtain ⟨r3, T3, e3, g3, a3, b3, w3⟩ := d_num (n := n) G2.1 hd hw hc (by rw [p2]; omega) (by rw [p2]; omega) (by rw [x4 _ G2, xw _ G2]; exact he)
  have G3' := q_G_call G2 g3 (by decide)
  have G3 := u_12_I8 (x := r3) G3' hd.1 hd.2 (by decide) w3
  rw [f62] at a3 b3
  have p3 : (q_J (q_sI T3 dt 8 r3) dt 3).toInt = (q_J S dt 3).toInt + 4 + d_w r1 := by rw [q_skJI, a3, p2]
  have f63 : q_I (q_sI T3 dt 8 r3) dt 6 = r1 := by rw [q_ffI (by decide), q_unI g3 hd.1 hd.2 (by decide), f62]
  obtain ⟨r4, T4, e4, g4, a4, b4, w4⟩ := d_num (n := n) G3.1 hd hw hc (by rw [p3]; omega) (by rw [p3]; omega) (by rw [x4 _ G3, xw _ G3]; exact he)
  have G4' := q_G_call G3 g4 (by decide)
  have G4 := u_12_I9 (x := r4) G4' hd.1 hd.2 (by decide) w4
  rw [f63] at a4 b4
  have p4 : (q_J (q_sI T4 dt 9 r4) dt 3).toInt = (q_J S dt 3).toInt + 4 + 2 * d_w r1 := by rw [q_skJI, a4, p3]; omega
  have f64 : q_I (q_sI T4 dt 9 r4) dt 6 = r1 := by rw [q_ffI (by decide), q_unI g4 hd.1 hd.2 (by decide), f63]
  obtain ⟨T5, e5, g5, a5, b5, c5⟩ := d_scl (n := n) G4.1 hd hw hc (by rw [p4]; omega) (by rw [p4]; omega) (by rw [x4 _ G4, xw _ G4]; exact he)
  have G5 := q_G_call G4 g5 (by decide)
  rw [f64] at a5 b5 c5
  have f65 : q_I T5 dt 6 = r1 := by rw [q_unI g5 hd.1 hd.2 (by decide), f64]
  have f75 : q_I T5 dt 7 = r2 := by rw [q_unI g5 hd.1 hd.2 (by decide), q_ffI (by decide), q_unI g4 hd.1 hd.2 (by decide), q_ffI (by decide), q_unI g3 hd.1 hd.2 (by decide), q_hitI]
  -- PAST
  have k1 : q_I (q_sI T1 dt 6 r1) dt 2 = q_I T1 dt 2 := q_ffI (by decide)
  have k2 : q_I (q_sI T2 dt 7 r2) dt 2 = q_I T2 dt 2 := q_ffI (by decide)
  have k3 : q_I (q_sI T3 dt 8 r3) dt 2 = q_I T3 dt 2 := q_ffI (by decide)
  have k4 : q_I (q_sI T4 dt 9 r4) dt 2 = q_I T4 dt 2 := q_ffI (by decide)
  have z1 := x4 _ G1
  have z2 := x4 _ G2
  have z3 := x4 _ G3
  have z4 := x4 _ G4
  rw [k1, p1, z1] at b2
  rw [k2, p2, z2] at b3
  rw [k3, p3, z3] at b4
  rw [k4, p4, z4] at b5
  rw [k4] at c5
  have past : q_I T5 dt 2 = 0 ↔ q_I S dt 2 = 0 ∧ (q_J S dt 3).toInt + 2 ≤ (q_J S dt 4).toInt ∧ (q_J S dt 3).toInt + d_len r1 ≤ (q_J S dt 4).toInt := by
    have l4 : q_I T4 dt 2 = 0 ↔ q_I S dt 2 = 0 ∧ (q_J S dt 3).toInt + 4 + 2 * d_w r1 ≤ (q_J S dt 4).toInt := by
      rw [b4, b3, b2, b1]
      constructor
      · rintro ⟨⟨⟨⟨a, -⟩, -⟩, -⟩, h⟩; exact ⟨a, by omega⟩
      · rintro ⟨a, h⟩; exact ⟨⟨⟨⟨a, by omega⟩, by omega⟩, by omega⟩, by omega⟩
    unfold d_len
    by_cases gs : d_sc r1 = 0
    · rw [c5 gs, l4, gs]
      constructor
      · rintro ⟨a, h⟩; exact ⟨a, by omega, by omega⟩
      · rintro ⟨a, -, h⟩; exact ⟨a, by omega⟩
    · rw [b5 gs, l4]
      constructor
      · rintro ⟨⟨a, -⟩, h⟩; exact ⟨a, by omega, by omega⟩
      · rintro ⟨a, -, h⟩; exact ⟨⟨a, by omega⟩, by omega⟩
  have ev : m_X1_nextPart n S dt = some (if q_I T5 dt 2 = 0 then 1 else 0, T5) := by
    unfold m_X1_nextPart m_X1_nextPart_48
    rw [q_at_pos (k_d hI hd), e1, q_b_some, q_at_pos (k_d g1.1 hd), e2, q_b_some, q_at_pos (k_d G2'.1 hd), e3, q_b_some, q_at_pos (k_d G3'.1 hd), e4, q_b_some, q_at_pos (k_d G4'.1 hd), e5, q_b_some, q_at_pos (k_d g5.1 hd)]
    by_cases g : q_I T5 dt 2 = 0
    · rw [if_pos g, if_pos g, q_if_pos (Or.inr rfl)]
    · rw [if_neg g, if_neg g, q_if_pos (Or.inl rfl)]
  refine ⟨_, T5, ev, G5, by split <;> simp, ?_, ?_, ?_⟩
  · rw [f65, ← past]
    by_cases g : q_I T5 dt 2 = 0
    · rw [if_pos g]; exact ⟨fun _ => g, fun _ => rfl⟩
    · rw [if_neg g]; exact ⟨fun h => absurd h (by decide), fun h => absurd h g⟩
  · intro hr
    have g : q_I T5 dt 2 = 0 := by
      by_cases g : q_I T5 dt 2 = 0
      · exact g
      · rw [if_neg g] at hr; exact absurd hr (by decide)
    obtain ⟨q1, q2, q3⟩ := past.mp g
    refine ⟨g, ?_, ?_, ?_⟩
    · rw [a5, p4, f65]; unfold d_len; omega
    · rw [f65]; exact v1 q2
    · rw [f75]
      have := v2 (by rw [p1, z1]; omega)
      rw [p1, xc _ G1] at this
      exact this
  · intro h
    rw [f65]; exact v1 h
end QVD
