/-! VALUES: map(): numbers of a MAP on both sides -/
def v_F2 (n : Nat) (U : q_S) (cd : Nat) (Z : Int → Int) (st : Int) : Prop := ∀ pl : Int64, -4294967296 ≤ pl.toInt → pl.toInt ≤ 1000000000000 → ∃ r : Int32, m_X0_two n U cd pl = some (r, U) ∧ r.toInt = Z (st + pl.toInt)
def v_F4 (n : Nat) (U : q_S) (cd : Nat) (Z : Int → Int) (st : Int) : Prop := ∀ pl : Int64, -4294967296 ≤ pl.toInt → pl.toInt ≤ 1000000000000 → ∃ r : Int64, m_X0_four n U cd pl = some (r, U) ∧ r.toInt = Z (st + pl.toInt)
def v_G2 (n : Nat) (V : q_S) (m : Nat) (p : Int32) (Z : Int → Int) : Prop := ∀ (b : Int32) (i : Int64), (b = 0 ∨ b = 1) → i.toInt ≤ 1000000000000000 → ∃ r c : Int32, (c = 0 ∨ c = 1) ∧ m_X12_two n (q_sI V m 8 b) m p i = some (r, q_sI V m 8 c) ∧ (0 ≤ Z i.toInt → r.toInt = Z i.toInt ∧ c = b) ∧ (Z i.toInt < 0 → r = 0 ∧ c = 1)
def v_G4 (n : Nat) (V : q_S) (m : Nat) (p : Int32) (Z : Int → Int) : Prop := ∀ (b : Int32) (i : Int64), (b = 0 ∨ b = 1) → i.toInt ≤ 1000000000000000 → ∃ (r : Int64) (c : Int32), (c = 0 ∨ c = 1) ∧ m_X12_number n (q_sI V m 8 b) m p i 4 = some (r, q_sI V m 8 c) ∧ (0 ≤ Z i.toInt → r.toInt = Z i.toInt ∧ c = b) ∧ (Z i.toInt < 0 → r = 0 ∧ c = 1)
/-- the one side answers r, the other one x: the same, or PAST -/
def v_Q (m : Nat) (V : q_S) (r : Int) (x : Option (Int64 × q_S)) : Prop := ∃ (g : Int64) (c : Int32), x = some (g, q_sI V m 8 c) ∧ ((c = 0 ∧ r = g.toInt ∧ 0 ≤ g.toInt) ∨ (c = 1 ∧ r ≤ 0))
section QVP
variable {n cd m : Nat} {U V : q_S} {Z Z4 : Int → Int} {p code : Int32} {st : Int64}
theorem v_Q0 {x : Option (Int64 × q_S)} (e : x = some (0, q_sI V m 8 0)) : v_Q m V 0 x := ⟨0, 0, e, Or.inl ⟨rfl, rfl, by decide⟩⟩
theorem v_Q1 {x : Option (Int64 × q_S)} {g : Int64} {r : Int} (e : x = some (g, q_sI V m 8 1)) (h : r ≤ 0) : v_Q m V r x := ⟨g, 1, e, Or.inr ⟨rfl, h⟩⟩
/-! FORM 6 -/
theorem v_f6 (k13 : cd ∈ q_L U ∧ q_K U cd = 1) (kq : ∀ c : Int32, c = 0 ∨ c = 1 → m ∈ q_L (q_sI V m 8 c) ∧ q_K (q_sI V m 8 c) m = 13) (F2 : v_F2 n U cd Z st.toInt) (G2 : v_G2 n V m p Z) (hZ : ∀ i, -1 ≤ Z i ∧ Z i ≤ 65535) (hs : 0 ≤ st.toInt ∧ st.toInt ≤ 4294967295) (hc : 0 ≤ code.toInt) : ∃ r : Int32, m_X0_findInRow n U cd code = some (r, U) ∧ v_Q m V r.toInt (m_X12_mapBy n (q_sI V m 8 0) m p st 6 code) := by
  have y6 : (6 : Int64).toInt = 6 := rfl
  have y8 : (8 : Int64).toInt = 8 := rfl
  have y10 : (10 : Int64).toInt = 10 := rfl
  have y2 : (2 : Int64).toInt = 2 := rfl
  have ym : (-1 : Int32).toInt = -1 := rfl
  have y0 : (0 : Int32).toInt = 0 := rfl
  have hcr := q_rngI code
  have e6 : (st + (6 : Int64)).toInt = st.toInt + 6 := by rw [q_addJ (by rw [y6]; omega) (by rw [y6]; omega), y6]
  have e8 : (st + (8 : Int64)).toInt = st.toInt + 8 := by rw [q_addJ (by rw [y8]; omega) (by rw [y8]; omega), y8]
  have e10 : (st + (10 : Int64)).toInt = st.toInt + 10 := by rw [q_addJ (by rw [y10]; omega) (by rw [y10]; omega), y10]
  obtain ⟨r2, a2, v2⟩ := F2 6 (by decide) (by decide)
  obtain ⟨r6, a6, v6⟩ := F2 8 (by decide) (by decide)
  rw [y6] at v2
  rw [y8] at v6
  obtain ⟨s2, c2, d2, b2, f2, k2⟩ := G2 0 (st + (6 : Int64)) (Or.inl rfl) (by omega)
  obtain ⟨s6, c6, d6, b6, f6, k6⟩ := G2 c2 (st + (8 : Int64)) d2 (by omega)
  rw [e6] at f2 k2
  rw [e8] at f6 k6
  have h2 := hZ (st.toInt + 6)
  have h6 := hZ (st.toInt + 8)
  have eM : m_X12_mapBy n (q_sI V m 8 0) m p st 6 code = (if code < s2 then m_X12_mapBy_106 n (q_sI V m 8 c6) else (if (s2 + s6) ≤ code then m_X12_mapBy_106 n (q_sI V m 8 c6) else q_b (m_X12_two n (q_sI V m 8 c6) m p ((st + (10 : Int64)) + ((2 : Int64) * ((code - s2).toInt64)))) (fun r23 S24 => m_X12_mapBy_107 n (S24) (r23.toInt64)))) := by
    unfold m_X12_mapBy
    rw [if_neg (by decide), if_pos rfl, q_at_pos (kq 0 (Or.inl rfl)), b2, q_b_some, q_at_pos (kq c2 d2), b6, q_b_some, q_at_pos (kq c6 d6)]
  have past : c6 = 1 → v_Q m V 0 (m_X12_mapBy n (q_sI V m 8 0) m p st 6 code) := fun hc6 => by
    subst hc6
    rw [eM]
    unfold m_X12_mapBy_106 m_X12_mapBy_107
    by_cases g1 : code < s2
    · rw [if_pos g1]; exact v_Q1 rfl (Int.le_refl _)
    rw [if_neg g1]
    by_cases g2 : (s2 + s6) ≤ code
    · rw [if_pos g2]; exact v_Q1 rfl (Int.le_refl _)
    rw [if_neg g2]
    have hs2 : 0 ≤ s2.toInt ∧ s2.toInt ≤ 65535 := by
      by_cases g3 : 0 ≤ Z (st.toInt + 6)
      · rw [(f2 g3).1]; omega
      · rw [(k2 (by omega)).1]; decide
    have g1' := mt i_lt.mpr g1
    have es : (code - s2).toInt = code.toInt - s2.toInt := q_subI (by omega) (by omega)
    have em : ((2 : Int64) * ((code - s2).toInt64)).toInt = 2 * (code.toInt - s2.toInt) := by rw [q_mulLJ y2 (by rw [q_wil, es]; omega) (by rw [q_wil, es]; omega), q_wil, es]
    have ei : ((st + (10 : Int64)) + ((2 : Int64) * ((code - s2).toInt64))).toInt = st.toInt + 10 + 2 * (code.toInt - s2.toInt) := by rw [q_addJ (by rw [e10, em]; omega) (by rw [e10, em]; omega), e10, em]
    obtain ⟨s9, c9, d9, b9, f9, k9⟩ := G2 1 ((st + (10 : Int64)) + ((2 : Int64) * ((code - s2).toInt64))) (Or.inr rfl) (by omega)
    have e9 : c9 = 1 := by
      by_cases g3 : 0 ≤ Z ((st + (10 : Int64)) + ((2 : Int64) * ((code - s2).toInt64))).toInt
      · exact (f9 g3).2
      · exact (k9 (by omega)).2
    rw [b9, q_b_some, e9]
    exact v_Q1 rfl (Int.le_refl _)
  unfold m_X0_findInRow m_X0_findInRow_37 m_X0_findInRow_38 m_X0_findInRow_65
  rw [q_at_pos k13, a2, q_b_some, q_at_pos k13, a6, q_b_some]
  by_cases g1 : Z (st.toInt + 6) < 0
  · rw [if_pos (i_eq.mpr (by rw [v2, ym]; omega)), if_pos rfl]
    have ec2 := (k2 g1).2
    refine ⟨0, rfl, past ?_⟩
    by_cases g3 : 0 ≤ Z (st.toInt + 8)
    · rw [(f6 g3).2, ec2]
    · exact (k6 (by omega)).2
  rw [if_neg (fun h => g1 (by have := i_eq.mp h; rw [v2, ym] at this; omega))]
  obtain ⟨t2, ec2⟩ := f2 (by omega)
  have er2 : s2 = r2 := Int32.toInt_inj.mp (by rw [t2, v2])
  subst er2
  by_cases g2 : Z (st.toInt + 8) < 0
  · refine ⟨0, ?_, past (k6 g2).2⟩
    by_cases g3 : code.toInt < s2.toInt
    · rw [if_pos (i_lt.mpr g3), if_pos rfl]
    · have es : (code - s2).toInt = code.toInt - s2.toInt := q_subI (by omega) (by omega)
      rw [if_neg (fun h => g3 (i_lt.mp h)), if_pos (i_le.mpr (by rw [es]; omega)), if_pos rfl]
  obtain ⟨t6, ec6⟩ := f6 (by omega)
  have er6 : s6 = r6 := Int32.toInt_inj.mp (by rw [t6, v6])
  subst er6
  have ec60 : c6 = 0 := by rw [ec6, ec2]
  subst ec60
  rw [eM]
  unfold m_X12_mapBy_106 m_X12_mapBy_107
  by_cases g3 : code.toInt < s2.toInt
  · rw [if_pos (i_lt.mpr g3), if_pos rfl, if_pos (i_lt.mpr g3)]
    exact ⟨0, rfl, v_Q0 rfl⟩
  have es : (code - s2).toInt = code.toInt - s2.toInt := q_subI (by omega) (by omega)
  have ea : (s2 + s6).toInt = s2.toInt + s6.toInt := q_addI (by omega) (by omega)
  rw [if_neg (fun h => g3 (i_lt.mp h)), if_neg (fun h => g3 (i_lt.mp h))]
  by_cases g4 : s6.toInt ≤ code.toInt - s2.toInt
  · rw [if_pos (i_le.mpr (by rw [es]; exact g4)), if_pos rfl, if_pos (i_le.mpr (by rw [ea]; omega))]
    exact ⟨0, rfl, v_Q0 rfl⟩
  rw [if_neg (fun h => g4 (by have := i_le.mp h; rw [es] at this; exact this)), if_neg (by decide), if_neg (fun h => g4 (by have := i_le.mp h; rw [ea] at this; omega)), q_at_pos k13]
  have em : ((2 : Int64) * ((code - s2).toInt64)).toInt = 2 * (code.toInt - s2.toInt) := by rw [q_mulLJ y2 (by rw [q_wil, es]; omega) (by rw [q_wil, es]; omega), q_wil, es]
  have ei : ((st + (10 : Int64)) + ((2 : Int64) * ((code - s2).toInt64))).toInt = st.toInt + 10 + 2 * (code.toInt - s2.toInt) := by rw [q_addJ (by rw [e10, em]; omega) (by rw [e10, em]; omega), e10, em]
  have ej : ((10 : Int64) + ((2 : Int64) * ((code - s2).toInt64))).toInt = 10 + 2 * (code.toInt - s2.toInt) := by rw [q_addJ (by rw [y10, em]; omega) (by rw [y10, em]; omega), y10, em]
  obtain ⟨r9, a9, v9⟩ := F2 ((10 : Int64) + ((2 : Int64) * ((code - s2).toInt64))) (by omega) (by omega)
  obtain ⟨s9, c9, d9, b9, f9, k9⟩ := G2 0 ((st + (10 : Int64)) + ((2 : Int64) * ((code - s2).toInt64))) (Or.inl rfl) (by omega)
  rw [ej, ← Int.add_assoc] at v9
  rw [ei] at f9 k9
  have h9 := hZ (st.toInt + 10 + 2 * (code.toInt - s2.toInt))
  rw [a9, q_b_some, b9, q_b_some]
  refine ⟨r9, rfl, ?_⟩
  by_cases g5 : Z (st.toInt + 10 + 2 * (code.toInt - s2.toInt)) < 0
  · obtain ⟨-, ec9⟩ := k9 g5
    subst ec9
    exact v_Q1 rfl (by omega)
  · obtain ⟨t9, ec9⟩ := f9 (by omega)
    subst ec9
    exact ⟨s9.toInt64, 0, rfl, Or.inl ⟨rfl, by rw [q_wil, t9, v9], by rw [q_wil, t9]; omega⟩⟩
/-! FORM 12 -/
theorem v_grp (k13 : cd ∈ q_L U ∧ q_K U cd = 1) (kq : ∀ c : Int32, c = 0 ∨ c = 1 → m ∈ q_L (q_sI V m 8 c) ∧ q_K (q_sI V m 8 c) m = 13) (F4 : v_F4 n U cd Z4 st.toInt) (G4 : v_G4 n V m p Z4) (hZ : ∀ i, -1 ≤ Z4 i ∧ Z4 i ≤ 4294967295) (hs : 0 ≤ st.toInt ∧ st.toInt ≤ 4294967295) (hc : 0 ≤ code.toInt) {G : Int64} (hG : G.toInt ≤ 4294967295) : ∀ (j k k2 : Nat) (l : Int64), j = (G.toInt - l.toInt).toNat → 0 ≤ l.toInt → j < k → j + 1 < k2 → ∃ r : Int64, m_X0_findInGroups_11 n k U (some cd) code G l = some (r, U) ∧ v_Q m V r.toInt (m_X12_mapBy_131 n k2 (q_sI V m 8 0) (some m) p st code G l) := by
  have y1 : (1 : Int64).toInt = 1 := rfl
  have y4 : (4 : Int64).toInt = 4 := rfl
  have y8 : (8 : Int64).toInt = 8 := rfl
  have y12 : (12 : Int64).toInt = 12 := rfl
  have y16 : (16 : Int64).toInt = 16 := rfl
  have y20 : (20 : Int64).toInt = 20 := rfl
  have y24 : (24 : Int64).toInt = 24 := rfl
  have ym : (-1 : Int64).toInt = -1 := rfl
  have hcr := q_rngI code
  have e16 : (st + (16 : Int64)).toInt = st.toInt + 16 := by rw [q_addJ (by rw [y16]; omega) (by rw [y16]; omega), y16]
  have e20 : (st + (20 : Int64)).toInt = st.toInt + 20 := by rw [q_addJ (by rw [y20]; omega) (by rw [y20]; omega), y20]
  have e24 : (st + (24 : Int64)).toInt = st.toInt + 24 := by rw [q_addJ (by rw [y24]; omega) (by rw [y24]; omega), y24]
  intro j
  induction j with
  | zero =>
    intro k k2 l hj hl hk hk2
    obtain ⟨k, rfl⟩ : ∃ k', k = k' + 1 := ⟨k - 1, by omega⟩
    obtain ⟨k2, rfl⟩ : ∃ k', k2 = k' + 1 := ⟨k2 - 1, by omega⟩
    rw [m_X0_findInGroups_11, m_X12_mapBy_131, if_pos (c_ge.mpr (by omega)), if_pos (c_ge.mpr (by omega))]
    exact ⟨0, rfl, v_Q0 rfl⟩
  | succ j ih =>
    intro k k2 l hj hl hk hk2
    obtain ⟨k, rfl⟩ : ∃ k', k = k' + 1 := ⟨k - 1, by omega⟩
    obtain ⟨k2, rfl⟩ : ∃ k', k2 = k' + 1 := ⟨k2 - 1, by omega⟩
    have em : ((12 : Int64) * l).toInt = 12 * l.toInt := q_mulLJ y12 (by omega) (by omega)
    have el : (l + (1 : Int64)).toInt = l.toInt + 1 := by rw [q_addJ (by rw [y1]; omega) (by rw [y1]; omega), y1]
    have p1 : ((16 : Int64) + ((12 : Int64) * l)).toInt = 16 + 12 * l.toInt := by rw [q_addJ (by rw [y16, em]; omega) (by rw [y16, em]; omega), y16, em]
    have p2 : (((16 : Int64) + ((12 : Int64) * l)) + (4 : Int64)).toInt = 20 + 12 * l.toInt := by rw [q_addJ (by rw [p1, y4]; omega) (by rw [p1, y4]; omega), p1, y4]; omega
    have p3 : (((16 : Int64) + ((12 : Int64) * l)) + (8 : Int64)).toInt = 24 + 12 * l.toInt := by rw [q_addJ (by rw [p1, y8]; omega) (by rw [p1, y8]; omega), p1, y8]; omega
    have q1 : ((st + (16 : Int64)) + ((12 : Int64) * l)).toInt = st.toInt + (16 + 12 * l.toInt) := by rw [q_addJ (by rw [e16, em]; omega) (by rw [e16, em]; omega), e16, em]; omega
    have q2 : ((st + (20 : Int64)) + ((12 : Int64) * l)).toInt = st.toInt + (20 + 12 * l.toInt) := by rw [q_addJ (by rw [e20, em]; omega) (by rw [e20, em]; omega), e20, em]; omega
    have q3 : ((st + (24 : Int64)) + ((12 : Int64) * l)).toInt = st.toInt + (24 + 12 * l.toInt) := by rw [q_addJ (by rw [e24, em]; omega) (by rw [e24, em]; omega), e24, em]; omega
    obtain ⟨r1, a1, v1⟩ := F4 ((16 : Int64) + ((12 : Int64) * l)) (by omega) (by omega)
    obtain ⟨r2, a2, v2⟩ := F4 (((16 : Int64) + ((12 : Int64) * l)) + (4 : Int64)) (by omega) (by omega)
    obtain ⟨r3, a3, v3⟩ := F4 (((16 : Int64) + ((12 : Int64) * l)) + (8 : Int64)) (by omega) (by omega)
    obtain ⟨s1, c1, d1, b1, f1, k1⟩ := G4 0 ((st + (16 : Int64)) + ((12 : Int64) * l)) (Or.inl rfl) (by omega)
    obtain ⟨s2, c2, d2, b2, f2, k2'⟩ := G4 c1 ((st + (20 : Int64)) + ((12 : Int64) * l)) d1 (by omega)
    obtain ⟨s3, c3, d3, b3, f3, k3⟩ := G4 c2 ((st + (24 : Int64)) + ((12 : Int64) * l)) d2 (by omega)
    rw [p1] at v1
    rw [p2] at v2
    rw [p3] at v3
    rw [q1] at f1 k1
    rw [q2] at f2 k2'
    rw [q3] at f3 k3
    have h1 := hZ (st.toInt + (16 + 12 * l.toInt))
    have h2 := hZ (st.toInt + (20 + 12 * l.toInt))
    have h3 := hZ (st.toInt + (24 + 12 * l.toInt))
    obtain ⟨r9, a9, Q9⟩ := ih k k2 (l + (1 : Int64)) (by omega) (by omega) (by omega) (by omega)
    have eM : m_X12_mapBy_131 n (k2 + 1) (q_sI V m 8 0) (some m) p st code G l = (if c3 = 0 then (if (lg_cmp ((code.toInt64)) (s1)) < 0 then m_X12_mapBy_241 n (m_X12_mapBy_131 n k2) (q_sI V m 8 c3) (some m) p st code G l else (if 0 < (lg_cmp ((code.toInt64)) (s2)) then m_X12_mapBy_241 n (m_X12_mapBy_131 n k2) (q_sI V m 8 c3) (some m) p st code G l else some ((s3 + (code.toInt64)) - s1, q_sI V m 8 c3))) else m_X12_mapBy_241 n (m_X12_mapBy_131 n k2) (q_sI V m 8 c3) (some m) p st code G l) := by
      rw [m_X12_mapBy_131, if_neg (fun h => by have := c_ge.mp h; omega), q_at_pos (kq 0 (Or.inl rfl)), q_hitI, if_pos rfl, b1, q_b_some, q_at_pos (kq c1 d1), b2, q_b_some, q_at_pos (kq c2 d2), b3, q_b_some, q_at_pos (kq c3 d3), q_hitI]
    have past : c3 = 1 → v_Q m V 0 (m_X12_mapBy_131 n (k2 + 1) (q_sI V m 8 0) (some m) p st code G l) := fun hc3 => by
      subst hc3
      rw [eM, if_neg (by decide)]
      unfold m_X12_mapBy_241
      obtain ⟨k2, rfl⟩ : ∃ k', k2 = k' + 1 := ⟨k2 - 1, by omega⟩
      rw [m_X12_mapBy_131]
      unfold m_X12_mapBy_250
      by_cases g : 0 ≤ lg_cmp (l + (1 : Int64)) G
      · rw [if_pos g]; exact v_Q1 rfl (Int.le_refl _)
      · rw [if_neg g, q_at_pos (kq 1 (Or.inr rfl)), q_hitI, if_neg (by decide)]; exact v_Q1 rfl (Int.le_refl _)
    rw [m_X0_findInGroups_11, if_neg (fun h => by have := c_ge.mp h; omega), q_at_pos k13, a1, q_b_some, q_at_pos k13, a2, q_b_some, q_at_pos k13, a3, q_b_some]
    unfold m_X0_findInGroups_89 m_X0_findInGroups_116
    by_cases g1 : Z4 (st.toInt + (16 + 12 * l.toInt)) < 0
    · rw [if_pos (c_eq.mpr (by rw [v1, ym]; omega))]
      have ec1 := (k1 g1).2
      have ec2 : c2 = 1 := by
        by_cases g : 0 ≤ Z4 (st.toInt + (20 + 12 * l.toInt))
        · rw [(f2 g).2, ec1]
        · exact (k2' (by omega)).2
      refine ⟨0, rfl, past ?_⟩
      by_cases g : 0 ≤ Z4 (st.toInt + (24 + 12 * l.toInt))
      · rw [(f3 g).2, ec2]
      · exact (k3 (by omega)).2
    rw [if_neg (fun h => g1 (by have := c_eq.mp h; rw [v1, ym] at this; omega))]
    obtain ⟨t1, ec1⟩ := f1 (by omega)
    by_cases g2 : Z4 (st.toInt + (20 + 12 * l.toInt)) < 0
    · rw [if_pos (c_eq.mpr (by rw [v2, ym]; omega))]
      have ec2 := (k2' g2).2
      refine ⟨0, rfl, past ?_⟩
      by_cases g : 0 ≤ Z4 (st.toInt + (24 + 12 * l.toInt))
      · rw [(f3 g).2, ec2]
      · exact (k3 (by omega)).2
    rw [if_neg (fun h => g2 (by have := c_eq.mp h; rw [v2, ym] at this; omega))]
    obtain ⟨t2, ec2⟩ := f2 (by omega)
    by_cases g3 : Z4 (st.toInt + (24 + 12 * l.toInt)) < 0
    · rw [if_pos (c_eq.mpr (by rw [v3, ym]; omega))]
      exact ⟨0, rfl, past (k3 g3).2⟩
    rw [if_neg (fun h => g3 (by have := c_eq.mp h; rw [v3, ym] at this; omega))]
    obtain ⟨t3, ec3⟩ := f3 (by omega)
    have er1 : s1 = r1 := Int64.toInt_inj.mp (by rw [t1, v1])
    have er2 : s2 = r2 := Int64.toInt_inj.mp (by rw [t2, v2])
    have er3 : s3 = r3 := Int64.toInt_inj.mp (by rw [t3, v3])
    subst er1
    subst er2
    subst er3
    have ec : c3 = 0 := by rw [ec3, ec2, ec1]
    subst ec
    rw [eM, if_pos rfl]
    unfold m_X12_mapBy_241
    by_cases g4 : lg_cmp (code.toInt64) s1 < 0
    · rw [if_pos g4, if_pos g4]; exact ⟨r9, a9, Q9⟩
    rw [if_neg g4, if_neg g4]
    by_cases g5 : 0 < lg_cmp (code.toInt64) s2
    · rw [if_pos g5, if_pos g5]; exact ⟨r9, a9, Q9⟩
    rw [if_neg g5, if_neg g5]
    have g4 := mt c_lt.mpr g4
    rw [q_wil] at g4
    have w1 : (code.toInt64 - s1).toInt = code.toInt - s1.toInt := by rw [q_subJ (by rw [q_wil]; omega) (by rw [q_wil]; omega), q_wil]
    have w2 : (s3 + (code.toInt64 - s1)).toInt = s3.toInt + (code.toInt - s1.toInt) := by rw [q_addJ (by rw [w1]; omega) (by rw [w1]; omega), w1]
    have w3 : (s3 + code.toInt64).toInt = s3.toInt + code.toInt := by rw [q_addJ (by rw [q_wil]; omega) (by rw [q_wil]; omega), q_wil]
    have w4 : (s3 + code.toInt64 - s1).toInt = s3.toInt + code.toInt - s1.toInt := by rw [q_subJ (by rw [w3]; omega) (by rw [w3]; omega), w3]
    exact ⟨_, rfl, _, 0, rfl, Or.inl ⟨rfl, by rw [w2, w4]; omega, by rw [w4]; omega⟩⟩
theorem v_f12 (hn : 18446744073709551616 ≤ n) (k13 : cd ∈ q_L U ∧ q_K U cd = 1) (kq : ∀ c : Int32, c = 0 ∨ c = 1 → m ∈ q_L (q_sI V m 8 c) ∧ q_K (q_sI V m 8 c) m = 13) (F4 : v_F4 n U cd Z4 st.toInt) (G4 : v_G4 n V m p Z4) (hZ : ∀ i, -1 ≤ Z4 i ∧ Z4 i ≤ 4294967295) (hs : 0 ≤ st.toInt ∧ st.toInt ≤ 4294967295) (hc : 0 ≤ code.toInt) : ∃ r : Int64, m_X0_findInGroups n U cd code = some (r, U) ∧ v_Q m V r.toInt (m_X12_mapBy n (q_sI V m 8 0) m p st 12 code) := by
  have y12 : (12 : Int64).toInt = 12 := rfl
  have y0 : (0 : Int64).toInt = 0 := rfl
  have e12 : (st + (12 : Int64)).toInt = st.toInt + 12 := by rw [q_addJ (by rw [y12]; omega) (by rw [y12]; omega), y12]
  obtain ⟨r2, a2, v2⟩ := F4 12 (by decide) (by decide)
  obtain ⟨s2, c2, d2, b2, f2, k2⟩ := G4 0 (st + (12 : Int64)) (Or.inl rfl) (by omega)
  rw [y12] at v2
  rw [e12] at f2 k2
  have h2 := hZ (st.toInt + 12)
  unfold m_X0_findInGroups m_X12_mapBy
  rw [q_at_pos k13, a2, q_b_some, if_neg (by decide), if_neg (by decide), if_pos rfl, q_at_pos (kq 0 (Or.inl rfl)), b2, q_b_some]
  by_cases g : Z4 (st.toInt + 12) < 0
  · obtain ⟨e2, ec2⟩ := k2 g
    subst e2
    subst ec2
    obtain ⟨q, hq⟩ : ∃ q, n = q + 1 := ⟨n - 1, by omega⟩
    have w1 : ∀ q, m_X0_findInGroups_11 n (q + 1) U (some cd) code r2 0 = some (0, U) := fun q => by
      rw [m_X0_findInGroups_11, if_pos (c_ge.mpr (by rw [y0]; omega))]
    have w2 : ∀ q, m_X12_mapBy_131 n (q + 1) (q_sI V m 8 1) (some m) p st code 0 0 = some (0, q_sI V m 8 1) := fun q => by
      rw [m_X12_mapBy_131, if_pos (by decide)]
      rfl
    have w1 := w1 q
    have w2 := w2 q
    rw [← hq] at w1 w2
    exact ⟨0, w1, v_Q1 w2 (Int.le_refl _)⟩
  · obtain ⟨t2, ec2⟩ := f2 (by omega)
    have er : s2 = r2 := Int64.toInt_inj.mp (by rw [t2, v2])
    subst er
    subst ec2
    exact v_grp k13 kq F4 G4 hZ hs hc (by omega) (s2.toInt - 0).toNat n n 0 (by rw [y0]) (by decide) (by omega) (by omega)
end QVP
