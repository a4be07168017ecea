/-! VALUES: map(): FORM 4, FORM 0, the rows of cmap -/
def v_F1 (n : Nat) (U : q_S) (t : Nat) (Z : Int → Int) : Prop := ∀ i : Int64, i.toInt ≤ 1000000000000 → ∃ r : Int32, m_X7_one n U t i = some (r, U) ∧ r.toInt = Z i.toInt
def v_G1 (n : Nat) (V : q_S) (m : Nat) (p : Int32) (Z : Int → Int) : Prop := ∀ (b : Int32) (i : Int64), (b = 0 ∨ b = 1) → i.toInt ≤ 1000000000000000 → ∃ (r : Int64) (c : Int32), (c = 0 ∨ c = 1) ∧ m_X12_number n (q_sI V m 8 b) m p i 1 = some (r, q_sI V m 8 c) ∧ (0 ≤ Z i.toInt → r.toInt = Z i.toInt ∧ c = b) ∧ (Z i.toInt < 0 → r = 0 ∧ c = 1)
section QVQ
variable {n cd m t : Nat} {U V : q_S} {Z Z4 Z1 : Int → Int} {p code : Int32} {st : Int64}
theorem v_div2 {s : Int32} (h : 0 ≤ s.toInt) : (s / (2 : Int32)).toInt = s.toInt / 2 := q_divI 2 (by decide) (by decide) h
theorem v_312 (kq : ∀ c : Int32, c = 0 ∨ c = 1 → m ∈ q_L (q_sI V m 8 c) ∧ q_K (q_sI V m 8 c) m = 13) {s k : Int32} : m_X12_mapBy_312 n (q_sI V m 8 1) (some m) p st code s k = some (0, q_sI V m 8 1) := by
  unfold m_X12_mapBy_312 m_X12_mapBy_328
  rw [q_at_pos (kq 1 (Or.inr rfl)), q_hitI, if_neg (by decide)]
theorem v_seg (k13 : cd ∈ q_L U ∧ q_K U cd = 1) (kq : ∀ c : Int32, c = 0 ∨ c = 1 → m ∈ q_L (q_sI V m 8 c) ∧ q_K (q_sI V m 8 c) m = 13) (F2 : v_F2 n U cd Z st.toInt) (G2 : v_G2 n V m p Z) (hZ : ∀ i, -1 ≤ Z i ∧ Z i ≤ 65535) (hs : 0 ≤ st.toInt ∧ st.toInt ≤ 4294967295) (hc : 0 ≤ code.toInt ∧ code.toInt ≤ 65535) {s k : Int32} (h1 : 0 ≤ s.toInt ∧ s.toInt ≤ 65535) (h2 : 0 ≤ k.toInt) (h3 : k.toInt < s.toInt / 2) : ∃ r : Int32, m_X0_findInSegment n U cd code s ((2 : Int32) * k) = some (r, U) ∧ v_Q m V r.toInt (m_X12_mapBy_312 n (q_sI V m 8 0) (some m) p st code s k) := by
  have x2 : (2 : Int32).toInt = 2 := rfl
  have x3 : (3 : Int32).toInt = 3 := rfl
  have x16 : (16 : Int32).toInt = 16 := rfl
  have y2 : (2 : Int64).toInt = 2 := rfl
  have y3 : (3 : Int64).toInt = 3 := rfl
  have y16 : (16 : Int64).toInt = 16 := rfl
  have ym : (-1 : Int32).toInt = -1 := rfl
  have y0 : (0 : Int32).toInt = 0 := rfl
  have hk : k.toInt ≤ 32768 := by omega
  have ek : ((2 : Int32) * k).toInt = 2 * k.toInt := q_mulLI x2 (by omega) (by omega)
  have e2s : ((2 : Int32) * s).toInt = 2 * s.toInt := q_mulLI x2 (by omega) (by omega)
  have e3s : ((3 : Int32) * s).toInt = 3 * s.toInt := q_mulLI x3 (by omega) (by omega)
  have a16s : ((16 : Int32) + s).toInt = 16 + s.toInt := by rw [q_addI (by rw [x16]; omega) (by rw [x16]; omega), x16]
  have a16s2 : ((16 : Int32) + ((2 : Int32) * s)).toInt = 16 + 2 * s.toInt := by rw [q_addI (by rw [x16, e2s]; omega) (by rw [x16, e2s]; omega), x16, e2s]
  have a16s3 : ((16 : Int32) + ((3 : Int32) * s)).toInt = 16 + 3 * s.toInt := by rw [q_addI (by rw [x16, e3s]; omega) (by rw [x16, e3s]; omega), x16, e3s]
  have p1 : (((16 : Int32) + s) + ((2 : Int32) * k)).toInt = 16 + s.toInt + 2 * k.toInt := by rw [q_addI (by rw [a16s, ek]; omega) (by rw [a16s, ek]; omega), a16s, ek]
  have p2 : (((16 : Int32) + ((2 : Int32) * s)) + ((2 : Int32) * k)).toInt = 16 + 2 * s.toInt + 2 * k.toInt := by rw [q_addI (by rw [a16s2, ek]; omega) (by rw [a16s2, ek]; omega), a16s2, ek]
  have p3 : (((16 : Int32) + ((3 : Int32) * s)) + ((2 : Int32) * k)).toInt = 16 + 3 * s.toInt + 2 * k.toInt := by rw [q_addI (by rw [a16s3, ek]; omega) (by rw [a16s3, ek]; omega), a16s3, ek]
  have Ek : ((2 : Int64) * (k.toInt64)).toInt = 2 * k.toInt := by rw [q_mulLJ y2 (by rw [q_wil]; omega) (by rw [q_wil]; omega), q_wil]
  have E2s : ((2 : Int64) * (s.toInt64)).toInt = 2 * s.toInt := by rw [q_mulLJ y2 (by rw [q_wil]; omega) (by rw [q_wil]; omega), q_wil]
  have E3s : ((3 : Int64) * (s.toInt64)).toInt = 3 * s.toInt := by rw [q_mulLJ y3 (by rw [q_wil]; omega) (by rw [q_wil]; omega), q_wil]
  have E16 : (st + (16 : Int64)).toInt = st.toInt + 16 := by rw [q_addJ (by rw [y16]; omega) (by rw [y16]; omega), y16]
  have A1 : ((st + (16 : Int64)) + (s.toInt64)).toInt = st.toInt + 16 + s.toInt := by rw [q_addJ (by rw [E16, q_wil]; omega) (by rw [E16, q_wil]; omega), E16, q_wil]
  have A2 : ((st + (16 : Int64)) + ((2 : Int64) * (s.toInt64))).toInt = st.toInt + 16 + 2 * s.toInt := by rw [q_addJ (by rw [E16, E2s]; omega) (by rw [E16, E2s]; omega), E16, E2s]
  have A3 : ((st + (16 : Int64)) + ((3 : Int64) * (s.toInt64))).toInt = st.toInt + 16 + 3 * s.toInt := by rw [q_addJ (by rw [E16, E3s]; omega) (by rw [E16, E3s]; omega), E16, E3s]
  have P1 : (((st + (16 : Int64)) + (s.toInt64)) + ((2 : Int64) * (k.toInt64))).toInt = st.toInt + (16 + s.toInt + 2 * k.toInt) := by rw [q_addJ (by rw [A1, Ek]; omega) (by rw [A1, Ek]; omega), A1, Ek]; omega
  have P2 : (((st + (16 : Int64)) + ((2 : Int64) * (s.toInt64))) + ((2 : Int64) * (k.toInt64))).toInt = st.toInt + (16 + 2 * s.toInt + 2 * k.toInt) := by rw [q_addJ (by rw [A2, Ek]; omega) (by rw [A2, Ek]; omega), A2, Ek]; omega
  have P3 : (((st + (16 : Int64)) + ((3 : Int64) * (s.toInt64))) + ((2 : Int64) * (k.toInt64))).toInt = st.toInt + (16 + 3 * s.toInt + 2 * k.toInt) := by rw [q_addJ (by rw [A3, Ek]; omega) (by rw [A3, Ek]; omega), A3, Ek]; omega
  obtain ⟨r1, a1, v1⟩ := F2 ((((16 : Int32) + s) + ((2 : Int32) * k)).toInt64) (by rw [q_wil]; omega) (by rw [q_wil]; omega)
  obtain ⟨r2, a2, v2⟩ := F2 ((((16 : Int32) + ((2 : Int32) * s)) + ((2 : Int32) * k)).toInt64) (by rw [q_wil]; omega) (by rw [q_wil]; omega)
  obtain ⟨r3, a3, v3⟩ := F2 ((((16 : Int32) + ((3 : Int32) * s)) + ((2 : Int32) * k)).toInt64) (by rw [q_wil]; omega) (by rw [q_wil]; omega)
  rw [q_wil, p1] at v1
  rw [q_wil, p2] at v2
  rw [q_wil, p3] at v3
  obtain ⟨s1, c1, d1, b1, f1, k1⟩ := G2 0 (((st + (16 : Int64)) + (s.toInt64)) + ((2 : Int64) * (k.toInt64))) (Or.inl rfl) (by omega)
  obtain ⟨s2, c2, d2, b2, f2, k2⟩ := G2 c1 (((st + (16 : Int64)) + ((2 : Int64) * (s.toInt64))) + ((2 : Int64) * (k.toInt64))) d1 (by omega)
  obtain ⟨s3, c3, d3, b3, f3, k3⟩ := G2 c2 (((st + (16 : Int64)) + ((3 : Int64) * (s.toInt64))) + ((2 : Int64) * (k.toInt64))) d2 (by omega)
  rw [P1] at f1 k1
  rw [P2] at f2 k2
  rw [P3] at f3 k3
  have z1 := hZ (st.toInt + (16 + s.toInt + 2 * k.toInt))
  have z2 := hZ (st.toInt + (16 + 2 * s.toInt + 2 * k.toInt))
  have z3 := hZ (st.toInt + (16 + 3 * s.toInt + 2 * k.toInt))
  unfold m_X12_mapBy_312 m_X12_mapBy_419 m_X12_mapBy_328 m_X12_mapBy_489 m_X0_findInSegment m_X0_findInSegment_71 m_X0_findInSegment_116 m_X0_findInSegment_128
  rw [q_at_pos (kq 0 (Or.inl rfl)), q_hitI, if_pos rfl, q_if_pos (by decide), if_pos (i_lt.mpr (by rw [v_div2 h1.1]; exact h3)), b1, q_b_some, q_at_pos (kq c1 d1), b2, q_b_some, q_at_pos (kq c2 d2), q_hitI, q_at_pos k13, a1, q_b_some, q_at_pos k13, a2, q_b_some, q_at_pos k13, a3, q_b_some]
  by_cases g1 : Z (st.toInt + (16 + s.toInt + 2 * k.toInt)) < 0
  · have ec1 := (k1 g1).2
    have ec2 : c2 = 1 := by
      by_cases g : 0 ≤ Z (st.toInt + (16 + 2 * s.toInt + 2 * k.toInt))
      · rw [(f2 g).2, ec1]
      · exact (k2 (by omega)).2
    subst ec2
    rw [if_pos (i_eq.mpr (by rw [v1, ym]; omega)), if_neg (by decide)]
    exact ⟨0, rfl, v_Q1 rfl (Int.le_refl _)⟩
  obtain ⟨t1, ec1⟩ := f1 (by omega)
  have er1 : s1 = r1 := Int32.toInt_inj.mp (by rw [t1, v1])
  subst er1
  rw [if_neg (fun h => g1 (by have := i_eq.mp h; rw [v1, ym] at this; omega))]
  by_cases g2 : Z (st.toInt + (16 + 2 * s.toInt + 2 * k.toInt)) < 0
  · have ec2 := (k2 g2).2
    subst ec2
    rw [if_neg (show ¬ (1 : Int32) = 0 by decide)]
    refine ⟨0, ?_, v_Q1 rfl (Int.le_refl _)⟩
    by_cases g4 : code < s1
    · rw [if_pos g4]
    · rw [if_neg g4, if_pos (i_eq.mpr (by rw [v2, ym]; omega))]
  obtain ⟨t2, ec2⟩ := f2 (by omega)
  have er2 : s2 = r2 := Int32.toInt_inj.mp (by rw [t2, v2])
  subst er2
  have ec20 : c2 = 0 := by rw [ec2, ec1]
  subst ec20
  rw [if_pos rfl]
  by_cases g4 : code.toInt < s1.toInt
  · rw [if_pos (i_lt.mpr g4), if_neg (fun h => by have := i_le.mp h; omega)]
    exact ⟨0, rfl, v_Q0 rfl⟩
  rw [if_neg (fun h => g4 (i_lt.mp h)), if_pos (i_le.mpr (by omega)), if_neg (fun h => g2 (by have := i_eq.mp h; rw [v2, ym] at this; omega)), b3, q_b_some]
  by_cases g3 : Z (st.toInt + (16 + 3 * s.toInt + 2 * k.toInt)) < 0
  · obtain ⟨e3, ec3⟩ := k3 g3
    subst e3
    subst ec3
    rw [if_pos (i_eq.mpr (by rw [v3, ym]; omega)), if_pos rfl]
    exact ⟨0, rfl, v_Q1 rfl (Int.le_refl _)⟩
  obtain ⟨t3, ec3⟩ := f3 (by omega)
  have er3 : s3 = r3 := Int32.toInt_inj.mp (by rw [t3, v3])
  subst er3
  subst ec3
  have x65 : (65535 : Int32).toInt = 65535 := rfl
  rw [if_neg (fun h => g3 (by have := i_eq.mp h; rw [v3, ym] at this; omega))]
  by_cases g5 : s3 = 0
  · rw [if_pos g5, if_pos g5]
    have hb := q_andRI (x := code + s2) (y := 65535) (by decide)
    exact ⟨_, rfl, _, 0, rfl, Or.inl ⟨rfl, by rw [q_wil], by rw [q_wil]; exact hb.1⟩⟩
  rw [if_neg g5, if_neg g5, q_at_pos k13, q_at_pos (kq 0 (Or.inl rfl))]
  have es : (code - s1).toInt = code.toInt - s1.toInt := q_subI (by omega) (by omega)
  have e2c : ((2 : Int32) * (code - s1)).toInt = 2 * (code.toInt - s1.toInt) := by rw [q_mulLI x2 (by rw [es]; omega) (by rw [es]; omega), es]
  have po : ((((16 : Int32) + ((3 : Int32) * s)) + ((2 : Int32) * k)) + s3).toInt = 16 + 3 * s.toInt + 2 * k.toInt + s3.toInt := by rw [q_addI (by rw [p3]; omega) (by rw [p3]; omega), p3]
  have p4 : (((((16 : Int32) + ((3 : Int32) * s)) + ((2 : Int32) * k)) + s3) + ((2 : Int32) * (code - s1))).toInt = 16 + 3 * s.toInt + 2 * k.toInt + s3.toInt + 2 * (code.toInt - s1.toInt) := by rw [q_addI (by rw [po, e2c]; omega) (by rw [po, e2c]; omega), po, e2c]
  have E2c : ((2 : Int64) * ((code - s1).toInt64)).toInt = 2 * (code.toInt - s1.toInt) := by rw [q_mulLJ y2 (by rw [q_wil, es]; omega) (by rw [q_wil, es]; omega), q_wil, es]
  have PO : ((((st + (16 : Int64)) + ((3 : Int64) * (s.toInt64))) + ((2 : Int64) * (k.toInt64))) + (s3.toInt64)).toInt = st.toInt + (16 + 3 * s.toInt + 2 * k.toInt) + s3.toInt := by rw [q_addJ (by rw [P3, q_wil]; omega) (by rw [P3, q_wil]; omega), P3, q_wil]
  have P4 : (((((st + (16 : Int64)) + ((3 : Int64) * (s.toInt64))) + ((2 : Int64) * (k.toInt64))) + (s3.toInt64)) + ((2 : Int64) * ((code - s1).toInt64))).toInt = st.toInt + (16 + 3 * s.toInt + 2 * k.toInt + s3.toInt + 2 * (code.toInt - s1.toInt)) := by rw [q_addJ (by rw [PO, E2c]; omega) (by rw [PO, E2c]; omega), PO, E2c]; omega
  obtain ⟨r4, a4, v4⟩ := F2 ((((((16 : Int32) + ((3 : Int32) * s)) + ((2 : Int32) * k)) + s3) + ((2 : Int32) * (code - s1))).toInt64) (by rw [q_wil]; omega) (by rw [q_wil]; omega)
  rw [q_wil, p4] at v4
  obtain ⟨s4, c4, d4, b4, f4, k4⟩ := G2 0 (((((st + (16 : Int64)) + ((3 : Int64) * (s.toInt64))) + ((2 : Int64) * (k.toInt64))) + (s3.toInt64)) + ((2 : Int64) * ((code - s1).toInt64))) (Or.inl rfl) (by omega)
  rw [P4] at f4 k4
  have z4 := hZ (st.toInt + (16 + 3 * s.toInt + 2 * k.toInt + s3.toInt + 2 * (code.toInt - s1.toInt)))
  have ec10 : c1 = 0 := ec1
  rw [a4, q_b_some, b4, q_b_some]
  by_cases g6 : Z (st.toInt + (16 + 3 * s.toInt + 2 * k.toInt + s3.toInt + 2 * (code.toInt - s1.toInt))) < 0
  · obtain ⟨e4, ec4⟩ := k4 g6
    subst e4
    subst ec4
    rw [if_pos (i_eq.mpr (by rw [v4, ym]; omega)), if_pos rfl]
    exact ⟨0, rfl, v_Q1 rfl (Int.le_refl _)⟩
  obtain ⟨t4, ec4⟩ := f4 (by omega)
  have er4 : s4 = r4 := Int32.toInt_inj.mp (by rw [t4, v4])
  subst er4
  subst ec4
  rw [if_neg (fun h => g6 (by have := i_eq.mp h; rw [v4, ym] at this; omega))]
  by_cases g7 : s4 = 0
  · rw [if_pos g7, if_pos g7]
    exact ⟨0, rfl, v_Q0 rfl⟩
  rw [if_neg g7, if_neg g7]
  have hb := q_andRI (x := s4 + s2) (y := 65535) (by decide)
  exact ⟨_, rfl, _, 0, rfl, Or.inl ⟨rfl, by rw [q_wil], by rw [q_wil]; exact hb.1⟩⟩
theorem v_sgs (k13 : cd ∈ q_L U ∧ q_K U cd = 1) (kq : ∀ c : Int32, c = 0 ∨ c = 1 → m ∈ q_L (q_sI V m 8 c) ∧ q_K (q_sI V m 8 c) m = 13) (F2 : v_F2 n U cd Z st.toInt) (G2 : v_G2 n V m p Z) (hZ : ∀ i, -1 ≤ Z i ∧ Z i ≤ 65535) (hs : 0 ≤ st.toInt ∧ st.toInt ≤ 4294967295) (hc : 0 ≤ code.toInt) {s : Int32} (h1 : 0 ≤ s.toInt ∧ s.toInt ≤ 65535) : ∀ (j k k2 : Nat) (l : Int32), j = (s.toInt / 2 - l.toInt).toNat → 0 ≤ l.toInt → j < k → j + 1 < k2 → ∃ r : Int32, m_X0_findInSegments_10 n k U (some cd) code s l = some (r, U) ∧ v_Q m V r.toInt (m_X12_mapBy_267 n k2 (q_sI V m 8 0) (some m) p st code s l) := by
  have x1 : (1 : Int32).toInt = 1 := rfl
  have x2 : (2 : Int32).toInt = 2 := rfl
  have x14 : (14 : Int32).toInt = 14 := rfl
  have y2 : (2 : Int64).toInt = 2 := rfl
  have y14 : (14 : Int64).toInt = 14 := rfl
  have ym : (-1 : Int32).toInt = -1 := rfl
  have y0 : (0 : Int32).toInt = 0 := rfl
  have hcr := q_rngI code
  have ed := v_div2 h1.1
  intro j
  induction j with
  | zero =>
    intro k k2 l hj hl hk hk2
    obtain ⟨k, rfl⟩ : ∃ k', k = k' + 1 := ⟨k - 1, by omega⟩
    obtain ⟨k2, rfl⟩ : ∃ k', k2 = k' + 1 := ⟨k2 - 1, by omega⟩
    rw [m_X0_findInSegments_10, m_X12_mapBy_267, q_if_pos (by decide), q_if_pos (by decide), if_pos (i_le.mpr (by rw [ed]; omega)), if_pos (i_le.mpr (by rw [ed]; omega))]
    unfold m_X12_mapBy_312 m_X12_mapBy_328
    rw [q_at_pos (kq 0 (Or.inl rfl)), q_hitI, if_pos rfl, q_if_pos (by decide), if_neg (fun h => by have := i_lt.mp h; rw [ed] at this; omega)]
    exact ⟨0, rfl, v_Q0 rfl⟩
  | succ j ih =>
    intro k k2 l hj hl hk hk2
    obtain ⟨k, rfl⟩ : ∃ k', k = k' + 1 := ⟨k - 1, by omega⟩
    obtain ⟨k2, rfl⟩ : ∃ k', k2 = k' + 1 := ⟨k2 - 1, by omega⟩
    have el : (l + 1).toInt = l.toInt + 1 := by rw [q_addI (by rw [x1]; omega) (by rw [x1]; omega), x1]
    have e2l : ((2 : Int32) * l).toInt = 2 * l.toInt := q_mulLI x2 (by omega) (by omega)
    have p1 : ((14 : Int32) + ((2 : Int32) * l)).toInt = 14 + 2 * l.toInt := by rw [q_addI (by rw [x14, e2l]; omega) (by rw [x14, e2l]; omega), x14, e2l]
    have E2l : ((2 : Int64) * (l.toInt64)).toInt = 2 * l.toInt := by rw [q_mulLJ y2 (by rw [q_wil]; omega) (by rw [q_wil]; omega), q_wil]
    have E14 : (st + (14 : Int64)).toInt = st.toInt + 14 := by rw [q_addJ (by rw [y14]; omega) (by rw [y14]; omega), y14]
    have P1 : ((st + (14 : Int64)) + ((2 : Int64) * (l.toInt64))).toInt = st.toInt + (14 + 2 * l.toInt) := by rw [q_addJ (by rw [E14, E2l]; omega) (by rw [E14, E2l]; omega), E14, E2l]; omega
    obtain ⟨r1, a1, v1⟩ := F2 (((14 : Int32) + ((2 : Int32) * l)).toInt64) (by rw [q_wil]; omega) (by rw [q_wil]; omega)
    rw [q_wil, p1] at v1
    obtain ⟨s1, c1, d1, b1, f1, k1⟩ := G2 0 ((st + (14 : Int64)) + ((2 : Int64) * (l.toInt64))) (Or.inl rfl) (by omega)
    rw [P1] at f1 k1
    have z1 := hZ (st.toInt + (14 + 2 * l.toInt))
    obtain ⟨r9, a9, Q9⟩ := ih k k2 (l + 1) (by omega) (by omega) (by omega) (by omega)
    rw [m_X0_findInSegments_10, m_X12_mapBy_267, q_if_pos (by decide), q_if_pos (by decide), if_neg (fun h => by have := i_le.mp h; rw [ed] at this; omega), if_neg (fun h => by have := i_le.mp h; rw [ed] at this; omega), q_at_pos k13, a1, q_b_some, q_at_pos (kq 0 (Or.inl rfl)), q_hitI, if_pos rfl, b1, q_b_some]
    by_cases g1 : Z (st.toInt + (14 + 2 * l.toInt)) < 0
    · obtain ⟨e1, ec1⟩ := k1 g1
      subst e1
      subst ec1
      rw [if_pos (i_eq.mpr (by rw [v1, ym]; omega))]
      refine ⟨0, rfl, ?_⟩
      by_cases g2 : code ≤ 0
      · rw [if_pos g2, v_312 kq]
        exact v_Q1 rfl (Int.le_refl _)
      rw [if_neg g2]
      obtain ⟨k2, rfl⟩ : ∃ k', k2 = k' + 1 := ⟨k2 - 1, by omega⟩
      rw [m_X12_mapBy_267, q_if_pos (by decide)]
      by_cases g3 : s / (2 : Int32) ≤ l + 1
      · rw [if_pos g3, v_312 kq]
        exact v_Q1 rfl (Int.le_refl _)
      · rw [if_neg g3, q_at_pos (kq 1 (Or.inr rfl)), q_hitI, if_neg (by decide), v_312 kq]
        exact v_Q1 rfl (Int.le_refl _)
    obtain ⟨t1, ec1⟩ := f1 (by omega)
    have er1 : s1 = r1 := Int32.toInt_inj.mp (by rw [t1, v1])
    subst er1
    subst ec1
    rw [if_neg (fun h => g1 (by have := i_eq.mp h; rw [v1, ym] at this; omega))]
    by_cases g2 : s1.toInt < code.toInt
    · rw [if_pos (i_lt.mpr g2), if_neg (fun h => by have := i_le.mp h; omega)]
      exact ⟨r9, a9, Q9⟩
    · rw [if_neg (fun h => g2 (i_lt.mp h)), if_pos (i_le.mpr (by omega)), q_at_pos k13]
      obtain ⟨r5, a5, Q5⟩ := v_seg (k := l) k13 kq F2 G2 hZ hs ⟨hc, by omega⟩ h1 hl (by omega)
      rw [a5, q_b_some]
      exact ⟨r5, rfl, Q5⟩
theorem v_f4 (hn : 18446744073709551616 ≤ n) (k13 : cd ∈ q_L U ∧ q_K U cd = 1) (kq : ∀ c : Int32, c = 0 ∨ c = 1 → m ∈ q_L (q_sI V m 8 c) ∧ q_K (q_sI V m 8 c) m = 13) (F2 : v_F2 n U cd Z st.toInt) (G2 : v_G2 n V m p Z) (hZ : ∀ i, -1 ≤ Z i ∧ Z i ≤ 65535) (hs : 0 ≤ st.toInt ∧ st.toInt ≤ 4294967295) (hc : 0 ≤ code.toInt) : ∃ r : Int32, m_X0_findInSegments n U cd code = some (r, U) ∧ v_Q m V r.toInt (m_X12_mapBy n (q_sI V m 8 0) m p st 4 code) := by
  have y6 : (6 : Int64).toInt = 6 := rfl
  have y0 : (0 : Int32).toInt = 0 := rfl
  have e6 : (st + (6 : Int64)).toInt = st.toInt + 6 := by rw [q_addJ (by rw [y6]; omega) (by rw [y6]; omega), y6]
  obtain ⟨r2, a2, v2⟩ := F2 6 (by decide) (by decide)
  obtain ⟨s2, c2, d2, b2, f2, k2⟩ := G2 0 (st + (6 : Int64)) (Or.inl rfl) (by omega)
  rw [y6] at v2
  rw [e6] at f2 k2
  have h2 := hZ (st.toInt + 6)
  unfold m_X0_findInSegments m_X12_mapBy
  rw [q_at_pos k13, a2, q_b_some, if_neg (by decide), if_neg (by decide), if_neg (by decide), q_at_pos (kq 0 (Or.inl rfl)), b2, q_b_some]
  by_cases g : Z (st.toInt + 6) < 0
  · obtain ⟨e2, ec2⟩ := k2 g
    subst e2
    subst ec2
    have er : r2 = -1 := Int32.toInt_inj.mp (by rw [v2]; show _ = (-1 : Int); omega)
    subst er
    obtain ⟨q, hq⟩ : ∃ q, n = q + 1 := ⟨n - 1, by omega⟩
    have w1 : ∀ q, m_X0_findInSegments_10 n (q + 1) U (some cd) code (-1) 0 = some (0, U) := fun q => by
      rw [m_X0_findInSegments_10, q_if_pos (by decide), if_pos (by decide)]
    have w2 : ∀ q, m_X12_mapBy_267 n (q + 1) (q_sI V m 8 1) (some m) p st code 0 0 = some (0, q_sI V m 8 1) := fun q => by
      rw [m_X12_mapBy_267, q_if_pos (by decide), if_pos (by decide), v_312 kq]
    have w1 := w1 q
    have w2 := w2 q
    rw [← hq] at w1 w2
    exact ⟨0, w1, v_Q1 w2 (Int.le_refl _)⟩
  · obtain ⟨t2, ec2⟩ := f2 (by omega)
    have er : s2 = r2 := Int32.toInt_inj.mp (by rw [t2, v2])
    subst er
    subst ec2
    exact v_sgs k13 kq F2 G2 hZ hs hc ⟨by omega, by omega⟩ (s2.toInt / 2 - 0).toNat n n 0 (by rw [y0]) (by decide) (by omega) (by omega)
theorem v_fb (hn : 18446744073709551616 ≤ n) (k13 : cd ∈ q_L U ∧ q_K U cd = 1) (k8 : t ∈ q_L U ∧ q_K U t = 8) (hcd : q_R U cd 1 = some t) (hst : q_J U cd 2 = st) (kq : ∀ c : Int32, c = 0 ∨ c = 1 → m ∈ q_L (q_sI V m 8 c) ∧ q_K (q_sI V m 8 c) m = 13) (F2 : v_F2 n U cd Z st.toInt) (F4 : v_F4 n U cd Z4 st.toInt) (F1 : v_F1 n U t Z1) (G2 : v_G2 n V m p Z) (G4 : v_G4 n V m p Z4) (G1 : v_G1 n V m p Z1) (hZ : ∀ i, -1 ≤ Z i ∧ Z i ≤ 65535) (hZ4 : ∀ i, -1 ≤ Z4 i ∧ Z4 i ≤ 4294967295) (hZ1 : ∀ i, -1 ≤ Z1 i ∧ Z1 i ≤ 255) (hs : 0 ≤ st.toInt ∧ st.toInt ≤ 4294967295) (hc : 0 ≤ code.toInt) {fm : Int32} (hf : fm = 0 ∨ fm = 4 ∨ fm = 6 ∨ fm = 12) : ∃ r : Int64, m_X0_findBy n U cd fm code = some (r, U) ∧ v_Q m V r.toInt (m_X12_mapBy n (q_sI V m 8 0) m p st fm code) := by
  unfold m_X0_findBy m_X0_findBy_66
  rcases hf with e | e | e | e
  · subst e
    have y6 : (6 : Int64).toInt = 6 := rfl
    have x256 : (256 : Int32).toInt = 256 := rfl
    unfold m_X12_mapBy m_X12_mapBy_32
    rw [if_pos rfl, if_pos rfl]
    by_cases g : 256 ≤ code.toInt
    · rw [if_pos (i_le.mpr (by rw [x256]; exact g)), if_pos (i_le.mpr (by rw [x256]; exact g))]
      exact ⟨0, rfl, v_Q0 rfl⟩
    rw [if_neg (fun h => g (by have := i_le.mp h; rw [x256] at this; exact this)), if_neg (fun h => g (by have := i_le.mp h; rw [x256] at this; exact this)), q_at_pos k13, hcd, q_at_pos k8, hst, q_at_pos (kq 0 (Or.inl rfl))]
    have e6 : (st + (6 : Int64)).toInt = st.toInt + 6 := by rw [q_addJ (by rw [y6]; omega) (by rw [y6]; omega), y6]
    have ei : ((st + (6 : Int64)) + (code.toInt64)).toInt = st.toInt + 6 + code.toInt := by rw [q_addJ (by rw [e6, q_wil]; omega) (by rw [e6, q_wil]; omega), e6, q_wil]
    obtain ⟨r, a, v⟩ := F1 ((st + (6 : Int64)) + (code.toInt64)) (by omega)
    obtain ⟨s, c, d, b, f, k⟩ := G1 0 ((st + (6 : Int64)) + (code.toInt64)) (Or.inl rfl) (by omega)
    have h := hZ1 ((st + (6 : Int64)) + (code.toInt64)).toInt
    rw [a, q_b_some, b, q_b_some]
    refine ⟨_, rfl, ?_⟩
    rw [q_wil, v]
    by_cases g2 : Z1 ((st + (6 : Int64)) + (code.toInt64)).toInt < 0
    · obtain ⟨-, ec⟩ := k g2
      subst ec
      exact v_Q1 rfl (by omega)
    · obtain ⟨hv, ec⟩ := f (by omega)
      subst ec
      exact ⟨s, 0, rfl, Or.inl ⟨rfl, hv.symm, by omega⟩⟩
  · subst e
    obtain ⟨r, a, Q⟩ := v_f4 (code := code) hn k13 kq F2 G2 hZ hs hc
    rw [if_neg (by decide), if_pos rfl, q_at_pos k13, a, q_b_some]
    exact ⟨_, rfl, by rw [q_wil]; exact Q⟩
  · subst e
    obtain ⟨r, a, Q⟩ := v_f6 (code := code) k13 kq F2 G2 hZ hs hc
    rw [if_neg (by decide), if_neg (by decide), if_pos rfl, q_at_pos k13, a, q_b_some]
    exact ⟨_, rfl, by rw [q_wil]; exact Q⟩
  · subst e
    obtain ⟨r, a, Q⟩ := v_f12 (code := code) hn k13 kq F4 G4 hZ4 hs hc
    rw [if_neg (by decide), if_neg (by decide), if_neg (by decide), q_at_pos k13, a, q_b_some]
    exact ⟨_, rfl, Q⟩
end QVQ
