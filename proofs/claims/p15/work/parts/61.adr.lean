/-! VALUES: the things by their roles (0 the class's object, 1 its row, 2 the row's cells, 6 the TABLES, 7 their rows, 8 a TABLE, 45 the reference, 46 its file, 47 tags, 48 sums, 49 starts, 50 lengths) -/
section QVA
variable {ρ : Nat → Nat} {L : List Nat} {n : Nat} {S T : q_S} {x wo ce tb en t m fF fT fS fB fL : Nat}
theorem v_at (hI : q_Inv ρ L S) {a r c : Nat} (ha : a ∈ L ∧ ρ a = r) (hc : q_kd r = c) : a ∈ q_L S ∧ q_K S a = c := ⟨by rw [hI.1]; exact ha.1, by rw [(hI.2.1 a ha.1).1, ha.2, hc]⟩
theorem k_x (hI : q_Inv ρ L S) (h : x ∈ L ∧ ρ x = 0) : x ∈ q_L S ∧ q_K S x = 12 := v_at hI h rfl
theorem k_w (hI : q_Inv ρ L S) (h : wo ∈ L ∧ ρ wo = 1) : wo ∈ q_L S ∧ q_K S wo = 5 := v_at hI h rfl
theorem k_c (hI : q_Inv ρ L S) (h : ce ∈ L ∧ ρ ce = 2) : ce ∈ q_L S ∧ q_K S ce = 100 := v_at hI h rfl
theorem k_t (hI : q_Inv ρ L S) (h : tb ∈ L ∧ ρ tb = 6) : tb ∈ q_L S ∧ q_K S tb = 9 := v_at hI h rfl
theorem k_e (hI : q_Inv ρ L S) (h : en ∈ L ∧ ρ en = 7) : en ∈ q_L S ∧ q_K S en = 104 := v_at hI h rfl
theorem k_8 (hI : q_Inv ρ L S) (h : t ∈ L ∧ ρ t = 8) : t ∈ q_L S ∧ q_K S t = 8 := v_at hI h rfl
theorem k_m (hI : q_Inv ρ L S) (h : m ∈ L ∧ ρ m = 45) : m ∈ q_L S ∧ q_K S m = 13 := v_at hI h rfl
theorem k_F (hI : q_Inv ρ L S) (h : fF ∈ L ∧ ρ fF = 46) : fF ∈ q_L S ∧ q_K S fF = 100 := v_at hI h rfl
theorem k_T (hI : q_Inv ρ L S) (h : fT ∈ L ∧ ρ fT = 47) : fT ∈ q_L S ∧ q_K S fT = 101 := v_at hI h rfl
theorem k_S (hI : q_Inv ρ L S) (h : fS ∈ L ∧ ρ fS = 48) : fS ∈ q_L S ∧ q_K S fS = 101 := v_at hI h rfl
theorem k_B (hI : q_Inv ρ L S) (h : fB ∈ L ∧ ρ fB = 49) : fB ∈ q_L S ∧ q_K S fB = 100 := v_at hI h rfl
theorem k_L (hI : q_Inv ρ L S) (h : fL ∈ L ∧ ρ fL = 50) : fL ∈ q_L S ∧ q_K S fL = 100 := v_at hI h rfl
theorem v_ln (hI : q_Inv ρ L S) {r b : Nat} {v : Option Nat} (hv : q_tr ρ L v r) (hb : b ∈ L ∧ ρ b = r) (h : q_sg r = true) : v = some b := by
  obtain ⟨c, e, mc, rc⟩ := hv
  rw [e, q_one (q_G_refl (m := []) hI) mc rc hb.1 hb.2 h]
theorem v_x0 (hI : q_Inv ρ L S) (hx : x ∈ L ∧ ρ x = 0) (hw : wo ∈ L ∧ ρ wo = 1) : q_R S x 0 = some wo := v_ln hI (g_0_R0 (q_G_refl (m := []) hI) hx.1 hx.2) hw rfl
theorem v_x2 (hI : q_Inv ρ L S) (hx : x ∈ L ∧ ρ x = 0) (ht : tb ∈ L ∧ ρ tb = 6) : q_R S x 2 = some tb := v_ln hI (g_0_R2 (q_G_refl (m := []) hI) hx.1 hx.2) ht rfl
theorem v_w0 (hI : q_Inv ρ L S) (hw : wo ∈ L ∧ ρ wo = 1) (hc : ce ∈ L ∧ ρ ce = 2) : q_R S wo 0 = some ce := v_ln hI (g_1_R0 (q_G_refl (m := []) hI) hw.1 hw.2) hc rfl
theorem v_t0 (hI : q_Inv ρ L S) (ht : tb ∈ L ∧ ρ tb = 6) (hw : wo ∈ L ∧ ρ wo = 1) : q_R S tb 0 = some wo := v_ln hI (g_6_R0 (q_G_refl (m := []) hI) ht.1 ht.2) hw rfl
theorem v_t1 (hI : q_Inv ρ L S) (ht : tb ∈ L ∧ ρ tb = 6) (he : en ∈ L ∧ ρ en = 7) : q_R S tb 1 = some en := v_ln hI (g_6_R1 (q_G_refl (m := []) hI) ht.1 ht.2) he rfl
theorem v_e0 (hI : q_Inv ρ L S) (h8 : t ∈ L ∧ ρ t = 8) (hw : wo ∈ L ∧ ρ wo = 1) : q_R S t 0 = some wo := v_ln hI (g_8_R0 (q_G_refl (m := []) hI) h8.1 h8.2) hw rfl
theorem v_m1 (hI : q_Inv ρ L S) (hm : m ∈ L ∧ ρ m = 45) (h : fF ∈ L ∧ ρ fF = 46) : q_R S m 1 = some fF := v_ln hI (g_45_R1 (q_G_refl (m := []) hI) hm.1 hm.2) h rfl
theorem v_m4 (hI : q_Inv ρ L S) (hm : m ∈ L ∧ ρ m = 45) (h : fT ∈ L ∧ ρ fT = 47) : q_R S m 4 = some fT := v_ln hI (g_45_R4 (q_G_refl (m := []) hI) hm.1 hm.2) h rfl
theorem v_m5 (hI : q_Inv ρ L S) (hm : m ∈ L ∧ ρ m = 45) (h : fS ∈ L ∧ ρ fS = 48) : q_R S m 5 = some fS := v_ln hI (g_45_R5 (q_G_refl (m := []) hI) hm.1 hm.2) h rfl
theorem v_m6 (hI : q_Inv ρ L S) (hm : m ∈ L ∧ ρ m = 45) (h : fB ∈ L ∧ ρ fB = 49) : q_R S m 6 = some fB := v_ln hI (g_45_R6 (q_G_refl (m := []) hI) hm.1 hm.2) h rfl
theorem v_m7 (hI : q_Inv ρ L S) (hm : m ∈ L ∧ ρ m = 45) (h : fL ∈ L ∧ ρ fL = 50) : q_R S m 7 = some fL := v_ln hI (g_45_R7 (q_G_refl (m := []) hI) hm.1 hm.2) h rfl
theorem v_sz (hI : q_Inv ρ L S) (hw : wo ∈ L ∧ ρ wo = 1) : m_X4_size n S wo = some (q_I S wo 1, S) := by
  unfold m_X4_size
  rw [q_at_pos (k_w hI hw)]
/-- a byte of a stretch, -1 if it is PAST; TWO and FOUR -/
def v_by (f : Nat → Int32) (st ln i : Int) : Int := if 0 ≤ i ∧ i < ln then (f (st + i).toNat).toInt else -1
def v_tw (f : Nat → Int32) (st ln i : Int) : Int := if 0 ≤ i ∧ i + 1 < ln then 256 * (f (st + i).toNat).toInt + (f (st + i + 1).toNat).toInt else -1
def v_fo (f : Nat → Int32) (p : Int) : Int := 16777216 * (f p.toNat).toInt + 65536 * (f (p + 1).toNat).toInt + 256 * (f (p + 2).toNat).toInt + (f (p + 3).toNat).toInt
def v_fr (f : Nat → Int32) (st ln i : Int) : Int := if 0 ≤ i ∧ i + 3 < ln then v_fo f (st + i) else -1
theorem v_cl {i : Int32} {k : Int} (h : i.toInt = k) : i.toNatClampNeg = k.toNat := by subst h; rfl
theorem v_rone (hI : q_Inv ρ L S) (hw : wo ∈ L ∧ ρ wo = 1) (hc : ce ∈ L ∧ ρ ce = 2) {p e : Int64} : ∃ r : Int32, m_X4_one n S wo p e = some (r, S) ∧ (0 ≤ p.toInt ∧ p.toInt < e.toInt ∧ p.toInt < (q_I S wo 1).toInt → r = q_I S ce p.toInt.toNat) ∧ (¬ (0 ≤ p.toInt ∧ p.toInt < e.toInt ∧ p.toInt < (q_I S wo 1).toInt) → r = -1) := by
  have hG : q_G ρ L [] S S := q_G_refl hI
  have hs := g_1_I1 hG hw.1 hw.2
  have z0 : (0 : Int64).toInt = 0 := rfl
  unfold m_X4_one m_X4_one_32 m_X4_one_33
  by_cases g1 : p.toInt < 0
  · rw [if_pos (c_lt.mpr (by rw [z0]; exact g1))]
    exact ⟨_, rfl, fun h => by omega, fun _ => rfl⟩
  rw [if_neg (fun h => g1 (by have := c_lt.mp h; rw [z0] at this; exact this))]
  by_cases g2 : e.toInt ≤ p.toInt
  · rw [if_pos (c_ge.mpr g2)]
    exact ⟨_, rfl, fun h => by omega, fun _ => rfl⟩
  rw [if_neg (mt c_ge.mp g2), q_at_pos (k_w hI hw)]
  by_cases g3 : (q_I S wo 1).toInt ≤ p.toInt
  · rw [if_pos (c_ge.mpr (by rw [q_wil]; exact g3))]
    exact ⟨_, rfl, fun h => by omega, fun _ => rfl⟩
  rw [if_neg (fun h => g3 (by have := c_ge.mp h; rw [q_wil] at this; exact this)), v_w0 hI hw hc, q_at_pos (k_c hI hc)]
  have e2 : p.toInt32.toInt = p.toInt := q_wli (by omega) (by omega)
  rw [q_if_pos (q_inI (g_2_N hG hc.1 hc.2) (by omega) (by omega)), v_cl e2]
  exact ⟨_, rfl, fun _ => rfl, fun h => absurd ⟨by omega, by omega, by omega⟩ h⟩
theorem v_rtwo (hI : q_Inv ρ L S) (hw : wo ∈ L ∧ ρ wo = 1) (hc : ce ∈ L ∧ ρ ce = 2) {p e : Int64} (hp : p.toInt ≤ 4611686018427387904) : ∃ r : Int32, m_X4_two n S wo p e = some (r, S) ∧ (0 ≤ p.toInt ∧ p.toInt + 1 < e.toInt ∧ p.toInt + 1 < (q_I S wo 1).toInt → r.toInt = 256 * (q_I S ce p.toInt.toNat).toInt + (q_I S ce (p.toInt + 1).toNat).toInt) ∧ (¬ (0 ≤ p.toInt ∧ p.toInt + 1 < e.toInt ∧ p.toInt + 1 < (q_I S wo 1).toInt) → r = -1) := by
  have hG : q_G ρ L [] S S := q_G_refl hI
  have hs := g_1_I1 hG hw.1 hw.2
  have z0 : (0 : Int64).toInt = 0 := rfl
  have z1 : (1 : Int64).toInt = 1 := rfl
  have y1 : (1 : Int32).toInt = 1 := rfl
  unfold m_X4_two m_X4_two_26
  by_cases g1 : p.toInt < 0
  · rw [if_pos (c_lt.mpr (by rw [z0]; exact g1))]
    exact ⟨_, rfl, fun h => by omega, fun _ => rfl⟩
  rw [if_neg (fun h => g1 (by have := c_lt.mp h; rw [z0] at this; exact this))]
  have e1 : (p + (1 : Int64)).toInt = p.toInt + 1 := by rw [q_addJ (by rw [z1]; omega) (by rw [z1]; omega), z1]
  by_cases g2 : e.toInt ≤ p.toInt + 1
  · rw [if_pos (c_ge.mpr (by rw [e1]; exact g2))]
    exact ⟨_, rfl, fun h => by omega, fun _ => rfl⟩
  rw [if_neg (fun h => g2 (by have := c_ge.mp h; rw [e1] at this; exact this)), q_at_pos (k_w hI hw)]
  by_cases g3 : p.toInt + 1 < (q_I S wo 1).toInt
  · rw [if_pos (c_lt.mpr (by rw [e1, q_wil]; exact g3)), v_w0 hI hw hc, q_at_pos (k_c hI hc)]
    have e2 : p.toInt32.toInt = p.toInt := q_wli (by omega) (by omega)
    have e3 : (p.toInt32 + (1 : Int32)).toInt = p.toInt + 1 := by rw [q_addI (by rw [y1]; omega) (by rw [y1]; omega), y1, e2]
    have hN := g_2_N hG hc.1 hc.2
    rw [q_if_pos (q_inI hN (by omega) (by omega)), q_if_pos (q_inI hN (by omega) (by omega)), v_cl e2, v_cl e3]
    exact ⟨_, rfl, fun _ => v_two (g_2_E hG hc.1 hc.2) (g_2_E hG hc.1 hc.2), fun h => absurd ⟨by omega, by omega, by omega⟩ h⟩
  · rw [if_neg (fun h => g3 (by have := c_lt.mp h; rw [e1, q_wil] at this; exact this))]
    exact ⟨_, rfl, fun h => by omega, fun _ => rfl⟩
theorem v_rfour (hI : q_Inv ρ L S) (hw : wo ∈ L ∧ ρ wo = 1) (hc : ce ∈ L ∧ ρ ce = 2) {p e : Int64} (hp : p.toInt ≤ 4611686018427387904) : ∃ r : Int64, m_X4_four n S wo p e = some (r, S) ∧ (0 ≤ p.toInt ∧ p.toInt + 3 < e.toInt ∧ p.toInt + 3 < (q_I S wo 1).toInt → r.toInt = v_fo (q_I S ce) p.toInt) ∧ (¬ (0 ≤ p.toInt ∧ p.toInt + 3 < e.toInt ∧ p.toInt + 3 < (q_I S wo 1).toInt) → r = -1) := by
  have hG : q_G ρ L [] S S := q_G_refl hI
  have hs := g_1_I1 hG hw.1 hw.2
  have z0 : (0 : Int64).toInt = 0 := rfl
  have z3 : (3 : Int64).toInt = 3 := rfl
  have y1 : (1 : Int32).toInt = 1 := rfl
  have y2 : (2 : Int32).toInt = 2 := rfl
  have y3 : (3 : Int32).toInt = 3 := rfl
  unfold m_X4_four m_X4_four_30
  by_cases g1 : p.toInt < 0
  · rw [if_pos (c_lt.mpr (by rw [z0]; exact g1))]
    exact ⟨_, rfl, fun h => by omega, fun _ => rfl⟩
  rw [if_neg (fun h => g1 (by have := c_lt.mp h; rw [z0] at this; exact this))]
  have e1 : (p + (3 : Int64)).toInt = p.toInt + 3 := by rw [q_addJ (by rw [z3]; omega) (by rw [z3]; omega), z3]
  by_cases g2 : e.toInt ≤ p.toInt + 3
  · rw [if_pos (c_ge.mpr (by rw [e1]; exact g2))]
    exact ⟨_, rfl, fun h => by omega, fun _ => rfl⟩
  rw [if_neg (fun h => g2 (by have := c_ge.mp h; rw [e1] at this; exact this)), q_at_pos (k_w hI hw)]
  by_cases g3 : p.toInt + 3 < (q_I S wo 1).toInt
  · rw [if_pos (c_lt.mpr (by rw [e1, q_wil]; exact g3)), v_w0 hI hw hc, q_at_pos (k_c hI hc)]
    have e2 : p.toInt32.toInt = p.toInt := q_wli (by omega) (by omega)
    have e3 : (p.toInt32 + (1 : Int32)).toInt = p.toInt + 1 := by rw [q_addI (by rw [y1]; omega) (by rw [y1]; omega), y1, e2]
    have e4 : (p.toInt32 + (2 : Int32)).toInt = p.toInt + 2 := by rw [q_addI (by rw [y2]; omega) (by rw [y2]; omega), y2, e2]
    have e5 : (p.toInt32 + (3 : Int32)).toInt = p.toInt + 3 := by rw [q_addI (by rw [y3]; omega) (by rw [y3]; omega), y3, e2]
    have hN := g_2_N hG hc.1 hc.2
    rw [q_if_pos (q_inI hN (by omega) (by omega)), q_if_pos (q_inI hN (by omega) (by omega)), q_if_pos (q_inI hN (by omega) (by omega)), q_if_pos (q_inI hN (by omega) (by omega)), v_cl e2, v_cl e3, v_cl e4, v_cl e5]
    exact ⟨_, rfl, fun _ => v_four (g_2_E hG hc.1 hc.2) (g_2_E hG hc.1 hc.2) (g_2_E hG hc.1 hc.2) (g_2_E hG hc.1 hc.2), fun h => absurd ⟨by omega, by omega, by omega⟩ h⟩
  · rw [if_neg (fun h => g3 (by have := c_lt.mp h; rw [e1, q_wil] at this; exact this))]
    exact ⟨_, rfl, fun h => by omega, fun _ => rfl⟩
/-! a TABLE -/
theorem v_end (hI : q_Inv ρ L S) (h8 : t ∈ L ∧ ρ t = 8) : ∃ e : Int64, m_X7_end n S t = some (e, S) ∧ e.toInt = (q_I S t 3).toInt + (q_I S t 4).toInt := by
  have hG : q_G ρ L [] S S := q_G_refl hI
  have h3 := g_8_I3 hG h8.1 h8.2
  have h4 := g_8_I4 hG h8.1 h8.2
  unfold m_X7_end
  rw [q_at_pos (k_8 hI h8)]
  exact ⟨_, rfl, by rw [q_addJ (by rw [q_wil, q_wil]; omega) (by rw [q_wil, q_wil]; omega), q_wil, q_wil]⟩
theorem v_tone (hI : q_Inv ρ L S) (hw : wo ∈ L ∧ ρ wo = 1) (hc : ce ∈ L ∧ ρ ce = 2) (h8 : t ∈ L ∧ ρ t = 8) (hz : (q_I S t 3).toInt + (q_I S t 4).toInt ≤ (q_I S wo 1).toInt) {i : Int64} (hi : i.toInt ≤ 1152921504606846976) : ∃ r : Int32, m_X7_one n S t i = some (r, S) ∧ r.toInt = v_by (q_I S ce) (q_I S t 3).toInt (q_I S t 4).toInt i.toInt := by
  have hG : q_G ρ L [] S S := q_G_refl hI
  have h3 := g_8_I3 hG h8.1 h8.2
  have h4 := g_8_I4 hG h8.1 h8.2
  have z0 : (0 : Int64).toInt = 0 := rfl
  unfold m_X7_one m_X7_one_28
  by_cases g1 : 0 ≤ i.toInt
  · obtain ⟨e, he, ve⟩ := v_end (n := n) hI h8
    rw [if_pos (c_ge.mpr (by rw [z0]; exact g1)), q_at_pos (k_8 hI h8), he, q_b_some]
    rw [v_e0 hI h8 hw, q_at_pos (k_w hI hw)]
    have ep : ((q_I S t 3).toInt64 + i).toInt = (q_I S t 3).toInt + i.toInt := by rw [q_addJ (by rw [q_wil]; omega) (by rw [q_wil]; omega), q_wil]
    obtain ⟨r, hr, k1, k2⟩ := v_rone (n := n) (p := (q_I S t 3).toInt64 + i) (e := e) hI hw hc
    rw [hr]
    refine ⟨r, rfl, ?_⟩
    rw [ep, ve] at k1 k2
    unfold v_by
    by_cases g2 : i.toInt < (q_I S t 4).toInt
    · rw [if_pos ⟨g1, g2⟩, k1 ⟨by omega, by omega, by omega⟩]
    · rw [if_neg (fun h => g2 h.2), k2 (by omega)]; rfl
  · rw [if_neg (fun h => g1 (by have := c_ge.mp h; rw [z0] at this; exact this))]
    refine ⟨_, rfl, ?_⟩
    unfold v_by
    rw [if_neg (fun h => g1 h.1)]; rfl
theorem v_ttwo (hI : q_Inv ρ L S) (hw : wo ∈ L ∧ ρ wo = 1) (hc : ce ∈ L ∧ ρ ce = 2) (h8 : t ∈ L ∧ ρ t = 8) (hz : (q_I S t 3).toInt + (q_I S t 4).toInt ≤ (q_I S wo 1).toInt) {i : Int64} (hi : i.toInt ≤ 1152921504606846976) : ∃ r : Int32, m_X7_two n S t i = some (r, S) ∧ r.toInt = v_tw (q_I S ce) (q_I S t 3).toInt (q_I S t 4).toInt i.toInt := by
  have hG : q_G ρ L [] S S := q_G_refl hI
  have h3 := g_8_I3 hG h8.1 h8.2
  have h4 := g_8_I4 hG h8.1 h8.2
  have z0 : (0 : Int64).toInt = 0 := rfl
  unfold m_X7_two m_X7_two_28
  by_cases g1 : 0 ≤ i.toInt
  · obtain ⟨e, he, ve⟩ := v_end (n := n) hI h8
    rw [if_pos (c_ge.mpr (by rw [z0]; exact g1)), q_at_pos (k_8 hI h8), he, q_b_some]
    rw [v_e0 hI h8 hw, q_at_pos (k_w hI hw)]
    have ep : ((q_I S t 3).toInt64 + i).toInt = (q_I S t 3).toInt + i.toInt := by rw [q_addJ (by rw [q_wil]; omega) (by rw [q_wil]; omega), q_wil]
    obtain ⟨r, hr, k1, k2⟩ := v_rtwo (n := n) (p := (q_I S t 3).toInt64 + i) (e := e) hI hw hc (by rw [ep]; omega)
    rw [hr]
    refine ⟨r, rfl, ?_⟩
    rw [ep, ve] at k1 k2
    unfold v_tw
    by_cases g2 : i.toInt + 1 < (q_I S t 4).toInt
    · rw [if_pos ⟨g1, g2⟩, k1 ⟨by omega, by omega, by omega⟩]
    · rw [if_neg (fun h => g2 h.2), k2 (by omega)]; rfl
  · rw [if_neg (fun h => g1 (by have := c_ge.mp h; rw [z0] at this; exact this))]
    refine ⟨_, rfl, ?_⟩
    unfold v_tw
    rw [if_neg (fun h => g1 h.1)]; rfl
theorem v_tfour (hI : q_Inv ρ L S) (hw : wo ∈ L ∧ ρ wo = 1) (hc : ce ∈ L ∧ ρ ce = 2) (h8 : t ∈ L ∧ ρ t = 8) (hz : (q_I S t 3).toInt + (q_I S t 4).toInt ≤ (q_I S wo 1).toInt) {i : Int64} (hi : i.toInt ≤ 1152921504606846976) : ∃ r : Int64, m_X7_four n S t i = some (r, S) ∧ r.toInt = v_fr (q_I S ce) (q_I S t 3).toInt (q_I S t 4).toInt i.toInt := by
  have hG : q_G ρ L [] S S := q_G_refl hI
  have h3 := g_8_I3 hG h8.1 h8.2
  have h4 := g_8_I4 hG h8.1 h8.2
  have z0 : (0 : Int64).toInt = 0 := rfl
  unfold m_X7_four m_X7_four_30
  by_cases g1 : 0 ≤ i.toInt
  · obtain ⟨e, he, ve⟩ := v_end (n := n) hI h8
    rw [if_pos (c_ge.mpr (by rw [z0]; exact g1)), q_at_pos (k_8 hI h8), he, q_b_some]
    rw [v_e0 hI h8 hw, q_at_pos (k_w hI hw)]
    have ep : ((q_I S t 3).toInt64 + i).toInt = (q_I S t 3).toInt + i.toInt := by rw [q_addJ (by rw [q_wil]; omega) (by rw [q_wil]; omega), q_wil]
    obtain ⟨r, hr, k1, k2⟩ := v_rfour (n := n) (p := (q_I S t 3).toInt64 + i) (e := e) hI hw hc (by rw [ep]; omega)
    rw [hr]
    refine ⟨r, rfl, ?_⟩
    rw [ep, ve] at k1 k2
    unfold v_fr
    by_cases g2 : i.toInt + 3 < (q_I S t 4).toInt
    · rw [if_pos ⟨g1, g2⟩, k1 ⟨by omega, by omega, by omega⟩]
    · rw [if_neg (fun h => g2 h.2), k2 (by omega)]; rfl
  · rw [if_neg (fun h => g1 (by have := c_ge.mp h; rw [z0] at this; exact this))]
    refine ⟨_, rfl, ?_⟩
    unfold v_fr
    rw [if_neg (fun h => g1 h.1)]; rfl
end QVA
