/-! VALUES: scaled(), kern() -/
theorem q_sI2 {S : q_S} {a k : Nat} {x y : Int32} : q_sI (q_sI S a k x) a k y = q_sI S a k y := by
  have e : q_u (q_u S.2.2.2.1 a k x) a k y = q_u S.2.2.2.1 a k y := funext fun c => funext fun j => by
    rw [q_u_at, q_u_at, q_u_at]
    by_cases e1 : c = a ∧ j = k
    · rw [if_pos e1, if_pos e1]
    · rw [if_neg e1, if_neg e1, if_neg e1]
  show (S.1, S.2.1, S.2.2.1, q_u (q_u S.2.2.2.1 a k x) a k y, S.2.2.2.2.1, S.2.2.2.2.2) = (S.1, S.2.1, S.2.2.1, q_u S.2.2.2.1 a k y, S.2.2.2.2.1, S.2.2.2.2.2)
  rw [e]
section QVK
variable {ρ : Nat → Nat} {L M9 : List Nat} {n : Nat} {S T : q_S} {x wo ce tb en ab m fF fT fS fB fL : Nat}
theorem z_tw_b (hI : q_Inv ρ L S) (hF : fF ∈ L ∧ ρ fF = 46) {p i : Int} : -1 ≤ z_tw S m fF fB fL p i ∧ z_tw S m fF fB fL p i ≤ 65535 := by
  unfold z_tw v_tw
  by_cases g : 0 ≤ i ∧ i + 1 < v_len S m fL p
  · rw [if_pos g]
    have := g_46_E (q_G_refl (m := []) hI) hF.1 hF.2 (k := (v_st S m fB p + i).toNat)
    have := g_46_E (q_G_refl (m := []) hI) hF.1 hF.2 (k := (v_st S m fB p + i + 1).toNat)
    omega
  · rw [if_neg g]; omega
theorem z_tw_lt (hI : q_Inv ρ L S) (hF : fF ∈ L ∧ ρ fF = 46) {p i : Int} : z_tw S m fF fB fL p i < 0 ↔ ¬ (0 ≤ i ∧ i + 1 < v_len S m fL p) := by
  unfold z_tw v_tw
  by_cases g : 0 ≤ i ∧ i + 1 < v_len S m fL p
  · rw [if_pos g]
    have := g_46_E (q_G_refl (m := []) hI) hF.1 hF.2 (k := (v_st S m fB p + i).toNat)
    have := g_46_E (q_G_refl (m := []) hI) hF.1 hF.2 (k := (v_st S m fB p + i + 1).toNat)
    exact ⟨fun h => by omega, fun h => absurd g h⟩
  · rw [if_neg g]; exact ⟨fun _ => g, fun _ => by omega⟩
theorem v_twM (hn : 18446744073709551616 ≤ n) (hI : q_Inv ρ L S) (hA : v_Ad ρ L x wo ce tb en ab m fF fT fS fB fL) {p : Int32} {i : Int64} (hp : p.toInt = -1 ∨ (0 ≤ p.toInt ∧ p.toInt < (q_I S m 3).toInt)) (hi : i.toInt ≤ 1152921504606846976) : (0 ≤ z_tw S m fF fB fL p.toInt i.toInt → ∃ r : Int32, m_X12_two n S m p i = some (r, S) ∧ r.toInt = z_tw S m fF fB fL p.toInt i.toInt) ∧ (z_tw S m fF fB fL p.toInt i.toInt < 0 → m_X12_two n S m p i = some (0, q_sI S m 8 1)) := by
  have hb := z_tw_b (m := m) (fB := fB) (fL := fL) (p := p.toInt) (i := i.toInt) hI hA.2.2.2.2.2.2.2.1
  obtain ⟨r, h1, h2⟩ := v_num (k := 2) hn hI hA hp hi (Or.inr (Or.inl rfl))
  have ez : z_nu S m fF fB fL p.toInt i.toInt (2 : Int32).toInt = z_tw S m fF fB fL p.toInt i.toInt := by
    unfold z_nu
    rw [if_neg (by decide), if_pos (by decide)]
  rw [ez] at h1 h2
  unfold m_X12_two
  rw [q_at_pos (k_m hI hA.2.2.2.2.2.2.1)]
  refine ⟨fun h => ?_, fun h => ?_⟩
  · obtain ⟨e, hv⟩ := h1 h
    rw [e, q_b_some]
    exact ⟨_, rfl, by rw [q_wli (by omega) (by omega), hv]⟩
  · obtain ⟨e, hv⟩ := h2 h
    rw [e, q_b_some, hv]
    rfl
theorem v_fdM (hn : 18446744073709551616 ≤ n) (hI : q_Inv ρ L S) (hm : m ∈ L ∧ ρ m = 45) {tag : Int64} (h : 1668112752 ≤ tag.toInt ∧ tag.toInt ≤ 2147483647) : m_X12_find n S m tag = some (q_fd S m tag, S) := by
  obtain ⟨r, T, e, eT, -, hv⟩ := s_X12_find_45 hn hI hm.1 hm.2 (p0 := tag) h
  subst eT
  rw [e, Int32.toInt_inj.mp (q_smE hv)]
theorem z_un (hI : q_Inv ρ L S) (g : q_G ρ L M9 S T) (hA : v_Ad ρ L x wo ce tb en ab m fF fT fS fB fL) (h : v_fr9 M9 = true) : (∀ p i, z_tw T m fF fB fL p i = z_tw S m fF fB fL p i) ∧ (∀ p i, z_by T m fF fB fL p i = z_by S m fF fB fL p i) ∧ (∀ p i, z_fr T m fF fB fL p i = z_fr S m fF fB fL p i) ∧ (∀ tag, q_fd T m tag = q_fd S m tag) ∧ q_I T m 3 = q_I S m 3 ∧ ∀ p, v_len T m fL p = v_len S m fL p := by
  obtain ⟨hx, hw, hc, ht, he, hab, hm, hF, hT, hS, hB, hL⟩ := hA
  have e3 : q_I T m 3 = q_I S m 3 := q_unI (k := 3) g hm.1 hm.2 (v_fr9E h (z := 2883) (by decide))
  have e9 : q_I T fF = q_I S fF := funext fun k => q_unIA g hF.1 hF.2 (by decide) (v_fr9E h (z := 2944) (by decide))
  have f1 : q_J T fT = q_J S fT := funext fun k => q_unJA g hT.1 hT.2 (by decide) (v_fr9E h (z := 3008) (by decide))
  have f3 : ∀ k, q_I T fB k = q_I S fB k := fun k => q_unIA g hB.1 hB.2 (by decide) (v_fr9E h (z := 3136) (by decide))
  have f4 : ∀ k, q_I T fL k = q_I S fL k := fun k => q_unIA g hL.1 hL.2 (by decide) (v_fr9E h (z := 3200) (by decide))
  refine ⟨fun p i => ?_, fun p i => ?_, fun p i => ?_, fun tag => ?_, e3, fun p => ?_⟩
  · unfold z_tw v_st v_len; rw [e3, e9, f3, f4]
  · unfold z_by v_st v_len; rw [e3, e9, f3, f4]
  · unfold z_fr v_st v_len; rw [e3, e9, f3, f4]
  · rw [v_fdE g.1 hm hT, v_fdE hI hm hT, e3, f1]
  · unfold v_len; rw [e3, f4]
/-- a store but for the reference's fields 0 and 8 -/
theorem v_m08 (hI : q_Inv ρ L S) (hm : m ∈ L ∧ ρ m = 45) {a b : Int32} (ha : 0 ≤ a.toInt ∧ a.toInt ≤ 1) (hb : 0 ≤ b.toInt ∧ b.toInt ≤ 1) : q_G ρ L [2880, 2888] S (q_sI (q_sI S m 0 a) m 8 b) := u_45_I8 (u_45_I0 (q_G_refl hI) hm.1 hm.2 (by decide) ha) hm.1 hm.2 (by decide) hb
theorem v_m8 (hI : q_Inv ρ L S) (hm : m ∈ L ∧ ρ m = 45) {b : Int32} (hb : 0 ≤ b.toInt ∧ b.toInt ≤ 1) : q_G ρ L [2880, 2888] S (q_sI S m 8 b) := u_45_I8 (q_G_refl hI) hm.1 hm.2 (by decide) hb
theorem v_xor {x y : Int64} (h : 0 ≤ y.toInt) : 0 ≤ (x ^^^ y).toInt ↔ 0 ≤ x.toInt := by
  have w : ∀ z : Int64, 0 ≤ z.toInt ↔ z.toBitVec.msb = false := fun z => by
    rw [BitVec.msb_eq_toInt]
    show 0 ≤ z.toBitVec.toInt ↔ _
    simp
  rw [w, w, Int64.toBitVec_xor, BitVec.msb_xor, (w y).mp h]
  simp
/-- floorDiv, and the reference's way -/
theorem v_fdiv {A D : Int64} (hA : -4611686018427387904 ≤ A.toInt ∧ A.toInt ≤ 4611686018427387904) (hD : 1 ≤ D.toInt ∧ D.toInt ≤ 1000000) : m_J9_floorDiv_f86c9 n S A D = some (if 0 ≤ (lg_cmp (A - A / D * D) 0) then A / D else A / D - 1, S) := by
  have z0 : (0 : Int64).toInt = 0 := rfl
  have hne : ¬ D = 0 := fun e => by rw [e, z0] at hD; omega
  have q1 : (A / D).toInt = A.toInt.tdiv D.toInt := by
    rw [Int64.toInt_div]
    have h1 : (A.toInt.tdiv D.toInt).natAbs ≤ A.toInt.natAbs := by rw [Int.natAbs_tdiv]; exact Nat.div_le_self _ _
    exact q_bmJ (by omega) (by omega)
  have m1 := Int.mul_tdiv_add_tmod A.toInt D.toInt
  have m2 : 0 ≤ A.toInt → 0 ≤ A.toInt.tmod D.toInt := fun h => Int.tmod_nonneg _ h
  have m3 : A.toInt ≤ 0 → A.toInt.tmod D.toInt ≤ 0 := fun h => by
    have := Int.tmod_nonneg D.toInt (a := -A.toInt) (by omega)
    rw [Int.neg_tmod] at this
    omega
  have m4 : (A.toInt.tmod D.toInt).natAbs ≤ A.toInt.natAbs := by rw [Int.natAbs_tmod]; exact Nat.mod_le _ _
  have q2 : (A / D * D).toInt = A.toInt - A.toInt.tmod D.toInt := by
    rw [Int64.toInt_mul, q1, Int.mul_comm]
    have e : D.toInt * A.toInt.tdiv D.toInt = A.toInt - A.toInt.tmod D.toInt := by omega
    rw [e]
    exact q_bmJ (by omega) (by omega)
  have q3 : (A - A / D * D).toInt = A.toInt.tmod D.toInt := by rw [q_subJ (by omega) (by omega), q2]; omega
  unfold m_J9_floorDiv_f86c9 m_J9_floorDiv_f86c9_27
  rw [q_if_pos hne]
  by_cases g : 0 ≤ A.toInt
  · rw [if_pos (c_ge.mpr (by rw [z0]; exact (v_xor (x := A) (y := D) (by omega)).mpr g)), if_pos (c_ge.mpr (by rw [q3, z0]; exact m2 g))]
  · rw [if_neg (fun h => g ((v_xor (x := A) (y := D) (by omega)).mp (by have := c_ge.mp h; rw [z0] at this; exact this)))]
    by_cases g2 : A.toInt.tmod D.toInt = 0
    · rw [if_pos (c_eq.mpr (by rw [q2, g2]; omega)), if_pos (c_ge.mpr (by rw [q3, z0]; omega))]
    · have := m3 (by omega)
      rw [if_neg (fun h => by have := c_eq.mp h; omega), if_neg (fun h => by have := c_ge.mp h; rw [q3, z0] at this; omega)]
theorem z_scaled (hn : 18446744073709551616 ≤ n) (hI : q_Inv ρ L S) (hA : v_Ad ρ L x wo ce tb en ab m fF fT fS fB fL) (hR : v_Rl wo ce tb en ab m fF fT fS fB fL S) {p0 p1 : Int32} : q_ok (m_X11_scaled n S x p0 p1) (fun r T => q_Inv ρ L T ∧ q_ok (m_X12_scaled n T m p0 p1) (fun r2 T2 => q_Inv ρ L T2 ∧ v_Rl wo ce tb en ab m fF fT fS fB fL T2 ∧ r = r2)) := by
  have hm := hA.2.2.2.2.2.2.1
  have ht := hA.2.2.2.1
  have hx := hA.1
  have hF := hA.2.2.2.2.2.2.2.1
  have z0 : (0 : Int64).toInt = 0 := rfl
  have z1000 : (1000 : Int64).toInt = 1000 := rfl
  have y0 : (0 : Int32).toInt = 0 := rfl
  have y1000 : (1000 : Int32).toInt = 1000 := rfl
  have hG0 : q_G ρ L [2880, 2888] S (q_sI S m 0 0) := u_45_I0 (q_G_refl hI) hm.1 hm.2 (by decide) ⟨by decide, by decide⟩
  have hG1 := v_m08 (a := 0) (b := 0) hI hm ⟨by decide, by decide⟩ ⟨by decide, by decide⟩
  unfold m_X11_scaled m_X11_scaled_11 m_X12_scaled m_X12_scaled_55 m_X12_scaled_102
  by_cases g1 : p1.toInt < 0
  · rw [if_pos (i_lt.mpr (by rw [y0]; exact g1))]
    refine q_ok_some ⟨hI, ?_⟩
    have gn : ¬ (0 ≤ p1.toInt ∧ p1.toInt ≤ 1000) := fun h => by omega
    rw [q_at_pos (k_m hI hm), v_in, q_b_some, q_wil, z0, z1000, if_neg gn, if_pos rfl]
    exact q_ok_some ⟨hG0.1, v_RlU hA hG0 (by decide) hR, rfl⟩
  rw [if_neg (fun h => g1 (by have := i_lt.mp h; rw [y0] at this; exact this))]
  by_cases g2 : p1.toInt ≤ 1000
  · obtain ⟨t, et, h8, a1, a2, a3⟩ := v_first (n := n) (tag := 1751474532) hn hI hA hR
    obtain ⟨r, er, vr⟩ := v_ctw (n := n) (i := 18) hI hA hR ⟨h8, a1, a2, a3⟩ (by decide)
    have hb := z_tw_b (m := m) (fB := fB) (fL := fL) (p := (q_fd S m 1751474532).toInt) (i := (18 : Int64).toInt) hI hF
    have gp : 0 ≤ p1.toInt ∧ p1.toInt ≤ 1000 := by omega
    obtain ⟨u1, u2, u3, u4, u5, u6⟩ := z_un hI hG1 hA (by decide)
    have hfd := v_fdR (tag := 1751474532) hI hm hA.2.2.2.2.2.2.2.2.1
    have e8 : q_sI (q_sI (q_sI S m 0 0) m 8 0) m 8 1 = q_sI (q_sI S m 0 0) m 8 1 := q_sI2
    have hG2 := v_m08 (a := 0) (b := 1) hI hm ⟨by decide, by decide⟩ ⟨by decide, by decide⟩
    obtain ⟨w1, w2⟩ := v_twM (p := q_fd S m 1751474532) (i := 18) hn hG1.1 hA (by rw [u5]; exact hfd) (by decide)
    rw [u1] at w1 w2
    rw [if_pos (i_le.mpr (by rw [y1000]; exact g2)), q_at_pos (k_x hI hx), v_x2 hI hx ht, q_at_pos (k_t hI ht), et, q_b_some, q_at_pos (k_8 hI h8), er, q_b_some]
    by_cases g3 : z_tw S m fF fB fL (q_fd S m 1751474532).toInt (18 : Int64).toInt < 0
    · rw [if_neg (fun h => by have := i_lt.mp h; rw [y0] at this; omega)]
      refine q_ok_some ⟨hI, ?_⟩
      rw [q_at_pos (k_m hI hm), v_in, q_b_some, q_wil, z0, z1000, if_pos gp, if_neg (by decide), q_at_pos (k_m hG0.1 hm), q_if_pos (Or.inl rfl), v_fdM hn hG1.1 hm ⟨by decide, by decide⟩, q_b_some, u4, q_at_pos (k_m hG1.1 hm), w2 g3, q_b_some, e8, q_at_pos (k_m hG2.1 hm), q_hitI, if_neg (by decide)]
      exact q_ok_some ⟨hG2.1, v_RlU hA hG2 (by decide) hR, rfl⟩
    · obtain ⟨r2, er2, vr2⟩ := w1 (by omega)
      have err : r2 = r := Int32.toInt_inj.mp (by rw [vr2, vr])
      subst err
      have f8 : q_I (q_sI (q_sI S m 0 0) m 8 0) m 8 = 0 := q_hitI
      by_cases g4 : r2.toInt = 0
      · rw [if_neg (fun h => by have := i_lt.mp h; rw [y0] at this; omega)]
        refine q_ok_some ⟨hI, ?_⟩
        rw [q_at_pos (k_m hI hm), v_in, q_b_some, q_wil, z0, z1000, if_pos gp, if_neg (by decide), q_at_pos (k_m hG0.1 hm), q_if_pos (Or.inl rfl), v_fdM hn hG1.1 hm ⟨by decide, by decide⟩, q_b_some, u4, q_at_pos (k_m hG1.1 hm), er2, q_b_some, q_at_pos (k_m hG1.1 hm), f8, if_pos rfl, if_pos (c_eq.mpr (by rw [q_wil, z0]; exact g4))]
        exact q_ok_some ⟨hG1.1, v_RlU hA hG1 (by decide) hR, rfl⟩
      · have rp := q_rngI p0
        have y2 : (2 : Int64).toInt = 2 := rfl
        have y128 : (128 : Int64).toInt = 128 := rfl
        have d1 : ((2 : Int64) * (r2.toInt64)).toInt = 2 * r2.toInt := by rw [q_mulLJ y2 (by rw [q_wil]; omega) (by rw [q_wil]; omega), q_wil]
        have c1 : ((128 : Int64) * (p0.toInt64)).toInt = 128 * p0.toInt := by rw [q_mulLJ y128 (by rw [q_wil]; omega) (by rw [q_wil]; omega), q_wil]
        have nl1 : 128 * p0.toInt * p1.toInt ≤ 274877906944 * 1000 := by
          have h1 : 128 * p0.toInt ≤ 274877906944 := by omega
          exact Int.le_trans (Int.mul_le_mul_of_nonneg_right h1 gp.1) (Int.mul_le_mul_of_nonneg_left gp.2 (by decide))
        have nl2 : -(274877906944 * 1000) ≤ 128 * p0.toInt * p1.toInt := by
          have h1 : -274877906944 ≤ 128 * p0.toInt := by omega
          have h2 : -274877906944 * p1.toInt ≤ 128 * p0.toInt * p1.toInt := Int.mul_le_mul_of_nonneg_right h1 gp.1
          omega
        have c2 : (((128 : Int64) * (p0.toInt64)) * (p1.toInt64)).toInt = 128 * p0.toInt * p1.toInt := by
          rw [Int64.toInt_mul, c1, q_wil]
          exact q_bmJ (by omega) (by omega)
        have c3 : ((((128 : Int64) * (p0.toInt64)) * (p1.toInt64)) + (r2.toInt64)).toInt = 128 * p0.toInt * p1.toInt + r2.toInt := by rw [q_addJ (by rw [q_wil, c2]; omega) (by rw [q_wil, c2]; omega), q_wil, c2]
        have ecm : ((128 : Int64) * (p1.toInt64)) * (p0.toInt64) = ((128 : Int64) * (p0.toInt64)) * (p1.toInt64) := by rw [Int64.mul_assoc, Int64.mul_comm p1.toInt64, ← Int64.mul_assoc]
        have dne : ¬ ((2 : Int64) * (r2.toInt64)) = 0 := fun e => by rw [e, z0] at d1; omega
        rw [if_pos (i_lt.mpr (by rw [y0]; omega)), v_fdiv (by rw [c3]; omega) (by rw [d1]; omega), q_b_some]
        refine q_ok_some ⟨hI, ?_⟩
        rw [q_at_pos (k_m hI hm), v_in, q_b_some, q_wil, z0, z1000, if_pos gp, if_neg (by decide), q_at_pos (k_m hG0.1 hm), q_if_pos (Or.inl rfl), v_fdM hn hG1.1 hm ⟨by decide, by decide⟩, q_b_some, u4, q_at_pos (k_m hG1.1 hm), er2, q_b_some, q_at_pos (k_m hG1.1 hm), f8, if_pos rfl, if_neg (fun h => by have := c_eq.mp h; rw [q_wil, z0] at this; exact g4 this), q_if_pos dne, q_if_pos dne, ecm]
        by_cases g5 : 0 ≤ (lg_cmp (((((128 : Int64) * (p0.toInt64)) * (p1.toInt64)) + (r2.toInt64)) - ((((128 : Int64) * (p0.toInt64)) * (p1.toInt64)) + (r2.toInt64)) / ((2 : Int64) * (r2.toInt64)) * ((2 : Int64) * (r2.toInt64))) 0)
        · rw [if_pos g5, if_pos g5]
          exact q_ok_some ⟨hG1.1, v_RlU hA hG1 (by decide) hR, rfl⟩
        · rw [if_neg g5, if_neg g5]
          exact q_ok_some ⟨hG1.1, v_RlU hA hG1 (by decide) hR, rfl⟩
  · rw [if_neg (fun h => g2 (by have := i_le.mp h; rw [y1000] at this; exact this))]
    refine q_ok_some ⟨hI, ?_⟩
    have gn : ¬ (0 ≤ p1.toInt ∧ p1.toInt ≤ 1000) := fun h => by omega
    rw [q_at_pos (k_m hI hm), v_in, q_b_some, q_wil, z0, z1000, if_neg gn, if_pos rfl]
    exact q_ok_some ⟨hG0.1, v_RlU hA hG0 (by decide) hR, rfl⟩
end QVK
