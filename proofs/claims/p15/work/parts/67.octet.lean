/-! VALUES: octet() -/
section QVO
variable {ρ : Nat → Nat} {L M9 : List Nat} {n : Nat} {S T : q_S} {x wo ce tb en ab m fF fT fS fB fL : Nat}
theorem z_by_b (hI : q_Inv ρ L S) (hF : fF ∈ L ∧ ρ fF = 46) {p i : Int} : -1 ≤ z_by S m fF fB fL p i ∧ z_by S m fF fB fL p i ≤ 255 := by
  unfold z_by v_by
  by_cases g : 0 ≤ i ∧ i < v_len S m fL p
  · rw [if_pos g]
    have := g_46_E (q_G_refl (m := []) hI) hF.1 hF.2 (k := (v_st S m fB p + i).toNat)
    omega
  · rw [if_neg g]; omega
theorem v_octC (hI : q_Inv ρ L S) (hA : v_Ad ρ L x wo ce tb en ab m fF fT fS fB fL) (hR : v_Rl wo ce tb en ab m fF fT fS fB fL S) {p0 p1 : Int32} : ∃ v : Int32, v.toInt = z_by S m fF fB fL p0.toInt p1.toInt ∧ m_X11_octet n S x p0 p1 = some (if z_by S m fF fB fL p0.toInt p1.toInt = -1 then none else some v, S) := by
  obtain ⟨t, e, h8, h1, h2, h3⟩ := v_get (n := n) (p := p0) hI hA hR
  have hr := q_rngI p1
  obtain ⟨r, e2, hv⟩ := v_cby (n := n) (i := p1.toInt64) hI hA hR ⟨h8, h1, h2, h3⟩ (by rw [q_wil]; omega)
  rw [q_wil] at hv
  refine ⟨r, hv, ?_⟩
  unfold m_X11_octet
  rw [q_at_pos (k_x hI hA.1), v_x2 hI hA.1 hA.2.2.2.1, q_at_pos (k_t hI hA.2.2.2.1), e, q_b_some, q_at_pos (k_8 hI h8), e2, q_b_some]
  by_cases g : z_by S m fF fB fL p0.toInt p1.toInt = -1
  · rw [if_pos g, if_pos (i_eq.mpr (by rw [hv, g]; rfl))]
  · rw [if_neg g, if_neg (fun h => g (by rw [← hv, h]; rfl))]
theorem v_octM (hI : q_Inv ρ L S) (hA : v_Ad ρ L x wo ce tb en ab m fF fT fS fB fL) {p0 p1 : Int32} : ∃ v : Int32, (z_by S m fF fB fL p0.toInt p1.toInt = -1 → m_X12_octet n S m p0 p1 = some (v, q_sI S m 0 1)) ∧ (z_by S m fF fB fL p0.toInt p1.toInt ≠ -1 → v.toInt = z_by S m fF fB fL p0.toInt p1.toInt ∧ m_X12_octet n S m p0 p1 = some (v, q_sI S m 0 0)) := by
  obtain ⟨hx, hw, hc, ht, he, hab, hm, hF, hT, hS, hB, hL⟩ := hA
  have hG : q_G ρ L M_X12_octet_45 S S := q_G_refl hI
  have h3 := g_45_I3 hG hm.1 hm.2
  have z1 : (1 : Int32).toInt = 1 := rfl
  have z0 : (0 : Int64).toInt = 0 := rfl
  have y0 : (0 : Int32).toInt = 0 := rfl
  have e3 : ((q_I S m 3) - (1 : Int32)).toInt64.toInt = (q_I S m 3).toInt - 1 := by rw [q_wil, q_subI (by rw [z1]; omega) (by rw [z1]; omega), z1]
  have e40 : m_X12_octet_40 n S (some m) p0 p1 1 (some m) = some (0, q_sI S m 0 1) := by
    unfold m_X12_octet_40 m_X12_octet_67
    have h1 := u_45_I0 (x := 1) hG hm.1 hm.2 (by decide) ⟨by decide, by decide⟩
    rw [q_at_pos (k_m hI hm), q_at_pos (k_m h1.1 hm), q_hitI, if_neg (by decide)]
  have bad : ∀ h : z_by S m fF fB fL p0.toInt p1.toInt = -1, m_X12_octet n S m p0 p1 = some (0, q_sI S m 0 1) := fun h => by
    unfold m_X12_octet m_X12_octet_39
    rw [q_at_pos (k_m hI hm), v_in, q_b_some, q_wil, z0, e3]
    by_cases g : 0 ≤ p0.toInt ∧ p0.toInt ≤ (q_I S m 3).toInt - 1
    · have hl := g_50_E hG hL.1 hL.2 (k := p0.toInt.toNat)
      have el : v_len S m fL p0.toInt = (q_I S fL p0.toInt.toNat).toInt := by unfold v_len; rw [if_pos ⟨g.1, by omega⟩]
      have e4 : ((q_I S fL p0.toInt.toNat) - (1 : Int32)).toInt64.toInt = (q_I S fL p0.toInt.toNat).toInt - 1 := by rw [q_wil, q_subI (by rw [z1]; omega) (by rw [z1]; omega), z1]
      rw [if_pos g, if_neg (by decide), q_at_pos (k_m hI hm), v_m7 hI hm hL, q_at_pos (k_L hI hL), q_if_pos (q_inI (g_50_N hG hL.1 hL.2) (by omega) (by omega)), v_cl (i := p0) rfl, v_in, q_b_some, q_wil, z0, e4]
      have gn : ¬ (0 ≤ p1.toInt ∧ p1.toInt ≤ (q_I S fL p0.toInt.toNat).toInt - 1) := fun h9 => by
        unfold z_by v_by at h
        rw [if_pos ⟨h9.1, by omega⟩] at h
        have := g_46_E hG hF.1 hF.2 (k := (v_st S m fB p0.toInt + p1.toInt).toNat)
        omega
      rw [if_neg gn, if_pos rfl]
      exact e40
    · rw [if_neg g, if_pos rfl]
      exact e40
  by_cases g : z_by S m fF fB fL p0.toInt p1.toInt = -1
  · exact ⟨0, fun _ => bad g, fun h => absurd g h⟩
  have gl : 0 ≤ p1.toInt ∧ p1.toInt < v_len S m fL p0.toInt := by
    by_cases h : 0 ≤ p1.toInt ∧ p1.toInt < v_len S m fL p0.toInt
    · exact h
    · exfalso; apply g; unfold z_by v_by; rw [if_neg h]
  have gp : 0 ≤ p0.toInt ∧ p0.toInt < (q_I S m 3).toInt := by
    by_cases h : 0 ≤ p0.toInt ∧ p0.toInt < (q_I S m 3).toInt
    · exact h
    · exfalso; unfold v_len at gl; rw [if_neg h] at gl; omega
  have hl := g_50_E hG hL.1 hL.2 (k := p0.toInt.toNat)
  have hs := g_49_E hG hB.1 hB.2 (k := p0.toInt.toNat)
  have hsl := hI.2.2.2 fB fL hB.1 hL.1 hB.2 hL.2 p0.toInt.toNat
  have el : v_len S m fL p0.toInt = (q_I S fL p0.toInt.toNat).toInt := by unfold v_len; rw [if_pos gp]
  have es : v_st S m fB p0.toInt = (q_I S fB p0.toInt.toNat).toInt := by unfold v_st; rw [if_pos gp]
  have e4 : ((q_I S fL p0.toInt.toNat) - (1 : Int32)).toInt64.toInt = (q_I S fL p0.toInt.toNat).toInt - 1 := by rw [q_wil, q_subI (by rw [z1]; omega) (by rw [z1]; omega), z1]
  have hG1 := u_45_I0 (x := 0) hG hm.1 hm.2 (by decide) ⟨by decide, by decide⟩
  have f1 : ∀ k, q_I (q_sI S m 0 0) fB k = q_I S fB k := fun k => q_fwI hB.2 hm.2 (by decide)
  have f2 : ∀ k, q_I (q_sI S m 0 0) fF k = q_I S fF k := fun k => q_fwI hF.2 hm.2 (by decide)
  have ea : ((q_I S fB p0.toInt.toNat) + p1).toInt = (q_I S fB p0.toInt.toNat).toInt + p1.toInt := q_addI (by omega) (by omega)
  refine ⟨q_I S fF (v_st S m fB p0.toInt + p1.toInt).toNat, fun h => absurd h g, fun _ => ⟨?_, ?_⟩⟩
  · unfold z_by v_by
    rw [if_pos gl]
  have ga : 0 ≤ p0.toInt ∧ p0.toInt ≤ (q_I S m 3).toInt - 1 := ⟨gp.1, by omega⟩
  have gb : 0 ≤ p1.toInt ∧ p1.toInt ≤ (q_I S fL p0.toInt.toNat).toInt - 1 := ⟨gl.1, by omega⟩
  unfold m_X12_octet m_X12_octet_40 m_X12_octet_67
  rw [q_at_pos (k_m hI hm), v_in, q_b_some, q_wil, z0, e3, if_pos ga, if_neg (by decide), q_at_pos (k_m hI hm), v_m7 hI hm hL, q_at_pos (k_L hI hL), q_if_pos (q_inI (g_50_N hG hL.1 hL.2) (by omega) (by omega)), v_cl (i := p0) rfl, v_in, q_b_some, q_wil, z0, e4, if_pos gb, if_neg (by decide), q_at_pos (k_m hI hm), q_at_pos (k_m hG1.1 hm), q_hitI, if_pos (by decide), v_m6 hG1.1 hm hB, q_at_pos (k_B hG1.1 hB), q_if_pos (q_inI (g_49_N hG1 hB.1 hB.2) (by omega) (by omega)), v_m1 hG1.1 hm hF, q_at_pos (k_F hG1.1 hF), f1, q_if_pos (q_inI (g_46_N hG1 hF.1 hF.2) (by omega) (by omega)), v_cl ea, f2, es]
theorem z_by_un (g : q_G ρ L M9 S T) (hA : v_Ad ρ L x wo ce tb en ab m fF fT fS fB fL) (h : v_fr9 M9 = true) {p i : Int} : z_by T m fF fB fL p i = z_by S m fF fB fL p i := by
  obtain ⟨hx, hw, hc, ht, he, hab, hm, hF, hT, hS, hB, hL⟩ := hA
  have e3 : q_I T m 3 = q_I S m 3 := q_unI (k := 3) g hm.1 hm.2 (v_fr9E h (z := 2883) (by decide))
  have e9 : q_I T fF = q_I S fF := funext fun k => q_unIA g hF.1 hF.2 (by decide) (v_fr9E h (z := 2944) (by decide))
  have f3 : ∀ k, q_I T fB k = q_I S fB k := fun k => q_unIA g hB.1 hB.2 (by decide) (v_fr9E h (z := 3136) (by decide))
  have f4 : ∀ k, q_I T fL k = q_I S fL k := fun k => q_unIA g hL.1 hL.2 (by decide) (v_fr9E h (z := 3200) (by decide))
  unfold z_by v_st v_len
  rw [e3, e9, f3, f4]
theorem z_octet (hn : 18446744073709551616 ≤ n) (hI : q_Inv ρ L S) (hA : v_Ad ρ L x wo ce tb en ab m fF fT fS fB fL) (hR : v_Rl wo ce tb en ab m fF fT fS fB fL S) {o : Nat} (ho : o ∈ L ∧ ρ o = 74) {p0 p1 : Int32} : q_ok (m_L_octet n S (some x) p0 p1 (some o)) (fun r T => q_Inv ρ L T ∧ q_ok (m_X12_octet n T m p0 p1) (fun b T2 => q_Inv ρ L T2 ∧ v_Rl wo ce tb en ab m fF fT fS fB fL T2 ∧ q_I T2 m 0 = r ∧ (r = 0 → q_J T2 o 0 = b.toInt64))) := by
  have hG : q_G ρ L [4736] S S := q_G_refl hI
  obtain ⟨v, hv, e⟩ := v_octC (n := n) (p0 := p0) (p1 := p1) hI hA hR
  unfold m_L_octet
  rw [q_at_pos (k_x hI hA.1), q_at_pos (v_at (c := 101) hI ho rfl), e, q_b_some]
  by_cases g : z_by S m fF fB fL p0.toInt p1.toInt = -1
  · rw [if_pos g]
    refine q_ok_some ⟨hI, ?_⟩
    obtain ⟨b, k1, k2⟩ := v_octM (n := n) (p0 := p0) (p1 := p1) hI hA
    have hG1 := u_45_I0 (x := 1) (q_G_refl (m := M_X12_octet_45) hI) hA.2.2.2.2.2.2.1.1 hA.2.2.2.2.2.2.1.2 (by decide) ⟨by decide, by decide⟩
    exact ⟨b, _, k1 g, hG1.1, v_RlU hA hG1 (by decide) hR, q_hitI, fun h => absurd h (by decide)⟩
  · rw [if_neg g]
    show q_ok (q_at S (some o) 101 _) _
    rw [q_at_pos (v_at (c := 101) hI ho rfl), q_if_pos (q_inI (g_74_N hG ho.1 ho.2) (by decide) (by decide))]
    have hG1 := u_74_E (k := (0 : Int32).toNatClampNeg) (x := v.toInt64) hG ho.1 ho.2 (by decide)
    refine q_ok_some ⟨hG1.1, ?_⟩
    have ez := z_by_un (p := p0.toInt) (i := p1.toInt) hG1 hA (by decide)
    obtain ⟨b, k1, k2⟩ := v_octM (n := n) (p0 := p0) (p1 := p1) hG1.1 hA
    rw [ez] at k1 k2
    obtain ⟨k3, k4⟩ := k2 g
    have hG2 := u_45_I0 (x := 0) (q_G_refl (m := M_X12_octet_45) hG1.1) hA.2.2.2.2.2.2.1.1 hA.2.2.2.2.2.2.1.2 (by decide) ⟨by decide, by decide⟩
    refine ⟨b, _, k4, hG2.1, v_RlU hA hG2 (by decide) (v_RlU hA hG1 (by decide) hR), q_hitI, fun _ => ?_⟩
    rw [q_skJI]
    have e9 : v = b := Int32.toInt_inj.mp (by rw [hv, k3])
    rw [← e9]
    exact q_hitJ
end QVO
