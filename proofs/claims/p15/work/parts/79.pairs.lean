/-! both sides: what each pair of calls keeps -/
theorem x_octet {ρ : Nat → Nat} {L : List Nat} {n : Nat} {S : q_S} {x o : Nat} (hn : 18446744073709551616 ≤ n) (hI : q_Inv ρ L S) (hx : x ∈ L ∧ ρ x = 0) (ho : o ∈ L ∧ ρ o = 74) {p0 p1 : Int32} : q_ok (m_L_octet n S (some x) p0 p1 (some o)) (fun _ T => q_G ρ L [4736] S T) := by
  have hG : q_G ρ L [4736] S S := q_G_refl hI
  unfold m_L_octet
  rw [q_at_pos (k_x hI hx), q_at_pos (v_at (c := 101) hI ho rfl)]
  refine q_ok_b (s_X11_octet_0 hn hI hx.1 hx.2) (fun r T hT => ?_)
  have eT : S = T := hT.symm
  subst eT
  cases r with
  | none => exact q_ok_some hG
  | some v =>
    refine q_ok_atS hG (q_trI ho.1 ho.2) rfl (fun _ _ => ?_)
    refine q_ok_if (q_inI (g_74_N hG ho.1 ho.2) (by decide) (by decide)) ?_
    exact q_ok_some (u_74_E (k := (0 : Int32).toNatClampNeg) (x := v.toInt64) hG ho.1 ho.2 (by decide))
theorem y_octet {ρ : Nat → Nat} {L : List Nat} {n : Nat} {S : q_S} {x wo ce tb en ab m fF fT fS fB fL : Nat} (hn : 18446744073709551616 ≤ n) (hI : q_Inv ρ L S) (hA : v_Ad ρ L x wo ce tb en ab m fF fT fS fB fL) (hR : v_Rw ρ L wo ce tb en ab m fF fT fS fB fL S) {o : Nat} (ho : o ∈ L ∧ ρ o = 74) {p0 : Int32} {p1 : Int32} : q_ok (m_L_octet n S (some x) p0 p1 (some o)) (fun _ T => q_Inv ρ L T ∧ q_ok (m_X12_octet n T m p0 p1) (fun _ T2 => q_Inv ρ L T2 ∧ v_Rw ρ L wo ce tb en ab m fF fT fS fB fL T2)) := by
  obtain ⟨r, T, e, hT⟩ := x_octet (p0 := p0) (p1 := p1) hn hI hA.1 ho
  have hI1 := hT.1
  have hR1 := v_RwU hI hA hT (by decide) hR
  obtain ⟨r2, T2, e2, hT2⟩ := s_X12_octet_45 hn hI1 hA.2.2.2.2.2.2.1.1 hA.2.2.2.2.2.2.1.2 (p0 := p0) (p1 := p1)
  have hI2 := hT2.1.1
  have hR2 := v_RwU hI1 hA hT2.1 (by decide) hR1
  exact ⟨r, T, e, hI1, r2, T2, e2, hI2, hR2⟩
theorem y_sum {ρ : Nat → Nat} {L : List Nat} {n : Nat} {S : q_S} {x wo ce tb en ab m fF fT fS fB fL : Nat} (hn : 18446744073709551616 ≤ n) (hI : q_Inv ρ L S) (hA : v_Ad ρ L x wo ce tb en ab m fF fT fS fB fL) (hR : v_Rw ρ L wo ce tb en ab m fF fT fS fB fL S) {p0 : Int32} : q_ok (m_X11_sum n S x p0) (fun _ T => q_Inv ρ L T ∧ q_ok (m_X12_sum n T m p0) (fun _ T2 => q_Inv ρ L T2 ∧ v_Rw ρ L wo ce tb en ab m fF fT fS fB fL T2)) := by
  obtain ⟨r, T, e, hT⟩ := s_X11_sum_0 hn hI hA.1.1 hA.1.2 (p0 := p0)
  have eT1 : T = S := hT.1
  have hI1 : q_Inv ρ L T := by rw [eT1]; exact hI
  have hR1 : v_Rw ρ L wo ce tb en ab m fF fT fS fB fL T := by rw [eT1]; exact hR
  obtain ⟨r2, T2, e2, hT2⟩ := s_X12_sum_45 hn hI1 hA.2.2.2.2.2.2.1.1 hA.2.2.2.2.2.2.1.2 (p0 := p0)
  have hI2 := hT2.1.1
  have hR2 := v_RwU hI1 hA hT2.1 (by decide) hR1
  exact ⟨r, T, e, hI1, r2, T2, e2, hI2, hR2⟩
theorem y_count {ρ : Nat → Nat} {L : List Nat} {n : Nat} {S : q_S} {x wo ce tb en ab m fF fT fS fB fL : Nat} (hn : 18446744073709551616 ≤ n) (hI : q_Inv ρ L S) (hA : v_Ad ρ L x wo ce tb en ab m fF fT fS fB fL) (hR : v_Rw ρ L wo ce tb en ab m fF fT fS fB fL S) {p0 : Int32} : q_ok (m_X11_count n S x p0) (fun _ T => q_Inv ρ L T ∧ q_ok (m_X12_count n T m p0) (fun _ T2 => q_Inv ρ L T2 ∧ v_Rw ρ L wo ce tb en ab m fF fT fS fB fL T2)) := by
  obtain ⟨r, T, e, hT⟩ := s_X11_count_0 hn hI hA.1.1 hA.1.2 (p0 := p0)
  have eT1 : T = S := hT.1
  have hI1 : q_Inv ρ L T := by rw [eT1]; exact hI
  have hR1 : v_Rw ρ L wo ce tb en ab m fF fT fS fB fL T := by rw [eT1]; exact hR
  obtain ⟨r2, T2, e2, hT2⟩ := s_X12_count_45 hn hI1 hA.2.2.2.2.2.2.1.1 hA.2.2.2.2.2.2.1.2 (p0 := p0)
  have hI2 := hT2.1
  have hR2 := v_RwU hI1 hA hT2 (by decide) hR1
  exact ⟨r, T, e, hI1, r2, T2, e2, hI2, hR2⟩
theorem y_map {ρ : Nat → Nat} {L : List Nat} {n : Nat} {S : q_S} {x wo ce tb en ab m fF fT fS fB fL : Nat} (hn : 18446744073709551616 ≤ n) (hI : q_Inv ρ L S) (hA : v_Ad ρ L x wo ce tb en ab m fF fT fS fB fL) (hR : v_Rw ρ L wo ce tb en ab m fF fT fS fB fL S) {p0 : Int32} : q_ok (m_X11_map n S x p0) (fun _ T => q_Inv ρ L T ∧ q_ok (m_X12_map n T m p0) (fun _ T2 => q_Inv ρ L T2 ∧ v_Rw ρ L wo ce tb en ab m fF fT fS fB fL T2)) := by
  obtain ⟨r, T, e, hT⟩ := s_X11_map_0 hn hI hA.1.1 hA.1.2 (p0 := p0)
  have hI1 := hT.1.1
  have hR1 := v_RwU hI hA hT.1 (by decide) hR
  obtain ⟨r2, T2, e2, hT2⟩ := s_X12_map_45 hn hI1 hA.2.2.2.2.2.2.1.1 hA.2.2.2.2.2.2.1.2 (p0 := p0)
  have hI2 := hT2.1.1
  have hR2 := v_RwU hI1 hA hT2.1 (by decide) hR1
  exact ⟨r, T, e, hI1, r2, T2, e2, hI2, hR2⟩
theorem y_run {ρ : Nat → Nat} {L : List Nat} {n : Nat} {S : q_S} {x wo ce tb en ab m fF fT fS fB fL : Nat} (hn : 18446744073709551616 ≤ n) (hI : q_Inv ρ L S) (hA : v_Ad ρ L x wo ce tb en ab m fF fT fS fB fL) (hR : v_Rw ρ L wo ce tb en ab m fF fT fS fB fL S) {p0 : Int32} : q_ok (m_X11_run n S x p0) (fun _ T => q_Inv ρ L T ∧ q_ok (m_X12_run n T m p0) (fun _ T2 => q_Inv ρ L T2 ∧ v_Rw ρ L wo ce tb en ab m fF fT fS fB fL T2)) := by
  obtain ⟨r, T, e, hT⟩ := s_X11_run_0 hn hI hA.1.1 hA.1.2 (p0 := p0)
  have hI1 := hT.1.1
  have hR1 := v_RwU hI hA hT.1 (by decide) hR
  obtain ⟨r2, T2, e2, hT2⟩ := s_X12_run_45 hn hI1 hA.2.2.2.2.2.2.1.1 hA.2.2.2.2.2.2.1.2 (p0 := p0)
  have hI2 := hT2.1.1
  have hR2 := v_RwU hI1 hA hT2.1 (by decide) hR1
  exact ⟨r, T, e, hI1, r2, T2, e2, hI2, hR2⟩
theorem x_piece {ρ : Nat → Nat} {L : List Nat} {n : Nat} {S : q_S} {x o : Nat} (hn : 18446744073709551616 ≤ n) (hI : q_Inv ρ L S) (hx : x ∈ L ∧ ρ x = 0) (ho : o ∈ L ∧ ρ o = 74) {p0 p1 : Int32} : q_ok (m_L_piece n S (some x) p0 p1 (some o)) (fun _ T => q_G ρ L [4736] S T) := by
  have hG : q_G ρ L [4736] S S := q_G_refl hI
  unfold m_L_piece
  rw [q_at_pos (k_x hI hx), q_at_pos (v_at (c := 101) hI ho rfl)]
  refine q_ok_b (s_X11_piece_0 hn hI hx.1 hx.2) (fun r T hT => ?_)
  have eT : S = T := hT.symm
  subst eT
  cases r with
  | none => exact q_ok_some hG
  | some v =>
    refine q_ok_atS hG (q_trI ho.1 ho.2) rfl (fun _ _ => ?_)
    refine q_ok_if (q_inI (g_74_N hG ho.1 ho.2) (by decide) (by decide)) ?_
    exact q_ok_some (u_74_E (k := (0 : Int32).toNatClampNeg) (x := v.toInt64) hG ho.1 ho.2 (by decide))
theorem y_piece {ρ : Nat → Nat} {L : List Nat} {n : Nat} {S : q_S} {x wo ce tb en ab m fF fT fS fB fL : Nat} (hn : 18446744073709551616 ≤ n) (hI : q_Inv ρ L S) (hA : v_Ad ρ L x wo ce tb en ab m fF fT fS fB fL) (hR : v_Rw ρ L wo ce tb en ab m fF fT fS fB fL S) {o : Nat} (ho : o ∈ L ∧ ρ o = 74) {p0 : Int32} {p1 : Int32} : q_ok (m_L_piece n S (some x) p0 p1 (some o)) (fun _ T => q_Inv ρ L T ∧ q_ok (m_X12_piece_ n T m p0 p1) (fun _ T2 => q_Inv ρ L T2 ∧ v_Rw ρ L wo ce tb en ab m fF fT fS fB fL T2)) := by
  obtain ⟨r, T, e, hT⟩ := x_piece (p0 := p0) (p1 := p1) hn hI hA.1 ho
  have hI1 := hT.1
  have hR1 := v_RwU hI hA hT (by decide) hR
  obtain ⟨r2, T2, e2, hT2⟩ := s_X12_piece__45 hn hI1 hA.2.2.2.2.2.2.1.1 hA.2.2.2.2.2.2.1.2 (p0 := p0) (p1 := p1)
  have hI2 := hT2.1
  have hR2 := v_RwU hI1 hA hT2 (by decide) hR1
  exact ⟨r, T, e, hI1, r2, T2, e2, hI2, hR2⟩
theorem x_told {ρ : Nat → Nat} {L : List Nat} {n : Nat} {S : q_S} {x o : Nat} (hn : 18446744073709551616 ≤ n) (hI : q_Inv ρ L S) (hx : x ∈ L ∧ ρ x = 0) (ho : o ∈ L ∧ ρ o = 74) {p0 p1 : Int32} : q_ok (m_L_told n S (some x) p0 p1 (some o)) (fun _ T => q_G ρ L [4736] S T) := by
  have hG : q_G ρ L [4736] S S := q_G_refl hI
  unfold m_L_told
  rw [q_at_pos (k_x hI hx), q_at_pos (v_at (c := 101) hI ho rfl)]
  refine q_ok_b (s_X11_told_0 hn hI hx.1 hx.2) (fun r T hT => ?_)
  have eT : S = T := hT.symm
  subst eT
  cases r with
  | none => exact q_ok_some hG
  | some v =>
    refine q_ok_atS hG (q_trI ho.1 ho.2) rfl (fun _ _ => ?_)
    refine q_ok_if (q_inI (g_74_N hG ho.1 ho.2) (by decide) (by decide)) ?_
    exact q_ok_some (u_74_E (k := (0 : Int32).toNatClampNeg) (x := v.toInt64) hG ho.1 ho.2 (by decide))
theorem y_told {ρ : Nat → Nat} {L : List Nat} {n : Nat} {S : q_S} {x wo ce tb en ab m fF fT fS fB fL : Nat} (hn : 18446744073709551616 ≤ n) (hI : q_Inv ρ L S) (hA : v_Ad ρ L x wo ce tb en ab m fF fT fS fB fL) (hR : v_Rw ρ L wo ce tb en ab m fF fT fS fB fL S) {o : Nat} (ho : o ∈ L ∧ ρ o = 74) {p0 : Int32} {p1 : Int32} : q_ok (m_L_told n S (some x) p0 p1 (some o)) (fun _ T => q_Inv ρ L T ∧ q_ok (m_X12_told n T m p0 p1) (fun _ T2 => q_Inv ρ L T2 ∧ v_Rw ρ L wo ce tb en ab m fF fT fS fB fL T2)) := by
  obtain ⟨r, T, e, hT⟩ := x_told (p0 := p0) (p1 := p1) hn hI hA.1 ho
  have hI1 := hT.1
  have hR1 := v_RwU hI hA hT (by decide) hR
  obtain ⟨r2, T2, e2, hT2⟩ := s_X12_told_45 hn hI1 hA.2.2.2.2.2.2.1.1 hA.2.2.2.2.2.2.1.2 (p0 := p0) (p1 := p1)
  have hI2 := hT2.1.1
  have hR2 := v_RwU hI1 hA hT2.1 (by decide) hR1
  exact ⟨r, T, e, hI1, r2, T2, e2, hI2, hR2⟩
theorem y_width {ρ : Nat → Nat} {L : List Nat} {n : Nat} {S : q_S} {x wo ce tb en ab m fF fT fS fB fL : Nat} (hn : 18446744073709551616 ≤ n) (hI : q_Inv ρ L S) (hA : v_Ad ρ L x wo ce tb en ab m fF fT fS fB fL) (hR : v_Rw ρ L wo ce tb en ab m fF fT fS fB fL S) {p0 : Int32} : q_ok (m_X11_width n S x p0) (fun _ T => q_Inv ρ L T ∧ q_ok (m_X12_width n T m p0) (fun _ T2 => q_Inv ρ L T2 ∧ v_Rw ρ L wo ce tb en ab m fF fT fS fB fL T2)) := by
  obtain ⟨r, T, e, hT⟩ := s_X11_width_0 hn hI hA.1.1 hA.1.2 (p0 := p0)
  have eT1 : T = S := hT.1
  have hI1 : q_Inv ρ L T := by rw [eT1]; exact hI
  have hR1 : v_Rw ρ L wo ce tb en ab m fF fT fS fB fL T := by rw [eT1]; exact hR
  obtain ⟨r2, T2, e2, hT2⟩ := s_X12_width_45 hn hI1 hA.2.2.2.2.2.2.1.1 hA.2.2.2.2.2.2.1.2 (p0 := p0)
  have hI2 := hT2.1.1
  have hR2 := v_RwU hI1 hA hT2.1 (by decide) hR1
  exact ⟨r, T, e, hI1, r2, T2, e2, hI2, hR2⟩
theorem y_kern {ρ : Nat → Nat} {L : List Nat} {n : Nat} {S : q_S} {x wo ce tb en ab m fF fT fS fB fL : Nat} (hn : 18446744073709551616 ≤ n) (hI : q_Inv ρ L S) (hA : v_Ad ρ L x wo ce tb en ab m fF fT fS fB fL) (hR : v_Rw ρ L wo ce tb en ab m fF fT fS fB fL S) {p0 : Int32} {p1 : Int32} : q_ok (m_X11_kern n S x p0 p1) (fun _ T => q_Inv ρ L T ∧ q_ok (m_X12_kern n T m p0 p1) (fun _ T2 => q_Inv ρ L T2 ∧ v_Rw ρ L wo ce tb en ab m fF fT fS fB fL T2)) := by
  obtain ⟨r, T, e, hT⟩ := s_X11_kern_0 hn hI hA.1.1 hA.1.2 (p0 := p0) (p1 := p1)
  have eT1 : T = S := hT.1
  have hI1 : q_Inv ρ L T := by rw [eT1]; exact hI
  have hR1 : v_Rw ρ L wo ce tb en ab m fF fT fS fB fL T := by rw [eT1]; exact hR
  obtain ⟨r2, T2, e2, hT2⟩ := s_X12_kern_45 hn hI1 hA.2.2.2.2.2.2.1.1 hA.2.2.2.2.2.2.1.2 (p0 := p0) (p1 := p1)
  have hI2 := hT2.1.1
  have hR2 := v_RwU hI1 hA hT2.1 (by decide) hR1
  exact ⟨r, T, e, hI1, r2, T2, e2, hI2, hR2⟩
theorem y_scaled {ρ : Nat → Nat} {L : List Nat} {n : Nat} {S : q_S} {x wo ce tb en ab m fF fT fS fB fL : Nat} (hn : 18446744073709551616 ≤ n) (hI : q_Inv ρ L S) (hA : v_Ad ρ L x wo ce tb en ab m fF fT fS fB fL) (hR : v_Rw ρ L wo ce tb en ab m fF fT fS fB fL S) {p0 : Int32} {p1 : Int32} : q_ok (m_X11_scaled n S x p0 p1) (fun _ T => q_Inv ρ L T ∧ q_ok (m_X12_scaled n T m p0 p1) (fun _ T2 => q_Inv ρ L T2 ∧ v_Rw ρ L wo ce tb en ab m fF fT fS fB fL T2)) := by
  obtain ⟨r, T, e, hT⟩ := s_X11_scaled_0 hn hI hA.1.1 hA.1.2 (p0 := p0) (p1 := p1)
  have eT1 : T = S := hT
  have hI1 : q_Inv ρ L T := by rw [eT1]; exact hI
  have hR1 : v_Rw ρ L wo ce tb en ab m fF fT fS fB fL T := by rw [eT1]; exact hR
  obtain ⟨r2, T2, e2, hT2⟩ := s_X12_scaled_45 hn hI1 hA.2.2.2.2.2.2.1.1 hA.2.2.2.2.2.2.1.2 (p0 := p0) (p1 := p1)
  have hI2 := hT2.1
  have hR2 := v_RwU hI1 hA hT2 (by decide) hR1
  exact ⟨r, T, e, hI1, r2, T2, e2, hI2, hR2⟩
theorem y_at {ρ : Nat → Nat} {L : List Nat} {n : Nat} {S : q_S} {x wo ce tb en ab m fF fT fS fB fL : Nat} (hn : 18446744073709551616 ≤ n) (hI : q_Inv ρ L S) (hA : v_Ad ρ L x wo ce tb en ab m fF fT fS fB fL) (hR : v_Rw ρ L wo ce tb en ab m fF fT fS fB fL S) {p0 : Int32} : q_ok (m_X11_at n S x p0) (fun _ T => q_Inv ρ L T ∧ q_ok (m_X12_at n T m p0) (fun _ T2 => q_Inv ρ L T2 ∧ v_Rw ρ L wo ce tb en ab m fF fT fS fB fL T2)) := by
  obtain ⟨r, T, e, hT⟩ := s_X11_at_0 hn hI hA.1.1 hA.1.2 (p0 := p0)
  have eT1 : T = S := hT.1
  have hI1 : q_Inv ρ L T := by rw [eT1]; exact hI
  have hR1 : v_Rw ρ L wo ce tb en ab m fF fT fS fB fL T := by rw [eT1]; exact hR
  obtain ⟨r2, T2, e2, hT2⟩ := s_X12_at_45 hn hI1 hA.2.2.2.2.2.2.1.1 hA.2.2.2.2.2.2.1.2 (p0 := p0)
  have hI2 := hT2.1.1
  have hR2 := v_RwU hI1 hA hT2.1 (by decide) hR1
  exact ⟨r, T, e, hI1, r2, T2, e2, hI2, hR2⟩
