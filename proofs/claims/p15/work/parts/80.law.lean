theorem q_inL {i : Int32} {L : Nat} (h1 : 0 ≤ i.toInt) (h2 : i.toInt < L) : q_in i L = true := by unfold q_in; exact decide_eq_true ⟨h1, h2⟩
set_option maxHeartbeats 4000000 in
set_option maxRecDepth 100000 in
theorem p_goL {ρ : Nat → Nat} {L9 : List Nat} {n L : Nat} {xs : Nat → Int32} (hn : 18446744073709551616 ≤ n) (hL : L ≤ 2048) {x wo ce tb en ab m fF fT fS fB fL o : Nat} (hA : v_Ad ρ L9 x wo ce tb en ab m fF fT fS fB fL) (ho : o ∈ L9 ∧ ρ o = 74) : ∀ (k : Nat) (S : q_S) (l4 : Int32), q_Inv ρ L9 S → v_Rw ρ L9 wo ce tb en ab m fF fT fS fB fL S → (0 ≤ l4.toInt ∧ l4.toInt ≤ 2052) → 2060 - l4.toInt ≤ 4 * (k : Int) → q_ok (m_L_law_23 n L xs k S (some x) (some m) (some o) l4) (fun r _ => r = 1) := by
  have z1 : (1 : Int32).toInt = 1 := rfl
  have z2 : (2 : Int32).toInt = 2 := rfl
  have z3 : (3 : Int32).toInt = 3 := rfl
  have z4 : (4 : Int32).toInt = 4 := rfl
  have hLi : (Int32.ofNat L).toInt = L := q_ofN (by omega)
  intro k
  induction k with
  | zero => intro S l4 hI hR h4 hk; exfalso; omega
  | succ k ih =>
    intro S l4 hI hR h4 hk
    rw [m_L_law_23]
    refine q_ok_ite (fun _ => q_ok_some rfl) (fun g => ?_)
    have g1 := mt Int32.lt_iff_toInt_lt.mpr g
    rw [q_subI (by rw [hLi, z4]; omega) (by rw [hLi, z4]; omega), hLi, z4] at g1
    have e1 : (l4 + (1 : Int32)).toInt = l4.toInt + 1 := by rw [q_addI (by rw [z1]; omega) (by rw [z1]; omega), z1]
    have e2 : (l4 + (2 : Int32)).toInt = l4.toInt + 2 := by rw [q_addI (by rw [z2]; omega) (by rw [z2]; omega), z2]
    have e3 : (l4 + (3 : Int32)).toInt = l4.toInt + 3 := by rw [q_addI (by rw [z3]; omega) (by rw [z3]; omega), z3]
    have e4 : (l4 + (4 : Int32)).toInt = l4.toInt + 4 := by rw [q_addI (by rw [z4]; omega) (by rw [z4]; omega), z4]
    have hi0 : q_in l4 L = true := q_inL (by omega) (by omega)
    have hi1 : q_in (l4 + (1 : Int32)) L = true := q_inL (by omega) (by omega)
    have hi2 : q_in (l4 + (2 : Int32)) L = true := q_inL (by omega) (by omega)
    have hi3 : q_in (l4 + (3 : Int32)) L = true := q_inL (by omega) (by omega)
    have h40 : 0 ≤ (l4 + (4 : Int32)).toInt ∧ (l4 + (4 : Int32)).toInt ≤ 2052 := by rw [e4]; omega
    have h4m : 2060 - (l4 + (4 : Int32)).toInt ≤ 4 * (k : Int) := by rw [e4]; omega
    clear e1 e2 e3 e4 g1
    refine q_ok_if hi0 ?_
    have hv := q_andRI (x := xs (l4).toNatClampNeg) (y := (15 : Int32)) (by decide)
    have z15 : (15 : Int32).toInt = 15 := rfl
    rw [z15] at hv
    generalize (xs (l4).toNatClampNeg) &&& (15 : Int32) = v at hv ⊢
    refine q_ok_ite (fun _ => ?_) (fun gc0 => ?_)
    · refine q_ok_if hi1 ?_
      refine q_ok_if hi2 ?_
      refine q_ok_if hi3 ?_
      refine q_ok_atS (q_G_refl (m := []) hI) (q_trI hA.1.1 hA.1.2) rfl (fun _ _ => ?_)
      refine q_ok_b (yw_add hn hI hA hR) (fun r8 T hT => ?_)
      obtain ⟨hI1, hP⟩ := hT
      refine q_ok_if hi1 ?_
      refine q_ok_if hi2 ?_
      refine q_ok_if hi3 ?_
      refine q_ok_atS (q_G_refl (m := []) hI1) (q_trI hA.2.2.2.2.2.2.1.1 hA.2.2.2.2.2.2.1.2) rfl (fun _ _ => ?_)
      refine q_ok_b hP (fun r9 T2 hT2 => ?_)
      obtain ⟨hI2, hR2, hr, -⟩ := hT2
      unfold m_L_law_576
      exact ih T2 (l4 + 4) hI2 hR2 h40 h4m
    refine q_ok_ite (fun _ => ?_) (fun gc1 => ?_)
    · refine q_ok_atS (q_G_refl (m := []) hI) (q_trI hA.1.1 hA.1.2) rfl (fun _ _ => ?_)
      refine q_ok_b (yw_read hn hI hA hR) (fun r8 T hT => ?_)
      obtain ⟨hI1, hP⟩ := hT
      refine q_ok_atS (q_G_refl (m := []) hI1) (q_trI hA.2.2.2.2.2.2.1.1 hA.2.2.2.2.2.2.1.2) rfl (fun _ _ => ?_)
      refine q_ok_b hP (fun r9 T2 hT2 => ?_)
      obtain ⟨hI2, hR2, hr, -⟩ := hT2
      unfold m_L_law_576
      exact ih T2 (l4 + 4) hI2 hR2 h40 h4m
    refine q_ok_ite (fun _ => ?_) (fun gc2 => ?_)
    · refine q_ok_if hi1 ?_
      refine q_ok_if hi2 ?_
      refine q_ok_b (y_octet hn hI hA hR ho) (fun r8 T hT => ?_)
      obtain ⟨hI1, hP⟩ := hT
      refine q_ok_if hi1 ?_
      refine q_ok_if hi2 ?_
      refine q_ok_atS (q_G_refl (m := []) hI1) (q_trI hA.2.2.2.2.2.2.1.1 hA.2.2.2.2.2.2.1.2) rfl (fun _ _ => ?_)
      refine q_ok_b hP (fun r9 T2 hT2 => ?_)
      obtain ⟨hI2, hR2⟩ := hT2
      unfold m_L_law_576
      exact ih T2 (l4 + 4) hI2 hR2 h40 h4m
    refine q_ok_ite (fun _ => ?_) (fun gc3 => ?_)
    · refine q_ok_if hi1 ?_
      refine q_ok_atS (q_G_refl (m := []) hI) (q_trI hA.1.1 hA.1.2) rfl (fun _ _ => ?_)
      refine q_ok_b (y_sum hn hI hA hR) (fun r8 T hT => ?_)
      obtain ⟨hI1, hP⟩ := hT
      refine q_ok_if hi1 ?_
      refine q_ok_atS (q_G_refl (m := []) hI1) (q_trI hA.2.2.2.2.2.2.1.1 hA.2.2.2.2.2.2.1.2) rfl (fun _ _ => ?_)
      refine q_ok_b hP (fun r9 T2 hT2 => ?_)
      obtain ⟨hI2, hR2⟩ := hT2
      unfold m_L_law_576
      exact ih T2 (l4 + 4) hI2 hR2 h40 h4m
    refine q_ok_ite (fun _ => ?_) (fun gc4 => ?_)
    · refine q_ok_if hi1 ?_
      refine q_ok_atS (q_G_refl (m := []) hI) (q_trI hA.1.1 hA.1.2) rfl (fun _ _ => ?_)
      refine q_ok_b (y_count hn hI hA hR) (fun r8 T hT => ?_)
      obtain ⟨hI1, hP⟩ := hT
      refine q_ok_if hi1 ?_
      refine q_ok_atS (q_G_refl (m := []) hI1) (q_trI hA.2.2.2.2.2.2.1.1 hA.2.2.2.2.2.2.1.2) rfl (fun _ _ => ?_)
      refine q_ok_b hP (fun r9 T2 hT2 => ?_)
      obtain ⟨hI2, hR2⟩ := hT2
      unfold m_L_law_576
      exact ih T2 (l4 + 4) hI2 hR2 h40 h4m
    refine q_ok_ite (fun _ => ?_) (fun gc5 => ?_)
    · refine q_ok_if hi1 ?_
      refine q_ok_atS (q_G_refl (m := []) hI) (q_trI hA.1.1 hA.1.2) rfl (fun _ _ => ?_)
      refine q_ok_b (y_map hn hI hA hR) (fun r8 T hT => ?_)
      obtain ⟨hI1, hP⟩ := hT
      refine q_ok_if hi1 ?_
      refine q_ok_atS (q_G_refl (m := []) hI1) (q_trI hA.2.2.2.2.2.2.1.1 hA.2.2.2.2.2.2.1.2) rfl (fun _ _ => ?_)
      refine q_ok_b hP (fun r9 T2 hT2 => ?_)
      obtain ⟨hI2, hR2⟩ := hT2
      unfold m_L_law_576
      exact ih T2 (l4 + 4) hI2 hR2 h40 h4m
    refine q_ok_ite (fun _ => ?_) (fun gc6 => ?_)
    · refine q_ok_if hi1 ?_
      refine q_ok_atS (q_G_refl (m := []) hI) (q_trI hA.1.1 hA.1.2) rfl (fun _ _ => ?_)
      refine q_ok_b (y_run hn hI hA hR) (fun r8 T hT => ?_)
      obtain ⟨hI1, hP⟩ := hT
      refine q_ok_if hi1 ?_
      refine q_ok_atS (q_G_refl (m := []) hI1) (q_trI hA.2.2.2.2.2.2.1.1 hA.2.2.2.2.2.2.1.2) rfl (fun _ _ => ?_)
      refine q_ok_b hP (fun r9 T2 hT2 => ?_)
      obtain ⟨hI2, hR2⟩ := hT2
      unfold m_L_law_576
      exact ih T2 (l4 + 4) hI2 hR2 h40 h4m
    refine q_ok_ite (fun _ => ?_) (fun gc7 => ?_)
    · refine q_ok_if hi1 ?_
      refine q_ok_if hi2 ?_
      refine q_ok_b (y_piece hn hI hA hR ho) (fun r8 T hT => ?_)
      obtain ⟨hI1, hP⟩ := hT
      refine q_ok_if hi1 ?_
      refine q_ok_if hi2 ?_
      refine q_ok_atS (q_G_refl (m := []) hI1) (q_trI hA.2.2.2.2.2.2.1.1 hA.2.2.2.2.2.2.1.2) rfl (fun _ _ => ?_)
      refine q_ok_b hP (fun r9 T2 hT2 => ?_)
      obtain ⟨hI2, hR2⟩ := hT2
      unfold m_L_law_576
      exact ih T2 (l4 + 4) hI2 hR2 h40 h4m
    refine q_ok_ite (fun _ => ?_) (fun gc8 => ?_)
    · refine q_ok_if hi1 ?_
      refine q_ok_if hi2 ?_
      refine q_ok_b (y_told hn hI hA hR ho) (fun r8 T hT => ?_)
      obtain ⟨hI1, hP⟩ := hT
      refine q_ok_if hi1 ?_
      refine q_ok_if hi2 ?_
      refine q_ok_atS (q_G_refl (m := []) hI1) (q_trI hA.2.2.2.2.2.2.1.1 hA.2.2.2.2.2.2.1.2) rfl (fun _ _ => ?_)
      refine q_ok_b hP (fun r9 T2 hT2 => ?_)
      obtain ⟨hI2, hR2⟩ := hT2
      unfold m_L_law_576
      exact ih T2 (l4 + 4) hI2 hR2 h40 h4m
    refine q_ok_ite (fun _ => ?_) (fun gc9 => ?_)
    · refine q_ok_if hi1 ?_
      refine q_ok_atS (q_G_refl (m := []) hI) (q_trI hA.1.1 hA.1.2) rfl (fun _ _ => ?_)
      refine q_ok_b (y_width hn hI hA hR) (fun r8 T hT => ?_)
      obtain ⟨hI1, hP⟩ := hT
      refine q_ok_if hi1 ?_
      refine q_ok_atS (q_G_refl (m := []) hI1) (q_trI hA.2.2.2.2.2.2.1.1 hA.2.2.2.2.2.2.1.2) rfl (fun _ _ => ?_)
      refine q_ok_b hP (fun r9 T2 hT2 => ?_)
      obtain ⟨hI2, hR2⟩ := hT2
      unfold m_L_law_576
      exact ih T2 (l4 + 4) hI2 hR2 h40 h4m
    refine q_ok_ite (fun _ => ?_) (fun gc10 => ?_)
    · refine q_ok_if hi1 ?_
      refine q_ok_if hi2 ?_
      refine q_ok_atS (q_G_refl (m := []) hI) (q_trI hA.1.1 hA.1.2) rfl (fun _ _ => ?_)
      refine q_ok_b (y_kern hn hI hA hR) (fun r8 T hT => ?_)
      obtain ⟨hI1, hP⟩ := hT
      refine q_ok_if hi1 ?_
      refine q_ok_if hi2 ?_
      refine q_ok_atS (q_G_refl (m := []) hI1) (q_trI hA.2.2.2.2.2.2.1.1 hA.2.2.2.2.2.2.1.2) rfl (fun _ _ => ?_)
      refine q_ok_b hP (fun r9 T2 hT2 => ?_)
      obtain ⟨hI2, hR2⟩ := hT2
      unfold m_L_law_576
      exact ih T2 (l4 + 4) hI2 hR2 h40 h4m
    refine q_ok_ite (fun _ => ?_) (fun gc11 => ?_)
    · refine q_ok_if hi1 ?_
      refine q_ok_if hi2 ?_
      refine q_ok_atS (q_G_refl (m := []) hI) (q_trI hA.1.1 hA.1.2) rfl (fun _ _ => ?_)
      refine q_ok_b (y_scaled hn hI hA hR) (fun r8 T hT => ?_)
      obtain ⟨hI1, hP⟩ := hT
      refine q_ok_if hi1 ?_
      refine q_ok_if hi2 ?_
      refine q_ok_atS (q_G_refl (m := []) hI1) (q_trI hA.2.2.2.2.2.2.1.1 hA.2.2.2.2.2.2.1.2) rfl (fun _ _ => ?_)
      refine q_ok_b hP (fun r9 T2 hT2 => ?_)
      obtain ⟨hI2, hR2⟩ := hT2
      unfold m_L_law_576
      exact ih T2 (l4 + 4) hI2 hR2 h40 h4m
    refine q_ok_ite (fun _ => ?_) (fun gc12 => ?_)
    · refine q_ok_if hi1 ?_
      refine q_ok_atS (q_G_refl (m := []) hI) (q_trI hA.1.1 hA.1.2) rfl (fun _ _ => ?_)
      refine q_ok_b (y_cut hn hI hA hR) (fun r8 T hT => ?_)
      obtain ⟨hI1, hP⟩ := hT
      refine q_ok_if hi1 ?_
      refine q_ok_atS (q_G_refl (m := []) hI1) (q_trI hA.2.2.2.2.2.2.1.1 hA.2.2.2.2.2.2.1.2) rfl (fun _ _ => ?_)
      refine q_ok_b hP (fun r9 T2 hT2 => ?_)
      obtain ⟨hI2, hR2⟩ := hT2
      unfold m_L_law_576
      exact ih T2 (l4 + 4) hI2 hR2 h40 h4m
    refine q_ok_ite (fun _ => ?_) (fun gc13 => ?_)
    · refine q_ok_atS (q_G_refl (m := []) hI) (q_trI hA.1.1 hA.1.2) rfl (fun _ _ => ?_)
      refine q_ok_b (zw_write hn hI hA hR) (fun r8 T hT => ?_)
      obtain ⟨hI1, hP⟩ := hT
      refine q_ok_atS (q_G_refl (m := []) hI1) (q_trI hA.2.2.2.2.2.2.1.1 hA.2.2.2.2.2.2.1.2) rfl (fun _ _ => ?_)
      refine q_ok_b hP (fun r9 T2 hT2 => ?_)
      obtain ⟨hI2, hR2, hr⟩ := hT2
      rw [if_pos hr]
      unfold m_L_law_576
      exact ih T2 (l4 + 4) hI2 hR2 h40 h4m
    refine q_ok_ite (fun _ => ?_) (fun gc14 => ?_)
    · refine q_ok_if hi1 ?_
      refine q_ok_atS (q_G_refl (m := []) hI) (q_trI hA.1.1 hA.1.2) rfl (fun _ _ => ?_)
      refine q_ok_b (y_at hn hI hA hR) (fun r8 T hT => ?_)
      obtain ⟨hI1, hP⟩ := hT
      refine q_ok_if hi1 ?_
      refine q_ok_atS (q_G_refl (m := []) hI1) (q_trI hA.2.2.2.2.2.2.1.1 hA.2.2.2.2.2.2.1.2) rfl (fun _ _ => ?_)
      refine q_ok_b hP (fun r9 T2 hT2 => ?_)
      obtain ⟨hI2, hR2⟩ := hT2
      unfold m_L_law_576
      exact ih T2 (l4 + 4) hI2 hR2 h40 h4m
    have a0 : v.toInt ≠ 0 := fun e => gc0 (Int32.toInt_inj.mp (by rw [e]; rfl))
    have a1 : v.toInt ≠ 1 := fun e => gc1 (Int32.toInt_inj.mp (by rw [e]; rfl))
    have a2 : v.toInt ≠ 2 := fun e => gc2 (Int32.toInt_inj.mp (by rw [e]; rfl))
    have a3 : v.toInt ≠ 3 := fun e => gc3 (Int32.toInt_inj.mp (by rw [e]; rfl))
    have a4 : v.toInt ≠ 4 := fun e => gc4 (Int32.toInt_inj.mp (by rw [e]; rfl))
    have a5 : v.toInt ≠ 5 := fun e => gc5 (Int32.toInt_inj.mp (by rw [e]; rfl))
    have a6 : v.toInt ≠ 6 := fun e => gc6 (Int32.toInt_inj.mp (by rw [e]; rfl))
    have a7 : v.toInt ≠ 7 := fun e => gc7 (Int32.toInt_inj.mp (by rw [e]; rfl))
    have a8 : v.toInt ≠ 8 := fun e => gc8 (Int32.toInt_inj.mp (by rw [e]; rfl))
    have a9 : v.toInt ≠ 9 := fun e => gc9 (Int32.toInt_inj.mp (by rw [e]; rfl))
    have a10 : v.toInt ≠ 10 := fun e => gc10 (Int32.toInt_inj.mp (by rw [e]; rfl))
    have a11 : v.toInt ≠ 11 := fun e => gc11 (Int32.toInt_inj.mp (by rw [e]; rfl))
    have a12 : v.toInt ≠ 12 := fun e => gc12 (Int32.toInt_inj.mp (by rw [e]; rfl))
    have a13 : v.toInt ≠ 13 := fun e => gc13 (Int32.toInt_inj.mp (by rw [e]; rfl))
    have a14 : v.toInt ≠ 14 := fun e => gc14 (Int32.toInt_inj.mp (by rw [e]; rfl))
    refine q_ok_if (Or.inr (by omega)) ?_
    unfold m_L_law_576
    exact ih S (l4 + 4) hI hR h40 h4m
theorem v_init {S : q_S} {as : List Nat} {tb en ab : Nat} (hD : q_D S as q_TF) (h6 : as[6]? = some tb) (h7 : as[7]? = some en) (h8 : as[8]? = some ab) : v_di S en ab ∧ q_R S tb 2 = some ab := by
  have hl : as.length = 99 := hD.2.1
  have hp : ∀ i, i < 24 → q_rf (q_tb q_TF 7).2.2 i = some (i + 9) := by decide +kernel
  have w : ∀ i, i < 24 → q_R S en i = as[i + 9]? := fun i hi => by
    rw [(hD.2.2.2 7 en h7).2.2.2.2 i, hp i hi]; rfl
  have w2 : ∀ i, i < 24 → ∃ a, as[i + 9]? = some a := fun i hi => ⟨as[i + 9], List.getElem?_eq_getElem (by omega)⟩
  refine ⟨⟨fun i j hi hj e => ?_, fun i hi e => ?_⟩, ?_⟩
  · obtain ⟨a, ea⟩ := w2 i hi
    rw [w i hi, w j hj, ea] at e
    have := hD.2.2.1 _ _ a ea e.symm
    omega
  · rw [w i hi] at e
    have := hD.2.2.1 _ _ ab e h8
    omega
  · rw [(hD.2.2.2 6 tb h6).2.2.2.2 2, show q_rf (q_tb q_TF 6).2.2 2 = some 8 by decide +kernel]
    exact h8
theorem p_law (L : Nat) (hL : L ≤ 2048) (xs : Nat → Int32) : ∃ n, i_L_law n L xs := by
  refine ⟨18446744073709551616, p_init (Q := fun S x m o => ∃ Sv, m_L_law_23 18446744073709551616 L xs 520 S (some x) (some m) (some o) 0 = some (1, Sv)) (fun S as x m o hD h0 h1 h2 => ?_)⟩
  have hI := q_Inv_of hD
  have hl : as.length = 99 := hD.2.1
  have nx : ∀ i r, i < 99 → q_ra i = r → ∃ a, as[i]? = some a ∧ a ∈ as ∧ q_rho as a = r := fun i r hi hr => by
    have e : as[i]? = some as[i] := List.getElem?_eq_getElem (by omega)
    exact ⟨as[i], e, List.mem_of_getElem? e, (q_D_rho hD e).trans hr⟩
  have mx : x ∈ as := List.mem_of_getElem? h0
  have mm : m ∈ as := List.mem_of_getElem? h1
  have mo : o ∈ as := List.mem_of_getElem? h2
  have rx : q_rho as x = 0 := (q_D_rho hD h0).trans (by decide +kernel)
  have rm : q_rho as m = 45 := (q_D_rho hD h1).trans (by decide +kernel)
  have ro : q_rho as o = 74 := (q_D_rho hD h2).trans (by decide +kernel)
  obtain ⟨wo, _, hw⟩ := nx 1 1 (by decide) (by decide +kernel)
  obtain ⟨ce, _, hc⟩ := nx 2 2 (by decide) (by decide +kernel)
  obtain ⟨tb, e6, ht⟩ := nx 6 6 (by decide) (by decide +kernel)
  obtain ⟨en, e7, he⟩ := nx 7 7 (by decide) (by decide +kernel)
  obtain ⟨ab, e8, hab⟩ := nx 8 8 (by decide) (by decide +kernel)
  obtain ⟨fF, _, hF⟩ := nx 70 46 (by decide) (by decide +kernel)
  obtain ⟨fT, _, hT⟩ := nx 71 47 (by decide) (by decide +kernel)
  obtain ⟨fS, _, hS⟩ := nx 72 48 (by decide) (by decide +kernel)
  obtain ⟨fB, _, hB⟩ := nx 73 49 (by decide) (by decide +kernel)
  obtain ⟨fL, _, hL9⟩ := nx 74 50 (by decide) (by decide +kernel)
  have hA : v_Ad (q_rho as) as x wo ce tb en ab m fF fT fS fB fL := ⟨⟨mx, rx⟩, hw, hc, ht, he, hab, ⟨mm, rm⟩, hF, hT, hS, hB, hL9⟩
  have h00 : ∀ a, a ∈ as → ∀ k, q_I S a k = 0 := fun a ma k => by
    obtain ⟨i, hil, e⟩ := List.getElem_of_mem ma
    exact (hD.2.2.2 i a (by rw [List.getElem?_eq_getElem hil, e])).2.2.1 k
  obtain ⟨d1, d2⟩ := v_init hD e6 e7 e8
  have z0 : (0 : Int32).toInt = 0 := rfl
  have hR : v_Rl wo ce tb en ab m fF fT fS fB fL S := ⟨by rw [h00 wo hw.1, h00 m mm], fun k hk => by rw [h00 ce hc.1, h00 fF hF.1], by rw [h00 tb ht.1, h00 m mm], fun u hu => by rw [h00 m mm, z0] at hu; omega, h00 ab hab.1 3, h00 ab hab.1 4, d1, d2⟩
  obtain ⟨sg, e33, hsg⟩ := nx 33 9 (by decide) (by decide +kernel)
  have q8 : q_R S sg 8 = some ab := by rw [(hD.2.2.2 33 sg e33).2.2.2.2 8, show q_rf (q_tb q_TF 33).2.2 8 = some 8 by decide +kernel]; exact e8
  have q9 : q_R S sg 9 = some ab := by rw [(hD.2.2.2 33 sg e33).2.2.2.2 9, show q_rf (q_tb q_TF 33).2.2 9 = some 8 by decide +kernel]; exact e8
  have hR := v_Rw0 hA hI h00 hsg q8 q9 hR
  obtain ⟨r, T, e, hr⟩ := p_goL (xs := xs) (n := 18446744073709551616) (Nat.le_refl _) hL hA ⟨mo, ro⟩ 520 S 0 hI hR ⟨by decide, by decide⟩ (by decide)
  exact ⟨T, by rw [e, hr]⟩
