/-! VALUES: what read() leaves of the SIGNS, both sides -/
def M_R9 : List Nat := [2880, 2883, 2891, 2894, 2898, 2916, 3008, 3072, 3136, 3200, 3392, 3456]
section QWR
variable {ρ : Nat → Nat} {L M9 : List Nat} {n : Nat} {S S0 T : q_S} {x wo ce tb en t ab m fF fT fS fB fL sg uC us : Nat} {f : Nat → Int32} {s : Int}
theorem w_r70 (hn : 18446744073709551616 ≤ n) (hm : m ∈ L ∧ ρ m = 45) (hF : fF ∈ L ∧ ρ fF = 46) (hT : fT ∈ L ∧ ρ fT = 47) (hS : fS ∈ L ∧ ρ fS = 48) (hB : fB ∈ L ∧ ρ fB = 49) (hL : fL ∈ L ∧ ρ fL = 50) {l1 : Int32} {N : Nat} (h1 : l1.toInt = N) (hN : N ≤ 24) : ∀ (j k i : Nat) (S : q_S) (l2 : Int32), q_G ρ L M_R9 S0 S → q_I S fF = f → (q_I S m 2).toInt = s → (q_I S m 3).toInt = 0 → l2.toInt = i → i + j = N → (∀ u : Nat, u < i → v_okr f s u) → (∀ u, u < i → v_me f S fT fS fB fL u) → j < k →
    q_ok (m_X12_read_70 n k S (some m) l1 l2) (fun r T => q_G ρ L M_R9 S0 T ∧ ∃ q, v_q f s N q ∧ (q = N → r.toInt = N ∧ (q_I T m 3).toInt = N ∧ ∀ u, u < N → v_me f T fT fS fB fL u) ∧ (q < N → r.toInt = -1 - (q : Int) ∧ (q_I T m 3).toInt = 0)) := by
  intro j
  induction j with
  | zero =>
    intro k i S l2 hG hf hs h3 e2 ej hok hen hk
    obtain ⟨k, rfl⟩ : ∃ k', k = k' + 1 := ⟨k - 1, by omega⟩
    rw [m_X12_read_70, if_pos (i_le.mpr (by omega)), q_at_pos (k_m hG.1 hm)]
    have ei : i = N := by omega
    subst ei
    have hG2 := u_45_I3 (x := l1) hG hm.1 hm.2 (by decide) ⟨by omega, by omega⟩
    have z0 : (0 : Int32).toInt = 0 := rfl
    obtain ⟨r, T, e, er, g⟩ := v_r191 (S0 := q_sI S m 3 l1) hn hm hS (l1 := l1) (by omega) i n (q_sI S m 3 l1) 0 (q_G_refl hG2.1) (by decide) (by rw [z0]; omega) (by omega)
    subst er
    refine ⟨_, T, e, q_G_call hG2 g (by decide), i, ⟨Nat.le_refl _, hok, fun h => by omega⟩, fun _ => ⟨h1, by rw [q_unI g hm.1 hm.2 (by decide), q_hitI]; exact h1, fun u hu => v_me_un g hT hS hB hL (by decide) (by decide) (by decide) (by decide) ?_⟩, fun h => by omega⟩
    have h9 := hen u hu
    unfold v_me at *
    rw [q_skJI, q_skJI, q_fwI hB.2 hm.2 (by decide), q_fwI hL.2 hm.2 (by decide)]
    exact h9
  | succ j ih =>
    intro k i S l2 hG hf hs h3 e2 ej hok hen hk
    obtain ⟨k, rfl⟩ : ∃ k', k = k' + 1 := ⟨k - 1, by omega⟩
    have z0 : (0 : Int32).toInt = 0 := rfl
    have z1 : (1 : Int32).toInt = 1 := rfl
    have y4 : (4 : Int32).toInt = 4 := rfl
    have y8 : (8 : Int32).toInt = 8 := rfl
    have y12 : (12 : Int32).toInt = 12 := rfl
    have y16 : (16 : Int32).toInt = 16 := rfl
    have k1 : 0 ≤ l2.toInt := by omega
    have k2 : l2.toInt ≤ 23 := by omega
    have hsz := g_45_I2 hG hm.1 hm.2
    have P := q_rdP k1 k2
    generalize hp : (12 : Int32) + ((16 : Int32) * l2) = p at P
    have P4 : (p + (4 : Int32)).toInt = p.toInt + 4 := by rw [q_addI (by rw [y4]; omega) (by rw [y4]; omega), y4]
    have P8 : (p + (8 : Int32)).toInt = p.toInt + 8 := by rw [q_addI (by rw [y8]; omega) (by rw [y8]; omega), y8]
    have P12 : (p + (12 : Int32)).toInt = p.toInt + 12 := by rw [q_addI (by rw [y12]; omega) (by rw [y12]; omega), y12]
    have P16 : (p + (16 : Int32)).toInt = p.toInt + 16 := by rw [q_addI (by rw [y16]; omega) (by rw [y16]; omega), y16]
    have fo : ∀ (T : q_S) (q : Int32), q_Inv ρ L T → q_I T fF = f → 0 ≤ q.toInt → q.toInt ≤ 1596 → m_X12_fourAt n T m q = some (q_fo f q, T) := fun T q hI ef a1 a2 => by
      rw [← ef]
      exact q_fourAt_eq (k_m hI hm) (v_m1 hI hm hF) (k_F hI hF) (g_46_N (q_G_refl (m := []) hI) hF.1 hF.2) a1 a2
    have fv : ∀ q : Int32, 0 ≤ q.toInt → q.toInt ≤ 1596 → (q_fo f q).toInt = v_fo f q.toInt := fun q a1 a2 => by
      rw [← hf]; exact v_foM hG hF a1 a2
    have hb := v_fo_b (f := f) (fun k => by rw [← hf]; exact g_46_E hG hF.1 hF.2)
    rw [m_X12_read_70, hp, if_neg (fun h => by have := i_le.mp h; omega), q_at_pos (k_m hG.1 hm)]
    have ei : (i : Int) = l2.toInt := by omega
    by_cases g3 : (q_I S m 2).toInt < p.toInt + 16
    · rw [if_pos (i_lt.mpr (by rw [P16]; exact g3))]
      unfold m_X12_read_120
      have zm : (-1 : Int32).toInt = -1 := rfl
      exact q_ok_some ⟨hG, i, ⟨by omega, hok, fun _ h => by have := h.1; omega⟩, fun h => by omega, fun _ => ⟨by rw [q_subI (by rw [zm]; omega) (by rw [zm]; omega), zm, e2], h3⟩⟩
    rw [if_neg (fun h => g3 (by have := i_lt.mp h; rw [P16] at this; exact this))]
    have F0 := fv p (by omega) (by omega)
    have F4 := fv (p + 4) (by omega) (by omega)
    have F8 := fv (p + 8) (by omega) (by omega)
    have F12 := fv (p + 12) (by omega) (by omega)
    rw [P4] at F4
    rw [P8] at F8
    rw [P12] at F12
    have B0 := hb p.toInt
    have B4 := hb (p.toInt + 4)
    have B8 := hb (p.toInt + 8)
    have B12 := hb (p.toInt + 12)
    rw [fo S _ hG.1 hf (by omega) (by omega), q_b_some, q_at_pos (k_m hG.1 hm), fo S _ hG.1 hf (by omega) (by omega), q_b_some, q_at_pos (k_m hG.1 hm)]
    have eo : v_okr f s i ↔ v_fo f (p.toInt + 8) + v_fo f (p.toInt + 12) ≤ s := by
      unfold v_okr
      rw [ei, ← P]
      exact ⟨fun h => h.2, fun h => ⟨by omega, h⟩⟩
    have ev : (q_fo f (p + 8) + q_fo f (p + 12)).toInt = v_fo f (p.toInt + 8) + v_fo f (p.toInt + 12) := by rw [q_addJ (by omega) (by omega), F8, F12]
    by_cases g4 : v_fo f (p.toInt + 8) + v_fo f (p.toInt + 12) ≤ s
    · rw [if_pos (c_le.mpr (by rw [ev, q_wil, hs]; exact g4))]
      have v8 : (q_fo f (p + 8)).toInt32.toInt = (q_fo f (p + 8)).toInt := q_wli (by omega) (by omega)
      have v12 : (q_fo f (p + 12)).toInt32.toInt = (q_fo f (p + 12)).toInt := q_wli (by omega) (by omega)
      rw [F8] at v8
      rw [F12] at v12
      have hG1 := u_47_E (k := (l2).toNatClampNeg) (x := q_fo f p) hG hT.1 hT.2 (by decide) (by rw [F0]; exact B0)
      have hG2 := u_48_E (k := (l2).toNatClampNeg) (x := q_fo f (p + 4)) hG1 hS.1 hS.2 (by decide) (by rw [F4]; exact B4)
      have hN7 := q_inI (g_50_N hG2 hL.1 hL.2) k1 (by omega)
      have s6 := g_49_E hG2 hB.1 hB.2 (k := (l2).toNatClampNeg)
      have nBL : fB ≠ fL := fun e => by rw [e, hL.2] at hB; cases hB.2
      have hA := u_50_E (k := (l2).toNatClampNeg) (x := 0) hG2 hL.1 hL.2 (by decide) ⟨by decide, by decide⟩ (q_E1_len hG2 hL.1 hL.2 hB.1 hB.2 (by rw [z0]; omega))
      have hBB := u_49_E (k := (l2).toNatClampNeg) (x := (q_fo f (p + 8)).toInt32) hA hB.1 hB.2 (by decide) ⟨by omega, by omega⟩ (q_E1_st hA hB.1 hB.2 hL.1 hL.2 (by rw [q_hitI, z0]; omega))
      have hC := u_50_E (k := (l2).toNatClampNeg) (x := (q_fo f (p + 12)).toInt32) hBB hL.1 hL.2 (by decide) ⟨by omega, by omega⟩ (q_E1_len hBB hL.1 hL.2 hB.1 hB.2 (by rw [q_hitI]; omega))
      rw [q_sI3 nBL] at hC
      have km2 := k_m hG2.1 hm
      have kL2 := k_L hG2.1 hL
      have kF2 := k_F hG2.1 hF
      have vm1 := v_m1 hG2.1 hm hF
      have vm7 := v_m7 hG2.1 hm hL
      have kN2 := g_46_N hG2 hF.1 hF.2
      have fo3 : m_X12_fourAt n (q_sI (q_sJ (q_sJ S fT (l2).toNatClampNeg (q_fo f p)) fS (l2).toNatClampNeg (q_fo f (p + 4))) fB (l2).toNatClampNeg ((q_fo f (p + 8)).toInt32)) m (p + 12) = some (q_fo f (p + 12), (q_sI (q_sJ (q_sJ S fT (l2).toNatClampNeg (q_fo f p)) fS (l2).toNatClampNeg (q_fo f (p + 4))) fB (l2).toNatClampNeg ((q_fo f (p + 8)).toInt32))) := by
        have ef : q_I (q_sI (q_sJ (q_sJ S fT (l2).toNatClampNeg (q_fo f p)) fS (l2).toNatClampNeg (q_fo f (p + 4))) fB (l2).toNatClampNeg ((q_fo f (p + 8)).toInt32)) fF = f := by rw [← hf]; exact funext fun k => q_fwI hF.2 hB.2 (by decide)
        have h9 := q_fourAt_eq (n := n) (S := q_sI (q_sJ (q_sJ S fT (l2).toNatClampNeg (q_fo f p)) fS (l2).toNatClampNeg (q_fo f (p + 4))) fB (l2).toNatClampNeg ((q_fo f (p + 8)).toInt32)) (o := m) (b := fF) (p0 := p + 12) (q_in9 km2) (q_R9 vm1) (q_in9 kF2) (q_N9 kN2) (by omega) (by omega)
        rw [ef] at h9
        exact h9
      rw [fo S _ hG.1 hf (by omega) (by omega), q_b_some, v_m4 hG.1 hm hT, q_at_pos (k_T hG.1 hT), q_if_pos (q_inI (g_47_N hG hT.1 hT.2) k1 (by omega)), q_at_pos (k_m hG1.1 hm), fo _ _ hG1.1 hf (by omega) (by omega), q_b_some, v_m5 hG1.1 hm hS, q_at_pos (k_S hG1.1 hS), q_if_pos (q_inI (g_48_N hG1 hS.1 hS.2) k1 (by omega)), q_at_pos (k_m hG2.1 hm), fo _ _ hG2.1 hf (by omega) (by omega), q_b_some, v_m6 hG2.1 hm hB, q_at_pos (k_B hG2.1 hB), q_if_pos (q_inI (g_49_N hG2 hB.1 hB.2) k1 (by omega)), q_at_pos (q_in9 km2), fo3, q_b_some, q_R9 vm7, q_at_pos (q_in9 kL2), q_if_pos (q_inI (q_N9 (g_50_N hG2 hL.1 hL.2)) k1 (by omega))]
      have ho := eo.mpr g4
      have ec : (l2).toNatClampNeg = i := by rw [v_cl e2]; rfl
      have nmB : m ≠ fB := fun e => by rw [e, hB.2] at hm; cases hm.2
      have nmL : m ≠ fL := fun e => by rw [e, hL.2] at hm; cases hm.2
      refine ih k (i + 1) _ (l2 + 1) hC ?_ ?_ ?_ (by rw [q_addI (by rw [z1]; omega) (by rw [z1]; omega), z1, e2]; rfl) (by omega) (fun u hu => ?_) (fun u hu => ?_) (by omega)
      · rw [← hf]; exact funext fun k => (q_fwI hF.2 hL.2 (by decide)).trans (q_fwI hF.2 hB.2 (by decide))
      · rw [q_fwI hm.2 hL.2 (by decide), q_fwI hm.2 hB.2 (by decide)]; exact hs
      · rw [q_fwI hm.2 hL.2 (by decide), q_fwI hm.2 hB.2 (by decide)]; exact h3
      · by_cases e : u = i
        · rw [e]; exact ho
        · exact hok u (by omega)
      · unfold v_me
        rw [ec]
        by_cases e : u = i
        · subst e
          rw [q_skJI, q_skJI, q_skJI, q_skJI, q_fwJ hT.2 hS.2 (by decide), q_hitJ, q_hitJ, q_fwI hB.2 hL.2 (by decide), q_hitI, q_hitI, v8, v12, F0, F4, ei, P]
          exact ⟨rfl, rfl, rfl, rfl⟩
        · have h9 := hen u (by omega)
          unfold v_me at h9
          rw [q_skJI, q_skJI, q_skJI, q_skJI, q_ffJ e, q_ffJ e, q_ffJ e, q_ffJ e, q_ffI e, q_ffI e, q_ffI e, q_ffI e]
          exact h9
    · rw [if_neg (fun h => g4 (by have := c_le.mp h; rw [ev, q_wil, hs] at this; exact this))]
      unfold m_X12_read_120
      have zm : (-1 : Int32).toInt = -1 := rfl
      exact q_ok_some ⟨hG, i, ⟨by omega, hok, fun _ h => g4 (eo.mp h)⟩, fun h => by omega, fun _ => ⟨by rw [q_subI (by rw [zm]; omega) (by rw [zm]; omega), zm, e2], h3⟩⟩
theorem r_readU (hn : 18446744073709551616 ≤ n) (hI : q_Inv ρ L S) (hm : m ∈ L ∧ ρ m = 45) (hF : fF ∈ L ∧ ρ fF = 46) (hT : fT ∈ L ∧ ρ fT = 47) (hS : fS ∈ L ∧ ρ fS = 48) (hB : fB ∈ L ∧ ρ fB = 49) (hL : fL ∈ L ∧ ρ fL = 50) (hus : us ∈ L ∧ ρ us = 51) : q_ok (m_X12_read n S m) (fun r T => ∀ k : Nat, k < 200 → q_I T us k = 0) := by
  have hG0 : q_G ρ L M_X12_read_45 S S := q_G_refl hI
  have z0 : (0 : Int32).toInt = 0 := rfl
  have z1 : (1 : Int32).toInt = 1 := rfl
  have y12 : (12 : Int32).toInt = 12 := rfl
  have y24 : (24 : Int32).toInt = 24 := rfl
  have hf : ∀ k, 0 ≤ (q_I S fF k).toInt ∧ (q_I S fF k).toInt ≤ 255 := fun k => g_46_E hG0 hF.1 hF.2
  have hsz := g_45_I2 hG0 hm.1 hm.2
  unfold m_X12_read
  rw [q_at_pos (k_m hI hm)]
  have hG1 := u_45_I0 (x := 0) hG0 hm.1 hm.2 (by decide) ⟨by decide, by decide⟩
  refine q_ok_b (s_X12_forgetRun_45 hn hG1.1 hm.1 hm.2) (fun _ T2 hT2 => ?_)
  obtain ⟨g2, -⟩ := hT2
  have hG2 := q_G_call hG1 g2 (by decide)
  rw [q_at_pos (k_m hG2.1 hm)]
  have hG3 := u_45_I3 (x := 0) hG2 hm.1 hm.2 (by decide) ⟨by decide, by decide⟩
  have eF : q_I (q_sI T2 m 3 0) fF = q_I S fF := funext fun k => by rw [q_fwI hF.2 hm.2 (by decide), q_unIA g2 hF.1 hF.2 (by decide) (by decide), q_fwI hF.2 hm.2 (by decide)]
  have eM : q_I (q_sI T2 m 3 0) m 2 = q_I S m 2 := by rw [q_ffI (by decide), q_unI g2 hm.1 hm.2 (by decide), q_ffI (by decide)]
  have e3 : (q_I (q_sI T2 m 3 0) m 3).toInt = 0 := by rw [q_hitI]; rfl
  have fin70 : ∀ (U : q_S) (r : Int32), q_Inv ρ L U → q_I U fF = q_I S fF → q_I U m 2 = q_I S m 2 → (q_I U m 3).toInt = 0 → 12 ≤ (q_I S m 2).toInt → r.toInt = (v_nt (q_I S fF) : Int) → (∀ k : Nat, k < 200 → q_I U us k = 0) → q_ok (m_X12_read_70 n n U (some m) r 0) (fun r T => ∀ k : Nat, k < 200 → q_I T us k = 0) := by
    intro U r hU a1 a2 a3 a4 a5 a6
    obtain ⟨r2, T, e, b1, -⟩ := w_r70 (S0 := U) (f := q_I S fF) (s := (q_I S m 2).toInt) hn hm hF hT hS hB hL a5 (by unfold v_nt; omega) (v_nt (q_I S fF)) n 0 U 0 (q_G_refl hU) a1 (by rw [a2]) a3 rfl (by omega) (fun u hu => by omega) (fun u hu => by omega) (by unfold v_nt; omega)
    exact ⟨r2, T, e, fun k hk => by rw [q_unIA b1 hus.1 hus.2 (by decide) (by decide)]; exact a6 k hk⟩
  have fin : ∀ (k : Nat) (U : q_S) (l1 : Int32), q_G ρ L M_X12_read_45 S U → q_I U fF = q_I S fF → q_I U m 2 = q_I S m 2 → (q_I U m 3).toInt = 0 → 0 ≤ l1.toInt → l1.toInt ≤ 200 → 200 - l1.toInt < k → (∀ q : Nat, (q : Int) < l1.toInt → q_I U us q = 0) → q_ok (m_X12_read_16 n k U (some m) l1) (fun r T => ∀ k : Nat, k < 200 → q_I T us k = 0) := by
    intro k
    induction k with
    | zero =>
      intro U l1 hU a1 a2 a3 a4 a6 a5 a7
      exfalso
      omega
    | succ k ih =>
      intro U l1 hU a1 a2 a3 a4 a6 a5 a7
      have y200 : (200 : Int32).toInt = 200 := rfl
      rw [m_X12_read_16]
      refine q_ok_ite (fun g => ?_) (fun g => ?_)
      · have g9 := i_le.mp g
        rw [y200] at g9
        have a8 : ∀ q : Nat, q < 200 → q_I U us q = 0 := fun q hq => a7 q (by omega)
        rw [q_at_pos (k_m hU.1 hm), a2]
        by_cases g2 : (12 : Int) ≤ (q_I S m 2).toInt
        · rw [if_pos (i_le.mpr (by rw [y12]; exact g2))]
          obtain ⟨r, T, e, eT, -, hv⟩ := s_X12_twoAt_45 hn hU.1 hm.1 hm.2 (p0 := 4) ⟨by decide, by decide⟩
          subst eT
          have hv := q_smE hv
          rw [q_fEe (v_m1 hU.1 hm hF), q_fEe (v_m1 hU.1 hm hF), a1] at hv
          have hv : r.toInt = 256 * (q_I S fF 4).toInt + (q_I S fF 5).toInt := hv
          have f4 := hf 4
          have f5 := hf 5
          refine q_ok_bE e ?_
          by_cases g3 : r.toInt ≤ 24
          · rw [if_pos (i_le.mpr (by rw [y24]; exact g3)), q_at_pos (k_m hU.1 hm)]
            refine q_ok_bE e ?_
            unfold m_X12_read_67
            exact fin70 _ r hU.1 a1 a2 a3 g2 (by unfold v_nt; omega) a8
          · rw [if_neg (fun h => g3 (by have := i_le.mp h; rw [y24] at this; exact this))]
            unfold m_X12_read_67
            exact fin70 _ 24 hU.1 a1 a2 a3 g2 (by unfold v_nt; rw [y24]; omega) a8
        · rw [if_neg (fun h => g2 (by have := i_le.mp h; rw [y12] at this; exact this))]
          exact q_ok_some a8
      · have g2 := mt i_le.mpr g
        rw [y200] at g2
        have e9 : q_R U m 9 = some us := v_ln hU.1 (g_45_R9 hU hm.1 hm.2) hus rfl
        rw [q_at_pos (k_m hU.1 hm), e9, q_at_pos (v_at (c := 102) hU.1 hus rfl)]
        refine q_ok_if (q_inI (g_51_N hU hus.1 hus.2) a4 (by omega)) ?_
        have e1 : (l1 + 1).toInt = l1.toInt + 1 := by rw [q_addI (by rw [z1]; omega) (by rw [z1]; omega), z1]
        have hU2 := u_51_E (k := (l1).toNatClampNeg) (x := vp_nar .boolean 0) hU hus.1 hus.2 (by decide) ⟨by decide, by decide⟩
        refine ih _ (l1 + 1) hU2 (by rw [← a1]; exact funext fun k => q_fwI hF.2 hus.2 (by decide)) (by rw [q_fwI hm.2 hus.2 (by decide)]; exact a2) (by rw [q_fwI hm.2 hus.2 (by decide)]; exact a3) (by omega) (by omega) (by omega) (fun q hq => ?_)
        by_cases e : q = l1.toNatClampNeg
        · rw [e, q_hitI]; rfl
        · rw [q_ffI e]
          exact a7 q (by have : ((l1.toNatClampNeg : Nat) : Int) = l1.toInt := by rw [v_cl (i := l1) rfl]; omega
                         omega)
  exact fin n _ 0 hG3 eF eM e3 (by decide) (by decide) (by rw [z0]; omega) (fun q hq => by rw [z0] at hq; omega)
/-- a TWO of a TABLE of the one side -/
def w_V (S : q_S) (ce t : Nat) (i : Int) : Int := v_tw (q_I S ce) (q_I S t 3).toInt (q_I S t 4).toInt i
theorem v_isc_uq {tag : Int64} {t u : Nat} (h : v_isc S tb en tag t) (h2 : v_isc S tb en tag u) : t = u := by
  by_cases g : 0 ≤ (q_fdl (c_tag S en) tag (q_I S tb 3).toInt.toNat 0).toInt ∧ (q_fdl (c_tag S en) tag (q_I S tb 3).toInt.toNat 0).toInt < (q_I S tb 3).toInt
  · exact Option.some.inj ((h.1 g).symm.trans (h2.1 g))
  · exact Option.some.inj ((h.2 g).symm.trans (h2.2 g))
theorem w_first (hn : 18446744073709551616 ≤ n) (hI : q_Inv ρ L S) (g : q_G ρ L M9 S T) (ht : tb ∈ L ∧ ρ tb = 6) (he : en ∈ L ∧ ρ en = 7) (hf : v_frc M9 = true) {tag : Int64} (h : v_isc S tb en tag t) : m_X8_first n T tb tag = some (t, T) := by
  obtain ⟨u, e, -, h2⟩ := v_firstc (n := n) (tag := tag) hn g.1 ht he
  rw [e, v_isc_uq h2 (v_isc_un hI g ht he hf h)]
theorem w_load (hn : 18446744073709551616 ≤ n) (hI : q_Inv ρ L S) (hs : sg ∈ L ∧ ρ sg = 9) (hu : uC ∈ L ∧ ρ uC = 10) (hw : wo ∈ L ∧ ρ wo = 1) (hc : ce ∈ L ∧ ρ ce = 2) (ht : tb ∈ L ∧ ρ tb = 6) (he : en ∈ L ∧ ρ en = 7) (hz : ∀ (tag : Int64) (t : Nat), (t ∈ L ∧ ρ t = 8) → v_isc S tb en tag t → (q_I S t 3).toInt + (q_I S t 4).toInt ≤ (q_I S wo 1).toInt) : ∃ T, m_X6_load n S sg = some ((), T) ∧ q_G ρ L M_X6_load_9 S T ∧ ∃ t tH tl tg, ((t ∈ L ∧ ρ t = 8) ∧ v_isc S tb en 1835104368 t) ∧ ((tH ∈ L ∧ ρ tH = 8) ∧ v_isc S tb en 1751474532 tH) ∧ ((tl ∈ L ∧ ρ tl = 8) ∧ v_isc S tb en 1819239265 tl) ∧ ((tg ∈ L ∧ ρ tg = 8) ∧ v_isc S tb en 1735162214 tg) ∧ (q_I T sg 6 = 0 ↔ w_V S ce t 4 ≤ 200) ∧ q_I T sg 7 = (if w_V S ce tH 50 = 1 then 1 else 0) ∧ q_R T sg 8 = some tl ∧ q_R T sg 9 = some tg ∧ q_I T sg 4 = 0 ∧ ∀ k : Nat, k < 200 → q_I T uC k = 0 := by
  have hG0 : q_G ρ L M_X6_load_9 S S := q_G_refl hI
  have y0 : (0 : Int32).toInt = 0 := rfl
  have y1 : (1 : Int32).toInt = 1 := rfl
  have y200 : (200 : Int32).toInt = 200 := rfl
  have y4 : (4 : Int64).toInt = 4 := rfl
  have y50 : (50 : Int64).toInt = 50 := rfl
  have lk : ∀ U : q_S, q_Inv ρ L U → q_R U sg 0 = some tb := fun U hU => v_ln hU (g_9_R0 (q_G_refl (m := []) hU) hs.1 hs.2) ht rfl
  have l2 : ∀ U : q_S, q_Inv ρ L U → q_R U sg 2 = some uC := fun U hU => v_ln hU (g_9_R2 (q_G_refl (m := []) hU) hs.1 hs.2) hu rfl
  have k9 : ∀ U : q_S, q_Inv ρ L U → sg ∈ q_L U ∧ q_K U sg = 7 := fun U hU => v_at hU hs rfl
  obtain ⟨t, et, h8, hi⟩ := v_firstc (n := n) (tag := 1835104368) hn hI ht he
  obtain ⟨tH, -, h8H, hiH⟩ := v_firstc (n := n) (tag := 1751474532) hn hI ht he
  obtain ⟨tl, -, h8l, hil⟩ := v_firstc (n := n) (tag := 1819239265) hn hI ht he
  obtain ⟨tg, -, h8g, hig⟩ := v_firstc (n := n) (tag := 1735162214) hn hI ht he
  obtain ⟨r7, e7, v7⟩ := v_ttwo (n := n) (i := 4) hI hw hc h8 (hz _ t h8 hi) (by decide)
  rw [y4] at v7
  obtain ⟨r10, T10, e10, eT10, c1, c2, c3⟩ := s_J9_min_7cf53 n S 200 r7
  subst eT10
  obtain ⟨r13, T13, e13, eT13, d1, d2, d3⟩ := s_J9_max_7cf53 n T10 0 r10
  subst eT13
  have hb13 : 0 ≤ r13.toInt ∧ r13.toInt ≤ 200 := by
    rw [y200] at c1 c2
    rw [y0] at d1 d2
    omega
  have hG1 := u_9_I5 (x := r13) hG0 hs.1 hs.2 (by decide) hb13
  -- the used ones
  have l112 : ∀ (U : q_S) (j k i : Nat) (V : q_S) (l2' : Int32), q_G ρ L [640] U V → l2'.toInt = i → i + j = 200 → j < k → (∀ q, q < i → q_I V uC q = 0) → ∃ T, m_X6_load_112 n k V (some sg) l2' = some ((), T) ∧ q_G ρ L [640] U T ∧ ∀ q, q < 200 → q_I T uC q = 0 := by
    intro U j
    induction j with
    | zero =>
      intro k i V l2' hV h2 hj hk hq
      obtain ⟨k, rfl⟩ : ∃ k', k = k' + 1 := ⟨k - 1, by omega⟩
      rw [m_X6_load_112, if_pos (i_le.mpr (by rw [y200]; omega))]
      exact ⟨V, rfl, hV, fun q h9 => hq q (by omega)⟩
    | succ j ih =>
      intro k i V l2' hV h2 hj hk hq
      obtain ⟨k, rfl⟩ : ∃ k', k = k' + 1 := ⟨k - 1, by omega⟩
      have e1 : (l2' + 1).toInt = ((i + 1 : Nat) : Int) := by rw [q_addI (by rw [y1]; omega) (by rw [y1]; omega), y1, h2]; rfl
      have ec : l2'.toNatClampNeg = i := by rw [v_cl h2]; rfl
      rw [m_X6_load_112, if_neg (fun h => by have := i_le.mp h; rw [y200] at this; omega), q_at_pos (k9 V hV.1), l2 _ hV.1, q_at_pos (v_at (c := 102) hV.1 hu rfl), q_if_pos (q_inI (g_10_N hV hu.1 hu.2) (by omega) (by omega)), ec]
      refine ih k (i + 1) _ (l2' + 1) (u_10_E (k := i) (x := vp_nar .boolean 0) hV hu.1 hu.2 (by decide) ⟨by decide, by decide⟩) e1 (by omega) (by omega) (fun q h9 => ?_)
      by_cases e : q = i
      · rw [e, q_hitI]; rfl
      · rw [q_ffI e]; exact hq q (by omega)
  have fin : ∀ c : Int32, (c = 0 ∨ c = 1) → (c = 0 ↔ w_V T13 ce t 4 ≤ 200) → ∃ T, m_X6_load_45 n (q_sI T13 sg 5 r13) (some sg) c (some sg) = some ((), T) ∧ q_G ρ L M_X6_load_9 T13 T ∧ (q_I T sg 6 = 0 ↔ w_V T13 ce t 4 ≤ 200) ∧ q_I T sg 7 = (if w_V T13 ce tH 50 = 1 then 1 else 0) ∧ q_R T sg 8 = some tl ∧ q_R T sg 9 = some tg ∧ q_I T sg 4 = 0 ∧ ∀ k : Nat, k < 200 → q_I T uC k = 0 := by
    intro c hc' hcv
    have hcb : 0 ≤ c.toInt ∧ c.toInt ≤ 1 := by rcases hc' with e | e <;> rw [e] <;> decide
    have hG2 := u_9_I6 (x := c) hG1 hs.1 hs.2 (by decide) hcb
    have eH := w_first (n := n) hn hI hG2 ht he (by decide) hiH
    have ec2 : q_I (q_sI (q_sI T13 sg 5 r13) sg 6 c) ce = q_I T13 ce := funext fun k => q_unIA hG2 hc.1 hc.2 (by decide) (by decide)
    have f3 : q_I (q_sI (q_sI T13 sg 5 r13) sg 6 c) tH 3 = q_I T13 tH 3 := q_unI hG2 h8H.1 h8H.2 (by decide)
    have f4 : q_I (q_sI (q_sI T13 sg 5 r13) sg 6 c) tH 4 = q_I T13 tH 4 := q_unI hG2 h8H.1 h8H.2 (by decide)
    have fw : q_I (q_sI (q_sI T13 sg 5 r13) sg 6 c) wo 1 = q_I T13 wo 1 := q_unI hG2 hw.1 hw.2 (by decide)
    obtain ⟨r9, e9, v9⟩ := v_ttwo (n := n) (i := 50) hG2.1 hw hc h8H (by rw [f3, f4, fw]; exact hz _ tH h8H hiH) (by decide)
    rw [ec2, f3, f4, y50] at v9
    have v9 : r9.toInt = w_V T13 ce tH 50 := v9
    have l74 : ∀ d : Int32, (d = 0 ∨ d = 1) → d = (if w_V T13 ce tH 50 = 1 then 1 else 0) → ∃ T, m_X6_load_74 n (q_sI (q_sI T13 sg 5 r13) sg 6 c) (some sg) d (some sg) = some ((), T) ∧ q_G ρ L M_X6_load_9 T13 T ∧ (q_I T sg 6 = 0 ↔ w_V T13 ce t 4 ≤ 200) ∧ q_I T sg 7 = (if w_V T13 ce tH 50 = 1 then 1 else 0) ∧ q_R T sg 8 = some tl ∧ q_R T sg 9 = some tg ∧ q_I T sg 4 = 0 ∧ ∀ k : Nat, k < 200 → q_I T uC k = 0 := by
      intro d hd hdv
      have hG3 := u_9_I7 (x := d) hG2 hs.1 hs.2 (by decide) (by rcases hd with e | e <;> rw [e] <;> decide)
      have eL := w_first (n := n) hn hI hG3 ht he (by decide) hil
      have hG4 := u_9_R8 (x := some tl) hG3 hs.1 hs.2 (by decide) (q_trI h8l.1 h8l.2)
      have eG := w_first (n := n) hn hI hG4 ht he (by decide) hig
      have hG5 := u_9_R9 (x := some tg) hG4 hs.1 hs.2 (by decide) (q_trI h8g.1 h8g.2)
      have hG6 := u_9_I4 (x := 0) hG5 hs.1 hs.2 (by decide) ⟨by decide, by decide⟩
      obtain ⟨T, e, g, hT⟩ := l112 (q_sI (q_sR (q_sR (q_sI (q_sI (q_sI T13 sg 5 r13) sg 6 c) sg 7 d) sg 8 (some tl)) sg 9 (some tg)) sg 4 0) 200 n 0 _ 0 (q_G_refl hG6.1) rfl (by omega) (by omega) (fun q h => by omega)
      refine ⟨T, ?_, q_G_call hG6 g (by decide), ?_, ?_, ?_, ?_, ?_, hT⟩
      · unfold m_X6_load_74
        rw [q_at_pos (k9 _ hG2.1), q_if_pos hd, q_at_pos (k9 _ hG3.1), lk _ hG3.1, q_at_pos (k_t hG3.1 ht), eL, q_b_some, q_at_pos (k9 _ hG3.1), lk _ hG4.1, q_at_pos (k_t hG4.1 ht), eG, q_b_some, q_at_pos (k9 _ hG4.1)]
        exact e
      · rw [q_unI g hs.1 hs.2 (by decide), q_ffI (by decide)]
        show q_I (q_sI (q_sI (q_sI T13 sg 5 r13) sg 6 c) sg 7 d) sg 6 = 0 ↔ _
        rw [q_ffI (by decide), q_hitI]
        exact hcv
      · rw [q_unI g hs.1 hs.2 (by decide), q_ffI (by decide)]
        show q_I (q_sI (q_sI (q_sI T13 sg 5 r13) sg 6 c) sg 7 d) sg 7 = _
        rw [q_hitI]
        exact hdv
      · rw [q_unR g hs.1 hs.2 (by decide)]
        show q_R (q_sR (q_sR (q_sI (q_sI (q_sI T13 sg 5 r13) sg 6 c) sg 7 d) sg 8 (some tl)) sg 9 (some tg)) sg 8 = _
        rw [q_ffR (by decide), q_hitR]
      · rw [q_unR g hs.1 hs.2 (by decide)]
        show q_R (q_sR (q_sR (q_sI (q_sI (q_sI T13 sg 5 r13) sg 6 c) sg 7 d) sg 8 (some tl)) sg 9 (some tg)) sg 9 = _
        rw [q_hitR]
      · rw [q_unI g hs.1 hs.2 (by decide), q_hitI]
    unfold m_X6_load_45
    rw [q_at_pos (k9 _ hG1.1), q_if_pos hc', q_at_pos (k9 _ hG2.1), lk _ hG2.1, q_at_pos (k_t hG2.1 ht), eH, q_b_some, q_at_pos (k_8 hG2.1 h8H), e9, q_b_some]
    by_cases g1 : r9 = 1
    · rw [if_pos g1]
      exact l74 1 (Or.inr rfl) (by rw [if_pos (by rw [← v9, g1]; rfl)])
    · rw [if_neg g1]
      exact l74 0 (Or.inl rfl) (by rw [if_neg (fun h => g1 (i_eq.mpr (by rw [v9, h]; rfl)))])
  have fin2 : ∃ T, m_X6_load n T13 sg = some ((), T) ∧ q_G ρ L M_X6_load_9 T13 T ∧ (q_I T sg 6 = 0 ↔ w_V T13 ce t 4 ≤ 200) ∧ q_I T sg 7 = (if w_V T13 ce tH 50 = 1 then 1 else 0) ∧ q_R T sg 8 = some tl ∧ q_R T sg 9 = some tg ∧ q_I T sg 4 = 0 ∧ ∀ k : Nat, k < 200 → q_I T uC k = 0 := by
    unfold m_X6_load
    rw [q_at_pos (k9 _ hI), lk _ hI, q_at_pos (k_t hI ht), et, q_b_some, q_at_pos (k_8 hI h8), e7, q_b_some, e10, q_b_some, e13, q_b_some, q_at_pos (k9 _ hI)]
    by_cases g1 : r7.toInt ≤ 200
    · rw [if_pos (i_le.mpr (by rw [y200]; exact g1))]
      exact fin 0 (Or.inl rfl) ⟨fun _ => by unfold w_V; rw [← v7]; exact g1, fun _ => rfl⟩
    · rw [if_neg (fun h => g1 (by have := i_le.mp h; rw [y200] at this; exact this))]
      exact fin 1 (Or.inr rfl) ⟨fun h => absurd h (by decide), fun h => absurd (by unfold w_V at h; rw [← v7] at h; exact h) g1⟩
  obtain ⟨T, e, g, b1, b2, b3, b4, b5, b6⟩ := fin2
  exact ⟨T, e, g, t, tH, tl, tg, ⟨h8, hi⟩, ⟨h8H, hiH⟩, ⟨h8l, hil⟩, ⟨h8g, hig⟩, b1, b2, b3, b4, b5, b6⟩
end QWR
