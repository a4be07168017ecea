/-! VALUES: add() -/
def v_sh (w : Int64) (i : Int32) : Int32 := (w >>> ((((8 : Int32) * i)).toInt64 &&& 63)).toInt32 &&& 255
theorem v_shM (w : Int64) (i : Int32) : ((w >>> ((((8 : Int32) * i)).toInt64 &&& 63)) &&& (255 : Int64)).toInt32 = v_sh w i := by
  unfold v_sh
  rw [Int64.toInt32_and]
  rfl
section QVB
variable {ρ : Nat → Nat} {L M9 : List Nat} {n : Nat} {S S0 T : q_S} {x wo ce m fF : Nat} {B : Nat → Int32} {w : Int64} {p : Int32} {s : Int}
theorem v_pu (hI : q_Inv ρ L S) (hw : wo ∈ L ∧ ρ wo = 1) (hc : ce ∈ L ∧ ρ ce = 2) {v : Int32} (h : (q_I S wo 1).toInt < 1600) : m_X4_push n S wo v = some ((), q_sI (q_sI S ce (q_I S wo 1).toNatClampNeg (v &&& (255 : Int32))) wo 1 ((q_I S wo 1) + (1 : Int32))) := by
  have hG : q_G ρ L [] S S := q_G_refl hI
  have hs := g_1_I1 hG hw.1 hw.2
  have hN := g_2_N hG hc.1 hc.2
  have hl : (nI (q_N S ce)).toInt = 1600 := q_lenI hN (by decide)
  have e1 : q_I (q_sI S ce (q_I S wo 1).toNatClampNeg (v &&& (255 : Int32))) wo 1 = q_I S wo 1 := q_fwI hw.2 hc.2 (by decide)
  unfold m_X4_push m_X4_push_36
  rw [q_at_pos (k_w hI hw), v_w0 hI hw hc, q_at_pos (k_c hI hc), if_neg (fun h9 => by have := i_le.mp h9; omega), q_if_pos (q_inI hN (by omega) (by omega)), e1]
theorem v_aC (hx : x ∈ L ∧ ρ x = 0) (hw : wo ∈ L ∧ ρ wo = 1) (hc : ce ∈ L ∧ ρ ce = 2) (hp : p.toInt ≤ 8) (hs0 : 0 ≤ s) (hsp : s + p.toInt ≤ 1600) (hB : ∀ i : Int32, 0 ≤ i.toInt → i.toInt < p.toInt → B (s + i.toInt).toNat = v_sh w i) : ∀ (j k : Nat) (S : q_S) (l4 : Int32), q_G ρ L M_X11_add_0 S0 S → 0 ≤ l4.toInt → p.toInt = l4.toInt + j → (q_I S wo 1).toInt = s + l4.toInt → (∀ k : Nat, (k : Int) < s + l4.toInt → q_I S ce k = B k) → j < k → q_ok (m_X11_add_31 n k S (some x) w p l4) (fun r T => q_G ρ L M_X11_add_0 S0 T ∧ r = q_I T wo 1 ∧ (q_I T wo 1).toInt = s + p.toInt ∧ ∀ k : Nat, (k : Int) < s + p.toInt → q_I T ce k = B k) := by
  intro j
  induction j with
  | zero =>
    intro k S l4 hG e1 e2 e3 e4 hk
    obtain ⟨k, rfl⟩ : ∃ k', k = k' + 1 := ⟨k - 1, by omega⟩
    rw [m_X11_add_31, if_pos (i_le.mpr (by omega)), q_at_pos (k_x hG.1 hx), v_x0 hG.1 hx hw, q_at_pos (k_w hG.1 hw), v_sz hG.1 hw, q_b_some]
    have e5 : l4.toInt = p.toInt := by omega
    rw [e5] at e3 e4
    exact q_ok_some ⟨hG, rfl, e3, e4⟩
  | succ j ih =>
    intro k S l4 hG e1 e2 e3 e4 hk
    obtain ⟨k, rfl⟩ : ∃ k', k = k' + 1 := ⟨k - 1, by omega⟩
    have z1 : (1 : Int32).toInt = 1 := rfl
    have z255 : (255 : Int32).toInt = 255 := rfl
    rw [m_X11_add_31, if_neg (fun h9 => by have := i_le.mp h9; omega), q_at_pos (k_x hG.1 hx), v_x0 hG.1 hx hw, q_at_pos (k_w hG.1 hw), v_pu hG.1 hw hc (by omega), q_b_some]
    have hb := q_andRI (x := (w >>> ((((8 : Int32) * l4)).toInt64 &&& 63)).toInt32) (y := 255) (by decide)
    rw [z255] at hb
    have ea : ((q_I S wo 1) + (1 : Int32)).toInt = (q_I S wo 1).toInt + 1 := by rw [q_addI (by rw [z1]; omega) (by rw [z1]; omega), z1]
    have el : (l4 + 1).toInt = l4.toInt + 1 := by rw [q_addI (by rw [z1]; omega) (by rw [z1]; omega), z1]
    have hG1 := u_2_E (k := (q_I S wo 1).toNatClampNeg) (x := (w >>> ((((8 : Int32) * l4)).toInt64 &&& 63)).toInt32 &&& (255 : Int32)) hG hc.1 hc.2 (by decide) hb
    have hG2 := u_1_I1 (x := (q_I S wo 1) + (1 : Int32)) hG1 hw.1 hw.2 (by decide) ⟨by omega, by omega⟩
    refine ih k _ (l4 + 1) hG2 (by omega) (by omega) (by rw [q_hitI]; omega) (fun k2 hk2 => ?_) (by omega)
    rw [q_fwI hc.2 hw.2 (by decide)]
    have ec : (q_I S wo 1).toNatClampNeg = (s + l4.toInt).toNat := v_cl e3
    rw [ec]
    by_cases e : k2 = (s + l4.toInt).toNat
    · rw [e, q_hitI, hB l4 e1 (by omega)]; rfl
    · rw [q_ffI e]; exact e4 k2 (by omega)
theorem v_addC (hn : 18446744073709551616 ≤ n) (hI : q_Inv ρ L S) (hx : x ∈ L ∧ ρ x = 0) (hw : wo ∈ L ∧ ρ wo = 1) (hc : ce ∈ L ∧ ρ ce = 2) (hB : ∀ i : Int32, 0 ≤ i.toInt → i.toInt < p.toInt → B ((q_I S wo 1).toInt + i.toInt).toNat = v_sh w i) (hB0 : ∀ k : Nat, (k : Int) < (q_I S wo 1).toInt → q_I S ce k = B k) : q_ok (m_X11_add n S x w p) (fun r T => q_G ρ L M_X11_add_0 S T ∧ (1 ≤ p.toInt ∧ p.toInt ≤ 8 ∧ (q_I S wo 1).toInt + p.toInt ≤ 1600 → r = q_I T wo 1 ∧ (q_I T wo 1).toInt = (q_I S wo 1).toInt + p.toInt ∧ ∀ k : Nat, (k : Int) < (q_I S wo 1).toInt + p.toInt → q_I T ce k = B k) ∧ (¬ (1 ≤ p.toInt ∧ p.toInt ≤ 8 ∧ (q_I S wo 1).toInt + p.toInt ≤ 1600) → r = -1 ∧ T = S)) := by
  have hG : q_G ρ L M_X11_add_0 S S := q_G_refl hI
  have z1 : (1 : Int32).toInt = 1 := rfl
  have z8 : (8 : Int32).toInt = 8 := rfl
  have z0 : (0 : Int32).toInt = 0 := rfl
  have z1600 : (1600 : Int32).toInt = 1600 := rfl
  have hs := g_1_I1 hG hw.1 hw.2
  unfold m_X11_add m_X11_add_26
  by_cases g1 : p.toInt < 1
  · rw [if_pos (i_lt.mpr (by rw [z1]; exact g1))]
    exact q_ok_some ⟨hG, fun h => by omega, fun _ => ⟨rfl, rfl⟩⟩
  rw [if_neg (fun h => g1 (by have := i_lt.mp h; rw [z1] at this; exact this))]
  by_cases g2 : 8 < p.toInt
  · rw [if_pos (i_lt.mpr (by rw [z8]; exact g2))]
    exact q_ok_some ⟨hG, fun h => by omega, fun _ => ⟨rfl, rfl⟩⟩
  rw [if_neg (fun h => g2 (by have := i_lt.mp h; rw [z8] at this; exact this)), q_at_pos (k_x hI hx), v_x0 hI hx hw, q_at_pos (k_w hI hw), v_sz hI hw, q_b_some]
  have es : ((q_I S wo 1) + p).toInt = (q_I S wo 1).toInt + p.toInt := q_addI (by omega) (by omega)
  by_cases g3 : (q_I S wo 1).toInt + p.toInt ≤ 1600
  · rw [if_pos (i_le.mpr (by rw [es, z1600]; exact g3))]
    obtain ⟨r, T, e, h1, h2, h3, h4⟩ := v_aC (n := n) (S0 := S) (s := (q_I S wo 1).toInt) hx hw hc (by omega) hs.1 g3 hB p.toInt.toNat n S 0 hG (by decide) (by rw [z0]; omega) (by rw [z0]; omega) (fun k hk => hB0 k (by rw [z0] at hk; omega)) (by omega)
    exact ⟨r, T, e, h1, fun _ => ⟨h2, h3, h4⟩, fun h => absurd ⟨by omega, by omega, by omega⟩ h⟩
  · rw [if_neg (fun h => g3 (by have := i_le.mp h; rw [es, z1600] at this; exact this))]
    exact q_ok_some ⟨hG, fun h => by omega, fun _ => ⟨rfl, rfl⟩⟩
theorem v_aM (hm : m ∈ L ∧ ρ m = 45) (hF : fF ∈ L ∧ ρ fF = 46) (hp : p.toInt ≤ 8) (hs0 : 0 ≤ s) (hsp : s + p.toInt ≤ 1600) (hB : ∀ i : Int32, 0 ≤ i.toInt → i.toInt < p.toInt → B (s + i.toInt).toNat = v_sh w i) : ∀ (j k : Nat) (S : q_S) (l4 : Int32), q_G ρ L M_X12_add_45 S0 S → 0 ≤ l4.toInt → p.toInt = l4.toInt + j → (q_I S m 2).toInt = s + l4.toInt → (∀ k : Nat, (k : Int) < s + l4.toInt → q_I S fF k = B k) → j < k → q_ok (m_X12_add_34 n k S (some m) w p l4) (fun r T => q_G ρ L M_X12_add_45 S0 T ∧ r = q_I T m 2 ∧ (q_I T m 2).toInt = s + p.toInt ∧ ∀ k : Nat, (k : Int) < s + p.toInt → q_I T fF k = B k) := by
  intro j
  induction j with
  | zero =>
    intro k S l4 hG e1 e2 e3 e4 hk
    obtain ⟨k, rfl⟩ : ∃ k', k = k' + 1 := ⟨k - 1, by omega⟩
    rw [m_X12_add_34, if_pos (i_le.mpr (by omega)), q_at_pos (k_m hG.1 hm)]
    have e5 : l4.toInt = p.toInt := by omega
    rw [e5] at e3 e4
    exact q_ok_some ⟨hG, rfl, e3, e4⟩
  | succ j ih =>
    intro k S l4 hG e1 e2 e3 e4 hk
    obtain ⟨k, rfl⟩ : ∃ k', k = k' + 1 := ⟨k - 1, by omega⟩
    have z1 : (1 : Int32).toInt = 1 := rfl
    have z255 : (255 : Int32).toInt = 255 := rfl
    rw [m_X12_add_34, if_neg (fun h9 => by have := i_le.mp h9; omega), q_at_pos (k_m hG.1 hm), v_m1 hG.1 hm hF, q_at_pos (k_F hG.1 hF), q_if_pos (q_inI (g_46_N hG hF.1 hF.2) (by omega) (by omega)), v_shM]
    have hb : 0 ≤ (v_sh w l4).toInt ∧ (v_sh w l4).toInt ≤ 255 := by
      have := q_andRI (x := (w >>> ((((8 : Int32) * l4)).toInt64 &&& 63)).toInt32) (y := 255) (by decide)
      rw [z255] at this
      exact this
    have e9 : q_I (q_sI S fF (q_I S m 2).toNatClampNeg (v_sh w l4)) m 2 = q_I S m 2 := q_fwI hm.2 hF.2 (by decide)
    rw [e9]
    have ea : ((q_I S m 2) + (1 : Int32)).toInt = (q_I S m 2).toInt + 1 := by rw [q_addI (by rw [z1]; omega) (by rw [z1]; omega), z1]
    have el : (l4 + 1).toInt = l4.toInt + 1 := by rw [q_addI (by rw [z1]; omega) (by rw [z1]; omega), z1]
    have hG1 := u_46_E (k := (q_I S m 2).toNatClampNeg) (x := v_sh w l4) hG hF.1 hF.2 (by decide) hb
    have hG2 := u_45_I2 (x := (q_I S m 2) + (1 : Int32)) hG1 hm.1 hm.2 (by decide) ⟨by omega, by omega⟩
    refine ih k _ (l4 + 1) hG2 (by omega) (by omega) (by rw [q_hitI]; omega) (fun k2 hk2 => ?_) (by omega)
    rw [q_fwI hF.2 hm.2 (by decide)]
    have ec : (q_I S m 2).toNatClampNeg = (s + l4.toInt).toNat := v_cl e3
    rw [ec]
    by_cases e : k2 = (s + l4.toInt).toNat
    · rw [e, q_hitI, hB l4 e1 (by omega)]
    · rw [q_ffI e]; exact e4 k2 (by omega)
theorem v_in {X Y Z : Int64} : m_X12_in n S X Y Z = some (if Y.toInt ≤ X.toInt ∧ X.toInt ≤ Z.toInt then 1 else 0, S) := by
  unfold m_X12_in m_X12_in_17 m_X12_in_18
  by_cases g1 : X.toInt < Y.toInt
  · rw [if_pos (c_lt.mpr g1), q_if_pos (Or.inl rfl), if_neg (fun h => by omega)]
  rw [if_neg (fun h => g1 (c_lt.mp h))]
  by_cases g2 : Z.toInt < X.toInt
  · rw [if_pos (c_gt.mpr g2), q_if_pos (Or.inl rfl), if_neg (fun h => by omega)]
  rw [if_neg (fun h => g2 (c_gt.mp h)), q_if_pos (Or.inr rfl), if_pos ⟨by omega, by omega⟩]
theorem v_addM (hn : 18446744073709551616 ≤ n) (hI : q_Inv ρ L S) (hm : m ∈ L ∧ ρ m = 45) (hF : fF ∈ L ∧ ρ fF = 46) (hB : ∀ i : Int32, 0 ≤ i.toInt → i.toInt < p.toInt → B ((q_I S m 2).toInt + i.toInt).toNat = v_sh w i) (hB0 : ∀ k : Nat, (k : Int) < (q_I S m 2).toInt → q_I S fF k = B k) : q_ok (m_X12_add n S m w p) (fun r T => q_G ρ L M_X12_add_45 S T ∧ (1 ≤ p.toInt ∧ p.toInt ≤ 8 ∧ (q_I S m 2).toInt + p.toInt ≤ 1600 → r = q_I T m 2 ∧ (q_I T m 2).toInt = (q_I S m 2).toInt + p.toInt ∧ ∀ k : Nat, (k : Int) < (q_I S m 2).toInt + p.toInt → q_I T fF k = B k) ∧ (¬ (1 ≤ p.toInt ∧ p.toInt ≤ 8 ∧ (q_I S m 2).toInt + p.toInt ≤ 1600) → r = -1 ∧ q_I T m 2 = q_I S m 2 ∧ q_I T fF = q_I S fF)) := by
  have hG0 : q_G ρ L M_X12_add_45 S S := q_G_refl hI
  have hG := u_45_I0 (x := 0) hG0 hm.1 hm.2 (by decide) ⟨by decide, by decide⟩
  have z1 : (1 : Int64).toInt = 1 := rfl
  have z8 : (8 : Int64).toInt = 8 := rfl
  have z0 : (0 : Int32).toInt = 0 := rfl
  have z1600 : (1600 : Int32).toInt = 1600 := rfl
  have hs := g_45_I2 hG0 hm.1 hm.2
  have e2 : q_I (q_sI S m 0 0) m 2 = q_I S m 2 := q_ffI (by decide)
  have eF : q_I (q_sI S m 0 0) fF = q_I S fF := funext fun k => q_fwI hF.2 hm.2 (by decide)
  unfold m_X12_add m_X12_add_29
  rw [q_at_pos (k_m hI hm), v_in, q_b_some, z1, z8, q_wil]
  by_cases g1 : 1 ≤ p.toInt ∧ p.toInt ≤ 8
  · rw [if_pos g1, if_neg (by decide), q_at_pos (k_m hG.1 hm), e2]
    have es : ((q_I S m 2) + p).toInt = (q_I S m 2).toInt + p.toInt := q_addI (by omega) (by omega)
    by_cases g3 : (q_I S m 2).toInt + p.toInt ≤ 1600
    · rw [if_pos (i_le.mpr (by rw [es, z1600]; exact g3))]
      obtain ⟨r, T, e, h1, h2, h3, h4⟩ := v_aM (n := n) (S0 := S) (s := (q_I S m 2).toInt) hm hF (by omega) hs.1 g3 hB p.toInt.toNat n (q_sI S m 0 0) 0 hG (by decide) (by rw [z0]; omega) (by rw [z0, e2]; omega) (fun k hk => by rw [eF]; exact hB0 k (by rw [z0] at hk; omega)) (by omega)
      exact ⟨r, T, e, h1, fun _ => ⟨h2, h3, h4⟩, fun h => absurd ⟨by omega, by omega, by omega⟩ h⟩
    · rw [if_neg (fun h => g3 (by have := i_le.mp h; rw [es, z1600] at this; exact this))]
      exact q_ok_some ⟨hG, fun h => by omega, fun _ => ⟨rfl, e2, eF⟩⟩
  · rw [if_neg g1, if_pos rfl]
    exact q_ok_some ⟨hG, fun h => by omega, fun _ => ⟨rfl, e2, eF⟩⟩
end QVB
