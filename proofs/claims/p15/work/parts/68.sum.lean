/-! VALUES: sum() -/
def v_sa (l : Int32) : Int64 := (((24 : Int32) - ((8 : Int32) * (l &&& (3 : Int32))))).toInt64 &&& 63
def v_tot (f : Nat → Int32) (st : Int) (hd : Bool) : Nat → Int32 → Int64 → Int64
  | 0, _, a => a &&& (4294967295 : Int64)
  | j + 1, l, a => v_tot f st hd j (l + 1) (if hd = true ∧ 8 ≤ l.toInt ∧ l.toInt < 12 then a else a + ((f (st + l.toInt).toNat).toInt64 <<< v_sa l))
theorem v_and3 {x : Int32} (h : 0 ≤ x.toInt) : x - x / (4 : Int32) * (4 : Int32) = x &&& (3 : Int32) := by
  apply Int32.toInt_inj.mp
  have z4 : (4 : Int32).toInt = 4 := rfl
  rw [q_remI h (by decide), z4]
  have h1 := q_posI h
  have h3 : (3 : Int32).toBitVec.toNat = 2 ^ 2 - 1 := by decide
  have h2 := q_natI (x &&& (3 : Int32))
  rw [Int32.toBitVec_and, BitVec.toNat_and, h3, Nat.and_two_pow_sub_one_eq_mod] at h2
  split at h2 <;> omega
theorem v_tot_cg {f g : Nat → Int32} {s st : Int} {hd : Bool} (h : ∀ k : Nat, (k : Int) < s → f k = g k) (h0 : 0 ≤ st) (hs : s ≤ 1600) : ∀ (j : Nat) (l : Int32) (a : Int64), 0 ≤ l.toInt → st + l.toInt + j ≤ s → v_tot f st hd j l a = v_tot g st hd j l a := by
  intro j
  induction j with
  | zero => intro l a _ _; rfl
  | succ j ih =>
    intro l a hl hj
    have z1 : (1 : Int32).toInt = 1 := rfl
    have e1 : (l + 1).toInt = l.toInt + 1 := by rw [q_addI (by rw [z1]; omega) (by rw [z1]; omega), z1]
    rw [v_tot, v_tot, h _ (by omega)]
    exact ih (l + 1) _ (by omega) (by omega)
section QVM
variable {ρ : Nat → Nat} {L M9 : List Nat} {n : Nat} {S T : q_S} {x wo ce tb en ab m fF fT fS fB fL : Nat}
theorem v_totC (hI : q_Inv ρ L S) (hw : wo ∈ L ∧ ρ wo = 1) (hc : ce ∈ L ∧ ρ ce = 2) {t : Nat} (h8 : t ∈ L ∧ ρ t = 8) (hz : (q_I S t 3).toInt + (q_I S t 4).toInt ≤ (q_I S wo 1).toInt) {l1 : Int32} {hd : Bool} (h1 : l1 = if hd = true then 1 else 0) : ∀ (j k : Nat) (l4 : Int32) (a : Int64), 0 ≤ l4.toInt → (q_I S t 4).toInt = l4.toInt + j → j < k → m_X7_total_5 n k S (some t) l1 a l4 = some (v_tot (q_I S ce) (q_I S t 3).toInt hd j l4 a, S) := by
  have hG : q_G ρ L [] S S := q_G_refl hI
  have b4 := g_8_I4 hG h8.1 h8.2
  have b3 := g_8_I3 hG h8.1 h8.2
  have y8 : (8 : Int32).toInt = 8 := rfl
  have y12 : (12 : Int32).toInt = 12 := rfl
  have z1 : (1 : Int32).toInt = 1 := rfl
  intro j
  induction j with
  | zero =>
    intro k l4 a hl hj hk
    obtain ⟨k, rfl⟩ : ∃ k', k = k' + 1 := ⟨k - 1, by omega⟩
    rw [m_X7_total_5, q_at_pos (k_8 hI h8), if_pos (i_le.mpr (by omega)), v_tot]
  | succ j ih =>
    intro k l4 a hl hj hk
    obtain ⟨k, rfl⟩ : ∃ k', k = k' + 1 := ⟨k - 1, by omega⟩
    have e1 : (l4 + 1).toInt = l4.toInt + 1 := by rw [q_addI (by rw [z1]; omega) (by rw [z1]; omega), z1]
    obtain ⟨r, er, vr⟩ := v_tone (n := n) (i := l4.toInt64) hI hw hc h8 hz (by rw [q_wil]; omega)
    have hr : r = q_I S ce ((q_I S t 3).toInt + l4.toInt).toNat := Int32.toInt_inj.mp (by rw [vr, q_wil]; unfold v_by; rw [if_pos ⟨hl, by omega⟩])
    subst hr
    have e37 : m_X7_total_37 n (m_X7_total_5 n k) S (some t) l1 a l4 0 = some (v_tot (q_I S ce) (q_I S t 3).toInt hd j (l4 + 1) (a + ((q_I S ce ((q_I S t 3).toInt + l4.toInt).toNat).toInt64 <<< v_sa l4)), S) := by
      unfold m_X7_total_37 m_X7_total_66
      rw [if_pos rfl, q_at_pos (k_8 hI h8), er, q_b_some]
      exact ih k (l4 + 1) _ (by omega) (by omega) (by omega)
    rw [m_X7_total_5, q_at_pos (k_8 hI h8), if_neg (fun h => by have := i_le.mp h; omega), v_tot]
    unfold m_X7_total_36
    rw [e37]
    cases hd with
    | false =>
      rw [if_neg (by decide)] at h1
      rw [if_pos h1, if_neg (fun h => by cases h.1)]
    | true =>
      rw [if_pos rfl] at h1
      rw [if_neg (by rw [h1]; decide)]
      by_cases g1 : l4.toInt < 8
      · rw [if_pos (i_lt.mpr (by rw [y8]; exact g1)), if_neg (fun h => by omega)]
      rw [if_neg (fun h => g1 (by have := i_lt.mp h; rw [y8] at this; exact this))]
      by_cases g2 : 12 ≤ l4.toInt
      · rw [if_pos (i_le.mpr (by rw [y12]; exact g2)), if_neg (fun h => by omega)]
      rw [if_neg (fun h => g2 (by have := i_le.mp h; rw [y12] at this; exact this)), if_pos ⟨rfl, by omega, by omega⟩]
      unfold m_X7_total_37 m_X7_total_66
      rw [if_neg (by decide)]
      exact ih k (l4 + 1) _ (by omega) (by omega) (by omega)
theorem v_totM (hI : q_Inv ρ L S) (hm : m ∈ L ∧ ρ m = 45) (hF : fF ∈ L ∧ ρ fF = 46) (hB : fB ∈ L ∧ ρ fB = 49) (hL : fL ∈ L ∧ ρ fL = 50) {l1 l4 : Int32} {hd : Bool} (h1 : hd = true ↔ l1 = l4) (hp : 0 ≤ l1.toInt ∧ l1.toInt ≤ 23) : ∀ (j k : Nat) (l5 : Int32) (a : Int64), 0 ≤ l5.toInt → (q_I S fL l1.toInt.toNat).toInt = l5.toInt + j → j < k → m_X12_sumOf_14 n k S (some m) l1 a l4 l5 = some (v_tot (q_I S fF) (q_I S fB l1.toInt.toNat).toInt hd j l5 a, S) := by
  have hG : q_G ρ L [] S S := q_G_refl hI
  have b4 := g_50_E hG hL.1 hL.2 (k := l1.toInt.toNat)
  have b3 := g_49_E hG hB.1 hB.2 (k := l1.toInt.toNat)
  have hsl := hI.2.2.2 fB fL hB.1 hL.1 hB.2 hL.2 l1.toInt.toNat
  have y8 : (8 : Int32).toInt = 8 := rfl
  have y12 : (12 : Int32).toInt = 12 := rfl
  have z1 : (1 : Int32).toInt = 1 := rfl
  have kL := q_inI (i := l1) (g_50_N hG hL.1 hL.2) hp.1 (by omega)
  have kB := q_inI (i := l1) (g_49_N hG hB.1 hB.2) hp.1 (by omega)
  intro j
  induction j with
  | zero =>
    intro k l5 a hl hj hk
    obtain ⟨k, rfl⟩ : ∃ k', k = k' + 1 := ⟨k - 1, by omega⟩
    rw [m_X12_sumOf_14, q_at_pos (k_m hI hm), v_m7 hI hm hL, q_at_pos (k_L hI hL), q_if_pos kL, v_cl (i := l1) rfl, if_pos (i_le.mpr (by omega)), v_tot]
  | succ j ih =>
    intro k l5 a hl hj hk
    obtain ⟨k, rfl⟩ : ∃ k', k = k' + 1 := ⟨k - 1, by omega⟩
    have e1 : (l5 + 1).toInt = l5.toInt + 1 := by rw [q_addI (by rw [z1]; omega) (by rw [z1]; omega), z1]
    have ea : ((q_I S fB l1.toInt.toNat) + l5).toInt = (q_I S fB l1.toInt.toNat).toInt + l5.toInt := q_addI (by omega) (by omega)
    have e49 : m_X12_sumOf_49 n (m_X12_sumOf_14 n k) S (some m) l1 a l4 l5 = some (v_tot (q_I S fF) (q_I S fB l1.toInt.toNat).toInt hd j (l5 + 1) (a + ((q_I S fF ((q_I S fB l1.toInt.toNat).toInt + l5.toInt).toNat).toInt64 <<< v_sa l5)), S) := by
      unfold m_X12_sumOf_49 m_X12_sumOf_63
      rw [q_at_pos (k_m hI hm), v_m6 hI hm hB, q_at_pos (k_B hI hB), q_if_pos kB, v_m1 hI hm hF, q_at_pos (k_F hI hF), v_cl (i := l1) rfl, q_if_pos (q_inI (g_46_N hG hF.1 hF.2) (by omega) (by omega)), q_if_pos (by decide), v_and3 hl, v_cl ea]
      exact ih k (l5 + 1) _ (by omega) (by omega) (by omega)
    rw [m_X12_sumOf_14, q_at_pos (k_m hI hm), v_m7 hI hm hL, q_at_pos (k_L hI hL), q_if_pos kL, v_cl (i := l1) rfl, if_neg (fun h => by have := i_le.mp h; omega), v_tot, e49]
    by_cases g : l1 = l4
    · have hh := h1.mpr g
      rw [if_pos g]
      by_cases g1 : l5.toInt < 8
      · rw [if_pos (i_lt.mpr (by rw [y8]; exact g1)), if_neg (fun h => by omega)]
      rw [if_neg (fun h => g1 (by have := i_lt.mp h; rw [y8] at this; exact this))]
      by_cases g2 : 12 ≤ l5.toInt
      · rw [if_pos (i_le.mpr (by rw [y12]; exact g2)), if_neg (fun h => by omega)]
      rw [if_neg (fun h => g2 (by have := i_le.mp h; rw [y12] at this; exact this)), if_pos ⟨hh, by omega, by omega⟩]
      unfold m_X12_sumOf_63
      rw [q_if_pos (by decide)]
      have e0 : a + ((0 : Int32).toInt64 <<< ((((24 : Int32) - ((8 : Int32) * (l5 - l5 / (4 : Int32) * (4 : Int32))))).toInt64 &&& 63)) = a := by
        rw [show (0 : Int32).toInt64 = 0 from rfl, Int64.zero_shiftLeft, Int64.add_zero]
      rw [e0]
      exact ih k (l5 + 1) _ (by omega) (by omega) (by omega)
    · rw [if_neg g, if_neg (fun h => g (h1.mp h.1))]
theorem z_sum (hn : 18446744073709551616 ≤ n) (hI : q_Inv ρ L S) (hA : v_Ad ρ L x wo ce tb en ab m fF fT fS fB fL) (hR : v_Rl wo ce tb en ab m fF fT fS fB fL S) {p0 : Int32} : q_ok (m_X11_sum n S x p0) (fun r T => q_Inv ρ L T ∧ q_ok (m_X12_sum n T m p0) (fun r2 T2 => q_Inv ρ L T2 ∧ v_Rl wo ce tb en ab m fF fT fS fB fL T2 ∧ r = r2)) := by
  have hA0 := hA
  obtain ⟨hx, hw, hc, ht, he, hab, hm, hF, hT, hS, hB, hL⟩ := hA
  have hG : q_G ρ L M_X12_sum_45 S S := q_G_refl hI
  have h3 := g_45_I3 hG hm.1 hm.2
  have hsz := g_45_I2 hG hm.1 hm.2
  have z1 : (1 : Int32).toInt = 1 := rfl
  have z0 : (0 : Int64).toInt = 0 := rfl
  have y0 : (0 : Int32).toInt = 0 := rfl
  have hG1 := u_45_I0 (x := 0) hG hm.1 hm.2 (by decide) ⟨by decide, by decide⟩
  have f0 : q_I (q_sI S m 0 0) m 3 = q_I S m 3 := q_ffI (by decide)
  have e3 : ((q_I S m 3) - (1 : Int32)).toInt64.toInt = (q_I S m 3).toInt - 1 := by rw [q_wil, q_subI (by rw [z1]; omega) (by rw [z1]; omega), z1]
  have hR1 := v_RlU hA0 hG1 (by decide) hR
  unfold m_X11_sum m_X11_sum_25 m_X12_sum m_X12_sum_32
  rw [q_at_pos (k_x hI hx), v_x2 hI hx ht, q_at_pos (k_t hI ht), v_has hI ht hR.2.2.1, q_b_some]
  by_cases g : 0 ≤ p0.toInt ∧ p0.toInt < (q_I S m 3).toInt
  · rw [if_pos g, if_neg (by decide), q_at_pos (k_x hI hx), v_x2 hI hx ht, q_at_pos (k_t hI ht)]
    obtain ⟨t, et, h8, a1, a2, a3⟩ := v_get (n := n) (p := p0) hI hA0 hR
    have b4 := g_8_I4 hG h8.1 h8.2
    have b3 := g_8_I3 hG h8.1 h8.2
    have es : v_st S m fB p0.toInt = (q_I S fB p0.toInt.toNat).toInt := by unfold v_st; rw [if_pos g]
    have el : v_len S m fL p0.toInt = (q_I S fL p0.toInt.toNat).toInt := by unfold v_len; rw [if_pos g]
    rw [es] at a1
    rw [el] at a2
    have eh : ∃ hd : Bool, (hd = true ↔ p0 = q_fd S m 1751474532) := by
      by_cases e : p0 = q_fd S m 1751474532
      · exact ⟨true, by simp [e]⟩
      · exact ⟨false, by simp [e]⟩
    obtain ⟨hd, hh⟩ := eh
    have eC : m_X8_totalOf n S tb p0 = some (v_tot (q_I S ce) (q_I S t 3).toInt hd (q_I S t 4).toInt.toNat 0 0, S) := by
      unfold m_X8_totalOf m_X8_totalOf_21
      rw [q_at_pos (k_t hI ht), et, q_b_some, q_at_pos (k_t hI ht), v_ixE hn hI hA0 hR, q_b_some]
      by_cases e : p0 = q_fd S m 1751474532
      · have := hh.mpr e
        subst this
        rw [if_pos e, q_at_pos (k_8 hI h8)]
        unfold m_X7_total
        rw [v_totC (n := n) (hd := true) (l1 := 1) hI hw hc h8 a3 (by decide) (q_I S t 4).toInt.toNat n 0 0 (by decide) (by rw [y0]; omega) (by omega), q_b_some]
      · have hf : hd = false := by cases hd with
          | false => rfl
          | true => exact absurd (hh.mp rfl) e
        subst hf
        rw [if_neg e, q_at_pos (k_8 hI h8)]
        unfold m_X7_total
        rw [v_totC (n := n) (hd := false) (l1 := 0) hI hw hc h8 a3 (by decide) (q_I S t 4).toInt.toNat n 0 0 (by decide) (by rw [y0]; omega) (by omega), q_b_some]
    rw [eC, q_b_some]
    refine q_ok_some ⟨hI, ?_⟩
    have ga : 0 ≤ p0.toInt ∧ p0.toInt ≤ (q_I S m 3).toInt - 1 := ⟨g.1, by omega⟩
    rw [q_at_pos (k_m hI hm), v_in, q_b_some, q_wil, z0, f0, e3, if_pos ga, if_neg (by decide), q_at_pos (k_m hG1.1 hm)]
    have efd : q_fd (q_sI S m 0 0) m 1751474532 = q_fd S m 1751474532 := q_fdK rfl
    have f1 : ∀ k, q_I (q_sI S m 0 0) fB k = q_I S fB k := fun k => q_fwI hB.2 hm.2 (by decide)
    have f2 : ∀ k, q_I (q_sI S m 0 0) fL k = q_I S fL k := fun k => q_fwI hL.2 hm.2 (by decide)
    have f3 : q_I (q_sI S m 0 0) fF = q_I S fF := funext fun k => q_fwI hF.2 hm.2 (by decide)
    have bL := g_50_E hG hL.1 hL.2 (k := p0.toInt.toNat)
    have eM : m_X12_sumOf n (q_sI S m 0 0) m p0 = some (v_tot (q_I S fF) (q_I S fB p0.toInt.toNat).toInt hd (q_I S fL p0.toInt.toNat).toInt.toNat 0 0, q_sI S m 0 0) := by
      obtain ⟨r, T, e, eT, -, hv⟩ := s_X12_find_45 hn hG1.1 hm.1 hm.2 (p0 := 1751474532) ⟨by decide, by decide⟩
      subst eT
      have hr : r = q_fd S m 1751474532 := Int32.toInt_inj.mp (by rw [q_smE hv, efd])
      unfold m_X12_sumOf
      rw [q_at_pos (k_m hG1.1 hm), e, q_b_some, hr]
      have := v_totM (n := n) (hd := hd) (l1 := p0) (l4 := q_fd S m 1751474532) hG1.1 hm hF hB hL hh ⟨g.1, by omega⟩ (q_I S fL p0.toInt.toNat).toInt.toNat n 0 0 (by decide) (by rw [y0, f2]; omega) (by omega)
      rw [f1, f3] at this
      exact this
    rw [eM, q_b_some]
    refine q_ok_some ⟨hG1.1, hR1, ?_⟩
    rw [v_tot_cg hR.2.1 b3.1 hsz.2 _ _ _ (by decide) (by rw [y0, ← hR.1]; omega), a1, a2]
  · rw [if_neg g, if_pos rfl]
    refine q_ok_some ⟨hI, ?_⟩
    have gn : ¬ (0 ≤ p0.toInt ∧ p0.toInt ≤ (q_I S m 3).toInt - 1) := fun h => g ⟨h.1, by omega⟩
    rw [q_at_pos (k_m hI hm), v_in, q_b_some, q_wil, z0, f0, e3, if_neg gn, if_pos rfl]
    exact q_ok_some ⟨hG1.1, hR1, rfl⟩
end QVM
