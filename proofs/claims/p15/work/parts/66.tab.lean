/-! VALUES: TABLES by their TAGS, on both sides -/
/-- where a TABLE begins and how long it is; 0 if there is none -/
def v_st (S : q_S) (m fB : Nat) (p : Int) : Int := if 0 ≤ p ∧ p < (q_I S m 3).toInt then (q_I S fB p.toNat).toInt else 0
def v_len (S : q_S) (m fL : Nat) (p : Int) : Int := if 0 ≤ p ∧ p < (q_I S m 3).toInt then (q_I S fL p.toNat).toInt else 0
theorem v_by_cg {f g : Nat → Int32} {s st ln i : Int} (h : ∀ k : Nat, (k : Int) < s → f k = g k) (h0 : 0 ≤ st) (h1 : st + ln ≤ s) : v_by f st ln i = v_by g st ln i := by
  unfold v_by
  by_cases c : 0 ≤ i ∧ i < ln
  · rw [if_pos c, if_pos c, h _ (by omega)]
  · rw [if_neg c, if_neg c]
theorem v_tw_cg {f g : Nat → Int32} {s st ln i : Int} (h : ∀ k : Nat, (k : Int) < s → f k = g k) (h0 : 0 ≤ st) (h1 : st + ln ≤ s) : v_tw f st ln i = v_tw g st ln i := by
  unfold v_tw
  by_cases c : 0 ≤ i ∧ i + 1 < ln
  · rw [if_pos c, if_pos c, h _ (by omega), h _ (by omega)]
  · rw [if_neg c, if_neg c]
theorem v_fr_cg {f g : Nat → Int32} {s st ln i : Int} (h : ∀ k : Nat, (k : Int) < s → f k = g k) (h0 : 0 ≤ st) (h1 : st + ln ≤ s) : v_fr f st ln i = v_fr g st ln i := by
  unfold v_fr
  by_cases c : 0 ≤ i ∧ i + 3 < ln
  · rw [if_pos c, if_pos c, v_fo_cg h (by omega) (by omega)]
  · rw [if_neg c, if_neg c]
theorem v_fdl (f : Nat → Int64) (t : Int64) : ∀ (j i : Nat), i + j ≤ 24 → (q_fdl f t j i).toInt = -1 ∨ ((i : Int) ≤ (q_fdl f t j i).toInt ∧ (q_fdl f t j i).toInt < (i : Int) + j)
  | 0, i, h => Or.inl rfl
  | j + 1, i, h => by
    rw [q_fdl]
    by_cases e : f i = t
    · rw [if_pos e, q_ofN (by omega)]; omega
    · rw [if_neg e]
      rcases v_fdl f t j (i + 1) (by omega) with h1 | h1
      · exact Or.inl h1
      · exact Or.inr (by omega)
section QVT
variable {ρ : Nat → Nat} {L M9 : List Nat} {n : Nat} {S T : q_S} {x wo ce tb en ab m fF fT fS fB fL : Nat}
theorem v_fdE (hI : q_Inv ρ L S) (hm : m ∈ L ∧ ρ m = 45) (hT : fT ∈ L ∧ ρ fT = 47) {tag : Int64} : q_fd S m tag = q_fdl (q_J S fT) tag (q_I S m 3).toInt.toNat 0 := by
  unfold q_fd
  rw [v_m4 hI hm hT]
theorem v_fdR (hI : q_Inv ρ L S) (hm : m ∈ L ∧ ρ m = 45) (hT : fT ∈ L ∧ ρ fT = 47) {tag : Int64} : (q_fd S m tag).toInt = -1 ∨ (0 ≤ (q_fd S m tag).toInt ∧ (q_fd S m tag).toInt < (q_I S m 3).toInt) := by
  have h := g_45_I3 (q_G_refl (m := []) hI) hm.1 hm.2
  rw [v_fdE hI hm hT]
  rcases v_fdl (q_J S fT) tag (q_I S m 3).toInt.toNat 0 (by omega) with h1 | h1
  · exact Or.inl h1
  · exact Or.inr (by omega)
theorem v_ix (hI : q_Inv ρ L S) (hA : v_Ad ρ L x wo ce tb en ab m fF fT fS fB fL) (hR : v_Rl wo ce tb en ab m fF fT fS fB fL S) {tag : Int64} : ∀ (j k i : Nat) (l3 : Int32), l3.toInt = i → (q_I S m 3).toInt = (i : Int) + j → j < k → m_X8_indexOf_2 n k S (some tb) tag l3 = some (q_fdl (q_J S fT) tag j i, S) := by
  obtain ⟨hx, hw, hc, ht, he, hab, hm, hF, hT, hS, hB, hL⟩ := hA
  have hG : q_G ρ L [] S S := q_G_refl hI
  have h3 := g_45_I3 hG hm.1 hm.2
  intro j
  induction j with
  | zero =>
    intro k i l3 e1 e2 hk
    obtain ⟨k, rfl⟩ : ∃ k', k = k' + 1 := ⟨k - 1, by omega⟩
    rw [m_X8_indexOf_2, q_at_pos (k_t hI ht), hR.2.2.1, if_pos (i_le.mpr (by omega))]
    rfl
  | succ j ih =>
    intro k i l3 e1 e2 hk
    obtain ⟨k, rfl⟩ : ∃ k', k = k' + 1 := ⟨k - 1, by omega⟩
    obtain ⟨t, et, mt_, rt⟩ := g_7_RE hG he.1 he.2 (k := i) (by omega)
    have er := ((hR.2.2.2.1 i (by omega)).1 t et).1
    have ec : (l3).toNatClampNeg = i := by rw [v_cl e1]; rfl
    rw [m_X8_indexOf_2, q_at_pos (k_t hI ht), hR.2.2.1, if_neg (fun h => by have := i_le.mp h; omega), v_t1 hI ht he, q_at_pos (k_e hI he), q_if_pos (q_inI (g_7_N hG he.1 he.2) (by omega) (by omega)), ec, et, q_at_pos (k_8 hI ⟨mt_, rt⟩), er, q_fdl]
    have z1 : (1 : Int32).toInt = 1 := rfl
    by_cases g : q_J S fT i = tag
    · rw [if_pos g, if_pos (c_eq.mpr (by rw [g]))]
      have : l3 = Int32.ofNat i := Int32.toInt_inj.mp (by rw [e1, q_ofN (by omega)])
      rw [this]
    · rw [if_neg g, if_neg (fun h => g (Int64.toInt_inj.mp (c_eq.mp h)))]
      exact ih k (i + 1) (l3 + 1) (by rw [q_addI (by rw [z1]; omega) (by rw [z1]; omega), z1, e1]; rfl) (by omega) (by omega)
theorem v_ixE (hn : 18446744073709551616 ≤ n) (hI : q_Inv ρ L S) (hA : v_Ad ρ L x wo ce tb en ab m fF fT fS fB fL) (hR : v_Rl wo ce tb en ab m fF fT fS fB fL S) {tag : Int64} : m_X8_indexOf n S tb tag = some (q_fd S m tag, S) := by
  have h3 := g_45_I3 (q_G_refl (m := []) hI) hA.2.2.2.2.2.2.1.1 hA.2.2.2.2.2.2.1.2
  unfold m_X8_indexOf
  rw [v_fdE hI hA.2.2.2.2.2.2.1 hA.2.2.2.2.2.2.2.2.1]
  exact v_ix hI hA hR (q_I S m 3).toInt.toNat n 0 0 rfl (by omega) (by omega)
theorem v_has (hI : q_Inv ρ L S) (ht : tb ∈ L ∧ ρ tb = 6) (h3 : q_I S tb 3 = q_I S m 3) {p : Int32} : m_X8_has n S tb p = some (if 0 ≤ p.toInt ∧ p.toInt < (q_I S m 3).toInt then 1 else 0, S) := by
  have z0 : (0 : Int32).toInt = 0 := rfl
  unfold m_X8_has m_X8_has_16 m_X8_has_17
  by_cases g : p.toInt < 0
  · rw [if_pos (i_lt.mpr (by rw [z0]; exact g)), q_if_pos (Or.inl rfl), if_neg (fun h => by omega)]
  rw [if_neg (fun h => g (by have := i_lt.mp h; rw [z0] at this; exact this)), q_at_pos (k_t hI ht), h3]
  by_cases g2 : (q_I S m 3).toInt ≤ p.toInt
  · rw [if_pos (i_le.mpr g2), q_if_pos (Or.inl rfl), if_neg (fun h => by omega)]
  · rw [if_neg (fun h => g2 (i_le.mp h)), q_if_pos (Or.inr rfl), if_pos ⟨by omega, by omega⟩]
theorem v_get (hI : q_Inv ρ L S) (hA : v_Ad ρ L x wo ce tb en ab m fF fT fS fB fL) (hR : v_Rl wo ce tb en ab m fF fT fS fB fL S) {p : Int32} : ∃ t, m_X8_get n S tb p = some (t, S) ∧ (t ∈ L ∧ ρ t = 8) ∧ (q_I S t 3).toInt = v_st S m fB p.toInt ∧ (q_I S t 4).toInt = v_len S m fL p.toInt ∧ (q_I S t 3).toInt + (q_I S t 4).toInt ≤ (q_I S wo 1).toInt := by
  obtain ⟨hx, hw, hc, ht, he, hab, hm, hF, hT, hS, hB, hL⟩ := hA
  have hG : q_G ρ L [] S S := q_G_refl hI
  have h3 := g_45_I3 hG hm.1 hm.2
  have hsz := g_45_I2 hG hm.1 hm.2
  obtain ⟨r1, r2, r3, r4, r5, r6, r7, r8⟩ := hR
  unfold m_X8_get m_X8_get_21
  rw [q_at_pos (k_t hI ht), v_has hI ht r3, q_b_some, r1]
  unfold v_st v_len
  by_cases g : 0 ≤ p.toInt ∧ p.toInt < (q_I S m 3).toInt
  · obtain ⟨t, et, mt_, rt⟩ := g_7_RE hG he.1 he.2 (k := p.toInt.toNat) (by omega)
    obtain ⟨k1, k2⟩ := r4 p.toInt.toNat (by omega)
    obtain ⟨-, -, k3, k4⟩ := k1 t et
    rw [if_pos g, if_neg (by decide), q_at_pos (k_t hI ht), v_t1 hI ht he, q_at_pos (k_e hI he), q_if_pos (q_inI (g_7_N hG he.1 he.2) (by omega) (by omega)), v_cl rfl, et, q_at_pos (k_8 hI ⟨mt_, rt⟩), if_pos g, if_pos g]
    exact ⟨t, rfl, ⟨mt_, rt⟩, by rw [k3], by rw [k4], by rw [k3, k4]; exact k2⟩
  · rw [if_neg g, if_pos rfl, q_at_pos (k_t hI ht), r8, q_at_pos (k_8 hI hab), if_neg g, if_neg g]
    exact ⟨ab, rfl, hab, by rw [r5]; rfl, by rw [r6]; rfl, by rw [r5, r6]; show (0 : Int) + 0 ≤ _; omega⟩
theorem v_first (hn : 18446744073709551616 ≤ n) (hI : q_Inv ρ L S) (hA : v_Ad ρ L x wo ce tb en ab m fF fT fS fB fL) (hR : v_Rl wo ce tb en ab m fF fT fS fB fL S) {tag : Int64} : ∃ t, m_X8_first n S tb tag = some (t, S) ∧ (t ∈ L ∧ ρ t = 8) ∧ (q_I S t 3).toInt = v_st S m fB (q_fd S m tag).toInt ∧ (q_I S t 4).toInt = v_len S m fL (q_fd S m tag).toInt ∧ (q_I S t 3).toInt + (q_I S t 4).toInt ≤ (q_I S wo 1).toInt := by
  obtain ⟨t, e, h8, h1, h2, h3⟩ := v_get (n := n) (p := q_fd S m tag) hI hA hR
  unfold m_X8_first
  rw [q_at_pos (k_t hI hA.2.2.2.1), v_ixE hn hI hA hR, q_b_some, q_at_pos (k_t hI hA.2.2.2.1), e, q_b_some, q_at_pos (k_8 hI h8)]
  exact ⟨t, rfl, h8, h1, h2, h3⟩
/-- a byte, TWO, FOUR of a TABLE, by its place among the TABLES -/
def z_by (S : q_S) (m fF fB fL : Nat) (p i : Int) : Int := v_by (q_I S fF) (v_st S m fB p) (v_len S m fL p) i
def z_tw (S : q_S) (m fF fB fL : Nat) (p i : Int) : Int := v_tw (q_I S fF) (v_st S m fB p) (v_len S m fL p) i
def z_fr (S : q_S) (m fF fB fL : Nat) (p i : Int) : Int := v_fr (q_I S fF) (v_st S m fB p) (v_len S m fL p) i
/-- a TABLE of the one side stands for a place of the other -/
def v_is (ρ : Nat → Nat) (L : List Nat) (wo m fB fL : Nat) (S : q_S) (t : Nat) (p : Int) : Prop := (t ∈ L ∧ ρ t = 8) ∧ (q_I S t 3).toInt = v_st S m fB p ∧ (q_I S t 4).toInt = v_len S m fL p ∧ (q_I S t 3).toInt + (q_I S t 4).toInt ≤ (q_I S wo 1).toInt
theorem v_cby (hI : q_Inv ρ L S) (hA : v_Ad ρ L x wo ce tb en ab m fF fT fS fB fL) (hR : v_Rl wo ce tb en ab m fF fT fS fB fL S) {t : Nat} {p : Int} (h : v_is ρ L wo m fB fL S t p) {i : Int64} (hi : i.toInt ≤ 1152921504606846976) : ∃ r : Int32, m_X7_one n S t i = some (r, S) ∧ r.toInt = z_by S m fF fB fL p i.toInt := by
  obtain ⟨h8, h1, h2, h3⟩ := h
  obtain ⟨r, e, hr⟩ := v_tone (n := n) hI hA.2.1 hA.2.2.1 h8 h3 hi
  refine ⟨r, e, ?_⟩
  have h4 := g_8_I3 (q_G_refl (m := []) hI) h8.1 h8.2
  rw [hr, v_by_cg hR.2.1 h4.1 (by rw [← hR.1]; exact h3), h1, h2]
  rfl
theorem v_ctw (hI : q_Inv ρ L S) (hA : v_Ad ρ L x wo ce tb en ab m fF fT fS fB fL) (hR : v_Rl wo ce tb en ab m fF fT fS fB fL S) {t : Nat} {p : Int} (h : v_is ρ L wo m fB fL S t p) {i : Int64} (hi : i.toInt ≤ 1152921504606846976) : ∃ r : Int32, m_X7_two n S t i = some (r, S) ∧ r.toInt = z_tw S m fF fB fL p i.toInt := by
  obtain ⟨h8, h1, h2, h3⟩ := h
  obtain ⟨r, e, hr⟩ := v_ttwo (n := n) hI hA.2.1 hA.2.2.1 h8 h3 hi
  refine ⟨r, e, ?_⟩
  have h4 := g_8_I3 (q_G_refl (m := []) hI) h8.1 h8.2
  rw [hr, v_tw_cg hR.2.1 h4.1 (by rw [← hR.1]; exact h3), h1, h2]
  rfl
theorem v_cfr (hI : q_Inv ρ L S) (hA : v_Ad ρ L x wo ce tb en ab m fF fT fS fB fL) (hR : v_Rl wo ce tb en ab m fF fT fS fB fL S) {t : Nat} {p : Int} (h : v_is ρ L wo m fB fL S t p) {i : Int64} (hi : i.toInt ≤ 1152921504606846976) : ∃ r : Int64, m_X7_four n S t i = some (r, S) ∧ r.toInt = z_fr S m fF fB fL p i.toInt := by
  obtain ⟨h8, h1, h2, h3⟩ := h
  obtain ⟨r, e, hr⟩ := v_tfour (n := n) hI hA.2.1 hA.2.2.1 h8 h3 hi
  refine ⟨r, e, ?_⟩
  have h4 := g_8_I3 (q_G_refl (m := []) hI) h8.1 h8.2
  rw [hr, v_fr_cg hR.2.1 h4.1 (by rw [← hR.1]; exact h3), h1, h2]
  rfl
/-! the reference's number() -/
theorem v_nst (hI : q_Inv ρ L S) (hm : m ∈ L ∧ ρ m = 45) (hF : fF ∈ L ∧ ρ fF = 46) (hB : fB ∈ L ∧ ρ fB = 49) {l1 l4 l7 : Int32} {l2 l5 : Int64} {st : Int} {k : Nat} (h1 : 0 ≤ l1.toInt ∧ l1.toInt ≤ 23) (h2 : 0 ≤ l2.toInt) (h3 : (q_I S fB l1.toInt.toNat).toInt = st) (h4 : st + l2.toInt + l4.toInt ≤ 1600) (h7 : 0 ≤ l7.toInt) (hl : l7.toInt < l4.toInt) (h5 : 0 ≤ l5.toInt ∧ l5.toInt ≤ 16777215) : ∃ (w : Int64) (l8 : Int32), m_X12_number_40 n (k + 1) S (some m) l1 l2 l4 l5 l7 = m_X12_number_40 n k S (some m) l1 l2 l4 w l8 ∧ l8.toInt = l7.toInt + 1 ∧ w.toInt = 256 * l5.toInt + (q_I S fF (st + l2.toInt + l7.toInt).toNat).toInt ∧ 0 ≤ w.toInt ∧ w.toInt ≤ 256 * l5.toInt + 255 := by
  have hG : q_G ρ L [] S S := q_G_refl hI
  have hs := g_49_E hG hB.1 hB.2 (k := l1.toInt.toNat)
  have z1 : (1 : Int32).toInt = 1 := rfl
  have z256 : (256 : Int64).toInt = 256 := rfl
  have e2 : l2.toInt32.toInt = l2.toInt := q_wli (by omega) (by omega)
  have ea : ((q_I S fB l1.toInt.toNat) + (l2.toInt32)).toInt = st + l2.toInt := by rw [q_addI (by omega) (by omega), h3, e2]
  have eb : (((q_I S fB l1.toInt.toNat) + (l2.toInt32)) + l7).toInt = st + l2.toInt + l7.toInt := by rw [q_addI (by omega) (by omega), ea]
  have hb := g_46_E hG hF.1 hF.2 (k := (st + l2.toInt + l7.toInt).toNat)
  have em : ((256 : Int64) * l5).toInt = 256 * l5.toInt := q_mulLJ z256 (by omega) (by omega)
  have ev : (((256 : Int64) * l5) + ((q_I S fF (st + l2.toInt + l7.toInt).toNat).toInt64)).toInt = 256 * l5.toInt + (q_I S fF (st + l2.toInt + l7.toInt).toNat).toInt := by rw [q_addJ (by rw [em, q_wil]; omega) (by rw [em, q_wil]; omega), em, q_wil]
  refine ⟨((256 : Int64) * l5) + ((q_I S fF (st + l2.toInt + l7.toInt).toNat).toInt64), l7 + 1, ?_, by rw [q_addI (by rw [z1]; omega) (by rw [z1]; omega), z1], ev, by omega, by omega⟩
  rw [m_X12_number_40, if_neg (fun h => by have := i_le.mp h; omega), q_at_pos (k_m hI hm), v_m6 hI hm hB, q_at_pos (k_B hI hB), q_if_pos (q_inI (g_49_N hG hB.1 hB.2) (by omega) (by omega)), v_m1 hI hm hF, q_at_pos (k_F hI hF), v_cl (i := l1) rfl, q_if_pos (q_inI (g_46_N hG hF.1 hF.2) (by omega) (by omega)), v_cl eb]
theorem v_nend {l1 l4 l7 : Int32} {l2 l5 : Int64} {k : Nat} (h : l4.toInt ≤ l7.toInt) : m_X12_number_40 n (k + 1) S (some m) l1 l2 l4 l5 l7 = some (l5, S) := by
  rw [m_X12_number_40, if_pos (i_le.mpr h)]
/-- the value that number() gives, -1 if it is PAST -/
def z_nu (S : q_S) (m fF fB fL : Nat) (p i : Int) (k : Int) : Int := if k = 1 then z_by S m fF fB fL p i else if k = 2 then z_tw S m fF fB fL p i else z_fr S m fF fB fL p i
theorem v_num (hn : 18446744073709551616 ≤ n) (hI : q_Inv ρ L S) (hA : v_Ad ρ L x wo ce tb en ab m fF fT fS fB fL) {p k : Int32} {i : Int64} (hp : p.toInt = -1 ∨ (0 ≤ p.toInt ∧ p.toInt < (q_I S m 3).toInt)) (hi : i.toInt ≤ 1152921504606846976) (hk : k = 1 ∨ k = 2 ∨ k = 4) : ∃ r : Int64, (0 ≤ z_nu S m fF fB fL p.toInt i.toInt k.toInt → m_X12_number n S m p i k = some (r, S) ∧ r.toInt = z_nu S m fF fB fL p.toInt i.toInt k.toInt) ∧ (z_nu S m fF fB fL p.toInt i.toInt k.toInt < 0 → m_X12_number n S m p i k = some (r, q_sI S m 8 1) ∧ r = 0) := by
  obtain ⟨hx, hw, hc, ht, he, hab, hm, hF, hT, hS, hB, hL⟩ := hA
  have hG : q_G ρ L [] S S := q_G_refl hI
  have h3 := g_45_I3 hG hm.1 hm.2
  have zm : (-1 : Int32).toInt = -1 := rfl
  have z0 : (0 : Int64).toInt = 0 := rfl
  have hkb : 1 ≤ k.toInt ∧ k.toInt ≤ 4 := by rcases hk with e | e | e <;> rw [e] <;> decide
  have hbb : ∀ j, 0 ≤ (q_I S fF j).toInt ∧ (q_I S fF j).toInt ≤ 255 := fun j => g_46_E hG hF.1 hF.2
  have e27 : m_X12_number_27 n S (some m) = some (0, q_sI S m 8 1) := by
    unfold m_X12_number_27
    rw [q_at_pos (k_m hI hm), q_if_pos (Or.inr rfl)]
  by_cases g : 0 ≤ p.toInt ∧ 0 ≤ i.toInt ∧ i.toInt + k.toInt ≤ v_len S m fL p.toInt
  · have hp2 : 0 ≤ p.toInt ∧ p.toInt < (q_I S m 3).toInt := by omega
    have es : v_st S m fB p.toInt = (q_I S fB p.toInt.toNat).toInt := by unfold v_st; rw [if_pos hp2]
    have el : v_len S m fL p.toInt = (q_I S fL p.toInt.toNat).toInt := by unfold v_len; rw [if_pos hp2]
    have hsl := hI.2.2.2 fB fL hB.1 hL.1 hB.2 hL.2 p.toInt.toNat
    have hs0 := g_49_E hG hB.1 hB.2 (k := p.toInt.toNat)
    have hl0 := g_50_E hG hL.1 hL.2 (k := p.toInt.toNat)
    have ea : (i + (k.toInt64)).toInt = i.toInt + k.toInt := by rw [q_addJ (by rw [q_wil]; omega) (by rw [q_wil]; omega), q_wil]
    have e0 : m_X12_number n S m p i k = m_X12_number_40 n n S (some m) p i k 0 0 := by
      unfold m_X12_number
      rw [if_neg (fun h => by have := i_eq.mp h; omega), if_neg (fun h => by have := c_lt.mp h; omega), q_at_pos (k_m hI hm), v_m7 hI hm hL, q_at_pos (k_L hI hL), q_if_pos (q_inI (g_50_N hG hL.1 hL.2) (by omega) (by omega)), v_cl (i := p) rfl, if_pos (c_le.mpr (by rw [ea, q_wil]; omega))]
    obtain ⟨q, rfl⟩ : ∃ q, n = q + 1 + 1 + 1 + 1 + 1 := ⟨n - 5, by omega⟩
    have hp3 : 0 ≤ p.toInt ∧ p.toInt ≤ 23 := by omega
    obtain ⟨w1, l1, a1, b1, c1, d1, f1⟩ := v_nst (n := q + 1 + 1 + 1 + 1 + 1) (k := q + 1 + 1 + 1 + 1) (l4 := k) (l7 := 0) (l2 := i) (l5 := 0) hI hm hF hB hp3 g.2.1 es.symm (by omega) (by decide) (by show (0 : Int) < _; omega) ⟨by decide, by decide⟩
    have y0 : (0 : Int32).toInt = 0 := rfl
    rw [y0] at b1 c1
    rw [z0] at c1 f1
    rw [a1] at e0
    rcases hk with e | e | e
    · subst e
      have y1 : (1 : Int32).toInt = 1 := rfl
      rw [v_nend (by omega)] at e0
      refine ⟨w1, fun _ => ⟨e0, ?_⟩, fun h => ?_⟩
      · rw [y1]
        unfold z_nu z_by v_by
        rw [if_pos rfl, if_pos ⟨by omega, by omega⟩, c1]
        simp
      · exfalso
        rw [y1] at h g
        unfold z_nu z_by v_by at h
        rw [if_pos rfl, if_pos ⟨by omega, by omega⟩] at h
        have := hbb (v_st S m fB p.toInt + i.toInt).toNat
        omega
    · subst e
      have y2 : (2 : Int32).toInt = 2 := rfl
      obtain ⟨w2, l2, a2, b2, c2, d2, f2⟩ := v_nst (n := q + 1 + 1 + 1 + 1 + 1) (k := q + 1 + 1 + 1) (l4 := 2) (l7 := l1) (l2 := i) (l5 := w1) hI hm hF hB hp3 g.2.1 es.symm (by omega) (by omega) (by rw [y2]; omega) ⟨by omega, by omega⟩
      rw [a2, v_nend (by rw [y2]; omega)] at e0
      refine ⟨w2, fun _ => ⟨e0, ?_⟩, fun h => ?_⟩
      · rw [y2]
        unfold z_nu z_tw v_tw
        rw [if_neg (by decide), if_pos rfl, if_pos ⟨by omega, by omega⟩, c2, c1, b1]
        simp
      · exfalso
        rw [y2] at h g
        unfold z_nu z_tw v_tw at h
        rw [if_neg (by decide), if_pos rfl, if_pos ⟨by omega, by omega⟩] at h
        have := hbb (v_st S m fB p.toInt + i.toInt).toNat
        have := hbb (v_st S m fB p.toInt + i.toInt + 1).toNat
        omega
    · subst e
      have y4 : (4 : Int32).toInt = 4 := rfl
      obtain ⟨w2, l2, a2, b2, c2, d2, f2⟩ := v_nst (n := q + 1 + 1 + 1 + 1 + 1) (k := q + 1 + 1 + 1) (l4 := 4) (l7 := l1) (l2 := i) (l5 := w1) hI hm hF hB hp3 g.2.1 es.symm (by omega) (by omega) (by rw [y4]; omega) ⟨by omega, by omega⟩
      obtain ⟨w3, l3, a3, b3, c3, d3, f3⟩ := v_nst (n := q + 1 + 1 + 1 + 1 + 1) (k := q + 1 + 1) (l4 := 4) (l7 := l2) (l2 := i) (l5 := w2) hI hm hF hB hp3 g.2.1 es.symm (by omega) (by omega) (by rw [y4]; omega) ⟨by omega, by omega⟩
      obtain ⟨w4, l4, a4, b4, c4, d4, f4⟩ := v_nst (n := q + 1 + 1 + 1 + 1 + 1) (k := q + 1) (l4 := 4) (l7 := l3) (l2 := i) (l5 := w3) hI hm hF hB hp3 g.2.1 es.symm (by omega) (by omega) (by rw [y4]; omega) ⟨by omega, by omega⟩
      rw [a2, a3, a4, v_nend (by rw [y4]; omega)] at e0
      have i1 : v_st S m fB p.toInt + i.toInt + l1.toInt = v_st S m fB p.toInt + i.toInt + 1 := by omega
      have i2 : v_st S m fB p.toInt + i.toInt + l2.toInt = v_st S m fB p.toInt + i.toInt + 2 := by omega
      have i3 : v_st S m fB p.toInt + i.toInt + l3.toInt = v_st S m fB p.toInt + i.toInt + 3 := by omega
      rw [i1] at c2
      rw [i2] at c3
      rw [i3] at c4
      rw [Int.add_zero] at c1
      refine ⟨w4, fun _ => ⟨e0, ?_⟩, fun h => ?_⟩
      · rw [y4]
        unfold z_nu z_fr v_fr v_fo
        rw [if_neg (by decide), if_neg (by decide), if_pos ⟨by omega, by omega⟩]
        omega
      · exfalso
        rw [y4] at h g
        unfold z_nu z_fr v_fr at h
        rw [if_neg (by decide), if_neg (by decide), if_pos ⟨by omega, by omega⟩] at h
        have := v_fo_b hbb (v_st S m fB p.toInt + i.toInt)
        omega
  · have ez : z_nu S m fF fB fL p.toInt i.toInt k.toInt = -1 := by
      have hln : p.toInt < 0 → v_len S m fL p.toInt = 0 := fun h => by unfold v_len; rw [if_neg (fun h2 => by omega)]
      unfold z_nu z_by z_tw z_fr v_by v_tw v_fr
      rcases hk with e | e | e
      · subst e
        have y1 : (1 : Int32).toInt = 1 := rfl
        rw [y1] at g
        rw [y1, if_pos rfl, if_neg (fun h => g ⟨by rcases Int.lt_or_le p.toInt 0 with h9 | h9 <;> first | (have := hln h9; omega) | omega, by omega, by omega⟩)]
      · subst e
        have y2 : (2 : Int32).toInt = 2 := rfl
        rw [y2] at g
        rw [y2, if_neg (by decide), if_pos rfl, if_neg (fun h => g ⟨by rcases Int.lt_or_le p.toInt 0 with h9 | h9 <;> first | (have := hln h9; omega) | omega, by omega, by omega⟩)]
      · subst e
        have y4 : (4 : Int32).toInt = 4 := rfl
        rw [y4] at g
        rw [y4, if_neg (by decide), if_neg (by decide), if_neg (fun h => g ⟨by rcases Int.lt_or_le p.toInt 0 with h9 | h9 <;> first | (have := hln h9; omega) | omega, by omega, by omega⟩)]
    refine ⟨0, fun h => by omega, fun _ => ⟨?_, rfl⟩⟩
    unfold m_X12_number
    by_cases g1 : p.toInt = -1
    · rw [if_pos (i_eq.mpr (by rw [zm]; exact g1))]
      exact e27
    rw [if_neg (fun h => g1 (by have := i_eq.mp h; rw [zm] at this; exact this))]
    by_cases g2 : i.toInt < 0
    · rw [if_pos (c_lt.mpr (by rw [z0]; exact g2))]
      exact e27
    have hp2 : 0 ≤ p.toInt ∧ p.toInt < (q_I S m 3).toInt := by omega
    have el : v_len S m fL p.toInt = (q_I S fL p.toInt.toNat).toInt := by unfold v_len; rw [if_pos hp2]
    have ea : (i + (k.toInt64)).toInt = i.toInt + k.toInt := by rw [q_addJ (by rw [q_wil]; omega) (by rw [q_wil]; omega), q_wil]
    rw [if_neg (fun h => g2 (by have := c_lt.mp h; rw [z0] at this; exact this)), q_at_pos (k_m hI hm), v_m7 hI hm hL, q_at_pos (k_L hI hL), q_if_pos (q_inI (g_50_N hG hL.1 hL.2) (by omega) (by omega)), v_cl (i := p) rfl, if_neg (fun h => by have := c_le.mp h; rw [ea, q_wil] at this; omega)]
    exact e27
end QVT
