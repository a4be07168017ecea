/-! VALUES: how many bytes a new file has; the one side's newSize (role 38: rows 6 sizes 42, 7 places 43, 5 order 41, 3 out 39) -/
/-- bytes of DATA of a SIGN that are written; a: the row of used ones -/
def s_one (S : q_S) (m fF fB fL a : Nat) (k : Nat) : Int := if q_I S a k ≠ 0 ∧ 0 ≤ z_pl S m fF fB fL k ∧ 0 ≤ z_pl S m fF fB fL ((k : Int) + 1) ∧ z_pl S m fF fB fL k ≤ z_pl S m fF fB fL ((k : Int) + 1) ∧ z_pl S m fF fB fL ((k : Int) + 1) ≤ v_len S m fL (q_fd S m 1735162214).toInt then z_pl S m fF fB fL ((k : Int) + 1) - z_pl S m fF fB fL k else 0
/-- the places in the new glyf -/
def s_gl (S : q_S) (m fF fB fL a : Nat) : Nat → Int
  | 0 => 0
  | i + 1 => s_gl S m fF fB fL a i + (s_one S m fF fB fL a i + s_one S m fF fB fL a i % 2)
def s_wd (S : q_S) (m fF fB fL : Nat) : Int := if z_tw S m fF fB fL (q_fd S m 1751474532).toInt 50 = 1 then 4 else 2
def s_len (S : q_S) (m fF fB fL a : Nat) (t : Nat) : Int := if (t : Int) = (q_fd S m 1735162214).toInt then s_gl S m fF fB fL a (v_sg S m fF fB fL).toNat else if (t : Int) = (q_fd S m 1819239265).toInt then (v_sg S m fF fB fL + 1) * s_wd S m fF fB fL else v_len S m fL t
def s_pad (z : Int) : Int := (z + 3) / 4 * 4
def s_sum (f : Nat → Int) : Nat → Int
  | 0 => 0
  | i + 1 => s_sum f i + f i
def s_tot (S : q_S) (m fF fB fL a : Nat) : Int := 12 + 16 * (q_I S m 3).toInt + s_sum (fun t => s_pad (s_len S m fF fB fL a t)) (q_I S m 3).toInt.toNat
theorem s_sum_b {f : Nat → Int} {B : Int} (h : ∀ i, 0 ≤ f i ∧ f i ≤ B) : ∀ i : Nat, 0 ≤ s_sum f i ∧ s_sum f i ≤ i * B
  | 0 => by rw [s_sum]; omega
  | i + 1 => by
    have h1 := s_sum_b h i
    have h2 := h i
    rw [s_sum]
    refine ⟨by omega, ?_⟩
    have : ((i + 1 : Nat) : Int) * B = i * B + B := by rw [Int.natCast_add, Int.add_mul]; simp
    omega
section QSZ
variable {ρ : Nat → Nat} {L M9 : List Nat} {n : Nat} {S T : q_S} {x wo ce tb en ab m fF fT fS fB fL sg dt tl tg uC oC us wr sA pA a : Nat}
theorem s_one_b (hI : q_Inv ρ L S) (hA : v_Ad ρ L x wo ce tb en ab m fF fT fS fB fL) {k : Nat} : 0 ≤ s_one S m fF fB fL a k ∧ s_one S m fF fB fL a k ≤ 1600 := by
  have bl := p_lim_b (p := (q_fd S m 1735162214).toInt) hI hA.2.2.2.2.2.2.1 hA.2.2.2.2.2.2.2.2.2.2.2
  unfold s_one
  split
  · omega
  · omega
theorem s_gl_b (hI : q_Inv ρ L S) (hA : v_Ad ρ L x wo ce tb en ab m fF fT fS fB fL) : ∀ i : Nat, 0 ≤ s_gl S m fF fB fL a i ∧ s_gl S m fF fB fL a i ≤ 1601 * i
  | 0 => by rw [s_gl]; omega
  | i + 1 => by
    have h1 := s_gl_b hI hA i
    have h2 := s_one_b (a := a) (k := i) hI hA
    rw [s_gl]
    omega
theorem s_len_b (hI : q_Inv ρ L S) (hA : v_Ad ρ L x wo ce tb en ab m fF fT fS fB fL) {t : Nat} : 0 ≤ s_len S m fF fB fL a t ∧ s_len S m fF fB fL a t ≤ 320200 := by
  have hb := v_sg_b (S := S) (m := m) (fF := fF) (fB := fB) (fL := fL)
  have h1 := s_gl_b (a := a) hI hA (v_sg S m fF fB fL).toNat
  have h2 := p_lim_b (p := (t : Int)) hI hA.2.2.2.2.2.2.1 hA.2.2.2.2.2.2.2.2.2.2.2
  unfold s_len s_wd
  split
  · omega
  · split
    · split <;> omega
    · omega
theorem s_pad_b {z B : Int} (h : 0 ≤ z ∧ z ≤ B) : 0 ≤ s_pad z ∧ s_pad z ≤ B + 3 ∧ z ≤ s_pad z := by unfold s_pad; omega
theorem k_r (hI : q_Inv ρ L S) (h : wr ∈ L ∧ ρ wr = 38) : wr ∈ q_L S ∧ q_K S wr = 11 := v_at hI h rfl
theorem c_sizeW (hI : q_Inv ρ L S) (hA : v_Ad ρ L x wo ce tb en ab m fF fT fS fB fL) (hR : v_Rl wo ce tb en ab m fF fT fS fB fL S) (hs : sg ∈ L ∧ ρ sg = 9) (hu : uC ∈ L ∧ ρ uC = 10) (hW : w_s ρ L wo m fF fB fL sg tl tg S) {k : Int32} (hk : 0 ≤ k.toInt ∧ k.toInt < v_sg S m fF fB fL) : ∃ r : Int32, m_X6_sizeToWrite n S sg k = some (r, S) ∧ r.toInt = s_one S m fF fB fL uC k.toInt.toNat := by
  obtain ⟨w1, w2, w3, w4, w5, w6⟩ := hW
  have hF := hA.2.2.2.2.2.2.2.1
  have hG : q_G ρ L [] S S := q_G_refl hI
  have hsb := v_sg_b (S := S) (m := m) (fF := fF) (fB := fB) (fL := fL)
  have y1 : (1 : Int32).toInt = 1 := rfl
  have ym : (-1 : Int64).toInt = -1 := rfl
  have ek : (k + (1 : Int32)).toInt = k.toInt + 1 := by rw [q_addI (by rw [y1]; omega) (by rw [y1]; omega), y1]
  have ekn : ((k.toInt.toNat : Nat) : Int) = k.toInt := by omega
  have l2 : q_R S sg 2 = some uC := v_ln hI (g_9_R2 hG hs.1 hs.2) hu rfl
  obtain ⟨r10, e10, v10⟩ := c_place (n := n) (k := k) hI hA hR hs w1 w2 w3 ⟨hk.1, by omega⟩
  obtain ⟨r14, e14, v14⟩ := c_place (n := n) (k := k + (1 : Int32)) hI hA hR hs w1 w2 w3 ⟨by omega, by omega⟩
  rw [ek] at v14
  have b1 := z_pl_b (m := m) (fB := fB) (fL := fL) (k := k.toInt) hI hF
  have b2 := z_pl_b (m := m) (fB := fB) (fL := fL) (k := k.toInt + 1) hI hF
  have bg := g_8_I4 hG w5.1.1 w5.1.2
  unfold m_X6_sizeToWrite m_X6_sizeToWrite_17 m_X6_sizeToWrite_72 m_X6_sizeToWrite_77 m_X6_sizeToWrite_93 s_one
  rw [q_at_pos (k_s hI hs), v_hasS hI hs w6, q_b_some, if_pos hk, if_neg (by decide), q_at_pos (k_s hI hs), l2, q_at_pos (v_at (c := 102) hI hu rfl), q_if_pos (q_inI (g_10_N hG hu.1 hu.2) hk.1 (by omega)), v_cl (i := k) rfl, ekn]
  by_cases g0 : q_I S uC k.toInt.toNat = 0
  · rw [if_pos g0, if_neg (fun h => h.1 g0)]
    exact ⟨0, rfl, rfl⟩
  rw [if_neg g0, e10, q_b_some, q_at_pos (k_s hI hs), e14, q_b_some]
  by_cases g1 : z_pl S m fF fB fL k.toInt < 0
  · rw [if_pos (c_eq.mpr (by rw [v10, ym]; omega)), if_neg (by decide), if_neg (fun h => by omega)]
    exact ⟨0, rfl, rfl⟩
  rw [if_neg (fun h => g1 (by have := c_eq.mp h; rw [v10, ym] at this; omega))]
  by_cases g2 : z_pl S m fF fB fL (k.toInt + 1) < 0
  · rw [if_pos (c_eq.mpr (by rw [v14, ym]; omega)), if_neg (by decide), if_neg (fun h => by omega)]
    exact ⟨0, rfl, rfl⟩
  rw [if_neg (fun h => g2 (by have := c_eq.mp h; rw [v14, ym] at this; omega))]
  by_cases g3 : z_pl S m fF fB fL (k.toInt + 1) < z_pl S m fF fB fL k.toInt
  · rw [if_pos (c_gt.mpr (by rw [v10, v14]; exact g3)), if_neg (by decide), if_neg (fun h => by omega)]
    exact ⟨0, rfl, rfl⟩
  rw [if_neg (fun h => g3 (by have := c_gt.mp h; rw [v10, v14] at this; exact this)), q_at_pos (k_s hI hs), w4, q_at_pos (k_8 hI w5.1)]
  by_cases g4 : z_pl S m fF fB fL (k.toInt + 1) ≤ v_len S m fL (q_fd S m 1735162214).toInt
  · rw [if_pos (c_le.mpr (by rw [v14, q_wil, w5.2.2.1]; exact g4)), if_pos rfl, if_pos ⟨g0, by omega, by omega, by omega, g4⟩]
    rw [w5.2.2.1] at bg
    have e : (r14 - r10).toInt = z_pl S m fF fB fL (k.toInt + 1) - z_pl S m fF fB fL k.toInt := by rw [q_subJ (by omega) (by omega), v10, v14]
    exact ⟨_, rfl, by rw [q_wli (by omega) (by omega), e]⟩
  · rw [if_neg (fun h => g4 (by have := c_le.mp h; rw [v14, q_wil, w5.2.2.1] at this; exact this)), if_neg (by decide), if_neg (fun h => g4 h.2.2.2.2)]
    exact ⟨0, rfl, rfl⟩
theorem s_un (hI : q_Inv ρ L S) (g : q_G ρ L M9 S T) (hA : v_Ad ρ L x wo ce tb en ab m fF fT fS fB fL) (h : v_fr9 M9 = true) (ha : ∀ k, q_I T a k = q_I S a k) : s_one T m fF fB fL a = s_one S m fF fB fL a ∧ (∀ i, s_gl T m fF fB fL a i = s_gl S m fF fB fL a i) ∧ (∀ t, s_len T m fF fB fL a t = s_len S m fF fB fL a t) ∧ s_tot T m fF fB fL a = s_tot S m fF fB fL a := by
  obtain ⟨u1, -, -, u4, u5, u6⟩ := z_un hI g hA h
  have hz : ∀ k, z_pl T m fF fB fL k = z_pl S m fF fB fL k := fun k => z_pl_un hI g hA h
  have e1 : s_one T m fF fB fL a = s_one S m fF fB fL a := funext fun k => by unfold s_one; rw [ha, hz, hz, u4, u6]
  have e2 : ∀ i, s_gl T m fF fB fL a i = s_gl S m fF fB fL a i := fun i => by
    induction i with
    | zero => rfl
    | succ i ih => rw [s_gl, s_gl, ih, e1]
  have e3 : ∀ t, s_len T m fF fB fL a t = s_len S m fF fB fL a t := fun t => by
    unfold s_len s_wd
    rw [u4, u4, u4, u1, e2, v_sg_un hI g hA h, u6]
  refine ⟨e1, e2, e3, ?_⟩
  unfold s_tot
  have ef : s_len T m fF fB fL a = s_len S m fF fB fL a := funext e3
  rw [u5, ef]
theorem c_findP (hn : 18446744073709551616 ≤ n) (hI : q_Inv ρ L S) (hA : v_Ad ρ L x wo ce tb en ab m fF fT fS fB fL) (hR : v_Rl wo ce tb en ab m fF fT fS fB fL S) (hr : wr ∈ L ∧ ρ wr = 38) (hs : sg ∈ L ∧ ρ sg = 9) (hu : uC ∈ L ∧ ρ uC = 10) (hsA : sA ∈ L ∧ ρ sA = 42) (hpA : pA ∈ L ∧ ρ pA = 43) (hW : w_s ρ L wo m fF fB fL sg tl tg S) (hp0 : q_I S pA 0 = 0) : ∃ T, m_X10_findPlaces n S wr = some ((), T) ∧ q_G ρ L M_X10_findPlaces_38 S T ∧ q_I T pA 0 = 0 ∧ (∀ i : Nat, (i : Int) < v_sg S m fF fB fL → (q_I T sA i).toInt = s_one S m fF fB fL uC i) ∧ ∀ i : Nat, (i : Int) ≤ v_sg S m fF fB fL → (q_I T pA i).toInt = s_gl S m fF fB fL uC i := by
  have hG : q_G ρ L M_X10_findPlaces_38 S S := q_G_refl hI
  have hsb := v_sg_b (S := S) (m := m) (fF := fF) (fB := fB) (fL := fL)
  have y1 : (1 : Int32).toInt = 1 := rfl
  have y2 : (2 : Int32).toInt = 2 := rfl
  have l2 : ∀ U, q_Inv ρ L U → q_R U wr 2 = some sg := fun U hU => v_ln hU (g_38_R2 (q_G_refl (m := []) hU) hr.1 hr.2) hs rfl
  have l6 : ∀ U, q_Inv ρ L U → q_R U wr 6 = some sA := fun U hU => v_ln hU (g_38_R6 (q_G_refl (m := []) hU) hr.1 hr.2) hsA rfl
  have l7 : ∀ U, q_Inv ρ L U → q_R U wr 7 = some pA := fun U hU => v_ln hU (g_38_R7 (q_G_refl (m := []) hU) hr.1 hr.2) hpA rfl
  have loop : ∀ (j k i : Nat) (U : q_S) (l1 : Int32), q_G ρ L M_X10_findPlaces_38 S U → l1.toInt = i → (i : Int) + j = v_sg S m fF fB fL → j < k → q_I U pA 0 = 0 → (∀ t : Nat, t < i → (q_I U sA t).toInt = s_one S m fF fB fL uC t) → (∀ t : Nat, t ≤ i → (q_I U pA t).toInt = s_gl S m fF fB fL uC t) → ∃ T, m_X10_findPlaces_2 n k U (some wr) l1 = some ((), T) ∧ q_G ρ L M_X10_findPlaces_38 S T ∧ q_I T pA 0 = 0 ∧ (∀ t : Nat, (t : Int) < v_sg S m fF fB fL → (q_I T sA t).toInt = s_one S m fF fB fL uC t) ∧ ∀ t : Nat, (t : Int) ≤ v_sg S m fF fB fL → (q_I T pA t).toInt = s_gl S m fF fB fL uC t := by
    intro j
    induction j with
    | zero =>
      intro k i U l1 gU e1 e2 hk h0 h1 h2
      obtain ⟨k, rfl⟩ : ∃ k', k = k' + 1 := ⟨k - 1, by omega⟩
      have W := w_s_un hI gU hA hs (by decide) hW
      have e6 : m_X6_size n U sg = some (q_I U sg 5, U) := by unfold m_X6_size; rw [q_at_pos (k_s gU.1 hs)]
      rw [m_X10_findPlaces_2, q_at_pos (k_r gU.1 hr), l2 _ gU.1, q_at_pos (k_s gU.1 hs), e6, q_b_some, if_pos (i_le.mpr (by rw [W.2.2.2.2.2, v_sg_un hI gU hA (by decide)]; omega))]
      exact ⟨U, rfl, gU, h0, fun t ht => h1 t (by omega), fun t ht => h2 t (by omega)⟩
    | succ j ih =>
      intro k i U l1 gU e1 e2 hk h0 h1 h2
      obtain ⟨k, rfl⟩ : ∃ k', k = k' + 1 := ⟨k - 1, by omega⟩
      have W := w_s_un hI gU hA hs (by decide) hW
      have hsgU : v_sg U m fF fB fL = v_sg S m fF fB fL := v_sg_un hI gU hA (by decide)
      have e6 : m_X6_size n U sg = some (q_I U sg 5, U) := by unfold m_X6_size; rw [q_at_pos (k_s gU.1 hs)]
      obtain ⟨su, -, -, -⟩ := s_un (a := uC) hI gU hA (by decide) (fun k => q_unIA gU hu.1 hu.2 (by decide) (by decide))
      obtain ⟨r9, e9, v9⟩ := c_sizeW (n := n) (k := l1) gU.1 hA (v_RlU hA gU (by decide) hR) hs hu W ⟨by omega, by omega⟩
      have ec : l1.toInt.toNat = i := by omega
      rw [su, ec] at v9
      have bo := s_one_b (a := uC) (k := i) hI hA
      have bg := s_gl_b (a := uC) hI hA i
      have G1 := u_42_E (k := i) (x := r9) gU hsA.1 hsA.2 (by decide)
      have f1 : q_I (q_sI U sA i r9) sA i = r9 := q_hitI
      have f2 : q_I (q_sI U sA i r9) pA i = q_I U pA i := q_fwI hpA.2 hsA.2 (by decide)
      have el : (l1 + (1 : Int32)).toInt = (i : Int) + 1 := by rw [q_addI (by rw [y1]; omega) (by rw [y1]; omega), y1, e1]
      have hp := h2 i (Nat.le_refl _)
      have er : (r9 - r9 / (2 : Int32) * (2 : Int32)).toInt = r9.toInt % 2 := q_remI (by omega) (by decide)
      have ea : ((q_I U pA i) + r9).toInt = s_gl S m fF fB fL uC i + s_one S m fF fB fL uC i := by rw [q_addI (by omega) (by omega), hp, v9]
      have eb : (((q_I U pA i) + r9) + (r9 - r9 / (2 : Int32) * (2 : Int32))).toInt = s_gl S m fF fB fL uC (i + 1) := by rw [q_addI (by rw [ea, er]; omega) (by rw [ea, er]; omega), ea, er, v9, s_gl]; omega
      have G2 := u_43_E (k := i + 1) (x := ((q_I U pA i) + r9) + (r9 - r9 / (2 : Int32) * (2 : Int32))) G1 hpA.1 hpA.2 (by decide)
      have inS : q_in l1 (q_N U sA) = true := q_inI (g_42_N gU hsA.1 hsA.2) (by omega) (by omega)
      have inS1 : q_in l1 (q_N (q_sI U sA i r9) sA) = true := q_inI (g_42_N G1 hsA.1 hsA.2) (by omega) (by omega)
      have inP : q_in l1 (q_N (q_sI U sA i r9) pA) = true := q_inI (g_43_N G1 hpA.1 hpA.2) (by omega) (by omega)
      have inP1 : q_in (l1 + (1 : Int32)) (q_N (q_sI U sA i r9) pA) = true := q_inI (g_43_N G1 hpA.1 hpA.2) (by omega) (by omega)
      have c1 : (l1).toNatClampNeg = i := by rw [v_cl e1]; rfl
      have c2 : (l1 + (1 : Int32)).toNatClampNeg = i + 1 := by rw [v_cl el]; omega
      rw [m_X10_findPlaces_2, q_at_pos (k_r gU.1 hr), l2 _ gU.1, q_at_pos (k_s gU.1 hs), e6, q_b_some, if_neg (fun h => by have := i_le.mp h; rw [W.2.2.2.2.2, hsgU] at this; omega), q_at_pos (k_r gU.1 hr), l2 _ gU.1, q_at_pos (k_s gU.1 hs), e9, q_b_some, l6 _ gU.1, q_at_pos (v_at (c := 100) gU.1 hsA rfl), q_if_pos inS, c1, q_at_pos (k_r G1.1 hr), l7 _ G1.1, q_at_pos (v_at (c := 100) G1.1 hpA rfl), q_if_pos inP, l6 _ G1.1, q_at_pos (v_at (c := 100) G1.1 hsA rfl), q_if_pos inS1, q_if_pos inS1, q_if_pos (by decide), q_if_pos inP1, q_let_eq, c2, f1, f2]
      refine ih k (i + 1) _ (l1 + 1) G2 (by rw [el]; rfl) (by omega) (by omega) (by rw [q_ffI (by omega), q_fwI hpA.2 hsA.2 (by decide)]; exact h0) (fun t ht => ?_) (fun t ht => ?_)
      · rw [q_fwI hsA.2 hpA.2 (by decide)]
        by_cases e : t = i
        · rw [e, q_hitI, v9]
        · rw [q_ffI e]; exact h1 t (by omega)
      · by_cases e : t = i + 1
        · rw [e, q_hitI, eb]
        · rw [q_ffI e, q_fwI hpA.2 hsA.2 (by decide)]; exact h2 t (by omega)
  unfold m_X10_findPlaces
  exact loop (v_sg S m fF fB fL).toNat n 0 S 0 hG rfl (by omega) (by omega) hp0 (fun t ht => by omega) (fun t ht => by
    have : t = 0 := by omega
    rw [this, hp0]; rfl)
theorem c_newLen (hn : 18446744073709551616 ≤ n) (hI : q_Inv ρ L S) (hA : v_Ad ρ L x wo ce tb en ab m fF fT fS fB fL) (hR : v_Rl wo ce tb en ab m fF fT fS fB fL S) (hr : wr ∈ L ∧ ρ wr = 38) (hs : sg ∈ L ∧ ρ sg = 9) (hpA : pA ∈ L ∧ ρ pA = 43) (hW : w_s ρ L wo m fF fB fL sg tl tg S) (hp : ∀ i : Nat, (i : Int) ≤ v_sg S m fF fB fL → (q_I S pA i).toInt = s_gl S m fF fB fL uC i) {t : Int32} (ht : 0 ≤ t.toInt ∧ t.toInt < (q_I S m 3).toInt) : ∃ r : Int32, m_X10_newLength n S wr t = some (r, S) ∧ r.toInt = s_len S m fF fB fL uC t.toInt.toNat := by
  have hG : q_G ρ L [] S S := q_G_refl hI
  have hsb := v_sg_b (S := S) (m := m) (fF := fF) (fB := fB) (fL := fL)
  have y1 : (1 : Int32).toInt = 1 := rfl
  have y2 : (2 : Int32).toInt = 2 := rfl
  have y4 : (4 : Int32).toInt = 4 := rfl
  have l1 : q_R S wr 1 = some tb := v_ln hI (g_38_R1 hG hr.1 hr.2) hA.2.2.2.1 rfl
  have l2 : q_R S wr 2 = some sg := v_ln hI (g_38_R2 hG hr.1 hr.2) hs rfl
  have l7 : q_R S wr 7 = some pA := v_ln hI (g_38_R7 hG hr.1 hr.2) hpA rfl
  have e6 : m_X6_size n S sg = some (q_I S sg 5, S) := by unfold m_X6_size; rw [q_at_pos (k_s hI hs)]
  have etn : ((t.toInt.toNat : Nat) : Int) = t.toInt := by omega
  obtain ⟨w1, w2, w3, w4, w5, w6⟩ := hW
  unfold m_X10_newLength m_X10_newLength_65 s_len
  rw [q_at_pos (k_r hI hr), l1, q_at_pos (k_t hI hA.2.2.2.1), v_ixE hn hI hA hR, q_b_some, etn]
  by_cases g1 : t = q_fd S m 1735162214
  · rw [if_pos g1, q_at_pos (k_r hI hr), l2, q_at_pos (k_s hI hs), e6, q_b_some, l7, q_at_pos (v_at (c := 100) hI hpA rfl), q_if_pos (q_inI (g_43_N hG hpA.1 hpA.2) (by omega) (by omega)), v_cl w6, if_pos (show t.toInt = (q_fd S m 1735162214).toInt by rw [g1])]
    exact ⟨_, rfl, hp _ (by omega)⟩
  rw [if_neg g1, if_neg (fun h => g1 (Int32.toInt_inj.mp h)), q_at_pos (k_r hI hr), l1, q_at_pos (k_t hI hA.2.2.2.1), v_ixE hn hI hA hR, q_b_some]
  by_cases g2 : t = q_fd S m 1819239265
  · have hLP : m_X6_haveLongPlaces n S sg = some (q_I S sg 7, S) := by
      unfold m_X6_haveLongPlaces
      have b := g_9_I7 hG hs.1 hs.2
      rw [q_at_pos (k_s hI hs), q_if_pos (q_b01 b.1 b.2)]
    have ea : ((q_I S sg 5) + (1 : Int32)).toInt = v_sg S m fF fB fL + 1 := by rw [q_addI (by rw [y1]; omega) (by rw [y1]; omega), y1, w6]
    rw [if_pos g2, q_at_pos (k_r hI hr), l2, q_at_pos (k_s hI hs), e6, q_b_some, q_at_pos (k_r hI hr), l2, q_at_pos (k_s hI hs), hLP, q_b_some, if_pos (show t.toInt = (q_fd S m 1819239265).toInt by rw [g2]), w1]
    unfold s_wd
    by_cases g3 : z_tw S m fF fB fL (q_fd S m 1751474532).toInt 50 = 1
    · rw [if_pos g3, if_neg (by decide), if_pos g3]
      exact ⟨_, rfl, by rw [q_mulRI y4 (by rw [ea]; omega) (by rw [ea]; omega), ea]⟩
    · rw [if_neg g3, if_pos rfl, if_neg g3]
      exact ⟨_, rfl, by rw [q_mulRI y2 (by rw [ea]; omega) (by rw [ea]; omega), ea]⟩
  · rw [if_neg g2, if_neg (fun h => g2 (Int32.toInt_inj.mp h)), q_at_pos (k_r hI hr), l1, q_at_pos (k_t hI hA.2.2.2.1)]
    obtain ⟨o, e, h8, -, h2, -⟩ := v_get (n := n) (p := t) hI hA hR
    rw [e, q_b_some, q_at_pos (k_8 hI h8)]
    exact ⟨_, rfl, h2⟩
theorem c_pad {S : q_S} {z : Int32} (h : 0 ≤ z.toInt ∧ z.toInt ≤ 1000000) : ∃ r : Int32, m_X10_padded n S z = some (r, S) ∧ r.toInt = s_pad z.toInt := by
  have y3 : (3 : Int32).toInt = 3 := rfl
  have y4 : (4 : Int32).toInt = 4 := rfl
  have e1 : (z + (3 : Int32)).toInt = z.toInt + 3 := by rw [q_addI (by rw [y3]; omega) (by rw [y3]; omega), y3]
  have e2 : ((z + (3 : Int32)) / (4 : Int32)).toInt = (z.toInt + 3) / 4 := by rw [q_divI 4 (by decide) (by decide) (by omega), e1]; rfl
  unfold m_X10_padded s_pad
  rw [q_if_pos (by decide)]
  exact ⟨_, rfl, by rw [q_mulRI y4 (by rw [e2]; omega) (by rw [e2]; omega), e2]⟩
theorem c_newSize (hn : 18446744073709551616 ≤ n) (hI : q_Inv ρ L S) (hA : v_Ad ρ L x wo ce tb en ab m fF fT fS fB fL) (hR : v_Rl wo ce tb en ab m fF fT fS fB fL S) (hr : wr ∈ L ∧ ρ wr = 38) (hs : sg ∈ L ∧ ρ sg = 9) (hpA : pA ∈ L ∧ ρ pA = 43) (hW : w_s ρ L wo m fF fB fL sg tl tg S) (hp : ∀ i : Nat, (i : Int) ≤ v_sg S m fF fB fL → (q_I S pA i).toInt = s_gl S m fF fB fL uC i) : ∃ r : Int32, m_X10_newSize n S wr = some (r, S) ∧ r.toInt = s_tot S m fF fB fL uC := by
  have hG : q_G ρ L [] S S := q_G_refl hI
  have hT := g_45_I3 hG hA.2.2.2.2.2.2.1.1 hA.2.2.2.2.2.2.1.2
  have y1 : (1 : Int32).toInt = 1 := rfl
  have y16 : (16 : Int32).toInt = 16 := rfl
  have y12 : (12 : Int32).toInt = 12 := rfl
  have l1 : q_R S wr 1 = some tb := v_ln hI (g_38_R1 hG hr.1 hr.2) hA.2.2.2.1 rfl
  have e8 : m_X8_size n S tb = some (q_I S m 3, S) := by unfold m_X8_size; rw [q_at_pos (k_t hI hA.2.2.2.1), hR.2.2.1]
  have hfb : ∀ i, 0 ≤ (fun t => s_pad (s_len S m fF fB fL uC t)) i ∧ (fun t => s_pad (s_len S m fF fB fL uC t)) i ≤ 320203 := fun i => by
    have := s_pad_b (s_len_b (a := uC) (t := i) hI hA)
    exact ⟨this.1, this.2.1⟩
  have loop : ∀ (j k i : Nat) (l l2 : Int32), l2.toInt = i → (i : Int) + j = (q_I S m 3).toInt → j < k → l.toInt = 12 + 16 * (q_I S m 3).toInt + s_sum (fun t => s_pad (s_len S m fF fB fL uC t)) i → ∃ r : Int32, m_X10_newSize_16 n k S (some wr) l l2 = some (r, S) ∧ r.toInt = s_tot S m fF fB fL uC := by
    intro j
    induction j with
    | zero =>
      intro k i l l2 h2 hj hk hl
      obtain ⟨k, rfl⟩ : ∃ k', k = k' + 1 := ⟨k - 1, by omega⟩
      rw [m_X10_newSize_16, q_at_pos (k_r hI hr), l1, q_at_pos (k_t hI hA.2.2.2.1), e8, q_b_some, if_pos (i_le.mpr (by omega))]
      refine ⟨l, rfl, ?_⟩
      unfold s_tot
      rw [hl, show i = (q_I S m 3).toInt.toNat by omega]
    | succ j ih =>
      intro k i l l2 h2 hj hk hl
      obtain ⟨k, rfl⟩ : ∃ k', k = k' + 1 := ⟨k - 1, by omega⟩
      obtain ⟨r8, e9, v9⟩ := c_newLen (n := n) (t := l2) hn hI hA hR hr hs hpA hW hp ⟨by omega, by omega⟩
      have ei : l2.toInt.toNat = i := by omega
      rw [ei] at v9
      have bl := s_len_b (a := uC) (t := i) hI hA
      obtain ⟨r11, e11, v11⟩ := c_pad (n := n) (S := S) (z := r8) (by omega)
      rw [v9] at v11
      have bs := s_sum_b hfb i
      have bi := hfb i
      have bi : 0 ≤ s_pad (s_len S m fF fB fL uC i) ∧ s_pad (s_len S m fF fB fL uC i) ≤ 320203 := bi
      rw [m_X10_newSize_16, q_at_pos (k_r hI hr), l1, q_at_pos (k_t hI hA.2.2.2.1), e8, q_b_some, if_neg (fun h => by have := i_le.mp h; omega), q_at_pos (k_r hI hr), e9, q_b_some, e11, q_b_some]
      refine ih k (i + 1) _ (l2 + 1) (by rw [q_addI (by rw [y1]; omega) (by rw [y1]; omega), y1, h2]; rfl) (by omega) (by omega) ?_
      rw [q_addI (by omega) (by omega), hl, v11, s_sum]
      omega
  unfold m_X10_newSize
  rw [q_at_pos (k_r hI hr), l1, q_at_pos (k_t hI hA.2.2.2.1), e8, q_b_some]
  have em : ((16 : Int32) * (q_I S m 3)).toInt = 16 * (q_I S m 3).toInt := q_mulLI y16 (by omega) (by omega)
  exact loop (q_I S m 3).toInt.toNat n 0 _ 0 rfl (by omega) (by omega) (by rw [q_addI (by rw [y12, em]; omega) (by rw [y12, em]; omega), y12, em, s_sum]; omega)
end QSZ
