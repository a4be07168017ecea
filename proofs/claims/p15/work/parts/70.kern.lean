/-! VALUES: kern() -/
def v_sgn (z : Int) : Int := if z < 32768 then z else z - 65536
def v_kr (Z : Int → Int) (a b : Int) : Nat → Int → Int
  | 0, _ => 0
  | j + 1, k => if Z (22 + 6 * k) < 0 then 0 else if Z (18 + 6 * k) = a ∧ Z (20 + 6 * k) = b then v_sgn (Z (22 + 6 * k)) else v_kr Z a b j (k + 1)
theorem q_let_eq {β : Type} {x : q_S} {k : q_S → Option β} : q_let x k = k x := rfl
section QVN2
variable {ρ : Nat → Nat} {L M9 : List Nat} {n : Nat} {S T : q_S} {x wo ce tb en ab m fF fT fS fB fL : Nat}
theorem v_sgC {v : Int32} (h : 0 ≤ v.toInt ∧ v.toInt ≤ 65535) : ∃ r : Int32, m_X11_signed n S v = some (r, S) ∧ r.toInt = v_sgn v.toInt := by
  have y1 : (32768 : Int32).toInt = 32768 := rfl
  have y2 : (65536 : Int32).toInt = 65536 := rfl
  unfold m_X11_signed m_X11_signed_14 v_sgn
  by_cases g : v.toInt < 32768
  · rw [if_pos (i_lt.mpr (by rw [y1]; exact g)), if_pos g]
    exact ⟨v, rfl, rfl⟩
  · rw [if_neg (fun h => g (by have := i_lt.mp h; rw [y1] at this; exact this)), if_neg g]
    exact ⟨_, rfl, by rw [q_subI (by rw [y2]; omega) (by rw [y2]; omega), y2]⟩
theorem v_sgM {v : Int32} (h : 0 ≤ v.toInt ∧ v.toInt ≤ 65535) : ∃ r : Int32, m_X12_signed n S v = some (r, S) ∧ r.toInt = v_sgn v.toInt := by
  have y1 : (32767 : Int32).toInt = 32767 := rfl
  have y2 : (65536 : Int32).toInt = 65536 := rfl
  unfold m_X12_signed m_X12_signed_15 v_sgn
  by_cases g : v.toInt < 32768
  · rw [if_pos (i_le.mpr (by rw [y1]; omega)), if_pos g]
    exact ⟨v, rfl, rfl⟩
  · rw [if_neg (fun h => g (by have := i_le.mp h; rw [y1] at this; omega)), if_neg g]
    exact ⟨_, rfl, by rw [q_subI (by rw [y2]; omega) (by rw [y2]; omega), y2]⟩
/-- number() and two() over a store whose field 8 is b -/
theorem v_nuQ (hn : 18446744073709551616 ≤ n) (hI : q_Inv ρ L S) (hA : v_Ad ρ L x wo ce tb en ab m fF fT fS fB fL) {p k b : Int32} {i : Int64} (hb : b = 0 ∨ b = 1) (hp : p.toInt = -1 ∨ (0 ≤ p.toInt ∧ p.toInt < (q_I S m 3).toInt)) (hi : i.toInt ≤ 1152921504606846976) (hk : k = 1 ∨ k = 2 ∨ k = 4) : ∃ (r : Int64) (c : Int32), (c = 0 ∨ c = 1) ∧ m_X12_number n (q_sI S m 8 b) m p i k = some (r, q_sI S m 8 c) ∧ (0 ≤ z_nu S m fF fB fL p.toInt i.toInt k.toInt → r.toInt = z_nu S m fF fB fL p.toInt i.toInt k.toInt ∧ c = b) ∧ (z_nu S m fF fB fL p.toInt i.toInt k.toInt < 0 → r = 0 ∧ c = 1) := by
  have hb2 : 0 ≤ b.toInt ∧ b.toInt ≤ 1 := by rcases hb with e | e <;> rw [e] <;> decide
  have hG := v_m8 hI hA.2.2.2.2.2.2.1 hb2
  obtain ⟨u1, u2, u3, u4, u5, u6⟩ := z_un hI hG hA (by decide)
  obtain ⟨r, h1, h2⟩ := v_num (p := p) (k := k) (i := i) hn hG.1 hA (by rw [u5]; exact hp) hi hk
  have ez : z_nu (q_sI S m 8 b) m fF fB fL p.toInt i.toInt k.toInt = z_nu S m fF fB fL p.toInt i.toInt k.toInt := by
    unfold z_nu
    rw [u1, u2, u3]
  rw [ez] at h1 h2
  by_cases g : 0 ≤ z_nu S m fF fB fL p.toInt i.toInt k.toInt
  · obtain ⟨e, hv⟩ := h1 g
    exact ⟨r, b, hb, e, fun _ => ⟨hv, rfl⟩, fun h => by omega⟩
  · obtain ⟨e, hv⟩ := h2 (by omega)
    rw [q_sI2] at e
    exact ⟨r, 1, Or.inr rfl, e, fun h => absurd h g, fun _ => ⟨hv, rfl⟩⟩
theorem v_twQ (hn : 18446744073709551616 ≤ n) (hI : q_Inv ρ L S) (hA : v_Ad ρ L x wo ce tb en ab m fF fT fS fB fL) {p b : Int32} {i : Int64} (hb : b = 0 ∨ b = 1) (hp : p.toInt = -1 ∨ (0 ≤ p.toInt ∧ p.toInt < (q_I S m 3).toInt)) (hi : i.toInt ≤ 1152921504606846976) : ∃ (r c : Int32), (c = 0 ∨ c = 1) ∧ m_X12_two n (q_sI S m 8 b) m p i = some (r, q_sI S m 8 c) ∧ (0 ≤ z_tw S m fF fB fL p.toInt i.toInt → r.toInt = z_tw S m fF fB fL p.toInt i.toInt ∧ c = b) ∧ (z_tw S m fF fB fL p.toInt i.toInt < 0 → r = 0 ∧ c = 1) := by
  have hb2 : 0 ≤ b.toInt ∧ b.toInt ≤ 1 := by rcases hb with e | e <;> rw [e] <;> decide
  have hG := v_m8 hI hA.2.2.2.2.2.2.1 hb2
  obtain ⟨u1, u2, u3, u4, u5, u6⟩ := z_un hI hG hA (by decide)
  obtain ⟨h1, h2⟩ := v_twM (p := p) (i := i) hn hG.1 hA (by rw [u5]; exact hp) hi
  rw [u1] at h1 h2
  by_cases g : 0 ≤ z_tw S m fF fB fL p.toInt i.toInt
  · obtain ⟨r, e, hv⟩ := h1 g
    exact ⟨r, b, hb, e, fun _ => ⟨hv, rfl⟩, fun h => by omega⟩
  · have e := h2 (by omega)
    rw [q_sI2] at e
    exact ⟨0, 1, Or.inr rfl, e, fun h => absurd h g, fun _ => ⟨rfl, rfl⟩⟩
theorem v_krC (hn : 18446744073709551616 ≤ n) (hI : q_Inv ρ L S) (hA : v_Ad ρ L x wo ce tb en ab m fF fT fS fB fL) (hR : v_Rl wo ce tb en ab m fF fT fS fB fL S) {t : Nat} {p : Int} (h8 : v_is ρ L wo m fB fL S t p) {l1 l2 l4 : Int32} (h4 : l4.toInt ≤ 65535) : ∀ (j k : Nat) (l5 : Int32), j = (l4.toInt - l5.toInt).toNat → 0 ≤ l5.toInt → j < k → ∃ r : Int32, m_X11_kern_23 n k S l1 l2 (some t) l4 l5 = some (r, S) ∧ r.toInt = v_kr (fun i => z_tw S m fF fB fL p i) l1.toInt l2.toInt j l5.toInt := by
  have hF := hA.2.2.2.2.2.2.2.1
  have z1 : (1 : Int32).toInt = 1 := rfl
  have y6 : (6 : Int32).toInt = 6 := rfl
  have y18 : (18 : Int32).toInt = 18 := rfl
  have y4 : (4 : Int32).toInt = 4 := rfl
  have y2 : (2 : Int32).toInt = 2 := rfl
  have zm : (-1 : Int32).toInt = -1 := rfl
  intro j
  induction j with
  | zero =>
    intro k l5 hj hl hk
    obtain ⟨k, rfl⟩ : ∃ k', k = k' + 1 := ⟨k - 1, by omega⟩
    rw [m_X11_kern_23, if_pos (i_le.mpr (by omega)), v_kr]
    exact ⟨0, rfl, rfl⟩
  | succ j ih =>
    intro k l5 hj hl hk
    obtain ⟨k, rfl⟩ : ∃ k', k = k' + 1 := ⟨k - 1, by omega⟩
    have e1 : (l5 + 1).toInt = l5.toInt + 1 := by rw [q_addI (by rw [z1]; omega) (by rw [z1]; omega), z1]
    have em : ((6 : Int32) * l5).toInt = 6 * l5.toInt := q_mulLI y6 (by omega) (by omega)
    have e18 : ((18 : Int32) + ((6 : Int32) * l5)).toInt = 18 + 6 * l5.toInt := by rw [q_addI (by rw [y18, em]; omega) (by rw [y18, em]; omega), y18, em]
    have e22 : (((18 : Int32) + ((6 : Int32) * l5)) + (4 : Int32)).toInt = 22 + 6 * l5.toInt := by rw [q_addI (by rw [e18, y4]; omega) (by rw [e18, y4]; omega), e18, y4]; omega
    have e20 : (((18 : Int32) + ((6 : Int32) * l5)) + (2 : Int32)).toInt = 20 + 6 * l5.toInt := by rw [q_addI (by rw [e18, y2]; omega) (by rw [e18, y2]; omega), e18, y2]; omega
    obtain ⟨r3, a3, v3⟩ := v_ctw (n := n) (i := (((18 : Int32) + ((6 : Int32) * l5)) + (4 : Int32)).toInt64) hI hA hR h8 (by rw [q_wil]; omega)
    obtain ⟨r8, a8, v8⟩ := v_ctw (n := n) (i := ((18 : Int32) + ((6 : Int32) * l5)).toInt64) hI hA hR h8 (by rw [q_wil]; omega)
    obtain ⟨r13, a13, v13⟩ := v_ctw (n := n) (i := (((18 : Int32) + ((6 : Int32) * l5)) + (2 : Int32)).toInt64) hI hA hR h8 (by rw [q_wil]; omega)
    rw [q_wil, e22] at v3
    rw [q_wil, e18] at v8
    rw [q_wil, e20] at v13
    have b3 := z_tw_b (m := m) (fB := fB) (fL := fL) (p := p) (i := 22 + 6 * l5.toInt) hI hF
    obtain ⟨r9, a9, v9⟩ := ih k (l5 + 1) (by omega) (by omega) (by omega)
    rw [e1] at v9
    rw [m_X11_kern_23, if_neg (fun h => by have := i_le.mp h; omega), q_at_pos (k_8 hI h8.1), a3, q_b_some, v_kr]
    by_cases g1 : z_tw S m fF fB fL p (22 + 6 * l5.toInt) < 0
    · rw [if_pos (i_eq.mpr (by rw [zm]; omega)), if_pos g1]
      exact ⟨0, rfl, rfl⟩
    rw [if_neg (fun h => g1 (by have := i_eq.mp h; rw [zm] at this; omega)), if_neg g1, q_at_pos (k_8 hI h8.1), a8, q_b_some]
    unfold m_X11_kern_89
    by_cases g2 : z_tw S m fF fB fL p (18 + 6 * l5.toInt) = l1.toInt
    · rw [if_pos (i_eq.mpr (by rw [v8]; exact g2)), q_at_pos (k_8 hI h8.1), a13, q_b_some]
      by_cases g3 : z_tw S m fF fB fL p (20 + 6 * l5.toInt) = l2.toInt
      · rw [if_pos (i_eq.mpr (by rw [v13]; exact g3)), if_pos ⟨g2, g3⟩]
        obtain ⟨r17, a17, v17⟩ := v_sgC (n := n) (S := S) (v := r3) ⟨by omega, by omega⟩
        rw [a17, q_b_some]
        exact ⟨r17, rfl, by rw [v17, v3]⟩
      · rw [if_neg (fun h => g3 (by rw [← v13, h])), if_neg (fun h => g3 h.2)]
        exact ⟨r9, a9, v9⟩
    · rw [if_neg (fun h => g2 (by rw [← v8, h])), if_neg (fun h => g2 h.1)]
      exact ⟨r9, a9, v9⟩
theorem v_krM (hn : 18446744073709551616 ≤ n) (hI : q_Inv ρ L S) (hA : v_Ad ρ L x wo ce tb en ab m fF fT fS fB fL) {l1 l2 l3 l4 : Int32} (hp : l3.toInt = -1 ∨ (0 ≤ l3.toInt ∧ l3.toInt < (q_I S m 3).toInt)) (h4 : l4.toInt ≤ 65535) : ∀ (j k : Nat) (l5 : Int32), j = (l4.toInt - l5.toInt).toNat → 0 ≤ l5.toInt → j + 1 < k → ∃ r c : Int32, (c = 0 ∨ c = 1) ∧ m_X12_kern_31 n k (q_sI S m 8 0) (some m) l1 l2 l3 l4 l5 = some (r, q_sI S m 8 c) ∧ r.toInt = v_kr (fun i => z_tw S m fF fB fL l3.toInt i) l1.toInt l2.toInt j l5.toInt := by
  have hm := hA.2.2.2.2.2.2.1
  have hF := hA.2.2.2.2.2.2.2.1
  have z1 : (1 : Int32).toInt = 1 := rfl
  have y6 : (6 : Int64).toInt = 6 := rfl
  have y18 : (18 : Int64).toInt = 18 := rfl
  have y20 : (20 : Int64).toInt = 20 := rfl
  have y22 : (22 : Int64).toInt = 22 := rfl
  have kq : ∀ c : Int32, c = 0 ∨ c = 1 → m ∈ q_L (q_sI S m 8 c) ∧ q_K (q_sI S m 8 c) m = 13 := fun c hc => k_m (v_m8 hI hm (b := c) (by rcases hc with e | e <;> rw [e] <;> decide)).1 hm
  intro j
  induction j with
  | zero =>
    intro k l5 hj hl hk
    obtain ⟨k, rfl⟩ : ∃ k', k = k' + 1 := ⟨k - 1, by omega⟩
    rw [m_X12_kern_31, if_pos (i_le.mpr (by omega)), v_kr]
    exact ⟨0, 0, Or.inl rfl, rfl, rfl⟩
  | succ j ih =>
    intro k l5 hj hl hk
    obtain ⟨k, rfl⟩ : ∃ k', k = k' + 1 := ⟨k - 1, by omega⟩
    have e1 : (l5 + 1).toInt = l5.toInt + 1 := by rw [q_addI (by rw [z1]; omega) (by rw [z1]; omega), z1]
    have em : ((6 : Int64) * (l5.toInt64)).toInt = 6 * l5.toInt := by rw [q_mulLJ y6 (by rw [q_wil]; omega) (by rw [q_wil]; omega), q_wil]
    have e18 : ((18 : Int64) + ((6 : Int64) * (l5.toInt64))).toInt = 18 + 6 * l5.toInt := by rw [q_addJ (by rw [y18, em]; omega) (by rw [y18, em]; omega), y18, em]
    have e20 : ((20 : Int64) + ((6 : Int64) * (l5.toInt64))).toInt = 20 + 6 * l5.toInt := by rw [q_addJ (by rw [y20, em]; omega) (by rw [y20, em]; omega), y20, em]
    have e22 : ((22 : Int64) + ((6 : Int64) * (l5.toInt64))).toInt = 22 + 6 * l5.toInt := by rw [q_addJ (by rw [y22, em]; omega) (by rw [y22, em]; omega), y22, em]
    obtain ⟨r4, c4, d4, a4, f4, k4⟩ := v_twQ (p := l3) (b := 0) (i := (18 : Int64) + ((6 : Int64) * (l5.toInt64))) hn hI hA (Or.inl rfl) hp (by omega)
    obtain ⟨r8, c8, d8, a8, f8, k8⟩ := v_twQ (p := l3) (b := c4) (i := (20 : Int64) + ((6 : Int64) * (l5.toInt64))) hn hI hA d4 hp (by omega)
    obtain ⟨r12, c12, d12, a12, f12, k12⟩ := v_twQ (p := l3) (b := c8) (i := (22 : Int64) + ((6 : Int64) * (l5.toInt64))) hn hI hA d8 hp (by omega)
    rw [e18] at f4 k4
    rw [e20] at f8 k8
    rw [e22] at f12 k12
    obtain ⟨r9, c9, d9, a9, v9⟩ := ih k (l5 + 1) (by omega) (by omega) (by omega)
    rw [e1] at v9
    rw [m_X12_kern_31, if_neg (fun h => by have := i_le.mp h; omega), q_at_pos (kq 0 (Or.inl rfl)), q_hitI, if_pos rfl, a4, q_b_some, q_at_pos (kq c4 d4), a8, q_b_some, q_at_pos (kq c8 d8), a12, q_b_some, q_at_pos (kq c12 d12), q_hitI, v_kr]
    unfold m_X12_kern_124
    by_cases g1 : z_tw S m fF fB fL l3.toInt (22 + 6 * l5.toInt) < 0
    · obtain ⟨-, ec⟩ := k12 g1
      subst ec
      rw [if_neg (by decide), if_pos g1]
      obtain ⟨k, rfl⟩ : ∃ k', k = k' + 1 := ⟨k - 1, by omega⟩
      refine ⟨0, 1, Or.inr rfl, ?_, rfl⟩
      rw [m_X12_kern_31]
      unfold m_X12_kern_130
      by_cases g2 : l4 ≤ l5 + 1
      · rw [if_pos g2]
      · rw [if_neg g2, q_at_pos (kq 1 (Or.inr rfl)), q_hitI, if_neg (by decide)]
    · have m22 := (not_congr (z_tw_lt (m := m) (fB := fB) (fL := fL) (p := l3.toInt) (i := 22 + 6 * l5.toInt) hI hF)).mp g1
      have m22 := Classical.not_not.mp m22
      have p18 : 0 ≤ z_tw S m fF fB fL l3.toInt (18 + 6 * l5.toInt) := by
        rcases Int.lt_or_le (z_tw S m fF fB fL l3.toInt (18 + 6 * l5.toInt)) 0 with h | h
        · exact absurd ⟨by omega, by omega⟩ ((z_tw_lt hI hF).mp h)
        · exact h
      have p20 : 0 ≤ z_tw S m fF fB fL l3.toInt (20 + 6 * l5.toInt) := by
        rcases Int.lt_or_le (z_tw S m fF fB fL l3.toInt (20 + 6 * l5.toInt)) 0 with h | h
        · exact absurd ⟨by omega, by omega⟩ ((z_tw_lt hI hF).mp h)
        · exact h
      obtain ⟨v4, ec4⟩ := f4 p18
      subst ec4
      obtain ⟨v8, ec8⟩ := f8 p20
      subst ec8
      obtain ⟨v12, ec12⟩ := f12 (by omega)
      subst ec12
      have b3 := z_tw_b (m := m) (fB := fB) (fL := fL) (p := l3.toInt) (i := 22 + 6 * l5.toInt) hI hF
      rw [if_pos rfl, if_neg g1]
      by_cases g2 : z_tw S m fF fB fL l3.toInt (18 + 6 * l5.toInt) = l1.toInt
      · rw [if_pos (i_eq.mpr (by rw [v4]; exact g2))]
        by_cases g3 : z_tw S m fF fB fL l3.toInt (20 + 6 * l5.toInt) = l2.toInt
        · rw [if_pos (i_eq.mpr (by rw [v8]; exact g3)), if_pos ⟨g2, g3⟩]
          obtain ⟨r17, a17, v17⟩ := v_sgM (n := n) (S := q_sI S m 8 0) (v := r12) ⟨by omega, by omega⟩
          rw [a17, q_b_some]
          exact ⟨r17, 0, Or.inl rfl, rfl, by rw [v17, v12]⟩
        · rw [if_neg (fun h => g3 (by rw [← v8, h])), if_neg (fun h => g3 h.2)]
          exact ⟨r9, c9, d9, a9, v9⟩
      · rw [if_neg (fun h => g2 (by rw [← v4, h])), if_neg (fun h => g2 h.1)]
        exact ⟨r9, c9, d9, a9, v9⟩
theorem z_kern (hn : 18446744073709551616 ≤ n) (hI : q_Inv ρ L S) (hA : v_Ad ρ L x wo ce tb en ab m fF fT fS fB fL) (hR : v_Rl wo ce tb en ab m fF fT fS fB fL S) {p0 p1 : Int32} : q_ok (m_X11_kern n S x p0 p1) (fun r T => q_Inv ρ L T ∧ q_ok (m_X12_kern n T m p0 p1) (fun r2 T2 => q_Inv ρ L T2 ∧ v_Rl wo ce tb en ab m fF fT fS fB fL T2 ∧ r = r2)) := by
  have hm := hA.2.2.2.2.2.2.1
  have ht := hA.2.2.2.1
  have hx := hA.1
  have hF := hA.2.2.2.2.2.2.2.1
  have y0 : (0 : Int32).toInt = 0 := rfl
  have y10 : (10 : Int64).toInt = 10 := rfl
  have hG0 : q_G ρ L [2880, 2888] S (q_sI S m 0 0) := u_45_I0 (q_G_refl hI) hm.1 hm.2 (by decide) ⟨by decide, by decide⟩
  obtain ⟨u1, u2, u3, u4, u5, u6⟩ := z_un hI hG0 hA (by decide)
  have hG8 : ∀ c : Int32, c = 0 ∨ c = 1 → q_G ρ L [2880, 2888] S (q_sI (q_sI S m 0 0) m 8 c) := fun c hc => v_m08 hI hm ⟨by decide, by decide⟩ (by rcases hc with e | e <;> rw [e] <;> decide)
  obtain ⟨w1, w2, w3, w4, w5, w6⟩ := z_un hI (hG8 0 (Or.inl rfl)) hA (by decide)
  have hfd := v_fdR (tag := 1801810542) hI hm hA.2.2.2.2.2.2.2.2.1
  obtain ⟨t, et, h8⟩ := v_first (n := n) (tag := 1801810542) hn hI hA hR
  obtain ⟨r7, a7, v7⟩ := v_ctw (n := n) (i := 10) hI hA hR h8 (by decide)
  have b7 := z_tw_b (m := m) (fB := fB) (fL := fL) (p := (q_fd S m 1801810542).toInt) (i := (10 : Int64).toInt) hI hF
  obtain ⟨r, er, vr⟩ := v_krC (l1 := p0) (l2 := p1) (l4 := r7) hn hI hA hR h8 (by omega) (r7.toInt - 0).toNat n 0 (by rw [y0]) (by decide) (by omega)
  unfold m_X11_kern m_X12_kern
  rw [q_at_pos (k_x hI hx), v_x2 hI hx ht, q_at_pos (k_t hI ht), et, q_b_some, q_at_pos (k_8 hI h8.1), a7, q_b_some, er]
  refine q_ok_some ⟨hI, ?_⟩
  rw [q_at_pos (k_m hI hm), q_if_pos (Or.inl rfl), q_let_eq, v_fdM hn (hG8 0 (Or.inl rfl)).1 hm ⟨by decide, by decide⟩, q_b_some, w4, q_at_pos (k_m (hG8 0 (Or.inl rfl)).1 hm)]
  obtain ⟨r2, c2, d2, a2, f2, k2⟩ := v_twQ (p := q_fd S m 1801810542) (b := 0) (i := 10) hn hG0.1 hA (Or.inl rfl) (by rw [u5]; exact hfd) (by decide)
  rw [u1] at f2 k2
  rw [a2, q_b_some]
  by_cases g : z_tw S m fF fB fL (q_fd S m 1801810542).toInt (10 : Int64).toInt < 0
  · obtain ⟨e2, ec⟩ := k2 g
    subst e2
    subst ec
    have ej : (r7.toInt - 0).toNat = 0 := by omega
    rw [ej, v_kr] at vr
    obtain ⟨q, hq⟩ : ∃ q, n = q + 1 := ⟨n - 1, by omega⟩
    have e9 : ∀ q, m_X12_kern_31 n (q + 1) (q_sI (q_sI S m 0 0) m 8 1) (some m) p0 p1 (q_fd S m 1801810542) 0 0 = some (0, q_sI (q_sI S m 0 0) m 8 1) := fun q => by
      rw [m_X12_kern_31, if_pos (by decide)]
      rfl
    have e10 := e9 q
    rw [← hq] at e10
    exact ⟨0, _, e10, (hG8 1 (Or.inr rfl)).1, v_RlU hA (hG8 1 (Or.inr rfl)) (by decide) hR, Int32.toInt_inj.mp (by rw [vr]; rfl)⟩
  · obtain ⟨e2, ec⟩ := f2 (by omega)
    subst ec
    have er7 : r2 = r7 := Int32.toInt_inj.mp (by rw [e2, v7])
    subst er7
    obtain ⟨r5, c5, d5, a5, v5⟩ := v_krM (l1 := p0) (l2 := p1) (l3 := q_fd S m 1801810542) (l4 := r2) hn hG0.1 hA (by rw [u5]; exact hfd) (by omega) (r2.toInt - 0).toNat n 0 (by rw [y0]) (by decide) (by omega)
    refine ⟨r5, _, a5, (hG8 c5 d5).1, v_RlU hA (hG8 c5 d5) (by decide) hR, Int32.toInt_inj.mp ?_⟩
    rw [vr, v5]
    congr 1
    funext i
    rw [u1]
end QVN2
