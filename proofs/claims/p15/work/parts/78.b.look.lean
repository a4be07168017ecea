/-! VALUES: where the DATA of a SIGN are, both sides -/
/-- the k-th place that loca tells, -1 if it is PAST -/
def z_pl (S : q_S) (m fF fB fL : Nat) (k : Int) : Int := if z_tw S m fF fB fL (q_fd S m 1751474532).toInt 50 = 1 then z_fr S m fF fB fL (q_fd S m 1819239265).toInt (4 * k) else if z_tw S m fF fB fL (q_fd S m 1819239265).toInt (2 * k) < 0 then -1 else 2 * z_tw S m fF fB fL (q_fd S m 1819239265).toInt (2 * k)
section QLK
variable {ρ : Nat → Nat} {L M9 : List Nat} {n : Nat} {S T : q_S} {x wo ce tb en ab m fF fT fS fB fL : Nat}
theorem z_pl_b (hI : q_Inv ρ L S) (hF : fF ∈ L ∧ ρ fF = 46) {k : Int} : -1 ≤ z_pl S m fF fB fL k ∧ z_pl S m fF fB fL k ≤ 4294967295 := by
  have h1 := z_fr_b (m := m) (fB := fB) (fL := fL) (p := (q_fd S m 1819239265).toInt) (i := 4 * k) hI hF
  have h2 := z_tw_b (m := m) (fB := fB) (fL := fL) (p := (q_fd S m 1819239265).toInt) (i := 2 * k) hI hF
  unfold z_pl
  split
  · exact h1
  · split <;> omega
theorem z_pl_un (hI : q_Inv ρ L S) (g : q_G ρ L M9 S T) (hA : v_Ad ρ L x wo ce tb en ab m fF fT fS fB fL) (h : v_fr9 M9 = true) {k : Int} : z_pl T m fF fB fL k = z_pl S m fF fB fL k := by
  obtain ⟨u1, u2, u3, u4, u5, u6⟩ := z_un hI g hA h
  unfold z_pl
  rw [u1, u4, u4, u3, u1]
/-- two() where nothing is known of PAST -/
theorem r_two (hn : 18446744073709551616 ≤ n) (hI : q_Inv ρ L S) (hA : v_Ad ρ L x wo ce tb en ab m fF fT fS fB fL) {p : Int32} {i : Int64} (hp : p.toInt = -1 ∨ (0 ≤ p.toInt ∧ p.toInt < (q_I S m 3).toInt)) (hi : i.toInt ≤ 1152921504606846976) : ∃ (r : Int32) (T : q_S), m_X12_two n S m p i = some (r, T) ∧ q_G ρ L [2888] S T ∧ (q_I T m 8 = 0 ↔ q_I S m 8 = 0 ∧ 0 ≤ z_tw S m fF fB fL p.toInt i.toInt) ∧ (0 ≤ z_tw S m fF fB fL p.toInt i.toInt → r.toInt = z_tw S m fF fB fL p.toInt i.toInt) ∧ (0 ≤ r.toInt ∧ r.toInt ≤ 65535) := by
  have hm := hA.2.2.2.2.2.2.1
  have hb := z_tw_b (m := m) (fB := fB) (fL := fL) (p := p.toInt) (i := i.toInt) hI hA.2.2.2.2.2.2.2.1
  obtain ⟨h1, h2⟩ := v_twM (p := p) (i := i) hn hI hA hp hi
  by_cases g : 0 ≤ z_tw S m fF fB fL p.toInt i.toInt
  · obtain ⟨r, e, v⟩ := h1 g
    exact ⟨r, S, e, q_G_refl hI, ⟨fun h => ⟨h, g⟩, fun h => h.1⟩, fun _ => v, by omega, by omega⟩
  · have e := h2 (by omega)
    exact ⟨0, _, e, u_45_I8 (q_G_refl hI) hm.1 hm.2 (by decide) ⟨by decide, by decide⟩, by rw [q_hitI]; exact ⟨fun h => absurd h (by decide), fun h => absurd h.2 g⟩, fun h => absurd h g, by decide, by decide⟩
theorem r_four (hn : 18446744073709551616 ≤ n) (hI : q_Inv ρ L S) (hA : v_Ad ρ L x wo ce tb en ab m fF fT fS fB fL) {p : Int32} {i : Int64} (hp : p.toInt = -1 ∨ (0 ≤ p.toInt ∧ p.toInt < (q_I S m 3).toInt)) (hi : i.toInt ≤ 1152921504606846976) : ∃ (r : Int64) (T : q_S), m_X12_number n S m p i 4 = some (r, T) ∧ q_G ρ L [2888] S T ∧ (q_I T m 8 = 0 ↔ q_I S m 8 = 0 ∧ 0 ≤ z_fr S m fF fB fL p.toInt i.toInt) ∧ (0 ≤ z_fr S m fF fB fL p.toInt i.toInt → r.toInt = z_fr S m fF fB fL p.toInt i.toInt) ∧ (0 ≤ r.toInt ∧ r.toInt ≤ 4294967295) := by
  have hm := hA.2.2.2.2.2.2.1
  have hb := z_fr_b (m := m) (fB := fB) (fL := fL) (p := p.toInt) (i := i.toInt) hI hA.2.2.2.2.2.2.2.1
  obtain ⟨r, h1, h2⟩ := v_num (p := p) (i := i) (k := 4) hn hI hA hp hi (Or.inr (Or.inr rfl))
  have ez : z_nu S m fF fB fL p.toInt i.toInt (4 : Int32).toInt = z_fr S m fF fB fL p.toInt i.toInt := by
    unfold z_nu
    rw [if_neg (by decide), if_neg (by decide)]
  rw [ez] at h1 h2
  by_cases g : 0 ≤ z_fr S m fF fB fL p.toInt i.toInt
  · obtain ⟨e, v⟩ := h1 g
    exact ⟨r, S, e, q_G_refl hI, ⟨fun h => ⟨h, g⟩, fun h => h.1⟩, fun _ => v, by omega, by omega⟩
  · obtain ⟨e, v⟩ := h2 (by omega)
    exact ⟨r, _, e, u_45_I8 (q_G_refl hI) hm.1 hm.2 (by decide) ⟨by decide, by decide⟩, by rw [q_hitI]; exact ⟨fun h => absurd h (by decide), fun h => absurd h.2 g⟩, fun h => absurd h g, by rw [v]; decide, by rw [v]; decide⟩
theorem r_loca (hn : 18446744073709551616 ≤ n) (hI : q_Inv ρ L S) (hA : v_Ad ρ L x wo ce tb en ab m fF fT fS fB fL) (h50 : 0 ≤ z_tw S m fF fB fL (q_fd S m 1751474532).toInt 50) {k : Int32} (hk : 0 ≤ k.toInt ∧ k.toInt ≤ 200) : ∃ (r : Int64) (T : q_S), m_X12_locaAt n S m k = some (r, T) ∧ q_G ρ L [2888] S T ∧ (q_I T m 8 = 0 ↔ q_I S m 8 = 0 ∧ 0 ≤ z_pl S m fF fB fL k.toInt) ∧ (0 ≤ z_pl S m fF fB fL k.toInt → r.toInt = z_pl S m fF fB fL k.toInt) ∧ (0 ≤ r.toInt ∧ r.toInt ≤ 4294967295) := by
  have hm := hA.2.2.2.2.2.2.1
  have y50 : (50 : Int64).toInt = 50 := rfl
  have y2 : (2 : Int64).toInt = 2 := rfl
  have y4 : (4 : Int64).toInt = 4 := rfl
  have y1 : (1 : Int32).toInt = 1 := rfl
  have hfdH := v_fdR (tag := 1751474532) hI hm hA.2.2.2.2.2.2.2.2.1
  have hfdL := v_fdR (tag := 1819239265) hI hm hA.2.2.2.2.2.2.2.2.1
  have e2k : ((2 : Int64) * (k.toInt64)).toInt = 2 * k.toInt := by rw [q_mulLJ y2 (by rw [q_wil]; omega) (by rw [q_wil]; omega), q_wil]
  have e4k : ((4 : Int64) * (k.toInt64)).toInt = 4 * k.toInt := by rw [q_mulLJ y4 (by rw [q_wil]; omega) (by rw [q_wil]; omega), q_wil]
  obtain ⟨w1, -⟩ := v_twM (p := q_fd S m 1751474532) (i := 50) hn hI hA hfdH (by decide)
  rw [y50] at w1
  obtain ⟨r6, e6, v6⟩ := w1 h50
  unfold m_X12_locaAt m_X12_locaAt_23 m_X12_locaAt_71 z_pl
  rw [q_at_pos (k_m hI hm), v_fdM hn hI hm ⟨by decide, by decide⟩, q_b_some, q_at_pos (k_m hI hm), e6, q_b_some]
  by_cases g : z_tw S m fF fB fL (q_fd S m 1751474532).toInt 50 = 1
  · rw [if_pos (i_eq.mpr (by rw [v6, y1]; exact g)), if_neg (by decide), q_at_pos (k_m hI hm), v_fdM hn hI hm ⟨by decide, by decide⟩, q_b_some, q_at_pos (k_m hI hm), if_pos g]
    obtain ⟨r, T, e, gg, a, v, c⟩ := r_four (p := q_fd S m 1819239265) (i := (4 : Int64) * (k.toInt64)) hn hI hA hfdL (by omega)
    rw [e4k] at a v
    rw [e, q_b_some]
    exact ⟨r, T, rfl, gg, a, v, c⟩
  · rw [if_neg (fun h => g (by rw [← v6, h]; rfl)), if_pos rfl, q_at_pos (k_m hI hm), v_fdM hn hI hm ⟨by decide, by decide⟩, q_b_some, q_at_pos (k_m hI hm), if_neg g]
    obtain ⟨r, T, e, gg, a, v, c⟩ := r_two (p := q_fd S m 1819239265) (i := (2 : Int64) * (k.toInt64)) hn hI hA hfdL (by omega)
    rw [e2k] at a v
    rw [e, q_b_some]
    have er : ((2 : Int64) * (r.toInt64)).toInt = 2 * r.toInt := by rw [q_mulLJ y2 (by rw [q_wil]; omega) (by rw [q_wil]; omega), q_wil]
    refine ⟨_, T, rfl, gg, ?_, ?_, by rw [er]; omega, by rw [er]; omega⟩
    · rw [a]
      by_cases g2 : z_tw S m fF fB fL (q_fd S m 1819239265).toInt (2 * k.toInt) < 0
      · rw [if_pos g2]
        exact ⟨fun h => by omega, fun h => by omega⟩
      · rw [if_neg g2]
        exact ⟨fun h => ⟨h.1, by omega⟩, fun h => ⟨h.1, by omega⟩⟩
    · by_cases g2 : z_tw S m fF fB fL (q_fd S m 1819239265).toInt (2 * k.toInt) < 0
      · rw [if_pos g2]; intro h; omega
      · rw [if_neg g2]; intro _; rw [er, v (by omega)]
theorem r_look (hn : 18446744073709551616 ≤ n) (hI : q_Inv ρ L S) (hA : v_Ad ρ L x wo ce tb en ab m fF fT fS fB fL) (h50 : 0 ≤ z_tw S m fF fB fL (q_fd S m 1751474532).toInt 50) {k : Int32} (hk : 0 ≤ k.toInt ∧ k.toInt ≤ 199) : ∃ (r : Int32) (T : q_S), m_X12_lookData n S m k = some (r, T) ∧ q_G ρ L M_X12_lookData_45 S T ∧ (r = 0 ∨ r = 1) ∧ (r = 1 ↔ 0 ≤ z_pl S m fF fB fL k.toInt ∧ 0 ≤ z_pl S m fF fB fL (k.toInt + 1)) ∧ (q_I T m 8 = 0 ↔ 0 ≤ z_pl S m fF fB fL k.toInt ∧ 0 ≤ z_pl S m fF fB fL (k.toInt + 1)) ∧ (0 ≤ z_pl S m fF fB fL k.toInt ∧ 0 ≤ z_pl S m fF fB fL (k.toInt + 1) → (q_I T m 23 = 0 ↔ z_pl S m fF fB fL k.toInt ≠ z_pl S m fF fB fL (k.toInt + 1)) ∧ (q_I T m 21).toInt = min 1601 (z_pl S m fF fB fL k.toInt) ∧ (q_I T m 22).toInt = min 1601 (z_pl S m fF fB fL (k.toInt + 1))) := by
  have hm := hA.2.2.2.2.2.2.1
  have hG : q_G ρ L M_X12_lookData_45 S S := q_G_refl hI
  have y1 : (1 : Int32).toInt = 1 := rfl
  have y1600 : (1600 : Int64).toInt = 1600 := rfl
  have y1601 : (1601 : Int32).toInt = 1601 := rfl
  have G0 := u_45_I8 (x := 0) hG hm.1 hm.2 (by decide) ⟨by decide, by decide⟩
  have u0 := z_un hI G0 hA (by decide)
  obtain ⟨r3, T3, e3, g3, a3, v3, c3⟩ := r_loca (k := k) hn G0.1 hA (by rw [u0.1, u0.2.2.2.1]; exact h50) ⟨hk.1, by omega⟩
  rw [q_hitI, z_pl_un hI G0 hA (by decide)] at a3
  rw [z_pl_un hI G0 hA (by decide)] at v3
  have G3 := q_G_call G0 g3 (by decide)
  have u3 := z_un hI G3 hA (by decide)
  have ek : (k + (1 : Int32)).toInt = k.toInt + 1 := by rw [q_addI (by rw [y1]; omega) (by rw [y1]; omega), y1]
  obtain ⟨r7, T7, e7, g7, a7, v7, c7⟩ := r_loca (k := k + (1 : Int32)) hn G3.1 hA (by rw [u3.1, u3.2.2.2.1]; exact h50) ⟨by omega, by omega⟩
  rw [z_pl_un hI G3 hA (by decide), ek, a3] at a7
  rw [z_pl_un hI G3 hA (by decide), ek] at v7
  have G7 := q_G_call G3 g7 (by decide)
  have a7 : q_I T7 m 8 = 0 ↔ 0 ≤ z_pl S m fF fB fL k.toInt ∧ 0 ≤ z_pl S m fF fB fL (k.toInt + 1) := by
    rw [a7]
    exact ⟨fun h => ⟨h.1.2, h.2⟩, fun h => ⟨⟨rfl, h.1⟩, h.2⟩⟩
  -- min 1601
  have clamp : ∀ v : Int64, 0 ≤ v.toInt → v.toInt ≤ 4294967295 → ∃ w : Int32, (∀ (f : Int32 → Option (Int32 × q_S)), (if (lg_cmp v ((1600 : Int64))) ≤ 0 then f v.toInt32 else f 1601) = f w) ∧ w.toInt = min 1601 v.toInt := by
    intro v h1 h2
    by_cases g : v.toInt ≤ 1600
    · exact ⟨v.toInt32, fun f => by rw [if_pos (c_le.mpr (by rw [y1600]; exact g))], by rw [q_wli (by omega) (by omega)]; omega⟩
    · exact ⟨1601, fun f => by rw [if_neg (fun h => g (by have := c_le.mp h; rw [y1600] at this; exact this))], by rw [y1601]; omega⟩
  obtain ⟨w3, f3, h3⟩ := clamp r3 c3.1 c3.2
  obtain ⟨w7, f7, h7⟩ := clamp r7 c7.1 c7.2
  have fin : ∀ b : Int32, (b = 0 ∨ b = 1) → (b = 0 ↔ r3.toInt ≠ r7.toInt) → ∃ (r : Int32) (T : q_S), m_X12_lookData_33 n T7 (some m) r3 r7 b (some m) = some (r, T) ∧ q_G ρ L M_X12_lookData_45 S T ∧ (r = 0 ∨ r = 1) ∧ (r = 1 ↔ 0 ≤ z_pl S m fF fB fL k.toInt ∧ 0 ≤ z_pl S m fF fB fL (k.toInt + 1)) ∧ (q_I T m 8 = 0 ↔ 0 ≤ z_pl S m fF fB fL k.toInt ∧ 0 ≤ z_pl S m fF fB fL (k.toInt + 1)) ∧ (0 ≤ z_pl S m fF fB fL k.toInt ∧ 0 ≤ z_pl S m fF fB fL (k.toInt + 1) → (q_I T m 23 = 0 ↔ z_pl S m fF fB fL k.toInt ≠ z_pl S m fF fB fL (k.toInt + 1)) ∧ (q_I T m 21).toInt = min 1601 (z_pl S m fF fB fL k.toInt) ∧ (q_I T m 22).toInt = min 1601 (z_pl S m fF fB fL (k.toInt + 1))) := by
    intro b hb hbe
    have H1 := u_45_I23 (x := b) G7 hm.1 hm.2 (by decide) (by rcases hb with e | e <;> rw [e] <;> decide)
    have H2 := u_45_I21 (x := w3) H1 hm.1 hm.2 (by decide) ⟨by omega, by omega⟩
    have H3 := u_45_I22 (x := w7) H2 hm.1 hm.2 (by decide) ⟨by omega, by omega⟩
    have e8 : q_I (q_sI (q_sI (q_sI T7 m 23 b) m 21 w3) m 22 w7) m 8 = q_I T7 m 8 := by rw [q_ffI (by decide), q_ffI (by decide), q_ffI (by decide)]
    have ev : m_X12_lookData_33 n T7 (some m) r3 r7 b (some m) = some (if q_I T7 m 8 = 0 then 1 else 0, q_sI (q_sI (q_sI T7 m 23 b) m 21 w3) m 22 w7) := by
      unfold m_X12_lookData_33
      rw [q_at_pos (k_m g7.1 hm), q_if_pos hb, f3 (fun z => m_X12_lookData_53 n (q_sI T7 m 23 b) (some m) r7 z (some m))]
      unfold m_X12_lookData_53
      rw [q_at_pos (k_m H1.1 hm), f7 (fun z => m_X12_lookData_75 n (q_sI (q_sI T7 m 23 b) m 21 w3) (some m) z (some m))]
      unfold m_X12_lookData_75 m_X12_lookData_90
      rw [q_at_pos (k_m H2.1 hm), q_at_pos (k_m H3.1 hm), e8]
      by_cases g : q_I T7 m 8 = 0
      · rw [if_pos g, if_pos g, q_if_pos (Or.inr rfl)]
      · rw [if_neg g, if_neg g, q_if_pos (Or.inl rfl)]
    refine ⟨_, _, ev, H3, by split <;> simp, ?_, by rw [e8]; exact a7, fun ho => ?_⟩
    · rw [← a7]
      by_cases g : q_I T7 m 8 = 0
      · rw [if_pos g]; exact ⟨fun _ => g, fun _ => rfl⟩
      · rw [if_neg g]; exact ⟨fun h => absurd h (by decide), fun h => absurd h g⟩
    · rw [q_ffI (show (23 : Nat) ≠ 22 by decide), q_ffI (show (23 : Nat) ≠ 21 by decide), q_hitI, q_ffI (show (21 : Nat) ≠ 22 by decide), q_hitI, q_hitI, h3, h7, hbe, v3 ho.1, v7 ho.2]
      exact ⟨Iff.rfl, rfl, rfl⟩
  unfold m_X12_lookData
  rw [q_at_pos (k_m hI hm), q_if_pos (Or.inl rfl), e3, q_b_some, q_at_pos (k_m g3.1 hm), e7, q_b_some]
  by_cases g : r3.toInt = r7.toInt
  · rw [if_pos (c_eq.mpr g)]
    exact fin 1 (Or.inr rfl) ⟨fun h => absurd h (by decide), fun h => absurd g h⟩
  · rw [if_neg (fun h => g (c_eq.mp h))]
    exact fin 0 (Or.inl rfl) ⟨fun _ => g, fun _ => rfl⟩
end QLK
