/-! VALUES: map(): the rows of cmap, and the whole -/
theorem q_sJ2 {S : q_S} {a k : Nat} {x y : Int64} : q_sJ (q_sJ S a k x) a k y = q_sJ S a k y := by
  have e : q_u (q_u S.2.2.2.2.1 a k x) a k y = q_u S.2.2.2.2.1 a k y := funext fun c => funext fun j => by
    rw [q_u_at, q_u_at, q_u_at]
    by_cases e1 : c = a ∧ j = k
    · rw [if_pos e1, if_pos e1]
    · rw [if_neg e1, if_neg e1, if_neg e1]
  show (S.1, S.2.1, S.2.2.1, S.2.2.2.1, q_u (q_u S.2.2.2.2.1 a k x) a k y, S.2.2.2.2.2) = (S.1, S.2.1, S.2.2.1, S.2.2.2.1, q_u S.2.2.2.2.1 a k y, S.2.2.2.2.2)
  rw [e]
theorem q_sJd {S : q_S} {a k : Nat} : q_sJ S a k (q_J S a k) = S := by
  have e : q_u S.2.2.2.2.1 a k (q_J S a k) = S.2.2.2.2.1 := funext fun c => funext fun j => by
    rw [q_u_at]
    by_cases e1 : c = a ∧ j = k
    · rw [if_pos e1, e1.1, e1.2]; rfl
    · rw [if_neg e1]
  show (S.1, S.2.1, S.2.2.1, S.2.2.2.1, q_u S.2.2.2.2.1 a k (q_J S a k), S.2.2.2.2.2) = S
  rw [e]
/-- what is answered for the number r of SIGNS -/
def v_A (m : Nat) (V : q_S) (sg r : Int) (x : Option (Int32 × q_S)) : Prop := ∃ (a c : Int32), (c = 0 ∨ c = 1) ∧ x = some (a, q_sI V m 8 c) ∧ a.toInt = if 0 < r ∧ r < sg then r else 0
def v_VF (n m : Nat) (V : q_S) (p : Int32) (Z Z4 Z1 : Int → Int) (sg : Int) : Prop := (∀ c : Int32, c = 0 ∨ c = 1 → m ∈ q_L (q_sI V m 8 c) ∧ q_K (q_sI V m 8 c) m = 13) ∧ v_G2 n V m p Z ∧ v_G4 n V m p Z4 ∧ v_G1 n V m p Z1 ∧ ∀ b : Int32, b = 0 ∨ b = 1 → ∃ r c : Int32, (c = 0 ∨ c = 1) ∧ m_X12_signs n (q_sI V m 8 b) m = some (r, q_sI V m 8 c) ∧ r.toInt = sg
/-- what holds of the one side, whatever its start is -/
def v_UF (n cd t : Nat) (U : Int64 → q_S) (Z Z4 Z1 : Int → Int) : Prop := ∀ b : Int64, (-1 ≤ b.toInt ∧ b.toInt ≤ 4294967295) → (cd ∈ q_L (U b) ∧ q_K (U b) cd = 1) ∧ (t ∈ q_L (U b) ∧ q_K (U b) t = 8) ∧ q_R (U b) cd 1 = some t ∧ q_J (U b) cd 2 = b ∧ (∀ y, q_sJ (U b) cd 2 y = U y) ∧ v_F2 n (U b) cd Z b.toInt ∧ v_F4 n (U b) cd Z4 b.toInt ∧ v_F1 n (U b) t Z1 ∧ ∀ i : Int64, i.toInt ≤ 1000000000000 → ∃ r : Int64, m_X7_four n (U b) t i = some (r, U b) ∧ r.toInt = Z4 i.toInt
section QVX
variable {n cd m t : Nat} {U : Int64 → q_S} {V : q_S} {Z Z4 Z1 : Int → Int} {p code : Int32} {sg : Int}
theorem v_A0 {x : Option (Int32 × q_S)} {c : Int32} {r : Int} (h : r ≤ 0) (hc : c = 0 ∨ c = 1) (e : x = some (0, q_sI V m 8 c)) : v_A m V sg r x := ⟨0, c, hc, e, by rw [if_neg (fun h9 => by omega)]; rfl⟩
theorem v_122 (h : v_VF n m V p Z Z4 Z1 sg) (hsg : 0 ≤ sg ∧ sg ≤ 200) {r : Int} {st : Int64} {fm : Int32} (hQ : v_Q m V r (m_X12_mapBy n (q_sI V m 8 0) m p st fm code)) : v_A m V sg r (m_X12_map_122 n (q_sI V m 8 0) (some m) code p st fm) := by
  obtain ⟨kq, -, -, -, hS⟩ := h
  obtain ⟨g, c, e, hc⟩ := hQ
  unfold m_X12_map_122 m_X12_map_158 m_X12_map_159
  rw [q_at_pos (kq 0 (Or.inl rfl)), e, q_b_some]
  rcases hc with ⟨e0, er, eg⟩ | ⟨e0, er⟩
  · subst e0
    obtain ⟨s, c7, d7, a7, v7⟩ := hS 0 (Or.inl rfl)
    rw [q_at_pos (kq 0 (Or.inl rfl)), q_hitI, if_pos rfl, a7, q_b_some]
    by_cases g2 : sg ≤ g.toInt
    · rw [if_pos (c_ge.mpr (by rw [q_wil, v7]; exact g2))]
      exact ⟨0, c7, d7, rfl, by rw [if_neg (fun h9 => by omega)]; rfl⟩
    · rw [if_neg (fun h9 => g2 (by have := c_ge.mp h9; rw [q_wil, v7] at this; exact this))]
      refine ⟨g.toInt32, c7, d7, rfl, ?_⟩
      rw [q_wli (by omega) (by omega)]
      by_cases g3 : 0 < r ∧ r < sg
      · rw [if_pos g3, er]
      · rw [if_neg g3]; omega
  · subst e0
    rw [q_at_pos (kq 1 (Or.inr rfl)), q_hitI, if_neg (by decide)]
    exact v_A0 er (Or.inr rfl) rfl
theorem v_fnd (hn : 18446744073709551616 ≤ n) (hU : v_UF n cd t U Z Z4 Z1) (hZ : ∀ i, -1 ≤ Z i ∧ Z i ≤ 65535) (hZ4 : ∀ i, -1 ≤ Z4 i ∧ Z4 i ≤ 4294967295) (hZ1 : ∀ i, -1 ≤ Z1 i ∧ Z1 i ≤ 255) (hsg : 0 ≤ sg ∧ sg ≤ 200) {V0 : q_S} (hV0 : v_VF n m V0 p Z Z4 Z1 sg) (hc : 0 ≤ code.toInt) {rows : Int32} (hr : rows.toInt ≤ 65535) : ∀ (j k k2 : Nat) (l : Int32) (b : Int64), j = (rows.toInt - l.toInt).toNat → 0 ≤ l.toInt → (-1 ≤ b.toInt ∧ b.toInt ≤ 4294967295) → j < k → j + 1 < k2 → ∃ (r b' : Int64), (-1 ≤ b'.toInt ∧ b'.toInt ≤ 4294967295) ∧ m_X0_find_27 n k (U b) (some cd) code rows l = some (r, U b') ∧ ∀ V, v_VF n m V p Z Z4 Z1 sg → v_A m V sg r.toInt (m_X12_map_30 n k2 (q_sI V m 8 0) (some m) code p rows l) := by
  have x0 : (0 : Int32).toInt = 0 := rfl
  have x1 : (1 : Int32).toInt = 1 := rfl
  have y4 : (4 : Int64).toInt = 4 := rfl
  have y8 : (8 : Int64).toInt = 8 := rfl
  have y0 : (0 : Int64).toInt = 0 := rfl
  have ym : (-1 : Int64).toInt = -1 := rfl
  have xm : (-1 : Int32).toInt = -1 := rfl
  intro j
  induction j with
  | zero =>
    intro k k2 l b hj hl hb hk hk2
    obtain ⟨k, rfl⟩ : ∃ k', k = k' + 1 := ⟨k - 1, by omega⟩
    obtain ⟨k2, rfl⟩ : ∃ k', k2 = k' + 1 := ⟨k2 - 1, by omega⟩
    refine ⟨0, b, hb, ?_, fun V hV => ?_⟩
    · rw [m_X0_find_27, if_pos (i_le.mpr (by omega))]
    · rw [m_X12_map_30, if_pos (i_le.mpr (by omega))]
      exact v_A0 (Int.le_refl _) (Or.inl rfl) rfl
  | succ j ih =>
    intro k k2 l b hj hl hb hk hk2
    obtain ⟨k, rfl⟩ : ∃ k', k = k' + 1 := ⟨k - 1, by omega⟩
    obtain ⟨k2, rfl⟩ : ∃ k', k2 = k' + 1 := ⟨k2 - 1, by omega⟩
    obtain ⟨k13, k8, hcd, hst, hsJ, F2, F4, F1, FA⟩ := hU b hb
    have el : (l + 1).toInt = l.toInt + 1 := by rw [q_addI (by rw [x1]; omega) (by rw [x1]; omega), x1]
    have e8 : ((8 : Int64) * (l.toInt64)).toInt = 8 * l.toInt := by rw [q_mulLJ y8 (by rw [q_wil]; omega) (by rw [q_wil]; omega), q_wil]
    have e48 : ((4 : Int64) + ((8 : Int64) * (l.toInt64))).toInt = 4 + 8 * l.toInt := by rw [q_addJ (by rw [y4, e8]; omega) (by rw [y4, e8]; omega), y4, e8]
    have ei : (((4 : Int64) + ((8 : Int64) * (l.toInt64))) + (4 : Int64)).toInt = 8 + 8 * l.toInt := by rw [q_addJ (by rw [e48, y4]; omega) (by rw [e48, y4]; omega), e48, y4]; omega
    obtain ⟨r4, a4, v4⟩ := FA (((4 : Int64) + ((8 : Int64) * (l.toInt64))) + (4 : Int64)) (by omega)
    rw [ei] at v4
    have h4 := hZ4 (8 + 8 * l.toInt)
    have hb4 : -1 ≤ r4.toInt ∧ r4.toInt ≤ 4294967295 := by omega
    obtain ⟨k13', k8', hcd', hst', hsJ', F2', F4', F1', FA'⟩ := hU r4 hb4
    -- the reference, PAST
    have past : ∀ V, v_VF n m V p Z Z4 Z1 sg → ∀ (st : Int64) (s0 : Int32), v_A m V sg 0 (m_X12_map_88 n (m_X12_map_30 n k2) (q_sI V m 8 1) (some m) code p rows l st s0) := fun V hV st s0 => by
      obtain ⟨kq, -, -, -, -⟩ := hV
      unfold m_X12_map_88 m_X12_map_160
      rw [q_at_pos (kq 1 (Or.inr rfl)), q_hitI, if_neg (by decide)]
      obtain ⟨k2, rfl⟩ : ∃ k', k2 = k' + 1 := ⟨k2 - 1, by omega⟩
      rw [m_X12_map_30]
      unfold m_X12_map_166
      by_cases g : rows ≤ l + 1
      · rw [if_pos g]; exact v_A0 (Int.le_refl _) (Or.inr rfl) rfl
      · rw [if_neg g, q_at_pos (kq 1 (Or.inr rfl)), q_hitI, if_neg (by decide)]; exact v_A0 (Int.le_refl _) (Or.inr rfl) rfl
    have eM : ∀ V, v_VF n m V p Z Z4 Z1 sg → ∃ (s5 : Int64) (c5 : Int32), (c5 = 0 ∨ c5 = 1) ∧ (0 ≤ Z4 (8 + 8 * l.toInt) → s5 = r4 ∧ c5 = 0) ∧ (Z4 (8 + 8 * l.toInt) < 0 → c5 = 1) ∧ m_X12_map_30 n (k2 + 1) (q_sI V m 8 0) (some m) code p rows l = (if c5 = 0 then q_b (m_X12_two n (q_sI V m 8 c5) m p s5) (fun r10 S11 => m_X12_map_88 n (m_X12_map_30 n k2) (S11) (some m) code p rows l s5 r10) else m_X12_map_88 n (m_X12_map_30 n k2) (q_sI V m 8 c5) (some m) code p rows l s5 0) := fun V hV => by
      obtain ⟨kq, G2, G4, G1, hS⟩ := hV
      obtain ⟨s5, c5, d5, b5, f5, k5⟩ := G4 0 (((4 : Int64) + ((8 : Int64) * (l.toInt64))) + (4 : Int64)) (Or.inl rfl) (by omega)
      rw [ei] at f5 k5
      refine ⟨s5, c5, d5, fun h => ⟨Int64.toInt_inj.mp (by rw [(f5 h).1, v4]), (f5 h).2⟩, fun h => (k5 h).2, ?_⟩
      rw [m_X12_map_30, if_neg (fun h => by have := i_le.mp h; omega), q_at_pos (kq 0 (Or.inl rfl)), q_hitI, if_pos rfl, if_neg (fun h => by have := i_lt.mp h; rw [x0] at this; omega), b5, q_b_some, q_at_pos (kq c5 d5), q_hitI]
    rw [m_X0_find_27, if_neg (fun h => by have := i_le.mp h; omega), q_at_pos k13, hcd, q_at_pos k8, a4, q_b_some, q_at_pos k13, hsJ, hst']
    by_cases g1 : Z4 (8 + 8 * l.toInt) < 0
    · rw [if_pos (c_eq.mpr (by rw [v4, ym]; omega))]
      unfold m_X0_find_77
      rw [if_pos rfl]
      refine ⟨0, r4, hb4, rfl, fun V hV => ?_⟩
      obtain ⟨s5, c5, d5, -, k5, e5⟩ := eM V hV
      have ec := k5 g1
      subst ec
      rw [e5, if_neg (by decide)]
      exact past V hV s5 0
    rw [if_neg (fun h => g1 (by have := c_eq.mp h; rw [v4, ym] at this; omega))]
    obtain ⟨r9, a9, v9⟩ := F2' 0 (by decide) (by decide)
    rw [y0, Int.add_zero] at v9
    rw [a9, q_b_some]
    have h9 := hZ r4.toInt
    unfold m_X0_find_77 m_X0_find_112
    by_cases g2 : Z r4.toInt < 0
    · rw [if_pos (i_eq.mpr (by rw [v9, xm]; omega))]
      refine ⟨0, r4, hb4, rfl, fun V hV => ?_⟩
      obtain ⟨s5, c5, d5, f5, -, e5⟩ := eM V hV
      obtain ⟨es, ec⟩ := f5 (by omega)
      subst es
      subst ec
      obtain ⟨s10, c10, d10, b10, f10, k10⟩ := hV.2.1 0 s5 (Or.inl rfl) (by omega)
      obtain ⟨-, ec⟩ := k10 g2
      subst ec
      rw [e5, if_pos rfl, b10, q_b_some]
      exact past V hV s5 s10
    rw [if_neg (fun h => g2 (by have := i_eq.mp h; rw [v9, xm] at this; omega))]
    have eM2 : ∀ V, v_VF n m V p Z Z4 Z1 sg → m_X12_map_30 n (k2 + 1) (q_sI V m 8 0) (some m) code p rows l = m_X12_map_88 n (m_X12_map_30 n k2) (q_sI V m 8 0) (some m) code p rows l r4 r9 := fun V hV => by
      obtain ⟨s5, c5, d5, f5, -, e5⟩ := eM V hV
      obtain ⟨es, ec⟩ := f5 (by omega)
      subst es
      subst ec
      obtain ⟨s10, c10, d10, b10, f10, k10⟩ := hV.2.1 0 s5 (Or.inl rfl) (by omega)
      obtain ⟨hv, ec⟩ := f10 (by omega)
      subst ec
      have e10 : s10 = r9 := Int32.toInt_inj.mp (by rw [hv, v9])
      rw [e5, if_pos rfl, b10, q_b_some, e10]
    have form : ∀ fm : Int32, (fm = 0 ∨ fm = 4 ∨ fm = 6 ∨ fm = 12) → ∃ (r b' : Int64), (-1 ≤ b'.toInt ∧ b'.toInt ≤ 4294967295) ∧ q_at (U r4) (some cd) 1 (fun a1 => q_b (m_X0_findBy n (U r4) a1 fm code) (fun r2 S3 => some (r2, S3))) = some (r, U b') ∧ ∀ V, v_VF n m V p Z Z4 Z1 sg → v_A m V sg r.toInt (m_X12_map_122 n (q_sI V m 8 0) (some m) code p r4 fm) := fun fm hf => by
      have hall : ∀ V, v_VF n m V p Z Z4 Z1 sg → ∃ r : Int64, m_X0_findBy n (U r4) cd fm code = some (r, U r4) ∧ v_Q m V r.toInt (m_X12_mapBy n (q_sI V m 8 0) m p r4 fm code) := fun V hV => v_fb hn k13' k8' hcd' hst' hV.1 F2' F4' F1' hV.2.1 hV.2.2.1 hV.2.2.2.1 hZ hZ4 hZ1 ⟨by omega, hb4.2⟩ hc hf
      obtain ⟨r, e, -⟩ := hall V0 hV0
      refine ⟨r, r4, hb4, ?_, fun V hV => ?_⟩
      · rw [q_at_pos k13', e, q_b_some]
      · obtain ⟨r2, e2, Q⟩ := hall V hV
        rw [e] at e2
        cases e2
        exact v_122 hV hsg Q
    by_cases q0 : r9 = 0
    · rw [if_pos q0]
      obtain ⟨r, b', hb', e, hA⟩ := form 0 (Or.inl rfl)
      rw [q0]
      refine ⟨r, b', hb', e, fun V hV => ?_⟩
      rw [eM2 V hV]
      unfold m_X12_map_88
      rw [q_at_pos (hV.1 0 (Or.inl rfl)), q_hitI, if_pos rfl, if_pos q0, q0]
      exact hA V hV
    rw [if_neg q0]
    by_cases q4 : r9 = 4
    · rw [if_pos q4]
      obtain ⟨r, b', hb', e, hA⟩ := form 4 (Or.inr (Or.inl rfl))
      rw [q4]
      refine ⟨r, b', hb', e, fun V hV => ?_⟩
      rw [eM2 V hV]
      unfold m_X12_map_88
      rw [q_at_pos (hV.1 0 (Or.inl rfl)), q_hitI, if_pos rfl, if_neg q0, if_pos q4, q4]
      exact hA V hV
    rw [if_neg q4]
    by_cases q6 : r9 = 6
    · rw [if_pos q6]
      obtain ⟨r, b', hb', e, hA⟩ := form 6 (Or.inr (Or.inr (Or.inl rfl)))
      rw [q6]
      refine ⟨r, b', hb', e, fun V hV => ?_⟩
      rw [eM2 V hV]
      unfold m_X12_map_88
      rw [q_at_pos (hV.1 0 (Or.inl rfl)), q_hitI, if_pos rfl, if_neg q0, if_neg q4, if_pos q6, q6]
      exact hA V hV
    rw [if_neg q6]
    by_cases q12 : r9 = 12
    · rw [if_pos q12]
      obtain ⟨r, b', hb', e, hA⟩ := form 12 (Or.inr (Or.inr (Or.inr rfl)))
      rw [q12]
      refine ⟨r, b', hb', e, fun V hV => ?_⟩
      rw [eM2 V hV]
      unfold m_X12_map_88
      rw [q_at_pos (hV.1 0 (Or.inl rfl)), q_hitI, if_pos rfl, if_neg q0, if_neg q4, if_neg q6, if_pos q12, q12]
      exact hA V hV
    rw [if_neg q12]
    obtain ⟨r, b', hb', e, hA⟩ := ih k k2 (l + 1) r4 (by omega) (by omega) hb4 (by omega) (by omega)
    refine ⟨r, b', hb', e, fun V hV => ?_⟩
    rw [eM2 V hV]
    unfold m_X12_map_88 m_X12_map_160
    rw [q_at_pos (hV.1 0 (Or.inl rfl)), q_hitI, if_pos rfl, if_neg q0, if_neg q4, if_neg q6, if_neg q12]
    exact hA V hV
end QVX
section QVY
variable {ρ : Nat → Nat} {L M9 : List Nat} {n : Nat} {S T : q_S} {x wo ce tb en ab m fF fT fS fB fL : Nat}
theorem z_fr_b (hI : q_Inv ρ L S) (hF : fF ∈ L ∧ ρ fF = 46) {p i : Int} : -1 ≤ z_fr S m fF fB fL p i ∧ z_fr S m fF fB fL p i ≤ 4294967295 := by
  unfold z_fr v_fr
  by_cases g : 0 ≤ i ∧ i + 3 < v_len S m fL p
  · rw [if_pos g]
    have := v_fo_b (f := q_I S fF) (fun k => g_46_E (q_G_refl (m := []) hI) hF.1 hF.2) (v_st S m fB p + i)
    omega
  · rw [if_neg g]; omega
/-- the other side of a store that is S but for its codes and the fields 0 and 8 -/
theorem v_VFm (hn : 18446744073709551616 ≤ n) (hI : q_Inv ρ L S) (hA : v_Ad ρ L x wo ce tb en ab m fF fT fS fB fL) (hIT : q_Inv ρ L T) (g : q_G ρ L [833, 834, 2880] S T) {p : Int32} (hp : p.toInt = -1 ∨ (0 ≤ p.toInt ∧ p.toInt < (q_I S m 3).toInt)) : v_VF n m T p (fun i => z_tw S m fF fB fL p.toInt i) (fun i => z_fr S m fF fB fL p.toInt i) (fun i => z_by S m fF fB fL p.toInt i) (v_sg S m fF fB fL) := by
  have hm := hA.2.2.2.2.2.2.1
  obtain ⟨u1, u2, u3, u4, u5, u6⟩ := z_un hI g hA (by decide)
  have hp2 : p.toInt = -1 ∨ (0 ≤ p.toInt ∧ p.toInt < (q_I T m 3).toInt) := by rw [u5]; exact hp
  refine ⟨fun c hc => k_m (v_m8 hIT hm (b := c) (by rcases hc with e | e <;> rw [e] <;> decide)).1 hm, fun b i hb hi => ?_, fun b i hb hi => ?_, fun b i hb hi => ?_, fun b hb => ?_⟩
  · obtain ⟨r, c, d, a, f, k⟩ := v_twQ (p := p) (b := b) (i := i) hn hIT hA hb hp2 (by omega)
    rw [u1] at f k
    exact ⟨r, c, d, a, f, k⟩
  · obtain ⟨r, c, d, a, f, k⟩ := v_nuQ (p := p) (b := b) (i := i) (k := 4) hn hIT hA hb hp2 (by omega) (Or.inr (Or.inr rfl))
    have ez : z_nu T m fF fB fL p.toInt i.toInt (4 : Int32).toInt = z_fr S m fF fB fL p.toInt i.toInt := by
      unfold z_nu
      rw [if_neg (by decide), if_neg (by decide), u3]
    rw [ez] at f k
    exact ⟨r, c, d, a, f, k⟩
  · obtain ⟨r, c, d, a, f, k⟩ := v_nuQ (p := p) (b := b) (i := i) (k := 1) hn hIT hA hb hp2 (by omega) (Or.inl rfl)
    have ez : z_nu T m fF fB fL p.toInt i.toInt (1 : Int32).toInt = z_by S m fF fB fL p.toInt i.toInt := by
      unfold z_nu
      rw [if_pos (by decide), u2]
    rw [ez] at f k
    exact ⟨r, c, d, a, f, k⟩
  · obtain ⟨r, c, d, a, hv⟩ := v_sgnM hn hIT hA hb
    refine ⟨r, c, d, a, ?_⟩
    rw [hv]
    unfold v_sg
    rw [u1, u4]
theorem zs_map (hn : 18446744073709551616 ≤ n) (hI : q_Inv ρ L S) (hA : v_Ad ρ L x wo ce tb en ab m fF fT fS fB fL) (hR : v_Rs ρ L wo ce tb en ab m fF fT fS fB fL S) {p0 : Int32} : q_ok (m_X11_map n S x p0) (fun r T => q_Inv ρ L T ∧ q_ok (m_X12_map n T m p0) (fun r2 T2 => q_Inv ρ L T2 ∧ v_Rs ρ L wo ce tb en ab m fF fT fS fB fL T2 ∧ r = r2)) := by
  have hm := hA.2.2.2.2.2.2.1
  have ht := hA.2.2.2.1
  have hx := hA.1
  have hF := hA.2.2.2.2.2.2.2.1
  have x0 : (0 : Int32).toInt = 0 := rfl
  have y0 : (0 : Int64).toInt = 0 := rfl
  have y2 : (2 : Int64).toInt = 2 := rfl
  have hsgb := v_sg_b (S := S) (m := m) (fF := fF) (fB := fB) (fL := fL)
  have hG : q_G ρ L [833, 834] S S := q_G_refl hI
  have hfd := v_fdR (tag := 1668112752) hI hm hA.2.2.2.2.2.2.2.2.1
  have b2 := z_tw_b (m := m) (fB := fB) (fL := fL) (p := (q_fd S m 1668112752).toInt) (i := (2 : Int64).toInt) hI hF
  -- the reference, from a store T whose frame is known
  have ref : ∀ T : q_S, q_G ρ L [833, 834] S T → ∀ r : Int, (0 ≤ p0.toInt → 0 ≤ z_tw S m fF fB fL (q_fd S m 1668112752).toInt 2 → ∀ rows : Int32, rows.toInt = z_tw S m fF fB fL (q_fd S m 1668112752).toInt 2 → ∀ V, v_VF n m V (q_fd S m 1668112752) (fun i => z_tw S m fF fB fL (q_fd S m 1668112752).toInt i) (fun i => z_fr S m fF fB fL (q_fd S m 1668112752).toInt i) (fun i => z_by S m fF fB fL (q_fd S m 1668112752).toInt i) (v_sg S m fF fB fL) → v_A m V (v_sg S m fF fB fL) r (m_X12_map_30 n n (q_sI V m 8 0) (some m) p0 (q_fd S m 1668112752) rows 0)) → ((p0.toInt < 0 ∨ z_tw S m fF fB fL (q_fd S m 1668112752).toInt 2 < 0) → r ≤ 0) → q_ok (m_X12_map n T m p0) (fun r2 T2 => q_Inv ρ L T2 ∧ v_Rs ρ L wo ce tb en ab m fF fT fS fB fL T2 ∧ r2.toInt = if 0 < r ∧ r < v_sg S m fF fB fL then r else 0) := by
    intro T g r h1 h2
    have hG0 : q_G ρ L [833, 834, 2880] S (q_sI T m 0 0) := u_45_I0 (q_G_call (q_G_refl hI) g (by decide)) hm.1 hm.2 (by decide) ⟨by decide, by decide⟩
    have hG8 : ∀ c : Int32, c = 0 ∨ c = 1 → q_G ρ L [833, 834, 2880, 2888] S (q_sI (q_sI T m 0 0) m 8 c) := fun c hc => u_45_I8 (q_G_call (q_G_refl hI) hG0 (by decide)) hm.1 hm.2 (by decide) (by rcases hc with e | e <;> rw [e] <;> decide)
    have fin : ∀ c : Int32, c = 0 ∨ c = 1 → q_Inv ρ L (q_sI (q_sI T m 0 0) m 8 c) ∧ v_Rs ρ L wo ce tb en ab m fF fT fS fB fL (q_sI (q_sI T m 0 0) m 8 c) := fun c hc => ⟨(hG8 c hc).1, v_RsU hI hA (hG8 c hc) (by decide) hR⟩
    have w4 := (z_un hI (hG8 0 (Or.inl rfl)) hA (by decide)).2.2.2.1
    have hV := v_VFm (p := q_fd S m 1668112752) hn hI hA hG0.1 hG0 hfd
    obtain ⟨s8, c8, d8, b8, f8, k8⟩ := hV.2.1 0 2 (Or.inl rfl) (by decide)
    rw [y2] at f8 k8
    have f8 : 0 ≤ z_tw S m fF fB fL (q_fd S m 1668112752).toInt 2 → s8.toInt = z_tw S m fF fB fL (q_fd S m 1668112752).toInt 2 ∧ c8 = 0 := f8
    have k8 : z_tw S m fF fB fL (q_fd S m 1668112752).toInt 2 < 0 → s8 = 0 ∧ c8 = 1 := k8
    unfold m_X12_map
    rw [q_at_pos (k_m g.1 hm), q_if_pos (Or.inl rfl), q_let_eq, v_fdM hn (hG8 0 (Or.inl rfl)).1 hm ⟨by decide, by decide⟩, q_b_some, w4, q_at_pos (k_m (hG8 0 (Or.inl rfl)).1 hm), b8, q_b_some]
    have zero : r ≤ 0 → ∀ c : Int32, (c = 0 ∨ c = 1) → m_X12_map_30 n n (q_sI (q_sI T m 0 0) m 8 c8) (some m) p0 (q_fd S m 1668112752) s8 0 = some (0, q_sI (q_sI T m 0 0) m 8 c) → q_ok (m_X12_map_30 n n (q_sI (q_sI T m 0 0) m 8 c8) (some m) p0 (q_fd S m 1668112752) s8 0) (fun r2 T2 => q_Inv ρ L T2 ∧ v_Rs ρ L wo ce tb en ab m fF fT fS fB fL T2 ∧ r2.toInt = if 0 < r ∧ r < v_sg S m fF fB fL then r else 0) := fun hr c hc e => ⟨0, _, e, (fin c hc).1, (fin c hc).2, by rw [if_neg (fun h => by omega)]; rfl⟩
    obtain ⟨q, hq⟩ : ∃ q, n = q + 1 := ⟨n - 1, by omega⟩
    by_cases g2 : z_tw S m fF fB fL (q_fd S m 1668112752).toInt 2 < 0
    · obtain ⟨e8, ec⟩ := k8 g2
      refine zero (h2 (Or.inr g2)) 1 (Or.inr rfl) ?_
      subst e8
      subst ec
      have w : ∀ q, m_X12_map_30 n (q + 1) (q_sI (q_sI T m 0 0) m 8 1) (some m) p0 (q_fd S m 1668112752) 0 0 = some (0, q_sI (q_sI T m 0 0) m 8 1) := fun q => by
        rw [m_X12_map_30, if_pos (by decide)]
        rfl
      have w := w q
      rw [← hq] at w
      exact w
    · obtain ⟨v8, ec⟩ := f8 (by omega)
      by_cases g3 : p0.toInt < 0
      · refine zero (h2 (Or.inl g3)) 0 (Or.inl rfl) ?_
        have w : ∀ q, m_X12_map_30 n (q + 1) (q_sI (q_sI T m 0 0) m 8 0) (some m) p0 (q_fd S m 1668112752) s8 0 = some (0, q_sI (q_sI T m 0 0) m 8 0) := fun q => by
          rw [m_X12_map_30]
          unfold m_X12_map_166
          by_cases g4 : s8 ≤ 0
          · rw [if_pos g4]
          · rw [if_neg g4, q_at_pos (hV.1 0 (Or.inl rfl)), q_hitI, if_pos rfl, if_pos (i_lt.mpr (by rw [x0]; exact g3))]
        have w := w q
        rw [← hq] at w
        rw [ec]
        exact w
      · rw [ec]
        obtain ⟨a, c, hc, e, ha⟩ := h1 (by omega) (by omega) s8 v8 _ hV
        exact ⟨a, _, e, (fin c hc).1, (fin c hc).2, ha⟩
  unfold m_X11_map
  have m16 : ∀ (T : q_S) (r : Int64), q_G ρ L [833, 834] S T → r.toInt ≤ 17179869184 → m_X11_map_16 n T (some x) r = some (if 0 < r.toInt ∧ r.toInt < v_sg S m fF fB fL then r.toInt32 else 0, T) := by
    intro T r g hr
    unfold m_X11_map_16 m_X11_map_41 m_X11_map_42
    by_cases g1 : r.toInt ≤ 0
    · rw [if_pos (c_le.mpr (by rw [y0]; exact g1)), if_neg (fun h => by omega)]
    · obtain ⟨sg, es, ms, rs⟩ := g_0_R3 g hx.1 hx.2
      have hsz : (q_I T sg 5).toInt = v_sg S m fF fB fL := by rw [q_unI g ms rs (by decide)]; exact hR.2 sg ms rs
      have e6 : m_X6_size n T sg = some (q_I T sg 5, T) := by
        unfold m_X6_size
        rw [q_at_pos (v_at (c := 7) g.1 ⟨ms, rs⟩ rfl)]
      rw [if_neg (fun h => g1 (by have := c_le.mp h; rw [y0] at this; exact this)), q_at_pos (k_x g.1 hx), es, q_at_pos (v_at (c := 7) g.1 ⟨ms, rs⟩ rfl), e6, q_b_some]
      by_cases g2 : v_sg S m fF fB fL ≤ r.toInt
      · rw [if_pos (c_ge.mpr (by rw [q_wil, hsz]; exact g2)), if_neg (fun h => by omega)]
      · rw [if_neg (fun h => g2 (by have := c_ge.mp h; rw [q_wil, hsz] at this; exact this)), if_pos ⟨by omega, by omega⟩]
  by_cases g : 0 ≤ p0.toInt
  · rw [if_pos (i_le.mpr (by rw [x0]; exact g)), q_at_pos (k_x hI hx)]
    refine q_ok_at hG (g_0_R4 hG hx.1 hx.2) rfl (fun cd mcd rcd ecd => ?_)
    obtain ⟨t, et, h8⟩ := v_first (n := n) (tag := 1668112752) hn hI hA hR.1
    have hU : ∀ b : Int64, (-1 ≤ b.toInt ∧ b.toInt ≤ 4294967295) → q_G ρ L [833, 834] S (q_sJ (q_sR S cd 1 (some t)) cd 2 b) := fun b hb => u_13_J2 (u_13_R1 hG mcd rcd (by decide) (q_trI h8.1.1 h8.1.2)) mcd rcd (by decide) hb
    have hU1 : q_G ρ L [833, 834] S (q_sR S cd 1 (some t)) := u_13_R1 hG mcd rcd (by decide) (q_trI h8.1.1 h8.1.2)
    have hb0 := g_13_J2 hU1 mcd rcd
    have isU : ∀ b, v_is ρ L wo m fB fL (q_sJ (q_sR S cd 1 (some t)) cd 2 b) t (q_fd S m 1668112752).toInt := fun b => h8
    have cU : ∀ b : Int64, q_R (q_sJ (q_sR S cd 1 (some t)) cd 2 b) cd 1 = some t := fun b => by
      show q_R (q_sR S cd 1 (some t)) cd 1 = some t
      exact q_hitR
    have UF : v_UF n cd t (fun b => q_sJ (q_sR S cd 1 (some t)) cd 2 b) (fun i => z_tw S m fF fB fL (q_fd S m 1668112752).toInt i) (fun i => z_fr S m fF fB fL (q_fd S m 1668112752).toInt i) (fun i => z_by S m fF fB fL (q_fd S m 1668112752).toInt i) := fun b hb => by
      have g1 := hU b hb
      have R1 := v_RlU hA g1 (by decide) hR.1
      obtain ⟨u1, u2, u3, u4, u5, u6⟩ := z_un hI g1 hA (by decide)
      have k13 : cd ∈ q_L (q_sJ (q_sR S cd 1 (some t)) cd 2 b) ∧ q_K (q_sJ (q_sR S cd 1 (some t)) cd 2 b) cd = 1 := v_at g1.1 ⟨mcd, rcd⟩ rfl
      have k8 := k_8 g1.1 h8.1
      have ej : q_J (q_sJ (q_sR S cd 1 (some t)) cd 2 b) cd 2 = b := q_hitJ
      refine ⟨k13, k8, cU b, ej, fun y => q_sJ2, fun pl p1 p2 => ?_, fun pl p1 p2 => ?_, fun i hi => ?_, fun i hi => ?_⟩
      · have ea : (b + pl).toInt = b.toInt + pl.toInt := q_addJ (by omega) (by omega)
        obtain ⟨r, e, hv⟩ := v_ctw (n := n) (i := b + pl) g1.1 hA R1 (isU b) (by omega)
        refine ⟨r, ?_, by rw [hv, u1, ea]⟩
        unfold m_X0_two
        rw [q_at_pos k13, cU b, q_at_pos k8, ej, e, q_b_some]
      · have ea : (b + pl).toInt = b.toInt + pl.toInt := q_addJ (by omega) (by omega)
        obtain ⟨r, e, hv⟩ := v_cfr (n := n) (i := b + pl) g1.1 hA R1 (isU b) (by omega)
        refine ⟨r, ?_, by rw [hv, u3, ea]⟩
        unfold m_X0_four
        rw [q_at_pos k13, cU b, q_at_pos k8, ej, e, q_b_some]
      · obtain ⟨r, e, hv⟩ := v_cby (n := n) (i := i) g1.1 hA R1 (isU b) (by omega)
        exact ⟨r, e, by rw [hv, u2]⟩
      · obtain ⟨r, e, hv⟩ := v_cfr (n := n) (i := i) g1.1 hA R1 (isU b) (by omega)
        exact ⟨r, e, by rw [hv, u3]⟩
    have eU0 : q_sR S cd 1 (some t) = q_sJ (q_sR S cd 1 (some t)) cd 2 (q_J (q_sR S cd 1 (some t)) cd 2) := q_sJd.symm
    have hG0 : q_G ρ L [833, 834, 2880] S (q_sI S m 0 0) := u_45_I0 (q_G_refl hI) hm.1 hm.2 (by decide) ⟨by decide, by decide⟩
    have hV0 := v_VFm (p := q_fd S m 1668112752) hn hI hA hG0.1 hG0 hfd
    obtain ⟨r8, a8, v8⟩ := v_ctw (n := n) (i := 2) hU1.1 hA (v_RlU hA hU1 (by decide) hR.1) (show v_is ρ L wo m fB fL (q_sR S cd 1 (some t)) t (q_fd S m 1668112752).toInt from h8) (by decide)
    rw [(z_un hI hU1 hA (by decide)).1] at v8
    obtain ⟨r, b', hb', e, hA9⟩ := v_fnd (code := p0) (rows := r8) hn UF (fun i => z_tw_b hI hF) (fun i => z_fr_b hI hF) (fun i => z_by_b hI hF) hsgb hV0 g (by omega) (r8.toInt - 0).toNat n n 0 (q_J (q_sR S cd 1 (some t)) cd 2) (by rw [x0]) (by decide) hb0 (by omega) (by omega)
    have e : m_X0_find_27 n n (q_sJ (q_sR S cd 1 (some t)) cd 2 (q_J (q_sR S cd 1 (some t)) cd 2)) (some cd) p0 r8 0 = some (r, q_sJ (q_sR S cd 1 (some t)) cd 2 b') := e
    rw [← eU0] at e
    have ef : m_X0_find n S cd p0 = some (r, q_sJ (q_sR S cd 1 (some t)) cd 2 b') := by
      unfold m_X0_find
      have e1 : q_R S cd 0 = some tb := v_ln hI (g_13_R0 hG mcd rcd) ht rfl
      have e2 : q_R (q_sR S cd 1 (some t)) cd 1 = some t := q_hitR
      rw [q_at_pos (v_at (c := 1) hI ⟨mcd, rcd⟩ rfl), e1, q_at_pos (k_t hI ht), et, q_b_some, q_at_pos (v_at (c := 1) hI ⟨mcd, rcd⟩ rfl), e2, q_at_pos (k_8 hU1.1 h8.1), a8, q_b_some]
      exact e
    obtain ⟨r3, T3, e3, -, hb3⟩ := s_X0_find_13 hn hI mcd rcd (p0 := p0) ⟨g, by have := q_rngI p0; omega⟩
    rw [ef] at e3
    cases e3
    rw [ef, q_b_some, m16 _ _ (hU b' hb') (by omega)]
    refine q_ok_some ⟨(hU b' hb').1, ?_⟩
    have hz : z_tw S m fF fB fL (q_fd S m 1668112752).toInt (2 : Int64).toInt < 0 → r.toInt ≤ 0 := fun hz => by
      have : r8.toInt < 0 := by rw [v8]; exact hz
      obtain ⟨q, hq⟩ : ∃ q, n = q + 1 := ⟨n - 1, by omega⟩
      have w : ∀ q, m_X0_find_27 n (q + 1) (q_sR S cd 1 (some t)) (some cd) p0 r8 0 = some (0, q_sR S cd 1 (some t)) := fun q => by
        rw [m_X0_find_27, if_pos (i_le.mpr (by rw [x0]; omega))]
      have w := w q
      rw [← hq, e] at w
      have w2 := congrArg (fun z : Option (Int64 × q_S) => z.map (fun y => y.1)) w
      have w3 : some r = some 0 := w2
      cases w3
      decide
    obtain ⟨r2, T2, e2, i1, i2, i3⟩ := ref _ (hU b' hb') r.toInt (fun _ hp rows hrows V hV => by
      have er : rows = r8 := Int32.toInt_inj.mp (by rw [hrows, v8]; rfl)
      rw [er]
      exact hA9 V hV) (fun h => by
        rcases h with h | h
        · omega
        · exact hz h)
    refine ⟨r2, T2, e2, i1, i2, Int32.toInt_inj.mp ?_⟩
    rw [i3]
    by_cases g5 : 0 < r.toInt ∧ r.toInt < v_sg S m fF fB fL
    · rw [if_pos g5, if_pos g5, q_wli (by omega) (by omega)]
    · rw [if_neg g5, if_neg g5]; rfl
  · rw [if_neg (fun h => g (by have := i_le.mp h; rw [x0] at this; exact this)), m16 S 0 hG (by decide)]
    refine q_ok_some ⟨hI, ?_⟩
    obtain ⟨r2, T2, e2, i1, i2, i3⟩ := ref S hG 0 (fun h => absurd h g) (fun _ => Int.le_refl _)
    refine ⟨r2, T2, e2, i1, i2, Int32.toInt_inj.mp ?_⟩
    rw [i3, if_neg (fun h : 0 < (0 : Int) ∧ (0 : Int) < v_sg S m fF fB fL => by omega), if_neg (fun h : 0 < (0 : Int64).toInt ∧ (0 : Int64).toInt < v_sg S m fF fB fL => by rw [y0] at h; omega)]
    rfl
end QVY
