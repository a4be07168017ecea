/-! the class's add, as to its size -/
theorem x_push {ρ : Nat → Nat} {L : List Nat} {n : Nat} (hn : 18446744073709551616 ≤ n) {S : q_S} (hI : q_Inv ρ L S) {a : Nat} (ma : a ∈ L) (ra : ρ a = 1) (h : (q_I S a 1).toInt < 1600) {v : Int32} : q_ok (m_X4_push n S a v) (fun _ T => q_G ρ L M_X4_push_1 S T ∧ (q_I T a 1).toInt = (q_I S a 1).toInt + 1) := by
  have hG : q_G ρ L [] S S := q_G_refl hI
  obtain ⟨r, T, e, hT⟩ := s_X4_push_1 hn hI ma ra (p0 := v)
  refine ⟨r, T, e, hT, ?_⟩
  obtain ⟨b, eb, mb, rb⟩ := g_1_R0 hG ma ra
  have hs := g_1_I1 hG ma ra
  have hN := g_2_N hG mb rb
  have hk : ∀ c r k, c ∈ L → ρ c = r → q_kd r = k → c ∈ q_L S ∧ q_K S c = k := fun c r k mc rc hc => ⟨by rw [hG.1.1]; exact mc, by rw [(hG.1.2.1 c mc).1, rc, hc]⟩
  have hl : (nI (q_N S b)).toInt = 1600 := q_lenI hN (by decide)
  have e2 : m_X4_push n S a v = some ((), q_sI (q_sI S b (q_I S a 1).toNatClampNeg (v &&& (255 : Int32))) a 1 ((q_I (q_sI S b (q_I S a 1).toNatClampNeg (v &&& (255 : Int32))) a 1) + (1 : Int32))) := by
    unfold m_X4_push
    rw [q_at_pos (hk a 1 5 ma ra rfl), eb, q_at_pos (hk b 2 100 mb rb rfl), if_neg (fun h9 => by have := Int32.le_iff_toInt_le.mp h9; omega), q_if_pos (q_inI hN (by omega) (by omega))]
    rfl
  rw [e2] at e
  cases e
  have z1 : (1 : Int32).toInt = 1 := rfl
  rw [q_hitI, q_fwI ra rb (by decide), q_addI (by rw [z1]; omega) (by rw [z1]; omega), z1]
theorem x_size {ρ : Nat → Nat} {L m : List Nat} {n : Nat} {S S0 : q_S} (hG : q_G ρ L m S0 S) {a : Nat} (ma : a ∈ L) (ra : ρ a = 1) : m_X4_size n S a = some (q_I S a 1, S) := by
  unfold m_X4_size
  rw [q_at_pos ⟨by rw [hG.1.1]; exact ma, by rw [(hG.1.2.1 a ma).1, ra]; rfl⟩]
theorem x_add_go {ρ : Nat → Nat} {L : List Nat} {n : Nat} (hn : 18446744073709551616 ≤ n) {S0 : q_S} {x rw_ : Nat} (mx : x ∈ L) (rx : ρ x = 0) (mw : rw_ ∈ L) (rww : ρ rw_ = 1) {w : Int64} {p : Int32} {s : Int} (hp : p.toInt ≤ 8) (hs0 : 0 ≤ s) (hsp : s + p.toInt ≤ 1600) : ∀ (j k i : Nat) (S : q_S) (l4 : Int32), q_G ρ L M_X11_add_0 S0 S → l4.toInt = i → p.toInt = (i : Int) + j → (q_I S rw_ 1).toInt = s + i → j < k → q_ok (m_X11_add_31 n k S (some x) w p l4) (fun r T => q_G ρ L M_X11_add_0 S0 T ∧ r.toInt = s + p.toInt ∧ (q_I T rw_ 1).toInt = r.toInt) := by
  intro j
  induction j with
  | zero =>
    intro k i S l4 hG e1 e2 e3 hk
    obtain ⟨k, rfl⟩ : ∃ k', k = k' + 1 := ⟨k - 1, by omega⟩
    rw [m_X11_add_31, if_pos (Int32.le_iff_toInt_le.mpr (by omega))]
    refine q_ok_atS hG (q_trI mx rx) rfl (fun _ _ => ?_)
    refine q_ok_at hG (g_0_R0 hG mx rx) rfl (fun a ma ra ea => ?_)
    have ew : a = rw_ := q_one hG ma ra mw rww rfl
    subst ew
    refine q_ok_bE (x_size hG ma ra) ?_
    exact q_ok_some ⟨hG, by omega, rfl⟩
  | succ j ih =>
    intro k i S l4 hG e1 e2 e3 hk
    obtain ⟨k, rfl⟩ : ∃ k', k = k' + 1 := ⟨k - 1, by omega⟩
    rw [m_X11_add_31, if_neg (fun h9 => by have := Int32.le_iff_toInt_le.mp h9; omega)]
    refine q_ok_atS hG (q_trI mx rx) rfl (fun _ _ => ?_)
    refine q_ok_at hG (g_0_R0 hG mx rx) rfl (fun a ma ra ea => ?_)
    have ew : a = rw_ := q_one hG ma ra mw rww rfl
    subst ew
    refine q_ok_b (x_push hn hG.1 ma ra (by omega)) (fun _ T hT => ?_)
    have z1 : (1 : Int32).toInt = 1 := rfl
    exact ih k (i + 1) T (l4 + 1) (q_G_call hG hT.1 (by decide)) (by rw [q_addI (by rw [z1]; omega) (by rw [z1]; omega), z1, e1]; rfl) (by omega) (by rw [hT.2, e3]; omega) (by omega)
theorem x_addC {ρ : Nat → Nat} {L : List Nat} {n : Nat} (hn : 18446744073709551616 ≤ n) {S : q_S} (hI : q_Inv ρ L S) {x rw_ : Nat} (mx : x ∈ L) (rx : ρ x = 0) (mw : rw_ ∈ L) (rww : ρ rw_ = 1) {w : Int64} {p : Int32} : q_ok (m_X11_add n S x w p) (fun r T => q_G ρ L M_X11_add_0 S T ∧ (1 ≤ p.toInt ∧ p.toInt ≤ 8 ∧ (q_I S rw_ 1).toInt + p.toInt ≤ 1600 → r.toInt = (q_I S rw_ 1).toInt + p.toInt ∧ (q_I T rw_ 1).toInt = r.toInt) ∧ (¬ (1 ≤ p.toInt ∧ p.toInt ≤ 8 ∧ (q_I S rw_ 1).toInt + p.toInt ≤ 1600) → r.toInt = -1 ∧ (q_I T rw_ 1).toInt = (q_I S rw_ 1).toInt)) := by
  have hG : q_G ρ L M_X11_add_0 S S := q_G_refl hI
  have z1 : (1 : Int32).toInt = 1 := rfl
  have z8 : (8 : Int32).toInt = 8 := rfl
  have z1600 : (1600 : Int32).toInt = 1600 := rfl
  have hs := g_1_I1 hG mw rww
  unfold m_X11_add
  refine q_ok_ite (fun g => ?_) (fun g => ?_)
  · have := Int32.lt_iff_toInt_lt.mp g
    exact q_ok_some ⟨hG, fun h => by omega, fun _ => ⟨rfl, rfl⟩⟩
  have g1 := mt Int32.lt_iff_toInt_lt.mpr g
  refine q_ok_ite (fun g => ?_) (fun g => ?_)
  · have := Int32.lt_iff_toInt_lt.mp g
    exact q_ok_some ⟨hG, fun h => by omega, fun _ => ⟨rfl, rfl⟩⟩
  have g2 := mt Int32.lt_iff_toInt_lt.mpr g
  refine q_ok_atS hG (q_trI mx rx) rfl (fun _ _ => ?_)
  refine q_ok_at hG (g_0_R0 hG mx rx) rfl (fun a ma ra ea => ?_)
  have ew : a = rw_ := q_one hG ma ra mw rww rfl
  subst ew
  refine q_ok_bE (x_size hG ma ra) ?_
  have es : ((q_I S a 1) + p).toInt = (q_I S a 1).toInt + p.toInt := q_addI (by omega) (by omega)
  refine q_ok_ite (fun g => ?_) (fun g => ?_)
  · have g3 := Int32.le_iff_toInt_le.mp g
    obtain ⟨r, T, e, h1, h2, h3⟩ := x_add_go (w := w) (p := p) hn mx rx ma ra (s := (q_I S a 1).toInt) (by omega) (by omega) (by omega) p.toInt.toNat n 0 S 0 hG rfl (by omega) (by show _ = _ + ((0 : Nat) : Int); omega) (by omega)
    exact ⟨r, T, e, h1, fun _ => ⟨h2, h3⟩, fun h => absurd ⟨by omega, by omega, by omega⟩ h⟩
  · have g3 := mt Int32.le_iff_toInt_le.mpr g
    exact q_ok_some ⟨hG, fun h => by omega, fun _ => ⟨rfl, rfl⟩⟩
/-! the law's loop -/
def q_rel2 (ρ : Nat → Nat) (L : List Nat) (m : Nat) (S : q_S) : Prop := ∀ a, a ∈ L → ρ a = 1 → (q_I S a 1).toInt = (q_I S m 2).toInt
section QLW
variable {ρ : Nat → Nat} {L M9 : List Nat} {S T : q_S} {n x m o : Nat}
theorem q_rel2U (g : q_G ρ L M9 S T) (mm : m ∈ L) (rm : ρ m = 45) (h1 : M9.contains (q_ar 1 1) = false) (h2 : M9.contains (q_ar 45 2) = false) (h : q_rel2 ρ L m S) : q_rel2 ρ L m T := fun a ma ra => by
  rw [q_unI g ma ra h1, q_unI g mm rm h2]; exact h a ma ra
theorem q_rel2I (e : ∀ a k, q_I T a k = q_I S a k) (h : q_rel2 ρ L m S) : q_rel2 ρ L m T := fun a ma ra => by
  rw [e, e]; exact h a ma ra
theorem x_octet (hn : 18446744073709551616 ≤ n) (hI : q_Inv ρ L S) (mx : x ∈ L) (rx : ρ x = 0) (mo : o ∈ L) (ro : ρ o = 74) {p0 p1 : Int32} : q_ok (m_L_octet n S (some x) p0 p1 (some o)) (fun _ T => q_Inv ρ L T ∧ ∀ a k, q_I T a k = q_I S a k) := by
  have hG : q_G ρ L [64 * 74] S S := q_G_refl hI
  unfold m_L_octet
  refine q_ok_atS hG (q_trI mx rx) rfl (fun _ _ => ?_)
  refine q_ok_atS hG (q_trI mo ro) rfl (fun _ _ => ?_)
  refine q_ok_b (s_X11_octet_0 hn hI mx rx) (fun r T hT => ?_)
  have eT : T = S := hT
  have hGT : q_G ρ L [64 * 74] T T := q_G_refl (by rw [eT]; exact hI)
  cases r with
  | none => exact q_ok_some ⟨hGT.1, fun a k => by rw [eT]⟩
  | some v =>
    refine q_ok_atS hGT (q_trI mo ro) rfl (fun _ _ => ?_)
    refine q_ok_if (q_inI (g_74_N hGT mo ro) (by decide) (by decide)) ?_
    exact q_ok_some ⟨(u_74_E (k := (0 : Int32).toNatClampNeg) (x := v.toInt64) hGT mo ro (by decide)).1, fun a k => by rw [eT]; rfl⟩
theorem x_piece (hn : 18446744073709551616 ≤ n) (hI : q_Inv ρ L S) (mx : x ∈ L) (rx : ρ x = 0) (mo : o ∈ L) (ro : ρ o = 74) {p0 p1 : Int32} : q_ok (m_L_piece n S (some x) p0 p1 (some o)) (fun _ T => q_Inv ρ L T ∧ ∀ a k, q_I T a k = q_I S a k) := by
  have hG : q_G ρ L [64 * 74] S S := q_G_refl hI
  unfold m_L_piece
  refine q_ok_atS hG (q_trI mx rx) rfl (fun _ _ => ?_)
  refine q_ok_atS hG (q_trI mo ro) rfl (fun _ _ => ?_)
  refine q_ok_b (s_X11_piece_0 hn hI mx rx) (fun r T hT => ?_)
  have eT : T = S := hT
  have hGT : q_G ρ L [64 * 74] T T := q_G_refl (by rw [eT]; exact hI)
  cases r with
  | none => exact q_ok_some ⟨hGT.1, fun a k => by rw [eT]⟩
  | some v =>
    refine q_ok_atS hGT (q_trI mo ro) rfl (fun _ _ => ?_)
    refine q_ok_if (q_inI (g_74_N hGT mo ro) (by decide) (by decide)) ?_
    exact q_ok_some ⟨(u_74_E (k := (0 : Int32).toNatClampNeg) (x := v.toInt64) hGT mo ro (by decide)).1, fun a k => by rw [eT]; rfl⟩
theorem x_told (hn : 18446744073709551616 ≤ n) (hI : q_Inv ρ L S) (mx : x ∈ L) (rx : ρ x = 0) (mo : o ∈ L) (ro : ρ o = 74) {p0 p1 : Int32} : q_ok (m_L_told n S (some x) p0 p1 (some o)) (fun _ T => q_Inv ρ L T ∧ ∀ a k, q_I T a k = q_I S a k) := by
  have hG : q_G ρ L [64 * 74] S S := q_G_refl hI
  unfold m_L_told
  refine q_ok_atS hG (q_trI mx rx) rfl (fun _ _ => ?_)
  refine q_ok_atS hG (q_trI mo ro) rfl (fun _ _ => ?_)
  refine q_ok_b (s_X11_told_0 hn hI mx rx) (fun r T hT => ?_)
  have eT : T = S := hT
  have hGT : q_G ρ L [64 * 74] T T := q_G_refl (by rw [eT]; exact hI)
  cases r with
  | none => exact q_ok_some ⟨hGT.1, fun a k => by rw [eT]⟩
  | some v =>
    refine q_ok_atS hGT (q_trI mo ro) rfl (fun _ _ => ?_)
    refine q_ok_if (q_inI (g_74_N hGT mo ro) (by decide) (by decide)) ?_
    exact q_ok_some ⟨(u_74_E (k := (0 : Int32).toNatClampNeg) (x := v.toInt64) hGT mo ro (by decide)).1, fun a k => by rw [eT]; rfl⟩
end QLW
theorem q_inL {i : Int32} {L : Nat} (h1 : 0 ≤ i.toInt) (h2 : i.toInt < L) : q_in i L = true := by unfold q_in; exact decide_eq_true ⟨h1, h2⟩
set_option maxHeartbeats 4000000 in
set_option maxRecDepth 100000 in
theorem p_go {ρ : Nat → Nat} {L9 : List Nat} {n L : Nat} {xs : Nat → Int32} (hn : 18446744073709551616 ≤ n) (hL : L ≤ 2048) {x m o rw_ : Nat} (mx : x ∈ L9) (rx : ρ x = 0) (mm : m ∈ L9) (rm : ρ m = 45) (mo : o ∈ L9) (ro : ρ o = 74) (mw : rw_ ∈ L9) (rww : ρ rw_ = 1) : ∀ (k : Nat) (S : q_S) (l4 : Int32), q_Inv ρ L9 S → q_rel2 ρ L9 m S → (0 ≤ l4.toInt ∧ l4.toInt ≤ 2052) → 2060 - l4.toInt ≤ 4 * (k : Int) → q_ok (m_L_law_23 n L xs k S (some x) (some m) (some o) l4) (fun r _ => r = 1) := by
  have z1 : (1 : Int32).toInt = 1 := rfl
  have z2 : (2 : Int32).toInt = 2 := rfl
  have z3 : (3 : Int32).toInt = 3 := rfl
  have z4 : (4 : Int32).toInt = 4 := rfl
  have hLi : (Int32.ofNat L).toInt = L := q_ofN (by omega)
  intro k
  induction k with
  | zero => intro S l4 hI hR h4 hk; exfalso; omega
  | succ k ih =>
    intro S l4 hI hR h4 hk
    rw [m_L_law_23]
    refine q_ok_ite (fun _ => q_ok_some rfl) (fun g => ?_)
    have g1 := mt Int32.lt_iff_toInt_lt.mpr g
    rw [q_subI (by rw [hLi, z4]; omega) (by rw [hLi, z4]; omega), hLi, z4] at g1
    have e1 : (l4 + (1 : Int32)).toInt = l4.toInt + 1 := by rw [q_addI (by rw [z1]; omega) (by rw [z1]; omega), z1]
    have e2 : (l4 + (2 : Int32)).toInt = l4.toInt + 2 := by rw [q_addI (by rw [z2]; omega) (by rw [z2]; omega), z2]
    have e3 : (l4 + (3 : Int32)).toInt = l4.toInt + 3 := by rw [q_addI (by rw [z3]; omega) (by rw [z3]; omega), z3]
    have e4 : (l4 + (4 : Int32)).toInt = l4.toInt + 4 := by rw [q_addI (by rw [z4]; omega) (by rw [z4]; omega), z4]
    have hi0 : q_in l4 L = true := q_inL (by omega) (by omega)
    have hi1 : q_in (l4 + (1 : Int32)) L = true := q_inL (by omega) (by omega)
    have hi2 : q_in (l4 + (2 : Int32)) L = true := q_inL (by omega) (by omega)
    have hi3 : q_in (l4 + (3 : Int32)) L = true := q_inL (by omega) (by omega)
    have h40 : 0 ≤ (l4 + (4 : Int32)).toInt ∧ (l4 + (4 : Int32)).toInt ≤ 2052 := by rw [e4]; omega
    have h4m : 2060 - (l4 + (4 : Int32)).toInt ≤ 4 * (k : Int) := by rw [e4]; omega
    clear e1 e2 e3 e4 g1
    refine q_ok_if hi0 ?_
    have hv := q_andRI (x := xs (l4).toNatClampNeg) (y := (15 : Int32)) (by decide)
    have z15 : (15 : Int32).toInt = 15 := rfl
    rw [z15] at hv
    generalize (xs (l4).toNatClampNeg) &&& (15 : Int32) = v at hv ⊢
    refine q_ok_ite (fun _ => ?_) (fun gc0 => ?_)
    · refine q_ok_if hi1 ?_
      refine q_ok_if hi2 ?_
      refine q_ok_if hi3 ?_
      refine q_ok_atS (q_G_refl (m := []) hI) (q_trI mx rx) rfl (fun _ _ => ?_)
      refine q_ok_b (x_addC hn hI mx rx mw rww) (fun r8 T hT => ?_)
      refine q_ok_if hi1 ?_
      refine q_ok_if hi2 ?_
      refine q_ok_if hi3 ?_
      refine q_ok_atS (q_G_refl (m := []) hT.1.1) (q_trI mm rm) rfl (fun _ _ => ?_)
      refine q_ok_b (s_X12_add_45 hn hT.1.1 mm rm) (fun r15 T2 hT2 => ?_)
      have f1 := hT.2.1
      have f2 := hT.2.2
      obtain ⟨f3, f4⟩ := q_smE hT2.2.2
      have f5 := hR rw_ mw rww
      have f6 : q_I T m 2 = q_I S m 2 := q_unI hT.1 mm rm (by decide)
      have f7 : q_I T2 rw_ 1 = q_I T rw_ 1 := q_unI hT2.1 mw rww (by decide)
      rw [f6] at f3 f4
      generalize xs (l4 + (3 : Int32)).toNatClampNeg = pn at *
      have fr : r8.toInt = r15.toInt := by omega
      have fs : (q_I T2 rw_ 1).toInt = (q_I T2 m 2).toInt := by rw [f7]; omega
      rw [if_pos (Int32.toInt_inj.mp fr)]
      unfold m_L_law_576
      exact ih T2 (l4 + 4) hT2.1.1 (fun a ma ra => by rw [q_one (q_G_refl (m := []) hT2.1.1) ma ra mw rww rfl]; exact fs) h40 h4m
    refine q_ok_ite (fun _ => ?_) (fun gc1 => ?_)
    · refine q_ok_atS (q_G_refl (m := []) hI) (q_trI mx rx) rfl (fun _ _ => ?_)
      refine q_ok_b (s_X11_read_0 hn hI mx rx) (fun _ T hT => ?_)
      replace hR := q_rel2U hT.1 mm rm (by decide) (by decide) hR
      replace hI := hT.1.1
      refine q_ok_atS (q_G_refl (m := []) hI) (q_trI mm rm) rfl (fun _ _ => ?_)
      refine q_ok_b (s_X12_read_45 hn hI mm rm) (fun _ T2 hT2 => ?_)
      replace hR := q_rel2U hT2.1 mm rm (by decide) (by decide) hR
      replace hI := hT2.1.1
      unfold m_L_law_576
      exact ih T2 (l4 + 4) hI hR h40 h4m
    refine q_ok_ite (fun _ => ?_) (fun gc2 => ?_)
    · refine q_ok_if hi1 ?_
      refine q_ok_if hi2 ?_
      refine q_ok_b (x_octet hn hI mx rx mo ro) (fun _ T hT => ?_)
      replace hR := q_rel2I hT.2 hR
      replace hI := hT.1
      refine q_ok_if hi1 ?_
      refine q_ok_if hi2 ?_
      refine q_ok_atS (q_G_refl (m := []) hI) (q_trI mm rm) rfl (fun _ _ => ?_)
      refine q_ok_b (s_X12_octet_45 hn hI mm rm) (fun _ T2 hT2 => ?_)
      replace hR := q_rel2U hT2.1 mm rm (by decide) (by decide) hR
      replace hI := hT2.1.1
      unfold m_L_law_576
      exact ih T2 (l4 + 4) hI hR h40 h4m
    refine q_ok_ite (fun _ => ?_) (fun gc3 => ?_)
    · refine q_ok_if hi1 ?_
      refine q_ok_atS (q_G_refl (m := []) hI) (q_trI mx rx) rfl (fun _ _ => ?_)
      refine q_ok_b (s_X11_sum_0 hn hI mx rx) (fun _ T hT => ?_)
      have eT := hT.1
      replace hR := (show q_rel2 ρ L9 m T from by rw [eT]; exact hR)
      replace hI := (show q_Inv ρ L9 T from by rw [eT]; exact hI)
      refine q_ok_if hi1 ?_
      refine q_ok_atS (q_G_refl (m := []) hI) (q_trI mm rm) rfl (fun _ _ => ?_)
      refine q_ok_b (s_X12_sum_45 hn hI mm rm) (fun _ T2 hT2 => ?_)
      replace hR := q_rel2U hT2.1 mm rm (by decide) (by decide) hR
      replace hI := hT2.1.1
      unfold m_L_law_576
      exact ih T2 (l4 + 4) hI hR h40 h4m
    refine q_ok_ite (fun _ => ?_) (fun gc4 => ?_)
    · refine q_ok_if hi1 ?_
      refine q_ok_atS (q_G_refl (m := []) hI) (q_trI mx rx) rfl (fun _ _ => ?_)
      refine q_ok_b (s_X11_count_0 hn hI mx rx) (fun _ T hT => ?_)
      have eT := hT.1
      replace hR := (show q_rel2 ρ L9 m T from by rw [eT]; exact hR)
      replace hI := (show q_Inv ρ L9 T from by rw [eT]; exact hI)
      refine q_ok_if hi1 ?_
      refine q_ok_atS (q_G_refl (m := []) hI) (q_trI mm rm) rfl (fun _ _ => ?_)
      refine q_ok_b (s_X12_count_45 hn hI mm rm) (fun _ T2 hT2 => ?_)
      replace hR := q_rel2U hT2 mm rm (by decide) (by decide) hR
      replace hI := hT2.1
      unfold m_L_law_576
      exact ih T2 (l4 + 4) hI hR h40 h4m
    refine q_ok_ite (fun _ => ?_) (fun gc5 => ?_)
    · refine q_ok_if hi1 ?_
      refine q_ok_atS (q_G_refl (m := []) hI) (q_trI mx rx) rfl (fun _ _ => ?_)
      refine q_ok_b (s_X11_map_0 hn hI mx rx) (fun _ T hT => ?_)
      replace hR := q_rel2U hT.1 mm rm (by decide) (by decide) hR
      replace hI := hT.1.1
      refine q_ok_if hi1 ?_
      refine q_ok_atS (q_G_refl (m := []) hI) (q_trI mm rm) rfl (fun _ _ => ?_)
      refine q_ok_b (s_X12_map_45 hn hI mm rm) (fun _ T2 hT2 => ?_)
      replace hR := q_rel2U hT2.1 mm rm (by decide) (by decide) hR
      replace hI := hT2.1.1
      unfold m_L_law_576
      exact ih T2 (l4 + 4) hI hR h40 h4m
    refine q_ok_ite (fun _ => ?_) (fun gc6 => ?_)
    · refine q_ok_if hi1 ?_
      refine q_ok_atS (q_G_refl (m := []) hI) (q_trI mx rx) rfl (fun _ _ => ?_)
      refine q_ok_b (s_X11_run_0 hn hI mx rx) (fun _ T hT => ?_)
      replace hR := q_rel2U hT.1 mm rm (by decide) (by decide) hR
      replace hI := hT.1.1
      refine q_ok_if hi1 ?_
      refine q_ok_atS (q_G_refl (m := []) hI) (q_trI mm rm) rfl (fun _ _ => ?_)
      refine q_ok_b (s_X12_run_45 hn hI mm rm) (fun _ T2 hT2 => ?_)
      replace hR := q_rel2U hT2.1 mm rm (by decide) (by decide) hR
      replace hI := hT2.1.1
      unfold m_L_law_576
      exact ih T2 (l4 + 4) hI hR h40 h4m
    refine q_ok_ite (fun _ => ?_) (fun gc7 => ?_)
    · refine q_ok_if hi1 ?_
      refine q_ok_if hi2 ?_
      refine q_ok_b (x_piece hn hI mx rx mo ro) (fun _ T hT => ?_)
      replace hR := q_rel2I hT.2 hR
      replace hI := hT.1
      refine q_ok_if hi1 ?_
      refine q_ok_if hi2 ?_
      refine q_ok_atS (q_G_refl (m := []) hI) (q_trI mm rm) rfl (fun _ _ => ?_)
      refine q_ok_b (s_X12_piece__45 hn hI mm rm) (fun _ T2 hT2 => ?_)
      replace hR := q_rel2U hT2 mm rm (by decide) (by decide) hR
      replace hI := hT2.1
      unfold m_L_law_576
      exact ih T2 (l4 + 4) hI hR h40 h4m
    refine q_ok_ite (fun _ => ?_) (fun gc8 => ?_)
    · refine q_ok_if hi1 ?_
      refine q_ok_if hi2 ?_
      refine q_ok_b (x_told hn hI mx rx mo ro) (fun _ T hT => ?_)
      replace hR := q_rel2I hT.2 hR
      replace hI := hT.1
      refine q_ok_if hi1 ?_
      refine q_ok_if hi2 ?_
      refine q_ok_atS (q_G_refl (m := []) hI) (q_trI mm rm) rfl (fun _ _ => ?_)
      refine q_ok_b (s_X12_told_45 hn hI mm rm) (fun _ T2 hT2 => ?_)
      replace hR := q_rel2U hT2.1 mm rm (by decide) (by decide) hR
      replace hI := hT2.1.1
      unfold m_L_law_576
      exact ih T2 (l4 + 4) hI hR h40 h4m
    refine q_ok_ite (fun _ => ?_) (fun gc9 => ?_)
    · refine q_ok_if hi1 ?_
      refine q_ok_atS (q_G_refl (m := []) hI) (q_trI mx rx) rfl (fun _ _ => ?_)
      refine q_ok_b (s_X11_width_0 hn hI mx rx) (fun _ T hT => ?_)
      have eT := hT.1
      replace hR := (show q_rel2 ρ L9 m T from by rw [eT]; exact hR)
      replace hI := (show q_Inv ρ L9 T from by rw [eT]; exact hI)
      refine q_ok_if hi1 ?_
      refine q_ok_atS (q_G_refl (m := []) hI) (q_trI mm rm) rfl (fun _ _ => ?_)
      refine q_ok_b (s_X12_width_45 hn hI mm rm) (fun _ T2 hT2 => ?_)
      replace hR := q_rel2U hT2.1 mm rm (by decide) (by decide) hR
      replace hI := hT2.1.1
      unfold m_L_law_576
      exact ih T2 (l4 + 4) hI hR h40 h4m
    refine q_ok_ite (fun _ => ?_) (fun gc10 => ?_)
    · refine q_ok_if hi1 ?_
      refine q_ok_if hi2 ?_
      refine q_ok_atS (q_G_refl (m := []) hI) (q_trI mx rx) rfl (fun _ _ => ?_)
      refine q_ok_b (s_X11_kern_0 hn hI mx rx) (fun _ T hT => ?_)
      have eT := hT.1
      replace hR := (show q_rel2 ρ L9 m T from by rw [eT]; exact hR)
      replace hI := (show q_Inv ρ L9 T from by rw [eT]; exact hI)
      refine q_ok_if hi1 ?_
      refine q_ok_if hi2 ?_
      refine q_ok_atS (q_G_refl (m := []) hI) (q_trI mm rm) rfl (fun _ _ => ?_)
      refine q_ok_b (s_X12_kern_45 hn hI mm rm) (fun _ T2 hT2 => ?_)
      replace hR := q_rel2U hT2.1 mm rm (by decide) (by decide) hR
      replace hI := hT2.1.1
      unfold m_L_law_576
      exact ih T2 (l4 + 4) hI hR h40 h4m
    refine q_ok_ite (fun _ => ?_) (fun gc11 => ?_)
    · refine q_ok_if hi1 ?_
      refine q_ok_if hi2 ?_
      refine q_ok_atS (q_G_refl (m := []) hI) (q_trI mx rx) rfl (fun _ _ => ?_)
      refine q_ok_b (s_X11_scaled_0 hn hI mx rx) (fun _ T hT => ?_)
      have eT := hT
      replace hR := (show q_rel2 ρ L9 m T from by rw [eT]; exact hR)
      replace hI := (show q_Inv ρ L9 T from by rw [eT]; exact hI)
      refine q_ok_if hi1 ?_
      refine q_ok_if hi2 ?_
      refine q_ok_atS (q_G_refl (m := []) hI) (q_trI mm rm) rfl (fun _ _ => ?_)
      refine q_ok_b (s_X12_scaled_45 hn hI mm rm) (fun _ T2 hT2 => ?_)
      replace hR := q_rel2U hT2 mm rm (by decide) (by decide) hR
      replace hI := hT2.1
      unfold m_L_law_576
      exact ih T2 (l4 + 4) hI hR h40 h4m
    refine q_ok_ite (fun _ => ?_) (fun gc12 => ?_)
    · refine q_ok_if hi1 ?_
      refine q_ok_atS (q_G_refl (m := []) hI) (q_trI mx rx) rfl (fun _ _ => ?_)
      refine q_ok_b (s_X11_cut_0 hn hI mx rx) (fun _ T hT => ?_)
      replace hR := q_rel2U hT.1 mm rm (by decide) (by decide) hR
      replace hI := hT.1.1
      refine q_ok_if hi1 ?_
      refine q_ok_atS (q_G_refl (m := []) hI) (q_trI mm rm) rfl (fun _ _ => ?_)
      refine q_ok_b (s_X12_cut_45 hn hI mm rm) (fun _ T2 hT2 => ?_)
      replace hR := q_rel2U hT2 mm rm (by decide) (by decide) hR
      replace hI := hT2.1
      unfold m_L_law_576
      exact ih T2 (l4 + 4) hI hR h40 h4m
    refine q_ok_ite (fun _ => ?_) (fun gc13 => ?_)
    · refine q_ok_atS (q_G_refl (m := []) hI) (q_trI mx rx) rfl (fun _ _ => ?_)
      refine q_ok_b (s_X11_write_0 hn hI mx rx) (fun _ T hT => ?_)
      replace hR := q_rel2U hT.1 mm rm (by decide) (by decide) hR
      replace hI := hT.1.1
      refine q_ok_atS (q_G_refl (m := []) hI) (q_trI mm rm) rfl (fun _ _ => ?_)
      refine q_ok_b (s_X12_write_45 hn hI mm rm) (fun _ T2 hT2 => ?_)
      replace hR := q_rel2U hT2.1 mm rm (by decide) (by decide) hR
      replace hI := hT2.1.1
      unfold m_L_law_576
      exact ih T2 (l4 + 4) hI hR h40 h4m
    refine q_ok_ite (fun _ => ?_) (fun gc14 => ?_)
    · refine q_ok_if hi1 ?_
      refine q_ok_atS (q_G_refl (m := []) hI) (q_trI mx rx) rfl (fun _ _ => ?_)
      refine q_ok_b (s_X11_at_0 hn hI mx rx) (fun _ T hT => ?_)
      have eT := hT.1
      replace hR := (show q_rel2 ρ L9 m T from by rw [eT]; exact hR)
      replace hI := (show q_Inv ρ L9 T from by rw [eT]; exact hI)
      refine q_ok_if hi1 ?_
      refine q_ok_atS (q_G_refl (m := []) hI) (q_trI mm rm) rfl (fun _ _ => ?_)
      refine q_ok_b (s_X12_at_45 hn hI mm rm) (fun _ T2 hT2 => ?_)
      replace hR := q_rel2U hT2.1 mm rm (by decide) (by decide) hR
      replace hI := hT2.1.1
      unfold m_L_law_576
      exact ih T2 (l4 + 4) hI hR h40 h4m
    have a0 : v.toInt ≠ 0 := fun e => gc0 (Int32.toInt_inj.mp (by rw [e]; rfl))
    have a1 : v.toInt ≠ 1 := fun e => gc1 (Int32.toInt_inj.mp (by rw [e]; rfl))
    have a2 : v.toInt ≠ 2 := fun e => gc2 (Int32.toInt_inj.mp (by rw [e]; rfl))
    have a3 : v.toInt ≠ 3 := fun e => gc3 (Int32.toInt_inj.mp (by rw [e]; rfl))
    have a4 : v.toInt ≠ 4 := fun e => gc4 (Int32.toInt_inj.mp (by rw [e]; rfl))
    have a5 : v.toInt ≠ 5 := fun e => gc5 (Int32.toInt_inj.mp (by rw [e]; rfl))
    have a6 : v.toInt ≠ 6 := fun e => gc6 (Int32.toInt_inj.mp (by rw [e]; rfl))
    have a7 : v.toInt ≠ 7 := fun e => gc7 (Int32.toInt_inj.mp (by rw [e]; rfl))
    have a8 : v.toInt ≠ 8 := fun e => gc8 (Int32.toInt_inj.mp (by rw [e]; rfl))
    have a9 : v.toInt ≠ 9 := fun e => gc9 (Int32.toInt_inj.mp (by rw [e]; rfl))
    have a10 : v.toInt ≠ 10 := fun e => gc10 (Int32.toInt_inj.mp (by rw [e]; rfl))
    have a11 : v.toInt ≠ 11 := fun e => gc11 (Int32.toInt_inj.mp (by rw [e]; rfl))
    have a12 : v.toInt ≠ 12 := fun e => gc12 (Int32.toInt_inj.mp (by rw [e]; rfl))
    have a13 : v.toInt ≠ 13 := fun e => gc13 (Int32.toInt_inj.mp (by rw [e]; rfl))
    have a14 : v.toInt ≠ 14 := fun e => gc14 (Int32.toInt_inj.mp (by rw [e]; rfl))
    refine q_ok_if (Or.inr (by omega)) ?_
    unfold m_L_law_576
    exact ih S (l4 + 4) hI hR h40 h4m
theorem p_law (L : Nat) (hL : L ≤ 2048) (xs : Nat → Int32) : ∃ n, i_L_law n L xs := by
  refine ⟨18446744073709551616, p_init (Q := fun S x m o => ∃ Sv, m_L_law_23 18446744073709551616 L xs 520 S (some x) (some m) (some o) 0 = some (1, Sv)) (fun S as x m o hD h0 h1 h2 => ?_)⟩
  have hI := q_Inv_of hD
  have hG : q_G (q_rho as) as [] S S := q_G_refl hI
  have mx : x ∈ as := List.mem_of_getElem? h0
  have mm : m ∈ as := List.mem_of_getElem? h1
  have mo : o ∈ as := List.mem_of_getElem? h2
  have rx : q_rho as x = 0 := (q_D_rho hD h0).trans (by decide +kernel)
  have rm : q_rho as m = 45 := (q_D_rho hD h1).trans (by decide +kernel)
  have ro : q_rho as o = 74 := (q_D_rho hD h2).trans (by decide +kernel)
  obtain ⟨rw_, ew, mw, rww⟩ := g_0_R0 hG mx rx
  have h00 : ∀ a, a ∈ as → ∀ k, q_I S a k = 0 := fun a ma k => by
    obtain ⟨i, hil, e⟩ := List.getElem_of_mem ma
    exact (hD.2.2.2 i a (by rw [List.getElem?_eq_getElem hil, e])).2.2.1 k
  obtain ⟨r, T, e, hr⟩ := p_go (xs := xs) (n := 18446744073709551616) (Nat.le_refl _) hL mx rx mm rm mo ro mw rww 520 S 0 hI (fun a ma _ => by rw [h00 a ma, h00 m mm]) ⟨by decide, by decide⟩ (by decide)
  exact ⟨T, by rw [e, hr]⟩
