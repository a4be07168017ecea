/-! VALUES: read(), both sides -/
/-- how many rows the file wants read -/
def v_nt (f : Nat → Int32) : Nat := min 24 (256 * (f 4).toInt + (f 5).toInt).toNat
/-- what read() answers, and how many TABLES there are then -/
def v_rd (f : Nat → Int32) (s r k : Int) : Prop := (s < 12 → r = -1 ∧ k = 0) ∧ (12 ≤ s → ∃ q, v_q f s (v_nt f) q ∧ (q = v_nt f → r = v_nt f ∧ k = v_nt f) ∧ (q < v_nt f → r = -1 - (q : Int) ∧ k = 0))
theorem v_rduq {f : Nat → Int32} {s r k r2 k2 : Int} (h : v_rd f s r k) (h2 : v_rd f s r2 k2) : r = r2 ∧ k = k2 := by
  rcases Int.lt_or_le s 12 with e | e
  · have a := h.1 e
    have b := h2.1 e
    omega
  · obtain ⟨q, a1, a2, a3⟩ := h.2 e
    obtain ⟨q2, b1, b2, b3⟩ := h2.2 e
    have eq := v_quq a1 b1
    subst eq
    rcases Nat.lt_or_ge q (v_nt f) with g | g
    · have := a3 g
      have := b3 g
      omega
    · have g2 : q = v_nt f := by have := a1.1; omega
      have := a2 g2
      have := b2 g2
      omega
theorem q_in9 {S : q_S} {a k b c : Nat} {x : Int32} (h : b ∈ q_L S ∧ q_K S b = c) : b ∈ q_L (q_sI S a k x) ∧ q_K (q_sI S a k x) b = c := h
theorem q_R9 {S : q_S} {a k b j : Nat} {x : Int32} {v : Option Nat} (h : q_R S b j = v) : q_R (q_sI S a k x) b j = v := h
theorem q_N9 {S : q_S} {a k b c : Nat} {x : Int32} (h : q_N S b = c) : q_N (q_sI S a k x) b = c := h
section QVR
variable {ρ : Nat → Nat} {L M9 : List Nat} {n : Nat} {S S0 T : q_S} {x wo ce tb en t ab m fF fT fS fB fL : Nat} {f : Nat → Int32} {s : Int}
theorem q_unRA {a k r : Nat} (g : q_G ρ L M9 S T) (ma : a ∈ L) (ra : ρ a = r) (hk : 100 ≤ q_kd r) (h : M9.contains (64 * r) = false) : q_R T a k = q_R S a k := q_unR g ma ra (by rw [q_arA hk]; exact h)
theorem v_en_un {u : Nat} (g : q_G ρ L M9 S T) (he : en ∈ L ∧ ρ en = 7) (hu : u < 24) (h0 : M9.contains 448 = false) (h1 : M9.contains 513 = false) (h2 : M9.contains 514 = false) (h3 : M9.contains 515 = false) (h4 : M9.contains 516 = false) (h : v_en f S en u) : v_en f T en u := by
  intro t2 e2
  obtain ⟨a9, ea, ma, ra⟩ := g_7_RE (q_G_refl (m := []) g.1) he.1 he.2 (k := u) hu
  cases Option.some.inj (e2.symm.trans ea)
  rw [q_unRA g he.1 he.2 (by decide) h0] at e2
  have h9 := h t2 e2
  rw [q_unJ (k := 1) g ma ra h1, q_unJ (k := 2) g ma ra h2, q_unI (k := 3) g ma ra h3, q_unI (k := 4) g ma ra h4]
  exact h9
theorem v_di_un (g : q_G ρ L M9 S T) (he : en ∈ L ∧ ρ en = 7) (h0 : M9.contains 448 = false) (h : v_di S en ab) : v_di T en ab := by
  have w : ∀ k, q_R T en k = q_R S en k := fun k => q_unRA g he.1 he.2 (by decide) h0
  refine ⟨fun i j hi hj e => h.1 i j hi hj (by rw [← w, ← w]; exact e), fun i hi e => h.2 i hi (by rw [← w]; exact e)⟩
theorem v_load (hn : 18446744073709551616 ≤ n) (hI : q_Inv ρ L S) (hw : wo ∈ L ∧ ρ wo = 1) (hc : ce ∈ L ∧ ρ ce = 2) (ht : tb ∈ L ∧ ρ tb = 6) (he : en ∈ L ∧ ρ en = 7) (hab : ab ∈ L ∧ ρ ab = 8) (hd : v_di S en ab) : q_ok (m_X8_load n S tb) (fun r T => q_G ρ L M_X8_load_6 S T ∧ q_I T ab = q_I S ab ∧ v_rd (q_I S ce) (q_I S wo 1).toInt r.toInt (q_I T tb 3).toInt ∧ ∀ u : Nat, (u : Int) < (q_I T tb 3).toInt → v_en (q_I S ce) T en u ∧ v_okr (q_I S ce) (q_I S wo 1).toInt u) := by
  have hG0 : q_G ρ L M_X8_load_6 S S := q_G_refl hI
  have hG := u_6_I3 (x := 0) hG0 ht.1 ht.2 (by decide) ⟨by decide, by decide⟩
  have hs := g_1_I1 hG0 hw.1 hw.2
  have nw : wo ≠ tb := fun e => by rw [e, ht.2] at hw; cases hw.2
  have nc : ce ≠ tb := fun e => by rw [e, ht.2] at hc; cases hc.2
  have na : ab ≠ tb := fun e => by rw [e, ht.2] at hab; cases hab.2
  have w : ∀ a, a ≠ tb → q_I (q_sI S tb 3 0) a = q_I S a := fun a h => by
    show q_u (q_I S) tb 3 0 a = _
    rw [q_u_ne _ _ _ h]
  have ht1 := k_t hG.1 ht
  have hw1 := k_w hG.1 hw
  have hr1 := v_t0 hG.1 ht hw
  have y12 : (12 : Int32).toInt = 12 := rfl
  have z4 : (4 : Int64).toInt = 4 := rfl
  have z12 : (12 : Int64).toInt = 12 := rfl
  have y24 : (24 : Int32).toInt = 24 := rfl
  unfold m_X8_load
  rw [q_at_pos (k_t hI ht), hr1, q_at_pos hw1, v_sz hG.1 hw, q_b_some, w _ nw]
  by_cases g : (12 : Int) ≤ (q_I S wo 1).toInt
  · rw [if_pos (i_le.mpr (by rw [y12]; exact g)), q_at_pos ht1, hr1, q_at_pos hw1]
    obtain ⟨r9, h9, a9, c9⟩ := v_rtwo (n := n) (p := 4) (e := 12) hG.1 hw hc (by decide)
    rw [z4, z12, w _ nw, w _ nc] at a9
    have v9 := a9 ⟨by decide, by decide, by omega⟩
    rw [h9, q_b_some]
    have hf : ∀ k, 0 ≤ (q_I S ce k).toInt ∧ (q_I S ce k).toInt ≤ 255 := fun k => g_2_E hG0 hc.1 hc.2
    have f4 := hf 4
    have f5 := hf 5
    have v9 : r9.toInt = 256 * (q_I S ce 4).toInt + (q_I S ce 5).toInt := v9
    obtain ⟨r2, T2, e2, eT, k1, k2, k3⟩ := s_J9_min_7cf53 n (q_sI S tb 3 0) r9 24
    subst eT
    rw [e2, q_b_some]
    rw [y24] at k1 k3
    have eN : r2.toInt = (v_nt (q_I S ce) : Int) := by unfold v_nt; omega
    obtain ⟨r, T, e, b1, b2, q, b3, b4, b5⟩ := v_ld (S0 := S) (f := q_I S ce) (s := (q_I S wo 1).toInt) hn hw hc ht he hab eN (by unfold v_nt; omega) (v_nt (q_I S ce)) n 0 (q_sI S tb 3 0) 0 hG hd (w _ nc) (by rw [w _ nw]) (w _ na) (by rw [q_hitI]; rfl) rfl (by omega) (fun u hu => by omega) (fun u hu => by omega) (by unfold v_nt; omega)
    refine ⟨r, T, e, b1, b2, ⟨fun h => by omega, fun _ => ⟨q, b3, fun h => ⟨(b4 h).1, (b4 h).2.1⟩, b5⟩⟩, fun u hu => ?_⟩
    rcases Nat.lt_or_ge q (v_nt (q_I S ce)) with h | h
    · have := (b5 h).2
      omega
    · have h2 : q = v_nt (q_I S ce) := by have := b3.1; omega
      have h3 := b4 h2
      exact ⟨h3.2.2 u (by omega), b3.2.1 u (by omega)⟩
  · rw [if_neg (fun h => g (by have := i_le.mp h; rw [y12] at this; exact this))]
    refine q_ok_some ⟨hG, w _ na, ⟨fun _ => ⟨rfl, by rw [q_hitI]; rfl⟩, fun h => absurd h g⟩, fun u hu => ?_⟩
    rw [q_hitI] at hu
    have : (0 : Int32).toInt = 0 := rfl
    omega
theorem v_readC (hn : 18446744073709551616 ≤ n) (hI : q_Inv ρ L S) (hx : x ∈ L ∧ ρ x = 0) (hw : wo ∈ L ∧ ρ wo = 1) (hc : ce ∈ L ∧ ρ ce = 2) (ht : tb ∈ L ∧ ρ tb = 6) (he : en ∈ L ∧ ρ en = 7) (hab : ab ∈ L ∧ ρ ab = 8) (hd : v_di S en ab) : q_ok (m_X11_read n S x) (fun r T => q_G ρ L M_X11_read_0 S T ∧ (q_I T ab 3 = q_I S ab 3 ∧ q_I T ab 4 = q_I S ab 4) ∧ v_rd (q_I S ce) (q_I S wo 1).toInt r.toInt (q_I T tb 3).toInt ∧ ∀ u : Nat, (u : Int) < (q_I T tb 3).toInt → v_en (q_I S ce) T en u ∧ v_okr (q_I S ce) (q_I S wo 1).toInt u) := by
  have hG0 : q_G ρ L M_X11_read_0 S S := q_G_refl hI
  unfold m_X11_read
  rw [q_at_pos (k_x hI hx)]
  refine q_ok_at hG0 (g_0_R1 hG0 hx.1 hx.2) rfl (fun tl mtl rtl etl => ?_)
  refine q_ok_b (s_X9_clear_3 hn hI mtl rtl) (fun _ T1 g1 => ?_)
  have hG1 := q_G_call hG0 g1 (by decide)
  rw [q_at_pos (k_x g1.1 hx), v_x2 g1.1 hx ht, q_at_pos (k_t g1.1 ht)]
  have ec : q_I T1 ce = q_I S ce := funext fun k => q_unIA g1 hc.1 hc.2 (by decide) (by decide)
  have ew : q_I T1 wo 1 = q_I S wo 1 := q_unI g1 hw.1 hw.2 (by decide)
  refine q_ok_b (v_load hn g1.1 hw hc ht he hab (v_di_un g1 he (by decide) hd)) (fun r2 T2 hT2 => ?_)
  obtain ⟨g2, ea, k1, k2⟩ := hT2
  rw [ec, ew] at k1 k2
  have hG2 := q_G_call hG1 g2 (by decide)
  rw [q_at_pos (k_x g2.1 hx), v_x2 g2.1 hx ht, q_at_pos (k_t g2.1 ht)]
  refine q_ok_b (s_X8_tellWrongSums_6_3 hn g2.1 ht.1 ht.2 (g_0_R1 hG2 hx.1 hx.2)) (fun _ T3 g3 => ?_)
  have hG3 := q_G_call hG2 g3 (by decide)
  rw [q_at_pos (k_x g3.1 hx)]
  refine q_ok_at hG3 (g_0_R3 hG3 hx.1 hx.2) rfl (fun sg msg rsg esg => ?_)
  refine q_ok_b (s_X6_load_9 hn g3.1 msg rsg) (fun _ T4 g4 => ?_)
  have hG4 := q_G_call hG3 g4 (by decide)
  rw [q_at_pos (k_x g4.1 hx)]
  refine q_ok_at hG4 (g_0_R5 hG4 hx.1 hx.2) rfl (fun sh msh rsh esh => ?_)
  refine q_ok_b (s_X5_survey_14 hn g4.1 msh rsh) (fun _ T5 g5 => ?_)
  have hG5 := q_G_call hG4 g5 (by decide)
  have e3 : q_I T5 tb 3 = q_I T2 tb 3 := by rw [q_unI g5 ht.1 ht.2 (by decide), q_unI g4 ht.1 ht.2 (by decide), q_unI g3 ht.1 ht.2 (by decide)]
  have a3 : q_I T5 ab 3 = q_I S ab 3 := by rw [q_unI g5 hab.1 hab.2 (by decide), q_unI g4 hab.1 hab.2 (by decide), q_unI g3 hab.1 hab.2 (by decide), ea, q_unI g1 hab.1 hab.2 (by decide)]
  have a4 : q_I T5 ab 4 = q_I S ab 4 := by rw [q_unI g5 hab.1 hab.2 (by decide), q_unI g4 hab.1 hab.2 (by decide), q_unI g3 hab.1 hab.2 (by decide), ea, q_unI g1 hab.1 hab.2 (by decide)]
  have hs := g_6_I3 hG2 ht.1 ht.2
  refine q_ok_some ⟨hG5, ⟨a3, a4⟩, by rw [e3]; exact k1, fun u hu => ?_⟩
  rw [e3] at hu
  obtain ⟨k3, k4⟩ := k2 u hu
  have hu2 : u < 24 := by omega
  exact ⟨v_en_un g5 he hu2 (by decide) (by decide) (by decide) (by decide) (by decide) (v_en_un g4 he hu2 (by decide) (by decide) (by decide) (by decide) (by decide) (v_en_un g3 he hu2 (by decide) (by decide) (by decide) (by decide) (by decide) k3)), k4⟩
/-! the reference -/
def v_me (f : Nat → Int32) (S : q_S) (fT fS fB fL u : Nat) : Prop := (q_J S fT u).toInt = v_fo f (12 + 16 * (u : Int)) ∧ (q_J S fS u).toInt = v_fo f (12 + 16 * (u : Int) + 4) ∧ (q_I S fB u).toInt = v_fo f (12 + 16 * (u : Int) + 8) ∧ (q_I S fL u).toInt = v_fo f (12 + 16 * (u : Int) + 12)
theorem v_me_un {u : Nat} (g : q_G ρ L M9 S T) (hT : fT ∈ L ∧ ρ fT = 47) (hS : fS ∈ L ∧ ρ fS = 48) (hB : fB ∈ L ∧ ρ fB = 49) (hL : fL ∈ L ∧ ρ fL = 50) (h1 : M9.contains 3008 = false) (h2 : M9.contains 3072 = false) (h3 : M9.contains 3136 = false) (h4 : M9.contains 3200 = false) (h : v_me f S fT fS fB fL u) : v_me f T fT fS fB fL u := by
  unfold v_me at *
  rw [q_unJA g hT.1 hT.2 (by decide) h1, q_unJA g hS.1 hS.2 (by decide) h2, q_unIA g hB.1 hB.2 (by decide) h3, q_unIA g hL.1 hL.2 (by decide) h4]
  exact h
theorem v_r191 (hn : 18446744073709551616 ≤ n) (hm : m ∈ L ∧ ρ m = 45) (hS : fS ∈ L ∧ ρ fS = 48) {l1 : Int32} (h1 : l1.toInt ≤ 24) : ∀ (j k : Nat) (S : q_S) (l2 : Int32), q_G ρ L M_X12_tell_45 S0 S → 0 ≤ l2.toInt → l1.toInt - l2.toInt ≤ j → j < k → q_ok (m_X12_read_191 n k S (some m) l1 l2) (fun r T => r = l1 ∧ q_G ρ L M_X12_tell_45 S0 T) := by
  intro j
  induction j with
  | zero =>
    intro k S l2 hG h2 h3 hk
    obtain ⟨k, rfl⟩ : ∃ k', k = k' + 1 := ⟨k - 1, by omega⟩
    rw [m_X12_read_191, if_pos (i_le.mpr (by omega))]
    exact q_ok_some ⟨rfl, hG⟩
  | succ j ih =>
    intro k S l2 hG h2 h3 hk
    obtain ⟨k, rfl⟩ : ∃ k', k = k' + 1 := ⟨k - 1, by omega⟩
    rw [m_X12_read_191]
    refine q_ok_ite (fun _ => q_ok_some ⟨rfl, hG⟩) (fun g => ?_)
    have g2 := mt i_le.mpr g
    have z1 : (1 : Int32).toInt = 1 := rfl
    have e1 : (l2 + 1).toInt = l2.toInt + 1 := by rw [q_addI (by rw [z1]; omega) (by rw [z1]; omega), z1]
    rw [q_at_pos (k_m hG.1 hm)]
    refine q_ok_b (s_X12_sumOf_45 hn hG.1 hm.1 hm.2 ⟨h2, by omega⟩) (fun r3 S4 h4 => ?_)
    obtain ⟨eS, -⟩ := h4
    subst eS
    rw [q_at_pos (k_m hG.1 hm), v_m5 hG.1 hm hS, q_at_pos (k_S hG.1 hS), q_if_pos (q_inI (g_48_N hG hS.1 hS.2) h2 (by omega))]
    refine q_ok_ite (fun _ => ?_) (fun _ => ?_)
    · unfold m_X12_read_217
      exact ih k _ (l2 + 1) hG (by omega) (by omega) (by omega)
    · refine q_ok_b (s_X12_tell_45 hn hG.1 hm.1 hm.2 ⟨by decide, by decide⟩ ⟨h2, by omega⟩) (fun _ S10 g10 => ?_)
      unfold m_X12_read_217
      exact ih k _ (l2 + 1) (q_G_call hG g10 (by decide)) (by omega) (by omega) (by omega)
theorem v_foM (hG : q_G ρ L M9 S0 S) (hF : fF ∈ L ∧ ρ fF = 46) {p : Int32} (h1 : 0 ≤ p.toInt) (h2 : p.toInt ≤ 1596) : (q_fo (q_I S fF) p).toInt = v_fo (q_I S fF) p.toInt := by
  have z1 : (1 : Int32).toInt = 1 := rfl
  have z2 : (2 : Int32).toInt = 2 := rfl
  have z3 : (3 : Int32).toInt = 3 := rfl
  have e1 : (p + (1 : Int32)).toInt = p.toInt + 1 := by rw [q_addI (by rw [z1]; omega) (by rw [z1]; omega), z1]
  have e2 : (p + (2 : Int32)).toInt = p.toInt + 2 := by rw [q_addI (by rw [z2]; omega) (by rw [z2]; omega), z2]
  have e3 : (p + (3 : Int32)).toInt = p.toInt + 3 := by rw [q_addI (by rw [z3]; omega) (by rw [z3]; omega), z3]
  unfold q_fo v_fo
  rw [v_cl (i := p) rfl, v_cl e1, v_cl e2, v_cl e3]
  exact v_fourM (g_46_E hG hF.1 hF.2) (g_46_E hG hF.1 hF.2) (g_46_E hG hF.1 hF.2) (g_46_E hG hF.1 hF.2)
theorem v_r70 (hn : 18446744073709551616 ≤ n) (hm : m ∈ L ∧ ρ m = 45) (hF : fF ∈ L ∧ ρ fF = 46) (hT : fT ∈ L ∧ ρ fT = 47) (hS : fS ∈ L ∧ ρ fS = 48) (hB : fB ∈ L ∧ ρ fB = 49) (hL : fL ∈ L ∧ ρ fL = 50) {l1 : Int32} {N : Nat} (h1 : l1.toInt = N) (hN : N ≤ 24) : ∀ (j k i : Nat) (S : q_S) (l2 : Int32), q_G ρ L M_X12_read_45 S0 S → q_I S fF = f → (q_I S m 2).toInt = s → (q_I S m 3).toInt = 0 → l2.toInt = i → i + j = N → (∀ u : Nat, u < i → v_okr f s u) → (∀ u, u < i → v_me f S fT fS fB fL u) → j < k →
    q_ok (m_X12_read_70 n k S (some m) l1 l2) (fun r T => q_G ρ L M_X12_read_45 S0 T ∧ ∃ q, v_q f s N q ∧ (q = N → r.toInt = N ∧ (q_I T m 3).toInt = N ∧ ∀ u, u < N → v_me f T fT fS fB fL u) ∧ (q < N → r.toInt = -1 - (q : Int) ∧ (q_I T m 3).toInt = 0)) := by
  intro j
  induction j with
  | zero =>
    intro k i S l2 hG hf hs h3 e2 ej hok hen hk
    obtain ⟨k, rfl⟩ : ∃ k', k = k' + 1 := ⟨k - 1, by omega⟩
    rw [m_X12_read_70, if_pos (i_le.mpr (by omega)), q_at_pos (k_m hG.1 hm)]
    have ei : i = N := by omega
    subst ei
    have hG2 := u_45_I3 (x := l1) hG hm.1 hm.2 (by decide) ⟨by omega, by omega⟩
    have z0 : (0 : Int32).toInt = 0 := rfl
    obtain ⟨r, T, e, er, g⟩ := v_r191 (S0 := q_sI S m 3 l1) hn hm hS (l1 := l1) (by omega) i n (q_sI S m 3 l1) 0 (q_G_refl hG2.1) (by decide) (by rw [z0]; omega) (by omega)
    subst er
    refine ⟨_, T, e, q_G_call hG2 g (by decide), i, ⟨Nat.le_refl _, hok, fun h => by omega⟩, fun _ => ⟨h1, by rw [q_unI g hm.1 hm.2 (by decide), q_hitI]; exact h1, fun u hu => v_me_un g hT hS hB hL (by decide) (by decide) (by decide) (by decide) ?_⟩, fun h => by omega⟩
    have h9 := hen u hu
    unfold v_me at *
    rw [q_skJI, q_skJI, q_fwI hB.2 hm.2 (by decide), q_fwI hL.2 hm.2 (by decide)]
    exact h9
  | succ j ih =>
    intro k i S l2 hG hf hs h3 e2 ej hok hen hk
    obtain ⟨k, rfl⟩ : ∃ k', k = k' + 1 := ⟨k - 1, by omega⟩
    have z0 : (0 : Int32).toInt = 0 := rfl
    have z1 : (1 : Int32).toInt = 1 := rfl
    have y4 : (4 : Int32).toInt = 4 := rfl
    have y8 : (8 : Int32).toInt = 8 := rfl
    have y12 : (12 : Int32).toInt = 12 := rfl
    have y16 : (16 : Int32).toInt = 16 := rfl
    have k1 : 0 ≤ l2.toInt := by omega
    have k2 : l2.toInt ≤ 23 := by omega
    have hsz := g_45_I2 hG hm.1 hm.2
    have P := q_rdP k1 k2
    generalize hp : (12 : Int32) + ((16 : Int32) * l2) = p at P
    have P4 : (p + (4 : Int32)).toInt = p.toInt + 4 := by rw [q_addI (by rw [y4]; omega) (by rw [y4]; omega), y4]
    have P8 : (p + (8 : Int32)).toInt = p.toInt + 8 := by rw [q_addI (by rw [y8]; omega) (by rw [y8]; omega), y8]
    have P12 : (p + (12 : Int32)).toInt = p.toInt + 12 := by rw [q_addI (by rw [y12]; omega) (by rw [y12]; omega), y12]
    have P16 : (p + (16 : Int32)).toInt = p.toInt + 16 := by rw [q_addI (by rw [y16]; omega) (by rw [y16]; omega), y16]
    have fo : ∀ (T : q_S) (q : Int32), q_Inv ρ L T → q_I T fF = f → 0 ≤ q.toInt → q.toInt ≤ 1596 → m_X12_fourAt n T m q = some (q_fo f q, T) := fun T q hI ef a1 a2 => by
      rw [← ef]
      exact q_fourAt_eq (k_m hI hm) (v_m1 hI hm hF) (k_F hI hF) (g_46_N (q_G_refl (m := []) hI) hF.1 hF.2) a1 a2
    have fv : ∀ q : Int32, 0 ≤ q.toInt → q.toInt ≤ 1596 → (q_fo f q).toInt = v_fo f q.toInt := fun q a1 a2 => by
      rw [← hf]; exact v_foM hG hF a1 a2
    have hb := v_fo_b (f := f) (fun k => by rw [← hf]; exact g_46_E hG hF.1 hF.2)
    rw [m_X12_read_70, hp, if_neg (fun h => by have := i_le.mp h; omega), q_at_pos (k_m hG.1 hm)]
    have ei : (i : Int) = l2.toInt := by omega
    by_cases g3 : (q_I S m 2).toInt < p.toInt + 16
    · rw [if_pos (i_lt.mpr (by rw [P16]; exact g3))]
      unfold m_X12_read_120
      have zm : (-1 : Int32).toInt = -1 := rfl
      exact q_ok_some ⟨hG, i, ⟨by omega, hok, fun _ h => by have := h.1; omega⟩, fun h => by omega, fun _ => ⟨by rw [q_subI (by rw [zm]; omega) (by rw [zm]; omega), zm, e2], h3⟩⟩
    rw [if_neg (fun h => g3 (by have := i_lt.mp h; rw [P16] at this; exact this))]
    have F0 := fv p (by omega) (by omega)
    have F4 := fv (p + 4) (by omega) (by omega)
    have F8 := fv (p + 8) (by omega) (by omega)
    have F12 := fv (p + 12) (by omega) (by omega)
    rw [P4] at F4
    rw [P8] at F8
    rw [P12] at F12
    have B0 := hb p.toInt
    have B4 := hb (p.toInt + 4)
    have B8 := hb (p.toInt + 8)
    have B12 := hb (p.toInt + 12)
    rw [fo S _ hG.1 hf (by omega) (by omega), q_b_some, q_at_pos (k_m hG.1 hm), fo S _ hG.1 hf (by omega) (by omega), q_b_some, q_at_pos (k_m hG.1 hm)]
    have eo : v_okr f s i ↔ v_fo f (p.toInt + 8) + v_fo f (p.toInt + 12) ≤ s := by
      unfold v_okr
      rw [ei, ← P]
      exact ⟨fun h => h.2, fun h => ⟨by omega, h⟩⟩
    have ev : (q_fo f (p + 8) + q_fo f (p + 12)).toInt = v_fo f (p.toInt + 8) + v_fo f (p.toInt + 12) := by rw [q_addJ (by omega) (by omega), F8, F12]
    by_cases g4 : v_fo f (p.toInt + 8) + v_fo f (p.toInt + 12) ≤ s
    · rw [if_pos (c_le.mpr (by rw [ev, q_wil, hs]; exact g4))]
      have v8 : (q_fo f (p + 8)).toInt32.toInt = (q_fo f (p + 8)).toInt := q_wli (by omega) (by omega)
      have v12 : (q_fo f (p + 12)).toInt32.toInt = (q_fo f (p + 12)).toInt := q_wli (by omega) (by omega)
      rw [F8] at v8
      rw [F12] at v12
      have hG1 := u_47_E (k := (l2).toNatClampNeg) (x := q_fo f p) hG hT.1 hT.2 (by decide) (by rw [F0]; exact B0)
      have hG2 := u_48_E (k := (l2).toNatClampNeg) (x := q_fo f (p + 4)) hG1 hS.1 hS.2 (by decide) (by rw [F4]; exact B4)
      have hN7 := q_inI (g_50_N hG2 hL.1 hL.2) k1 (by omega)
      have s6 := g_49_E hG2 hB.1 hB.2 (k := (l2).toNatClampNeg)
      have nBL : fB ≠ fL := fun e => by rw [e, hL.2] at hB; cases hB.2
      have hA := u_50_E (k := (l2).toNatClampNeg) (x := 0) hG2 hL.1 hL.2 (by decide) ⟨by decide, by decide⟩ (q_E1_len hG2 hL.1 hL.2 hB.1 hB.2 (by rw [z0]; omega))
      have hBB := u_49_E (k := (l2).toNatClampNeg) (x := (q_fo f (p + 8)).toInt32) hA hB.1 hB.2 (by decide) ⟨by omega, by omega⟩ (q_E1_st hA hB.1 hB.2 hL.1 hL.2 (by rw [q_hitI, z0]; omega))
      have hC := u_50_E (k := (l2).toNatClampNeg) (x := (q_fo f (p + 12)).toInt32) hBB hL.1 hL.2 (by decide) ⟨by omega, by omega⟩ (q_E1_len hBB hL.1 hL.2 hB.1 hB.2 (by rw [q_hitI]; omega))
      rw [q_sI3 nBL] at hC
      have km2 := k_m hG2.1 hm
      have kL2 := k_L hG2.1 hL
      have kF2 := k_F hG2.1 hF
      have vm1 := v_m1 hG2.1 hm hF
      have vm7 := v_m7 hG2.1 hm hL
      have kN2 := g_46_N hG2 hF.1 hF.2
      have fo3 : m_X12_fourAt n (q_sI (q_sJ (q_sJ S fT (l2).toNatClampNeg (q_fo f p)) fS (l2).toNatClampNeg (q_fo f (p + 4))) fB (l2).toNatClampNeg ((q_fo f (p + 8)).toInt32)) m (p + 12) = some (q_fo f (p + 12), (q_sI (q_sJ (q_sJ S fT (l2).toNatClampNeg (q_fo f p)) fS (l2).toNatClampNeg (q_fo f (p + 4))) fB (l2).toNatClampNeg ((q_fo f (p + 8)).toInt32))) := by
        have ef : q_I (q_sI (q_sJ (q_sJ S fT (l2).toNatClampNeg (q_fo f p)) fS (l2).toNatClampNeg (q_fo f (p + 4))) fB (l2).toNatClampNeg ((q_fo f (p + 8)).toInt32)) fF = f := by rw [← hf]; exact funext fun k => q_fwI hF.2 hB.2 (by decide)
        have h9 := q_fourAt_eq (n := n) (S := q_sI (q_sJ (q_sJ S fT (l2).toNatClampNeg (q_fo f p)) fS (l2).toNatClampNeg (q_fo f (p + 4))) fB (l2).toNatClampNeg ((q_fo f (p + 8)).toInt32)) (o := m) (b := fF) (p0 := p + 12) (q_in9 km2) (q_R9 vm1) (q_in9 kF2) (q_N9 kN2) (by omega) (by omega)
        rw [ef] at h9
        exact h9
      rw [fo S _ hG.1 hf (by omega) (by omega), q_b_some, v_m4 hG.1 hm hT, q_at_pos (k_T hG.1 hT), q_if_pos (q_inI (g_47_N hG hT.1 hT.2) k1 (by omega)), q_at_pos (k_m hG1.1 hm), fo _ _ hG1.1 hf (by omega) (by omega), q_b_some, v_m5 hG1.1 hm hS, q_at_pos (k_S hG1.1 hS), q_if_pos (q_inI (g_48_N hG1 hS.1 hS.2) k1 (by omega)), q_at_pos (k_m hG2.1 hm), fo _ _ hG2.1 hf (by omega) (by omega), q_b_some, v_m6 hG2.1 hm hB, q_at_pos (k_B hG2.1 hB), q_if_pos (q_inI (g_49_N hG2 hB.1 hB.2) k1 (by omega)), q_at_pos (q_in9 km2), fo3, q_b_some, q_R9 vm7, q_at_pos (q_in9 kL2), q_if_pos (q_inI (q_N9 (g_50_N hG2 hL.1 hL.2)) k1 (by omega))]
      have ho := eo.mpr g4
      have ec : (l2).toNatClampNeg = i := by rw [v_cl e2]; rfl
      have nmB : m ≠ fB := fun e => by rw [e, hB.2] at hm; cases hm.2
      have nmL : m ≠ fL := fun e => by rw [e, hL.2] at hm; cases hm.2
      refine ih k (i + 1) _ (l2 + 1) hC ?_ ?_ ?_ (by rw [q_addI (by rw [z1]; omega) (by rw [z1]; omega), z1, e2]; rfl) (by omega) (fun u hu => ?_) (fun u hu => ?_) (by omega)
      · rw [← hf]; exact funext fun k => (q_fwI hF.2 hL.2 (by decide)).trans (q_fwI hF.2 hB.2 (by decide))
      · rw [q_fwI hm.2 hL.2 (by decide), q_fwI hm.2 hB.2 (by decide)]; exact hs
      · rw [q_fwI hm.2 hL.2 (by decide), q_fwI hm.2 hB.2 (by decide)]; exact h3
      · by_cases e : u = i
        · rw [e]; exact ho
        · exact hok u (by omega)
      · unfold v_me
        rw [ec]
        by_cases e : u = i
        · subst e
          rw [q_skJI, q_skJI, q_skJI, q_skJI, q_fwJ hT.2 hS.2 (by decide), q_hitJ, q_hitJ, q_fwI hB.2 hL.2 (by decide), q_hitI, q_hitI, v8, v12, F0, F4, ei, P]
          exact ⟨rfl, rfl, rfl, rfl⟩
        · have h9 := hen u (by omega)
          unfold v_me at h9
          rw [q_skJI, q_skJI, q_skJI, q_skJI, q_ffJ e, q_ffJ e, q_ffJ e, q_ffJ e, q_ffI e, q_ffI e, q_ffI e, q_ffI e]
          exact h9
    · rw [if_neg (fun h => g4 (by have := c_le.mp h; rw [ev, q_wil, hs] at this; exact this))]
      unfold m_X12_read_120
      have zm : (-1 : Int32).toInt = -1 := rfl
      exact q_ok_some ⟨hG, i, ⟨by omega, hok, fun _ h => g4 (eo.mp h)⟩, fun h => by omega, fun _ => ⟨by rw [q_subI (by rw [zm]; omega) (by rw [zm]; omega), zm, e2], h3⟩⟩
theorem v_readM (hn : 18446744073709551616 ≤ n) (hI : q_Inv ρ L S) (hm : m ∈ L ∧ ρ m = 45) (hF : fF ∈ L ∧ ρ fF = 46) (hT : fT ∈ L ∧ ρ fT = 47) (hS : fS ∈ L ∧ ρ fS = 48) (hB : fB ∈ L ∧ ρ fB = 49) (hL : fL ∈ L ∧ ρ fL = 50) : q_ok (m_X12_read n S m) (fun r T => q_G ρ L M_X12_read_45 S T ∧ v_rd (q_I S fF) (q_I S m 2).toInt r.toInt (q_I T m 3).toInt ∧ ∀ u : Nat, (u : Int) < (q_I T m 3).toInt → v_me (q_I S fF) T fT fS fB fL u ∧ v_okr (q_I S fF) (q_I S m 2).toInt u) := by
  have hG0 : q_G ρ L M_X12_read_45 S S := q_G_refl hI
  have z0 : (0 : Int32).toInt = 0 := rfl
  have z1 : (1 : Int32).toInt = 1 := rfl
  have y12 : (12 : Int32).toInt = 12 := rfl
  have y24 : (24 : Int32).toInt = 24 := rfl
  have hf : ∀ k, 0 ≤ (q_I S fF k).toInt ∧ (q_I S fF k).toInt ≤ 255 := fun k => g_46_E hG0 hF.1 hF.2
  have hsz := g_45_I2 hG0 hm.1 hm.2
  unfold m_X12_read
  rw [q_at_pos (k_m hI hm)]
  have hG1 := u_45_I0 (x := 0) hG0 hm.1 hm.2 (by decide) ⟨by decide, by decide⟩
  refine q_ok_b (s_X12_forgetRun_45 hn hG1.1 hm.1 hm.2) (fun _ T2 hT2 => ?_)
  obtain ⟨g2, -⟩ := hT2
  have hG2 := q_G_call hG1 g2 (by decide)
  rw [q_at_pos (k_m hG2.1 hm)]
  have hG3 := u_45_I3 (x := 0) hG2 hm.1 hm.2 (by decide) ⟨by decide, by decide⟩
  have eF : q_I (q_sI T2 m 3 0) fF = q_I S fF := funext fun k => by rw [q_fwI hF.2 hm.2 (by decide), q_unIA g2 hF.1 hF.2 (by decide) (by decide), q_fwI hF.2 hm.2 (by decide)]
  have eM : q_I (q_sI T2 m 3 0) m 2 = q_I S m 2 := by rw [q_ffI (by decide), q_unI g2 hm.1 hm.2 (by decide), q_ffI (by decide)]
  have e3 : (q_I (q_sI T2 m 3 0) m 3).toInt = 0 := by rw [q_hitI]; rfl
  have fin70 : ∀ (U : q_S) (r : Int32), q_G ρ L M_X12_read_45 S U → q_I U fF = q_I S fF → q_I U m 2 = q_I S m 2 → (q_I U m 3).toInt = 0 → 12 ≤ (q_I S m 2).toInt → r.toInt = (v_nt (q_I S fF) : Int) → q_ok (m_X12_read_70 n n U (some m) r 0) (fun r T => q_G ρ L M_X12_read_45 S T ∧ v_rd (q_I S fF) (q_I S m 2).toInt r.toInt (q_I T m 3).toInt ∧ ∀ u : Nat, (u : Int) < (q_I T m 3).toInt → v_me (q_I S fF) T fT fS fB fL u ∧ v_okr (q_I S fF) (q_I S m 2).toInt u) := by
    intro U r hU a1 a2 a3 a4 a5
    obtain ⟨r2, T, e, b1, q, b3, b4, b5⟩ := v_r70 (S0 := S) (f := q_I S fF) (s := (q_I S m 2).toInt) hn hm hF hT hS hB hL a5 (by unfold v_nt; omega) (v_nt (q_I S fF)) n 0 U 0 hU a1 (by rw [a2]) a3 rfl (by omega) (fun u hu => by omega) (fun u hu => by omega) (by unfold v_nt; omega)
    refine ⟨r2, T, e, b1, ⟨fun h => by omega, fun _ => ⟨q, b3, fun h => ⟨(b4 h).1, (b4 h).2.1⟩, b5⟩⟩, fun u hu => ?_⟩
    rcases Nat.lt_or_ge q (v_nt (q_I S fF)) with h | h
    · have := (b5 h).2
      omega
    · have h2 : q = v_nt (q_I S fF) := by have := b3.1; omega
      have h3 := b4 h2
      exact ⟨h3.2.2 u (by omega), b3.2.1 u (by omega)⟩
  have fin : ∀ (k : Nat) (U : q_S) (l1 : Int32), q_G ρ L M_X12_read_45 S U → q_I U fF = q_I S fF → q_I U m 2 = q_I S m 2 → (q_I U m 3).toInt = 0 → 0 ≤ l1.toInt → l1.toInt ≤ 200 → 200 - l1.toInt < k → q_ok (m_X12_read_16 n k U (some m) l1) (fun r T => q_G ρ L M_X12_read_45 S T ∧ v_rd (q_I S fF) (q_I S m 2).toInt r.toInt (q_I T m 3).toInt ∧ ∀ u : Nat, (u : Int) < (q_I T m 3).toInt → v_me (q_I S fF) T fT fS fB fL u ∧ v_okr (q_I S fF) (q_I S m 2).toInt u) := by
    intro k
    induction k with
    | zero =>
      intro U l1 hU a1 a2 a3 a4 a6 a5
      exfalso
      omega
    | succ k ih =>
      intro U l1 hU a1 a2 a3 a4 a6 a5
      have y200 : (200 : Int32).toInt = 200 := rfl
      rw [m_X12_read_16]
      refine q_ok_ite (fun g => ?_) (fun g => ?_)
      · rw [q_at_pos (k_m hU.1 hm), a2]
        by_cases g2 : (12 : Int) ≤ (q_I S m 2).toInt
        · rw [if_pos (i_le.mpr (by rw [y12]; exact g2))]
          obtain ⟨r, T, e, eT, -, hv⟩ := s_X12_twoAt_45 hn hU.1 hm.1 hm.2 (p0 := 4) ⟨by decide, by decide⟩
          subst eT
          have hv := q_smE hv
          rw [q_fEe (v_m1 hU.1 hm hF), q_fEe (v_m1 hU.1 hm hF), a1] at hv
          have hv : r.toInt = 256 * (q_I S fF 4).toInt + (q_I S fF 5).toInt := hv
          have f4 := hf 4
          have f5 := hf 5
          refine q_ok_bE e ?_
          by_cases g3 : r.toInt ≤ 24
          · rw [if_pos (i_le.mpr (by rw [y24]; exact g3)), q_at_pos (k_m hU.1 hm)]
            refine q_ok_bE e ?_
            unfold m_X12_read_67
            exact fin70 _ r hU a1 a2 a3 g2 (by unfold v_nt; omega)
          · rw [if_neg (fun h => g3 (by have := i_le.mp h; rw [y24] at this; exact this))]
            unfold m_X12_read_67
            exact fin70 _ 24 hU a1 a2 a3 g2 (by unfold v_nt; rw [y24]; omega)
        · rw [if_neg (fun h => g2 (by have := i_le.mp h; rw [y12] at this; exact this))]
          refine q_ok_some ⟨hU, ⟨fun _ => ⟨rfl, a3⟩, fun h => absurd h g2⟩, fun u hu => by omega⟩
      · have g2 := mt i_le.mpr g
        rw [y200] at g2
        rw [q_at_pos (k_m hU.1 hm)]
        refine q_ok_at hU (g_45_R9 hU hm.1 hm.2) rfl (fun us mu ru eu => ?_)
        refine q_ok_if (q_inI (g_51_N hU mu ru) a4 (by omega)) ?_
        have e1 : (l1 + 1).toInt = l1.toInt + 1 := by rw [q_addI (by rw [z1]; omega) (by rw [z1]; omega), z1]
        have hU2 := u_51_E (k := (l1).toNatClampNeg) (x := vp_nar .boolean 0) hU mu ru (by decide) ⟨by decide, by decide⟩
        exact ih _ (l1 + 1) hU2 (by rw [← a1]; exact funext fun k => q_fwI hF.2 ru (by decide)) (by rw [q_fwI hm.2 ru (by decide)]; exact a2) (by rw [q_fwI hm.2 ru (by decide)]; exact a3) (by omega) (by omega) (by omega)
  exact fin n _ 0 hG3 eF eM e3 (by decide) (by decide) (by rw [z0]; omega)
end QVR
