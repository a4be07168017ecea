/-! VALUES: PARTS of a SIGN and marks, both sides (role 10 isUsed, 11 inOrder; 51 used) -/
/-- the SIGNS of the PARTS from a place on -/
def p_go (F : Int → Int) (lim : Int) : Nat → Int → List Int
  | 0, _ => []
  | j + 1, p => if p + 2 ≤ lim ∧ p + d_len (Int32.ofInt (F p)) ≤ lim then F (p + 2) :: (if (Int32.ofInt (F p)) &&& (32 : Int32) = 0 then [] else p_go F lim j (p + d_len (Int32.ofInt (F p)))) else []
def p_F (S : q_S) (m fF fB fL : Nat) (k p : Int) : Int := z_tw S m fF fB fL (q_fd S m 1735162214).toInt (z_pl S m fF fB fL k + p)
def p_lim (S : q_S) (m fF fB fL : Nat) (k : Int) : Int := min (z_pl S m fF fB fL (k + 1)) (v_len S m fL (q_fd S m 1735162214).toInt) - z_pl S m fF fB fL k
def p_is (S : q_S) (m fF fB fL : Nat) (k : Int) : Prop := (0 ≤ z_pl S m fF fB fL k ∧ 0 ≤ z_pl S m fF fB fL (k + 1)) ∧ z_pl S m fF fB fL k ≠ z_pl S m fF fB fL (k + 1) ∧ 2 ≤ p_lim S m fF fB fL k ∧ v_sgn (p_F S m fF fB fL k 0) < 0
/-- h is a PART of k -/
def p_of (S : q_S) (m fF fB fL : Nat) (k h : Int) : Prop := p_is S m fF fB fL k ∧ h ∈ p_go (p_F S m fF fB fL k) (p_lim S m fF fB fL k) 300 10
theorem p_go_nil {F : Int → Int} {lim p : Int} (h : lim < p + 2) : ∀ j, p_go F lim j p = []
  | 0 => rfl
  | j + 1 => by rw [p_go, if_neg (fun h2 => by omega)]
theorem q_cu_lt {f : Nat → Int32} {k : Nat} (h : f k = 0) : ∀ i, k < i → q_cu f i < i
  | 0, h2 => by omega
  | i + 1, h2 => by
    rw [q_cu]
    by_cases e : k = i
    · subst e; rw [if_pos h]; have := q_cu_le f k; omega
    · have := q_cu_lt h i (by omega)
      split <;> omega
theorem q_cu_set {f g : Nat → Int32} {k : Nat} (hg : ∀ i, i ≠ k → g i = f i) (hk : g k ≠ 0) (h0 : f k = 0) : ∀ i, q_cu g i = q_cu f i + if k < i then 1 else 0
  | 0 => by rw [if_neg (by omega)]; rfl
  | i + 1 => by
    rw [q_cu, q_cu, q_cu_set hg hk h0 i]
    by_cases e : i = k
    · subst e
      rw [if_neg hk, if_pos h0, if_neg (by omega), if_pos (by omega)]
    · rw [hg i e]
      by_cases h1 : k < i
      · rw [if_pos h1, if_pos (show k < i + 1 by omega)]; omega
      · rw [if_neg h1, if_neg (show ¬ k < i + 1 by omega)]; omega
section QMK
variable {ρ : Nat → Nat} {L M9 : List Nat} {n : Nat} {S T : q_S} {x wo ce tb en ab m fF fT fS fB fL sg dt tl tg uC oC us : Nat} {N : Int}
/-- the one side's list of used SIGNS -/
def u_c (S : q_S) (sg uC oC : Nat) (N : Int) : Prop := (∀ k : Nat, k < 200 → q_I S uC k ≠ 0 → (k : Int) < N) ∧ (q_I S sg 4).toInt = (q_cu (q_I S uC) 200 : Int) ∧ (∀ i : Nat, (i : Int) < (q_I S sg 4).toInt → q_I S uC (q_I S oC i).toInt.toNat ≠ 0) ∧ ∀ k : Nat, k < 200 → q_I S uC k ≠ 0 → ∃ i : Nat, (i : Int) < (q_I S sg 4).toInt ∧ (q_I S oC i).toInt = k
theorem c_mark (hI : q_Inv ρ L S) (hs : sg ∈ L ∧ ρ sg = 9) (hu : uC ∈ L ∧ ρ uC = 10) (ho : oC ∈ L ∧ ρ oC = 11) (hN : (q_I S sg 5).toInt = N) (hN2 : N ≤ 200) (hU : u_c S sg uC oC N) {h : Int32} : ∃ T, m_X6_mark n S sg h = some ((), T) ∧ q_G ρ L [580, 640, 704] S T ∧ u_c T sg uC oC N ∧ (∀ k : Nat, k < 200 → (q_I T uC k ≠ 0 ↔ q_I S uC k ≠ 0 ∨ (h.toInt = k ∧ (k : Int) < N))) ∧ (q_I S sg 4).toInt ≤ (q_I T sg 4).toInt ∧ ∀ i : Nat, (i : Int) < (q_I S sg 4).toInt → q_I T oC i = q_I S oC i := by
  have hG : q_G ρ L [580, 640, 704] S S := q_G_refl hI
  have l2 : ∀ U, q_Inv ρ L U → q_R U sg 2 = some uC := fun U hU => v_ln hU (g_9_R2 (q_G_refl (m := []) hU) hs.1 hs.2) hu rfl
  have l3 : ∀ U, q_Inv ρ L U → q_R U sg 3 = some oC := fun U hU => v_ln hU (g_9_R3 (q_G_refl (m := []) hU) hs.1 hs.2) ho rfl
  have b4 := g_9_I4 hG hs.1 hs.2
  have y200 : (200 : Int32).toInt = 200 := rfl
  have y1 : (1 : Int32).toInt = 1 := rfl
  obtain ⟨u1, u2, u3, u4⟩ := hU
  have same : (∀ k : Nat, k < 200 → h.toInt = k → (k : Int) < N → q_I S uC k ≠ 0) → m_X6_mark n S sg h = some ((), S) → ∃ T, m_X6_mark n S sg h = some ((), T) ∧ q_G ρ L [580, 640, 704] S T ∧ u_c T sg uC oC N ∧ (∀ k : Nat, k < 200 → (q_I T uC k ≠ 0 ↔ q_I S uC k ≠ 0 ∨ (h.toInt = k ∧ (k : Int) < N))) ∧ (q_I S sg 4).toInt ≤ (q_I T sg 4).toInt ∧ ∀ i : Nat, (i : Int) < (q_I S sg 4).toInt → q_I T oC i = q_I S oC i := fun hk e => ⟨S, e, hG, ⟨u1, u2, u3, u4⟩, fun k k2 => ⟨Or.inl, fun h9 => h9.elim id (fun h8 => hk k k2 h8.1 h8.2)⟩, Int.le_refl _, fun _ _ => rfl⟩
  unfold m_X6_mark m_X6_mark_54
  rw [q_at_pos (k_s hI hs), v_hasS hI hs hN, q_b_some]
  unfold m_X6_mark m_X6_mark_54 at same
  rw [q_at_pos (k_s hI hs), v_hasS hI hs hN, q_b_some] at same
  by_cases g : 0 ≤ h.toInt ∧ h.toInt < N
  · rw [if_pos g, if_neg (by decide), q_at_pos (k_s hI hs), l2 _ hI, q_at_pos (v_at (c := 102) hI hu rfl), q_if_pos (q_inI (g_10_N hG hu.1 hu.2) (by omega) (by omega)), v_cl (i := h) rfl] at same ⊢
    by_cases g0 : q_I S uC h.toInt.toNat = 0
    · have hlt := q_cu_lt g0 200 (by omega)
      rw [if_pos g0, if_neg (fun h9 => by have := i_le.mp h9; rw [y200] at this; omega), q_if_pos (q_inI (g_10_N hG hu.1 hu.2) (by omega) (by omega))]
      have G1 := u_10_E (k := h.toInt.toNat) (x := vp_nar .boolean 1) hG hu.1 hu.2 (by decide) ⟨by decide, by decide⟩
      have e4 : q_I (q_sI S uC h.toInt.toNat (vp_nar .boolean 1)) sg 4 = q_I S sg 4 := q_fwI hs.2 hu.2 (by decide)
      have G2 := u_11_E (k := (q_I S sg 4).toNatClampNeg) (x := h) G1 ho.1 ho.2 (by decide) ⟨by omega, by omega⟩
      have e42 : q_I (q_sI (q_sI S uC h.toInt.toNat (vp_nar .boolean 1)) oC (q_I S sg 4).toNatClampNeg h) sg 4 = q_I S sg 4 := by rw [q_fwI hs.2 ho.2 (by decide), e4]
      have ea : ((q_I S sg 4) + (1 : Int32)).toInt = (q_I S sg 4).toInt + 1 := by rw [q_addI (by rw [y1]; omega) (by rw [y1]; omega), y1]
      have G3 := u_9_I4 (x := (q_I S sg 4) + (1 : Int32)) G2 hs.1 hs.2 (by decide) ⟨by omega, by omega⟩
      rw [l3 _ G1.1, q_at_pos (v_at (c := 100) G1.1 ho rfl), e4, q_if_pos (q_inI (g_11_N G1 ho.1 ho.2) (by omega) (by omega)), q_let_eq, e42]
      generalize hT : q_sI (q_sI (q_sI S uC h.toInt.toNat (vp_nar .boolean 1)) oC (q_I S sg 4).toNatClampNeg h) sg 4 ((q_I S sg 4) + (1 : Int32)) = T at G3
      have tu : ∀ k, q_I T uC k = if k = h.toInt.toNat then vp_nar .boolean 1 else q_I S uC k := fun k => by
        rw [← hT, q_fwI hu.2 hs.2 (by decide), q_fwI hu.2 ho.2 (by decide)]
        by_cases e : k = h.toInt.toNat
        · rw [if_pos e, e, q_hitI]
        · rw [if_neg e, q_ffI e]
      have t4 : (q_I T sg 4).toInt = (q_I S sg 4).toInt + 1 := by rw [← hT, q_hitI, ea]
      have to : ∀ k : Nat, q_I T oC k = if (k : Int) = (q_I S sg 4).toInt then h else q_I S oC k := fun k => by
        rw [← hT, q_fwI ho.2 hs.2 (by decide), v_cl (i := q_I S sg 4) rfl]
        by_cases e : (k : Int) = (q_I S sg 4).toInt
        · have e2 : k = (q_I S sg 4).toInt.toNat := by omega
          rw [if_pos e, e2, q_hitI]
        · have e2 : k ≠ (q_I S sg 4).toInt.toNat := by omega
          rw [if_neg e, q_ffI e2, q_fwI ho.2 hu.2 (by decide)]
      have hne : (vp_nar .boolean (1 : Int32)) ≠ 0 := by decide
      have iffU : ∀ k : Nat, k < 200 → (q_I T uC k ≠ 0 ↔ q_I S uC k ≠ 0 ∨ (h.toInt = k ∧ (k : Int) < N)) := fun k k2 => by
        rw [tu]
        by_cases e : k = h.toInt.toNat
        · rw [if_pos e]
          exact ⟨fun _ => Or.inr ⟨by omega, by omega⟩, fun _ => hne⟩
        · rw [if_neg e]
          exact ⟨Or.inl, fun h9 => h9.elim id (fun h8 => by omega)⟩
      refine ⟨T, rfl, G3, ⟨fun k k2 hk => ?_, ?_, fun i hi => ?_, fun k k2 hk => ?_⟩, iffU, by omega, fun i hi => by rw [to, if_neg (by omega)]⟩
      · rcases (iffU k k2).mp hk with h9 | h9
        · exact u1 k k2 h9
        · exact h9.2
      · have := q_cu_set (f := q_I S uC) (g := q_I T uC) (k := h.toInt.toNat) (fun i hi => by rw [tu, if_neg hi]) (by rw [tu, if_pos rfl]; exact hne) g0 200
        rw [if_pos (by omega)] at this
        rw [t4, u2, this]
        rfl
      · rw [to]
        by_cases e : (i : Int) = (q_I S sg 4).toInt
        · rw [if_pos e, tu, if_pos rfl]; exact hne
        · rw [if_neg e, tu]
          by_cases e2 : (q_I S oC i).toInt.toNat = h.toInt.toNat
          · rw [if_pos e2]; exact hne
          · rw [if_neg e2]; exact u3 i (by omega)
      · rcases (iffU k k2).mp hk with h9 | h9
        · obtain ⟨i, hi, hi2⟩ := u4 k k2 h9
          exact ⟨i, by omega, by rw [to, if_neg (by omega)]; exact hi2⟩
        · exact ⟨(q_I S sg 4).toInt.toNat, by omega, by rw [to, if_pos (by omega)]; exact h9.1⟩
    · rw [if_neg g0] at same ⊢
      refine same (fun k k2 hk hk2 => ?_) rfl
      have : k = h.toInt.toNat := by omega
      rw [this]; exact g0
  · rw [if_neg g, if_pos rfl] at same ⊢
    exact same (fun k k2 hk hk2 => absurd ⟨by omega, by omega⟩ g) rfl
theorem c_loop (hs : sg ∈ L ∧ ρ sg = 9) (hd : dt ∈ L ∧ ρ dt = 12) (hw : wo ∈ L ∧ ρ wo = 1) (hc : ce ∈ L ∧ ρ ce = 2) (hu : uC ∈ L ∧ ρ uC = 10) (ho : oC ∈ L ∧ ρ oC = 11) (hN2 : N ≤ 200) {f : Nat → Int32} {sz base lim : Int} {F : Int → Int} (hb : 0 ≤ base ∧ base ≤ 8589934592) (hlim : lim ≤ 1600) (hz : base + lim ≤ sz) (hF : ∀ p, 0 ≤ p → p + 2 ≤ lim → v_F f (base + p) = F p) (hFb : ∀ p, -1 ≤ F p ∧ F p ≤ 65535) : ∀ (j k : Nat) (S : q_S) (l3 : Int32) (p : Int), q_Inv ρ L S → u_c S sg uC oC N → (q_I S sg 5).toInt = N → q_I S ce = f → (q_I S wo 1).toInt = sz → (q_J S dt 3).toInt = base + p → (q_J S dt 4).toInt = base + lim → (q_I S dt 2 = 0 ∨ lim < p) → 0 ≤ l3.toInt → 10 + 6 * l3.toInt ≤ p → p ≤ 20000 → lim - p < 6 * j → j < k → ∃ T, m_X6_markPartsOf_34 n k S (some sg) 1 l3 = some ((), T) ∧ q_G ρ L M_X6_markPartsOf_9 S T ∧ u_c T sg uC oC N ∧ (∀ k : Nat, k < 200 → (q_I T uC k ≠ 0 ↔ q_I S uC k ≠ 0 ∨ ((k : Int) ∈ p_go F lim j p ∧ (k : Int) < N))) ∧ (q_I S sg 4).toInt ≤ (q_I T sg 4).toInt ∧ ∀ i : Nat, (i : Int) < (q_I S sg 4).toInt → q_I T oC i = q_I S oC i := by
  have y1600 : (1600 : Int32).toInt = 1600 := rfl
  have y1 : (1 : Int32).toInt = 1 := rfl
  have l1 : ∀ U, q_Inv ρ L U → q_R U sg 1 = some dt := fun U hU => v_ln hU (g_9_R1 (q_G_refl (m := []) hU) hs.1 hs.2) hd rfl
  intro j
  induction j with
  | zero =>
    intro k S l3 p hI hU hN ef ew e3 e4 hp h3 hp2 hp3 hj hk
    obtain ⟨k, rfl⟩ : ∃ k', k = k' + 1 := ⟨k - 1, by omega⟩
    have hG : q_G ρ L M_X6_markPartsOf_9 S S := q_G_refl hI
    rw [m_X6_markPartsOf_34]
    unfold m_X6_markPartsOf_80
    by_cases g1 : 1600 ≤ l3.toInt
    · rw [if_pos (i_le.mpr (by rw [y1600]; exact g1))]
      exact ⟨S, rfl, hG, hU, fun k _ => ⟨Or.inl, fun h => h.elim id (fun h2 => by cases h2.1)⟩, Int.le_refl _, fun _ _ => rfl⟩
    rw [if_neg (fun h => g1 (by have := i_le.mp h; rw [y1600] at this; exact this)), if_neg (by decide), q_at_pos (k_s hI hs), l1 _ hI, q_at_pos (k_d hI hd)]
    obtain ⟨r, T, e, g, hr01, hr, -, -⟩ := d_part (n := n) hI hd hw hc (by omega) (by omega) (by omega)
    have hl := d_len_b (q_I T dt 6)
    have hr0 : r = 0 := by
      rcases hr01 with h | h
      · exact h
      · have := (hr.mp h).2.1; omega
    rw [e, q_b_some, if_pos hr0]
    refine ⟨T, rfl, q_G_call hG g (by decide), ?_, fun k hk => ?_, ?_, fun i hi => ?_⟩
    · have a1 : q_I T uC = q_I S uC := funext fun k => q_unIA g hu.1 hu.2 (by decide) (by decide)
      have a2 : q_I T oC = q_I S oC := funext fun k => q_unIA g ho.1 ho.2 (by decide) (by decide)
      have a3 : q_I T sg 4 = q_I S sg 4 := q_unI g hs.1 hs.2 (by decide)
      unfold u_c at *
      rw [a1, a2, a3]; exact hU
    · rw [q_unIA g hu.1 hu.2 (by decide) (by decide)]
      exact ⟨Or.inl, fun h => h.elim id (fun h2 => by cases h2.1)⟩
    · rw [q_unI g hs.1 hs.2 (by decide)]; exact Int.le_refl _
    · exact q_unIA g ho.1 ho.2 (by decide) (by decide)
  | succ j ih =>
    intro k S l3 p hI hU hN ef ew e3 e4 hp h3 hp2 hp3 hj hk
    obtain ⟨k, rfl⟩ : ∃ k', k = k' + 1 := ⟨k - 1, by omega⟩
    have hG : q_G ρ L M_X6_markPartsOf_9 S S := q_G_refl hI
    rw [m_X6_markPartsOf_34]
    unfold m_X6_markPartsOf_80
    by_cases g1 : 1600 ≤ l3.toInt
    · rw [if_pos (i_le.mpr (by rw [y1600]; exact g1)), p_go_nil (by omega)]
      exact ⟨S, rfl, hG, hU, fun k _ => ⟨Or.inl, fun h => h.elim id (fun h2 => by cases h2.1)⟩, Int.le_refl _, fun _ _ => rfl⟩
    rw [if_neg (fun h => g1 (by have := i_le.mp h; rw [y1600] at this; exact this)), if_neg (by decide), q_at_pos (k_s hI hs), l1 _ hI, q_at_pos (k_d hI hd)]
    obtain ⟨r, T, e, g, hr01, hr, hr1, hrf⟩ := d_part (n := n) hI hd hw hc (by omega) (by omega) (by omega)
    have hl := d_len_b (q_I T dt 6)
    have GT := q_G_call hG g (by decide)
    have a1 : q_I T uC = q_I S uC := funext fun k => q_unIA g hu.1 hu.2 (by decide) (by decide)
    have a2 : q_I T oC = q_I S oC := funext fun k => q_unIA g ho.1 ho.2 (by decide) (by decide)
    have a3 : q_I T sg 4 = q_I S sg 4 := q_unI g hs.1 hs.2 (by decide)
    have a5 : q_I T sg 5 = q_I S sg 5 := q_unI g hs.1 hs.2 (by decide)
    have aU : u_c T sg uC oC N := by unfold u_c at *; rw [a1, a2, a3]; exact hU
    rw [e3, e4] at hr
    rw [e3, ef] at hr1
    rw [e3, e4, ef] at hrf
    -- the PART's flags
    have hfl : p + 2 ≤ lim → q_I T dt 6 = Int32.ofInt (F p) := fun h => by
      have h2 := hrf (by omega)
      rw [hF p (by omega) h] at h2
      rw [← h2, Int32.ofInt_toInt]
    rw [e, q_b_some, p_go]
    by_cases g2 : p + 2 ≤ lim ∧ p + d_len (Int32.ofInt (F p)) ≤ lim
    · have hfl := hfl g2.1
      rw [hfl] at hr hr1 hl
      have hp0 : q_I S dt 2 = 0 := by
        rcases hp with h | h
        · exact h
        · omega
      have hre : r = 1 := hr.mpr ⟨hp0, by omega, by omega⟩
      obtain ⟨q2, q3, q6, q7⟩ := hr1 hre
      rw [if_neg (by rw [hre]; decide), if_pos g2, q_at_pos (k_s g.1 hs), l1 _ g.1, q_at_pos (k_d g.1 hd)]
      have eh : (q_I T dt 7).toInt = F (p + 2) := by
        rw [q7, show base + p + 2 = base + (p + 2) by omega, hF (p + 2) (by omega) (by omega)]
      obtain ⟨T2, e2, m1, m2, m3, m4, m5⟩ := c_mark (n := n) (h := q_I T dt 7) g.1 hs hu ho (by rw [a5]; exact hN) hN2 aU
      rw [eh] at m3
      have G2 := q_G_call GT m1 (by decide)
      rw [e2, q_b_some, q_at_pos (k_s m1.1 hs), l1 _ m1.1, q_at_pos (k_d m1.1 hd)]
      have f6 : q_I T2 dt 6 = Int32.ofInt (F p) := by rw [q_unI m1 hd.1 hd.2 (by decide), hfl]
      have comb : ∀ (P : Nat → Prop), (∀ k : Nat, k < 200 → (q_I T2 uC k ≠ 0 ↔ q_I S uC k ≠ 0 ∨ (F (p + 2) = k ∧ (k : Int) < N))) := fun _ k k2 => by rw [m3 k k2, a1]
      by_cases g3 : (Int32.ofInt (F p)) &&& (32 : Int32) = 0
      · have eM : m_X1_hasMore n T2 dt = some (0, T2) := by
          unfold m_X1_hasMore m_X1_hasMore_15
          rw [q_at_pos (k_d m1.1 hd), f6, if_pos g3, q_if_pos (Or.inl rfl)]
        rw [eM, q_b_some, if_pos g3]
        obtain ⟨k, rfl⟩ : ∃ k', k = k' + 1 := ⟨k - 1, by omega⟩
        refine ⟨T2, ?_, G2, m2, fun k k2 => ?_, by rw [← a3]; exact m4, fun i hi => by rw [m5 i (by rw [a3]; exact hi), a2]⟩
        · rw [m_X6_markPartsOf_34]
          unfold m_X6_markPartsOf_80
          by_cases g4 : (1600 : Int32) ≤ l3 + 1
          · rw [if_pos g4]
          · rw [if_neg g4, if_pos rfl]
        · rw [comb (fun _ => True) k k2]
          constructor
          · rintro (h | h)
            · exact Or.inl h
            · exact Or.inr ⟨by rw [h.1]; exact List.mem_cons_self, h.2⟩
          · rintro (h | h)
            · exact Or.inl h
            · rcases List.mem_cons.mp h.1 with h5 | h5
              · exact Or.inr ⟨h5.symm, h.2⟩
              · cases h5
      · have eM : m_X1_hasMore n T2 dt = some (1, T2) := by
          unfold m_X1_hasMore m_X1_hasMore_15
          rw [q_at_pos (k_d m1.1 hd), f6, if_neg g3, q_if_pos (Or.inr rfl)]
        rw [eM, q_b_some, if_neg g3]
        have el : (l3 + 1).toInt = l3.toInt + 1 := by rw [q_addI (by rw [y1]; omega) (by rw [y1]; omega), y1]
        have x1 : q_I T2 ce = f := by rw [← ef]; exact funext fun k => by rw [q_unIA m1 hc.1 hc.2 (by decide) (by decide), q_unIA g hc.1 hc.2 (by decide) (by decide)]
        have x2 : (q_I T2 wo 1).toInt = sz := by rw [q_unI m1 hw.1 hw.2 (by decide), q_unI g hw.1 hw.2 (by decide)]; exact ew
        have x3 : (q_J T2 dt 3).toInt = base + (p + d_len (Int32.ofInt (F p))) := by rw [q_unJ m1 hd.1 hd.2 (by decide), q3]; omega
        have x4 : (q_J T2 dt 4).toInt = base + lim := by rw [q_unJ m1 hd.1 hd.2 (by decide), q_unJ g hd.1 hd.2 (by decide)]; exact e4
        have x5 : (q_I T2 sg 5).toInt = N := by rw [q_unI m1 hs.1 hs.2 (by decide), a5]; exact hN
        have x6 : q_I T2 dt 2 = 0 := by rw [q_unI m1 hd.1 hd.2 (by decide)]; exact q2
        obtain ⟨T9, e9, c1, c2, c3, c4, c5⟩ := ih k T2 (l3 + 1) (p + d_len (Int32.ofInt (F p))) m1.1 m2 x5 x1 x2 x3 x4 (Or.inl x6) (by omega) (by omega) (by omega) (by omega) (by omega)
        refine ⟨T9, e9, q_G_call G2 c1 (by decide), c2, fun k k2 => ?_, by rw [← a3]; exact Int.le_trans m4 c4, fun i hi => ?_⟩
        · rw [c3 k k2, comb (fun _ => True) k k2]
          constructor
          · rintro ((h | h) | h)
            · exact Or.inl h
            · exact Or.inr ⟨by rw [h.1]; exact List.mem_cons_self, h.2⟩
            · exact Or.inr ⟨List.mem_cons_of_mem _ h.1, h.2⟩
          · rintro (h | h)
            · exact Or.inl (Or.inl h)
            · rcases List.mem_cons.mp h.1 with h5 | h5
              · exact Or.inl (Or.inr ⟨h5.symm, h.2⟩)
              · exact Or.inr ⟨h5, h.2⟩
        · rw [c5 i (by rw [a3] at m4; omega), m5 i (by rw [a3]; exact hi), a2]
    · have hr0 : r = 0 := by
        rcases hr01 with h | h
        · exact h
        · obtain ⟨-, h5, h6⟩ := hr.mp h
          have h7 : p + 2 ≤ lim := by omega
          rw [hfl h7] at h6
          exact absurd ⟨h7, by omega⟩ g2
      rw [if_pos hr0, if_neg g2]
      refine ⟨T, rfl, GT, aU, fun k hk => ?_, ?_, fun i hi => ?_⟩
      · rw [a1]
        exact ⟨Or.inl, fun h => h.elim id (fun h2 => by cases h2.1)⟩
      · rw [a3]; exact Int.le_refl _
      · rw [a2]
end QMK
