/-! VALUES: the PARTS of a SIGN are marked, both sides -/
section QPT
variable {ρ : Nat → Nat} {L M9 : List Nat} {n : Nat} {S T : q_S} {x wo ce tb en ab m fF fT fS fB fL sg dt tl tg uC oC us cs pf : Nat} {N : Int}
theorem p_lim_b (hI : q_Inv ρ L S) (hm : m ∈ L ∧ ρ m = 45) (hL : fL ∈ L ∧ ρ fL = 50) {p : Int} : 0 ≤ v_len S m fL p ∧ v_len S m fL p ≤ 1600 := by
  unfold v_len
  have := g_50_E (q_G_refl (m := []) hI) hL.1 hL.2 (k := p.toNat)
  split <;> omega
theorem p_Fb (hI : q_Inv ρ L S) (hF : fF ∈ L ∧ ρ fF = 46) {k p : Int} : -1 ≤ p_F S m fF fB fL k p ∧ p_F S m fF fB fL k p ≤ 65535 := z_tw_b hI hF
theorem c_parts (hI : q_Inv ρ L S) (hA : v_Ad ρ L x wo ce tb en ab m fF fT fS fB fL) (hR : v_Rl wo ce tb en ab m fF fT fS fB fL S) (hs : sg ∈ L ∧ ρ sg = 9) (hd : dt ∈ L ∧ ρ dt = 12) (hu : uC ∈ L ∧ ρ uC = 10) (ho : oC ∈ L ∧ ρ oC = 11) (h7 : q_I S sg 7 = if z_tw S m fF fB fL (q_fd S m 1751474532).toInt 50 = 1 then 1 else 0) (h8 : q_R S sg 8 = some tl) (hl : v_is ρ L wo m fB fL S tl (q_fd S m 1819239265).toInt) (h9 : q_R S sg 9 = some tg) (hg : v_is ρ L wo m fB fL S tg (q_fd S m 1735162214).toInt) (hN : (q_I S sg 5).toInt = N) (hN2 : N ≤ 200) (hU : u_c S sg uC oC N) (hn : 18446744073709551616 ≤ n) {k : Int32} (hk : 0 ≤ k.toInt ∧ k.toInt ≤ 199) : ∃ T, m_X6_markPartsOf n S sg k = some ((), T) ∧ q_G ρ L M_X6_markPartsOf_9 S T ∧ u_c T sg uC oC N ∧ (∀ h : Nat, h < 200 → (q_I T uC h ≠ 0 ↔ q_I S uC h ≠ 0 ∨ (p_of S m fF fB fL k.toInt h ∧ (h : Int) < N))) ∧ (q_I S sg 4).toInt ≤ (q_I T sg 4).toInt ∧ ∀ i : Nat, (i : Int) < (q_I S sg 4).toInt → q_I T oC i = q_I S oC i := by
  have hw := hA.2.1
  have hc := hA.2.2.1
  have hm := hA.2.2.2.2.2.2.1
  have hF := hA.2.2.2.2.2.2.2.1
  have hLL := hA.2.2.2.2.2.2.2.2.2.2.2
  have hG : q_G ρ L M_X6_markPartsOf_9 S S := q_G_refl hI
  have y0 : (0 : Int32).toInt = 0 := rfl
  have l1 : ∀ U, q_Inv ρ L U → q_R U sg 1 = some dt := fun U hU => v_ln hU (g_9_R1 (q_G_refl (m := []) hU) hs.1 hs.2) hd rfl
  obtain ⟨T1, e1, g1, bad, ok⟩ := c_open (n := n) hI hA hR hs hd h7 h8 hl h9 hg hk
  have G1 := q_G_call hG g1 (by decide)
  have a1 : q_I T1 uC = q_I S uC := funext fun k => q_unIA g1 hu.1 hu.2 (by decide) (by decide)
  have a2 : q_I T1 oC = q_I S oC := funext fun k => q_unIA g1 ho.1 ho.2 (by decide) (by decide)
  have a3 : q_I T1 sg 4 = q_I S sg 4 := q_unI g1 hs.1 hs.2 (by decide)
  have aU : u_c T1 sg uC oC N := by unfold u_c at *; rw [a1, a2, a3]; exact hU
  have none : ¬ p_is S m fF fB fL k.toInt → m_X6_markPartsOf n S sg k = some ((), T1) → ∃ T, m_X6_markPartsOf n S sg k = some ((), T) ∧ q_G ρ L M_X6_markPartsOf_9 S T ∧ u_c T sg uC oC N ∧ (∀ h : Nat, h < 200 → (q_I T uC h ≠ 0 ↔ q_I S uC h ≠ 0 ∨ (p_of S m fF fB fL k.toInt h ∧ (h : Int) < N))) ∧ (q_I S sg 4).toInt ≤ (q_I T sg 4).toInt ∧ ∀ i : Nat, (i : Int) < (q_I S sg 4).toInt → q_I T oC i = q_I S oC i := fun hp e => ⟨T1, e, G1, aU, fun h _ => by rw [a1]; exact ⟨Or.inl, fun h2 => h2.elim id (fun h3 => absurd h3.1.1 hp)⟩, by rw [a3]; exact Int.le_refl _, fun i _ => by rw [a2]⟩
  have b2 := z_pl_b (m := m) (fB := fB) (fL := fL) (k := k.toInt) hI hF
  have b6 := z_pl_b (m := m) (fB := fB) (fL := fL) (k := k.toInt + 1) hI hF
  have bl := p_lim_b (p := (q_fd S m 1735162214).toInt) hI hm hLL
  have bs := g_8_I3 (q_G_refl (m := []) hI) hg.1.1 hg.1.2
  have dt01 := g_12_I1 (q_G_refl (m := []) g1.1) hd.1 hd.2
  have dtq := q_b01 dt01.1 dt01.2
  have eE : m_X1_isEmpty n T1 dt = some (q_I T1 dt 1, T1) := by
    unfold m_X1_isEmpty
    rw [q_at_pos (k_d g1.1 hd), q_if_pos dtq]
  unfold m_X6_markPartsOf m_X6_markPartsOf_29 at none ⊢
  rw [q_at_pos (k_s hI hs), l1 _ hI, e1, q_b_some, q_at_pos (k_s g1.1 hs), l1 _ g1.1, q_at_pos (k_d g1.1 hd), eE, q_b_some] at none ⊢
  by_cases hok : 0 ≤ z_pl S m fF fB fL k.toInt ∧ 0 ≤ z_pl S m fF fB fL (k.toInt + 1)
  · obtain ⟨o1, o2, o3, o4, o5, o6, o7⟩ := ok hok
    by_cases he : z_pl S m fF fB fL k.toInt = z_pl S m fF fB fL (k.toInt + 1)
    · have hne : ¬ q_I T1 dt 1 = 0 := fun h => (o1.mp h) he
      rw [if_neg hne] at none ⊢
      exact none (fun h => h.2.1 he) rfl
    have h10 : q_I T1 dt 1 = 0 := o1.mpr he
    rw [if_pos h10, q_at_pos (k_s g1.1 hs), l1 _ g1.1, q_at_pos (k_d g1.1 hd)] at none ⊢
    have vF : ∀ p : Int, 0 ≤ p → p + 2 ≤ p_lim S m fF fB fL k.toInt → v_F (q_I S ce) (v_st S m fB (q_fd S m 1735162214).toInt + z_pl S m fF fB fL k.toInt + p) = p_F S m fF fB fL k.toInt p := fun p p0 p2 => by
      unfold p_lim at p2
      have hsz : v_st S m fB (q_fd S m 1735162214).toInt + v_len S m fL (q_fd S m 1735162214).toInt ≤ (q_I S m 2).toInt := by rw [← hR.1, ← hg.2.1, ← hg.2.2.1]; exact hg.2.2.2
      have hst : 0 ≤ v_st S m fB (q_fd S m 1735162214).toInt := by rw [← hg.2.1]; exact bs.1
      unfold v_F p_F z_tw v_tw
      rw [if_pos ⟨by omega, by omega⟩, hR.2.1 _ (by omega), hR.2.1 _ (by omega), show v_st S m fB (q_fd S m 1735162214).toInt + z_pl S m fF fB fL k.toInt + p = v_st S m fB (q_fd S m 1735162214).toInt + (z_pl S m fF fB fL k.toInt + p) by omega]
    have elim : z_pl S m fF fB fL k.toInt + 2 ≤ min (z_pl S m fF fB fL (k.toInt + 1)) (v_len S m fL (q_fd S m 1735162214).toInt) ↔ 2 ≤ p_lim S m fF fB fL k.toInt := by unfold p_lim; omega
    by_cases hp : p_is S m fF fB fL k.toInt
    · have v5 := o6 (elim.mpr hp.2.2.1)
      have := vF 0 (Int.le_refl _) (by have := hp.2.2.1; omega)
      rw [Int.add_zero] at this
      rw [this] at v5
      have hneg : (q_I T1 dt 5).toInt < 0 := by rw [v5]; exact hp.2.2.2
      have eP : m_X1_hasParts n T1 dt = some (1, T1) := by
        unfold m_X1_hasParts m_X1_hasParts_12
        rw [q_at_pos (k_d g1.1 hd), if_neg (fun h => by have := i_le.mp h; rw [y0] at this; omega), q_if_pos (Or.inr rfl)]
      rw [eP, q_b_some, if_neg (by decide)]
      have hz2 := hg.2.2.2
      rw [hg.2.1, hg.2.2.1] at hz2
      rw [hg.2.1] at bs
      obtain ⟨T, e, q1, q2, q3, q4, q5⟩ := c_loop (n := n) (f := q_I S ce) (sz := (q_I S wo 1).toInt) (base := v_st S m fB (q_fd S m 1735162214).toInt + z_pl S m fF fB fL k.toInt) (lim := p_lim S m fF fB fL k.toInt) (F := p_F S m fF fB fL k.toInt) hs hd hw hc hu ho hN2 ⟨by omega, by omega⟩ (by unfold p_lim; omega) (by unfold p_lim; omega) vF (fun p => p_Fb hI hF) 300 n T1 0 10 g1.1 aU (by rw [q_unI g1 hs.1 hs.2 (by decide)]; exact hN) (funext fun k => q_unIA g1 hc.1 hc.2 (by decide) (by decide)) (by rw [q_unI g1 hw.1 hw.2 (by decide)]) (by rw [o4]) (by rw [o3]; unfold p_lim; omega) (by
          by_cases h : z_pl S m fF fB fL k.toInt + 10 ≤ min (z_pl S m fF fB fL (k.toInt + 1)) (v_len S m fL (q_fd S m 1735162214).toInt)
          · exact Or.inl (o5.mpr h)
          · exact Or.inr (by unfold p_lim; omega)) (by decide) (by decide) (by decide) (by unfold p_lim; omega) (by omega)
      refine ⟨T, e, q_G_call G1 q1 (by decide), q2, fun h h2 => ?_, by rw [← a3]; exact q4, fun i hi => by rw [q5 i (by rw [a3]; exact hi), a2]⟩
      rw [q3 h h2, a1]
      unfold p_of
      exact ⟨fun h3 => h3.elim Or.inl (fun h4 => Or.inr ⟨⟨hp, h4.1⟩, h4.2⟩), fun h3 => h3.elim Or.inl (fun h4 => Or.inr ⟨h4.1.2, h4.2⟩)⟩
    · have hge : 0 ≤ (q_I T1 dt 5).toInt := by
        by_cases h2 : 2 ≤ p_lim S m fF fB fL k.toInt
        · have v5 := o6 (elim.mpr h2)
          have := vF 0 (Int.le_refl _) (by omega)
          rw [Int.add_zero] at this
          rw [v5, this]
          rcases Int.lt_or_le (v_sgn (p_F S m fF fB fL k.toInt 0)) 0 with h3 | h3
          · exact absurd ⟨hok, he, h2, h3⟩ hp
          · exact h3
        · rw [o7 (fun h => h2 (elim.mp h))]; exact Int.le_refl _
      have eP : m_X1_hasParts n T1 dt = some (0, T1) := by
        unfold m_X1_hasParts m_X1_hasParts_12
        rw [q_at_pos (k_d g1.1 hd), if_pos (i_le.mpr (by rw [y0]; exact hge)), q_if_pos (Or.inl rfl)]
      rw [eP, q_b_some, if_pos rfl] at none ⊢
      exact none hp rfl
  · obtain ⟨c1, c2⟩ := bad hok
    have eP : m_X1_hasParts n T1 dt = some (0, T1) := by
      unfold m_X1_hasParts m_X1_hasParts_12
      rw [q_at_pos (k_d g1.1 hd), if_pos (i_le.mpr (by rw [y0]; omega)), q_if_pos (Or.inl rfl)]
    rw [if_pos c1, q_at_pos (k_s g1.1 hs), l1 _ g1.1, q_at_pos (k_d g1.1 hd), eP, q_b_some, if_pos rfl] at none ⊢
    exact none (fun h => hok h.1) rfl
/-! the reference -/
theorem r_isS (hn : 18446744073709551616 ≤ n) (hI : q_Inv ρ L S) (hA : v_Ad ρ L x wo ce tb en ab m fF fT fS fB fL) {p : Int32} : ∃ T, m_X12_isSign n S m p = some (if 0 ≤ p.toInt ∧ p.toInt < v_sg S m fF fB fL then 1 else 0, T) ∧ q_G ρ L [2888] S T ∧ (0 < v_sg S m fF fB fL → q_I T m 8 = 0) := by
  have hm := hA.2.2.2.2.2.2.1
  have y200 : (200 : Int32).toInt = 200 := rfl
  have y1 : (1 : Int32).toInt = 1 := rfl
  have y0 : (0 : Int64).toInt = 0 := rfl
  have y4 : (4 : Int64).toInt = 4 := rfl
  have hG : q_G ρ L [2888] S S := q_G_refl hI
  have G0 := u_45_I8 (x := 0) hG hm.1 hm.2 (by decide) ⟨by decide, by decide⟩
  obtain ⟨u1, u2, u3, u4, u5, u6⟩ := z_un hI G0 hA (by decide)
  have hfd := v_fdR (tag := 1835104368) hI hm hA.2.2.2.2.2.2.2.2.1
  obtain ⟨r, T, e, g, a, v, c⟩ := r_two (p := q_fd S m 1835104368) (i := 4) hn G0.1 hA (by rw [u5]; exact hfd) (by decide)
  rw [q_hitI, u1, y4] at a
  rw [u1, y4] at v
  have GT := q_G_call G0 g (by decide)
  have hsb := v_sg_b (S := S) (m := m) (fF := fF) (fB := fB) (fL := fL)
  have sv : ∃ w : Int32, m_X12_signs n S m = some (w, T) ∧ w.toInt = v_sg S m fF fB fL := by
    unfold m_X12_signs m_X12_signs_45 v_sg v_cl2
    rw [q_at_pos (k_m hI hm), q_if_pos (Or.inl rfl), v_fdM hn G0.1 hm ⟨by decide, by decide⟩, q_b_some, u4, q_at_pos (k_m G0.1 hm), e, q_b_some, q_at_pos (k_m g.1 hm)]
    by_cases g1 : z_tw S m fF fB fL (q_fd S m 1835104368).toInt 4 < 0
    · rw [if_neg (fun h => by have := (a.mp h).2; omega), if_pos g1]
      exact ⟨0, rfl, rfl⟩
    · rw [if_pos (a.mpr ⟨rfl, by omega⟩), if_neg g1]
      by_cases g2 : z_tw S m fF fB fL (q_fd S m 1835104368).toInt 4 ≤ 200
      · rw [if_pos (i_le.mpr (by rw [v (by omega), y200]; exact g2)), if_pos g2]
        exact ⟨r, rfl, v (by omega)⟩
      · rw [if_neg (fun h => g2 (by have := i_le.mp h; rw [v (by omega), y200] at this; exact this)), if_neg g2]
        exact ⟨200, rfl, rfl⟩
  obtain ⟨w, ew, vw⟩ := sv
  have e1 : (w - (1 : Int32)).toInt64.toInt = v_sg S m fF fB fL - 1 := by rw [q_wil, q_subI (by rw [y1]; omega) (by rw [y1]; omega), y1, vw]
  refine ⟨T, ?_, GT, fun h => a.mpr ⟨rfl, ?_⟩⟩
  · unfold m_X12_isSign
    rw [q_at_pos (k_m hI hm), ew, q_b_some, v_in, q_b_some, q_wil, e1, y0]
    by_cases g : 0 ≤ p.toInt ∧ p.toInt < v_sg S m fF fB fL
    · have g2 : 0 ≤ p.toInt ∧ p.toInt ≤ v_sg S m fF fB fL - 1 := by omega
      rw [if_pos g, if_pos g2, q_if_pos (Or.inr rfl)]
    · have g2 : ¬ (0 ≤ p.toInt ∧ p.toInt ≤ v_sg S m fF fB fL - 1) := by omega
      rw [if_neg g, if_neg g2, q_if_pos (Or.inl rfl)]
  · unfold v_sg v_cl2 at h
    rcases Int.lt_or_le (z_tw S m fF fB fL (q_fd S m 1835104368).toInt 4) 0 with h1 | h1
    · rw [if_pos h1] at h; omega
    · exact h1
theorem v_sg_un (hI : q_Inv ρ L S) (g : q_G ρ L M9 S T) (hA : v_Ad ρ L x wo ce tb en ab m fF fT fS fB fL) (h : v_fr9 M9 = true) : v_sg T m fF fB fL = v_sg S m fF fB fL := by
  obtain ⟨u1, -, -, u4, -, -⟩ := z_un hI g hA h
  unfold v_sg
  rw [u1, u4]
theorem r_loop (hn : 18446744073709551616 ≤ n) (hA : v_Ad ρ L x wo ce tb en ab m fF fT fS fB fL) (hus : us ∈ L ∧ ρ us = 51) (hcs : cs ∈ L ∧ ρ cs = 65) (hpf : pf ∈ L ∧ ρ pf = 67) (hN : 0 < N ∧ N ≤ 200) {lim : Int} {F : Int → Int} (hlim : lim ≤ 1600) (hFb : ∀ p, -1 ≤ F p ∧ F p ≤ 65535) : ∀ (j k : Nat) (S : q_S) (l2 l4 : Int32), q_Inv ρ L S → v_sg S m fF fB fL = N → r_lim S m fL = lim → (∀ p, r_F S m fF fB fL p = F p) → q_I S m 8 = 0 → (l2 = 0 ∨ l2 = 1) → 10 ≤ l4.toInt → l4.toInt ≤ 1600 → lim - l4.toInt < 6 * j → j + 2 < k → ∃ (r : Int32) (T : q_S), m_X12_useParts_39 n k S (some m) l2 1 l4 = some (r, T) ∧ q_G ρ L M_X12_useParts_45 S T ∧ (r = 0 ∨ r = 1) ∧ (∀ h : Nat, h < 200 → (q_I T us h ≠ 0 ↔ q_I S us h ≠ 0 ∨ ((h : Int) ∈ p_go F lim j l4.toInt ∧ (h : Int) < N))) ∧ (r = 0 ↔ l2 = 0 ∧ ∀ h : Nat, h < 200 → (h : Int) ∈ p_go F lim j l4.toInt → (h : Int) < N → q_I S us h ≠ 0) := by
  have hm := hA.2.2.2.2.2.2.1
  have l9 : ∀ U, q_Inv ρ L U → q_R U m 9 = some us := fun U hU => v_ln hU (g_45_R9 (q_G_refl (m := []) hU) hm.1 hm.2) hus rfl
  have l30 : ∀ U, q_Inv ρ L U → q_R U m 30 = some cs := fun U hU => v_ln hU (g_45_R30 (q_G_refl (m := []) hU) hm.1 hm.2) hcs rfl
  have l32 : ∀ U, q_Inv ρ L U → q_R U m 32 = some pf := fun U hU => v_ln hU (g_45_R32 (q_G_refl (m := []) hU) hm.1 hm.2) hpf rfl
  have stop : ∀ (k : Nat) (U : q_S) (l2 l3 l4 : Int32), q_Inv ρ L U → (l2 = 0 ∨ l2 = 1) → (l3 = 0 ∨ q_I U m 8 ≠ 0) → m_X12_useParts_39 n (k + 1) U (some m) l2 l3 l4 = some (l2, U) := by
    intro k U l2 l3 l4 hU h2 h3
    rw [m_X12_useParts_39]
    unfold m_X12_useParts_147
    by_cases g : l3 = 0
    · rw [if_pos g, q_if_pos h2]
    · have : q_I U m 8 ≠ 0 := h3.resolve_left g
      rw [if_neg g, q_at_pos (k_m hU hm), if_neg this, q_if_pos h2]
  intro j
  induction j with
  | zero =>
    intro k S l2 l4 hI hNS hl hFS h8 h2 h4 h46 hj hk
    obtain ⟨k, rfl⟩ : ∃ k', k = k' + 1 + 1 := ⟨k - 2, by omega⟩
    have hG : q_G ρ L M_X12_useParts_45 S S := q_G_refl hI
    obtain ⟨r, T, e, g, a1, a2, a3, a4⟩ := r_part (p := l4) hn hI hA hcs hpf ⟨by omega, by omega⟩
    rw [hl] at a2
    have hp : q_I T m 8 ≠ 0 := fun h => by have := (a2.mp h).2.1; omega
    rw [m_X12_useParts_39, if_neg (by decide), q_at_pos (k_m hI hm), if_pos h8, e, q_b_some, q_at_pos (k_m g.1 hm), if_neg hp, stop k T l2 1 _ g.1 h2 (Or.inr hp)]
    refine ⟨l2, T, rfl, q_G_call hG g (by decide), h2, fun h _ => ?_, ⟨fun h => ⟨h, fun h _ h3 => by cases h3⟩, fun h => h.1⟩⟩
    rw [q_unIA g hus.1 hus.2 (by decide) (by decide)]
    exact ⟨Or.inl, fun h => h.elim id (fun h => by cases h.1)⟩
  | succ j ih =>
    intro k S l2 l4 hI hNS hl hFS h8 h2 h4 h46 hj hk
    obtain ⟨k, rfl⟩ : ∃ k', k = k' + 1 + 1 := ⟨k - 2, by omega⟩
    have hG : q_G ρ L M_X12_useParts_45 S S := q_G_refl hI
    obtain ⟨r, T, e, g, a1, a2, a3, a4⟩ := r_part (p := l4) hn hI hA hcs hpf ⟨by omega, by omega⟩
    rw [hl] at a2 a3 a4
    rw [hFS] at a3 a4
    have GT := q_G_call hG g (by decide)
    have hlb := d_len_b (q_I T pf 7)
    have hus0 : ∀ h, q_I T us h = q_I S us h := fun h => q_unIA g hus.1 hus.2 (by decide) (by decide)
    have hfl : l4.toInt + 2 ≤ lim → q_I T pf 7 = Int32.ofInt (F l4.toInt) := fun h => by rw [← a3 h, Int32.ofInt_toInt]
    rw [m_X12_useParts_39, if_neg (by decide), q_at_pos (k_m hI hm), if_pos h8, e, q_b_some, q_at_pos (k_m g.1 hm), p_go]
    by_cases g2 : l4.toInt + 2 ≤ lim ∧ l4.toInt + d_len (Int32.ofInt (F l4.toInt)) ≤ lim
    · have hfl := hfl g2.1
      rw [hfl] at a1 a2 hlb
      have h80 : q_I T m 8 = 0 := a2.mpr ⟨h8, g2.1, g2.2⟩
      have eh := a4 (by omega)
      have hFh := hFb (l4.toInt + 2)
      rw [if_pos h80, if_pos g2, l30 _ g.1, q_at_pos (v_at (c := 100) g.1 hcs rfl), q_if_pos (q_inI (g_65_N GT hcs.1 hcs.2) (by decide) (by decide))]
      have e7 : (7 : Int32).toNatClampNeg = 7 := rfl
      rw [e7]
      have hSgT : v_sg T m fF fB fL = N := by rw [v_sg_un hI g hA (by decide)]; exact hNS
      obtain ⟨T2, e2, q1, q2⟩ := r_isS (p := q_I T cs 7) hn g.1 hA
      rw [hSgT] at e2 q2
      have q2 := q2 hN.1
      rw [eh] at e2
      have hcsb := g_65_E (q_G_refl (m := []) g.1) hcs.1 hcs.2 (k := 7)
      rw [eh] at hcsb
      have G2 := q_G_call GT q1 (by decide)
      have hus2 : ∀ h, q_I T2 us h = q_I S us h := fun h => by rw [q_unIA q1 hus.1 hus.2 (by decide) (by decide), hus0]
      rw [e2, q_b_some]
      generalize hv : q_I T cs 7 = hh at eh
      -- behind the mark
      have tail : ∀ (U : q_S) (s : Int32), q_G ρ L [3264] T2 U → (s = 0 ∨ s = 1) → (∀ h : Nat, h < 200 → (q_I U us h ≠ 0 ↔ q_I S us h ≠ 0 ∨ (F (l4.toInt + 2) = h ∧ (h : Int) < N))) → (s = 0 ↔ l2 = 0 ∧ ((0 ≤ F (l4.toInt + 2) ∧ F (l4.toInt + 2) < N) → q_I S us (F (l4.toInt + 2)).toNat ≠ 0)) → ∃ (r' : Int32) (T' : q_S), m_X12_useParts_125 n (m_X12_useParts_39 n (k + 1)) U (some m) s (l4 + r) = some (r', T') ∧ q_G ρ L M_X12_useParts_45 S T' ∧ (r' = 0 ∨ r' = 1) ∧ (∀ h : Nat, h < 200 → (q_I T' us h ≠ 0 ↔ q_I S us h ≠ 0 ∨ ((h : Int) ∈ F (l4.toInt + 2) :: (if (Int32.ofInt (F l4.toInt)) &&& (32 : Int32) = 0 then [] else p_go F lim j (l4.toInt + d_len (Int32.ofInt (F l4.toInt)))) ∧ (h : Int) < N))) ∧ (r' = 0 ↔ l2 = 0 ∧ ∀ h : Nat, h < 200 → (h : Int) ∈ F (l4.toInt + 2) :: (if (Int32.ofInt (F l4.toInt)) &&& (32 : Int32) = 0 then [] else p_go F lim j (l4.toInt + d_len (Int32.ofInt (F l4.toInt)))) → (h : Int) < N → q_I S us h ≠ 0) := by
        intro U s gU hs01 hU hs
        have GU := q_G_call G2 gU (by decide)
        have f7 : q_I U pf 7 = Int32.ofInt (F l4.toInt) := by rw [q_unIA gU hpf.1 hpf.2 (by decide) (by decide), q_unIA q1 hpf.1 hpf.2 (by decide) (by decide), hfl]
        unfold m_X12_useParts_125 m_X12_useParts_143
        rw [q_at_pos (k_m gU.1 hm), l32 _ gU.1, q_at_pos (v_at (c := 100) gU.1 hpf rfl), q_if_pos (q_inI (g_67_N GU hpf.1 hpf.2) (by decide) (by decide)), e7, f7]
        have one : ∀ h : Nat, h < 200 → F (l4.toInt + 2) = h → (h : Int) < N → (s = 0 → q_I S us h ≠ 0) := fun h h1 h3 h5 h6 => by
          have := (hs.mp h6).2 ⟨by omega, by omega⟩
          rw [h3] at this
          exact this
        by_cases g3 : (Int32.ofInt (F l4.toInt)) &&& (32 : Int32) = 0
        · rw [if_pos g3, if_pos g3, stop k U s 0 _ gU.1 hs01 (Or.inl rfl)]
          refine ⟨s, U, rfl, GU, hs01, fun h h1 => ?_, ?_⟩
          · rw [hU h h1]
            constructor
            · rintro (h3 | h3)
              · exact Or.inl h3
              · exact Or.inr ⟨by rw [h3.1]; exact List.mem_cons_self, h3.2⟩
            · rintro (h3 | h3)
              · exact Or.inl h3
              · rcases List.mem_cons.mp h3.1 with h5 | h5
                · exact Or.inr ⟨h5.symm, h3.2⟩
                · cases h5
          · constructor
            · intro h3
              refine ⟨(hs.mp h3).1, fun h h1 h5 h6 => ?_⟩
              rcases List.mem_cons.mp h5 with h7 | h7
              · exact one h h1 h7.symm h6 h3
              · cases h7
            · rintro ⟨h3, h5⟩
              refine hs.mpr ⟨h3, fun h6 => ?_⟩
              exact h5 (F (l4.toInt + 2)).toNat (by omega) (by rw [show (((F (l4.toInt + 2)).toNat : Nat) : Int) = F (l4.toInt + 2) by omega]; exact List.mem_cons_self) (by omega)
        · rw [if_neg g3, if_neg g3]
          have e4 : (l4 + r).toInt = l4.toInt + d_len (Int32.ofInt (F l4.toInt)) := by rw [q_addI (by omega) (by omega), a1]
          obtain ⟨w1, w2⟩ := r_lim_un hI g hA (by decide) (by decide) (by decide)
          obtain ⟨w3, w4⟩ := r_lim_un g.1 q1 hA (by decide) (by decide) (by decide)
          obtain ⟨w5, w6⟩ := r_lim_un q1.1 gU hA (by decide) (by decide) (by decide)
          obtain ⟨r', T', e', c1, c2, c3, c4⟩ := ih (k + 1) U s (l4 + r) gU.1 (by rw [v_sg_un q1.1 gU hA (by decide), v_sg_un g.1 q1 hA (by decide)]; exact hSgT) (by rw [w5, w3, w1]; exact hl) (fun p => by rw [w6, w4, w2]; exact hFS p) (by rw [q_unI gU hm.1 hm.2 (by decide)]; exact q2) hs01 (by omega) (by omega) (by omega) (by omega)
          rw [e4] at c3 c4
          refine ⟨r', T', e', q_G_call GU c1 (by decide), c2, fun h h1 => ?_, ?_⟩
          · rw [c3 h h1, hU h h1]
            constructor
            · rintro ((h3 | h3) | h3)
              · exact Or.inl h3
              · exact Or.inr ⟨by rw [h3.1]; exact List.mem_cons_self, h3.2⟩
              · exact Or.inr ⟨List.mem_cons_of_mem _ h3.1, h3.2⟩
            · rintro (h3 | h3)
              · exact Or.inl (Or.inl h3)
              · rcases List.mem_cons.mp h3.1 with h5 | h5
                · exact Or.inl (Or.inr ⟨h5.symm, h3.2⟩)
                · exact Or.inr ⟨h5, h3.2⟩
          · rw [c4]
            constructor
            · rintro ⟨h3, h5⟩
              refine ⟨(hs.mp h3).1, fun h h1 h6 h7 => ?_⟩
              rcases List.mem_cons.mp h6 with h9 | h9
              · exact one h h1 h9.symm h7 h3
              · rcases (hU h h1).mp (h5 h h1 h9 h7) with h10 | h10
                · exact h10
                · exact one h h1 h10.1 h7 h3
            · rintro ⟨h3, h5⟩
              refine ⟨hs.mpr ⟨h3, fun h6 => ?_⟩, fun h h1 h6 h7 => ?_⟩
              · exact h5 (F (l4.toInt + 2)).toNat (by omega) (by rw [show (((F (l4.toInt + 2)).toNat : Nat) : Int) = F (l4.toInt + 2) by omega]; exact List.mem_cons_self) (by omega)
              · exact (hU h h1).mpr (Or.inl (h5 h h1 (List.mem_cons_of_mem _ h6) h7))
      have set1 : (0 ≤ F (l4.toInt + 2) ∧ F (l4.toInt + 2) < N) → q_G ρ L [3264] T2 (q_sI T2 us (F (l4.toInt + 2)).toNat (vp_nar .boolean 1)) ∧ ∀ h : Nat, h < 200 → (q_I (q_sI T2 us (F (l4.toInt + 2)).toNat (vp_nar .boolean 1)) us h ≠ 0 ↔ q_I S us h ≠ 0 ∨ (F (l4.toInt + 2) = h ∧ (h : Int) < N)) := fun hb => by
        refine ⟨u_51_E (q_G_refl q1.1) hus.1 hus.2 (by decide) ⟨by decide, by decide⟩, fun h h1 => ?_⟩
        by_cases e : h = (F (l4.toInt + 2)).toNat
        · rw [e, q_hitI]
          exact ⟨fun _ => Or.inr ⟨by omega, by omega⟩, fun _ => by decide⟩
        · rw [q_ffI e, hus2]
          exact ⟨Or.inl, fun h3 => h3.elim id (fun h5 => by omega)⟩
      have set0 : ¬ (0 ≤ F (l4.toInt + 2) ∧ F (l4.toInt + 2) < N) → ∀ h : Nat, h < 200 → (q_I T2 us h ≠ 0 ↔ q_I S us h ≠ 0 ∨ (F (l4.toInt + 2) = h ∧ (h : Int) < N)) := fun hb h h1 => by
        rw [hus2]
        exact ⟨Or.inl, fun h3 => h3.elim id (fun h5 => absurd ⟨by omega, by omega⟩ hb)⟩
      have ecl : hh.toNatClampNeg = (F (l4.toInt + 2)).toNat := v_cl eh
      have hus51 := g_51_N (q_G_refl (m := []) q1.1) hus.1 hus.2
      by_cases g5 : 0 ≤ F (l4.toInt + 2) ∧ F (l4.toInt + 2) < N
      · obtain ⟨s1, s2⟩ := set1 g5
        rw [if_pos g5]
        have kin : q_in hh (q_N T2 us) = true := q_inI hus51 (by omega) (by omega)
        by_cases g6 : l2 = 0
        · rw [if_pos g6, if_neg (by decide), q_at_pos (k_m q1.1 hm), l9 _ q1.1, q_at_pos (v_at (c := 102) q1.1 hus rfl), q_if_pos kin, ecl]
          by_cases g7 : q_I T2 us (F (l4.toInt + 2)).toNat = 0
          · rw [if_pos g7]
            unfold m_X12_useParts_106 m_X12_useParts_111
            rw [if_neg (by decide), q_at_pos (k_m q1.1 hm), l9 _ q1.1, q_at_pos (v_at (c := 102) q1.1 hus rfl), q_if_pos kin, ecl]
            exact tail _ 1 s1 (Or.inr rfl) s2 ⟨fun h => absurd h (by decide), fun h => absurd (h.2 g5) (by rw [← hus2]; exact fun h9 => h9 g7)⟩
          · rw [if_neg g7]
            unfold m_X12_useParts_110 m_X12_useParts_111
            rw [if_neg (by decide), q_at_pos (k_m q1.1 hm), l9 _ q1.1, q_at_pos (v_at (c := 102) q1.1 hus rfl), q_if_pos kin, ecl]
            exact tail _ 0 s1 (Or.inl rfl) s2 ⟨fun _ => ⟨g6, fun _ => by rw [← hus2]; exact g7⟩, fun _ => rfl⟩
        · rw [if_neg g6]
          unfold m_X12_useParts_106 m_X12_useParts_111
          rw [if_neg (by decide), q_at_pos (k_m q1.1 hm), l9 _ q1.1, q_at_pos (v_at (c := 102) q1.1 hus rfl), q_if_pos kin, ecl]
          exact tail _ 1 s1 (Or.inr rfl) s2 ⟨fun h => absurd h (by decide), fun h => absurd h.1 g6⟩
      · have s2 := set0 g5
        have gr : q_G ρ L [3264] T2 T2 := q_G_refl q1.1
        rw [if_neg g5]
        by_cases g6 : l2 = 0
        · rw [if_pos g6, if_pos rfl]
          unfold m_X12_useParts_110 m_X12_useParts_111
          rw [if_pos rfl]
          exact tail T2 0 gr (Or.inl rfl) s2 ⟨fun _ => ⟨g6, fun h => absurd h g5⟩, fun _ => rfl⟩
        · rw [if_neg g6]
          unfold m_X12_useParts_106 m_X12_useParts_111
          rw [if_pos rfl]
          exact tail T2 1 gr (Or.inr rfl) s2 ⟨fun h => absurd h (by decide), fun h => absurd h.1 g6⟩
    · have hp : q_I T m 8 ≠ 0 := fun h => by
        obtain ⟨-, h5, h6⟩ := a2.mp h
        rw [hfl h5] at h6
        exact g2 ⟨h5, h6⟩
      rw [if_neg hp, if_neg g2, stop k T l2 1 _ g.1 h2 (Or.inr hp)]
      refine ⟨l2, T, rfl, GT, h2, fun h _ => ?_, ⟨fun h => ⟨h, fun h _ h3 => by cases h3⟩, fun h => h.1⟩⟩
      rw [hus0]
      exact ⟨Or.inl, fun h => h.elim id (fun h => by cases h.1)⟩
theorem r_parts (hn : 18446744073709551616 ≤ n) (hI : q_Inv ρ L S) (hA : v_Ad ρ L x wo ce tb en ab m fF fT fS fB fL) (hus : us ∈ L ∧ ρ us = 51) (h50 : 0 ≤ z_tw S m fF fB fL (q_fd S m 1751474532).toInt 50) (hN : 0 < v_sg S m fF fB fL) {k : Int32} (hk : 0 ≤ k.toInt ∧ k.toInt ≤ 199) : ∃ (r : Int32) (T : q_S), m_X12_useParts n S m k = some (r, T) ∧ q_G ρ L M_X12_useParts_45 S T ∧ (r = 0 ∨ r = 1) ∧ (∀ h : Nat, h < 200 → (q_I T us h ≠ 0 ↔ q_I S us h ≠ 0 ∨ (p_of S m fF fB fL k.toInt h ∧ (h : Int) < v_sg S m fF fB fL))) ∧ (r = 0 ↔ ∀ h : Nat, h < 200 → p_of S m fF fB fL k.toInt h → (h : Int) < v_sg S m fF fB fL → q_I S us h ≠ 0) := by
  have hm := hA.2.2.2.2.2.2.1
  have hF := hA.2.2.2.2.2.2.2.1
  have hLL := hA.2.2.2.2.2.2.2.2.2.2.2
  have hG : q_G ρ L M_X12_useParts_45 S S := q_G_refl hI
  have y0 : (0 : Int32).toInt = 0 := rfl
  have y2 : (2 : Int32).toInt = 2 := rfl
  obtain ⟨cs, -, mcs, rcs⟩ := g_45_R30 hG hm.1 hm.2
  obtain ⟨pf, -, mpf, rpf⟩ := g_45_R32 hG hm.1 hm.2
  obtain ⟨r1, T1, e1, g1, hr01, hr1, h8, hok⟩ := r_look (k := k) hn hI hA h50 hk
  have G1 := q_G_call hG g1 (by decide)
  have hsb := v_sg_b (S := S) (m := m) (fF := fF) (fB := fB) (fL := fL)
  have b2 := z_pl_b (m := m) (fB := fB) (fL := fL) (k := k.toInt) hI hF
  have b6 := z_pl_b (m := m) (fB := fB) (fL := fL) (k := k.toInt + 1) hI hF
  have bl := p_lim_b (p := (q_fd S m 1735162214).toInt) hI hm hLL
  obtain ⟨u1, -, -, u4, -, u6⟩ := z_un hI g1 hA (by decide)
  have us1 : ∀ h, q_I T1 us h = q_I S us h := fun h => q_unIA g1 hus.1 hus.2 (by decide) (by decide)
  have nothing : ∀ T, q_G ρ L M_X12_useParts_45 S T → (∀ h, q_I T us h = q_I S us h) → ¬ p_is S m fF fB fL k.toInt → m_X12_useParts n S m k = m_X12_useParts_39 n n T (some m) 0 0 10 → ∃ (r : Int32) (T : q_S), m_X12_useParts n S m k = some (r, T) ∧ q_G ρ L M_X12_useParts_45 S T ∧ (r = 0 ∨ r = 1) ∧ (∀ h : Nat, h < 200 → (q_I T us h ≠ 0 ↔ q_I S us h ≠ 0 ∨ (p_of S m fF fB fL k.toInt h ∧ (h : Int) < v_sg S m fF fB fL))) ∧ (r = 0 ↔ ∀ h : Nat, h < 200 → p_of S m fF fB fL k.toInt h → (h : Int) < v_sg S m fF fB fL → q_I S us h ≠ 0) := fun T gT hT hp e => by
    obtain ⟨q, hq⟩ : ∃ q, n = q + 1 := ⟨n - 1, by omega⟩
    have w : ∀ q, m_X12_useParts_39 n (q + 1) T (some m) 0 0 10 = some (0, T) := fun q => by
      rw [m_X12_useParts_39, if_pos rfl]
      unfold m_X12_useParts_147
      rw [q_if_pos (Or.inl rfl)]
    have w := w q
    rw [← hq] at w
    rw [e, w]
    exact ⟨0, T, rfl, gT, Or.inl rfl, fun h _ => by rw [hT]; exact ⟨Or.inl, fun h2 => h2.elim id (fun h3 => absurd h3.1.1 hp)⟩, ⟨fun _ h _ h3 => absurd h3.1 hp, fun _ => rfl⟩⟩
  have eu : m_X12_useParts n S m k = (if r1 = 0 then m_X12_useParts_33 n T1 (some m) 0 else q_at T1 (some m) 13 (fun a6 => (if (q_I T1 a6 23) = 0 then q_b (m_X12_data n T1 a6 ((0 : Int32)) ((2 : Int32))) (fun r8 S9 => q_b (m_X12_signed n (S9) (r8)) (fun r11 S12 => (if 0 ≤ r11 then m_X12_useParts_33 n (S12) (some m) ((0 : Int32)) else m_X12_useParts_34 n (S12) (some m) ((0 : Int32)) ((1 : Int32))))) else m_X12_useParts_33 n T1 (some m) ((0 : Int32))))) := by
    unfold m_X12_useParts
    rw [q_at_pos (k_m hI hm), e1, q_b_some]
  by_cases ho : 0 ≤ z_pl S m fF fB fL k.toInt ∧ 0 ≤ z_pl S m fF fB fL (k.toInt + 1)
  · have hre := hr1.mpr ho
    obtain ⟨o1, o2, o3⟩ := hok ho
    rw [if_neg (by rw [hre]; decide), q_at_pos (k_m g1.1 hm)] at eu
    by_cases he : z_pl S m fF fB fL k.toInt = z_pl S m fF fB fL (k.toInt + 1)
    · rw [if_neg (fun h => (o1.mp h) he)] at eu
      exact nothing T1 G1 us1 (fun h => h.2.1 he) eu
    rw [if_pos (o1.mpr he)] at eu
    obtain ⟨r8, T8, e8, g8, a8, v8, c8⟩ := r_data (p := 0) (k := 2) hn g1.1 hA ⟨by decide, by decide⟩ (Or.inr rfl)
    have v8 := v8 rfl
    rw [y0, y2] at a8 v8
    have G8 := q_G_call G1 g8 (by decide)
    have us8 : ∀ h, q_I T8 us h = q_I S us h := fun h => by rw [q_unIA g8 hus.1 hus.2 (by decide) (by decide), us1]
    obtain ⟨r11, e11, v11⟩ := v_sgM (n := n) (S := T8) c8
    rw [e8, q_b_some, e11, q_b_some] at eu
    -- the limit and the numbers are those of the SIGN
    have rel : (z_pl S m fF fB fL k.toInt ≤ 1600 → r_lim T1 m fL = p_lim S m fF fB fL k.toInt ∧ ∀ p, r_F T1 m fF fB fL p = p_F S m fF fB fL k.toInt p) ∧ (1600 < z_pl S m fF fB fL k.toInt → r_lim T1 m fL < 0 ∧ p_lim S m fF fB fL k.toInt < 0) := by
      unfold r_lim r_F p_lim p_F
      rw [o2, o3, u4, u6]
      refine ⟨fun h => ⟨by omega, fun p => ?_⟩, fun h => ⟨by omega, by omega⟩⟩
      rw [u1, show min 1601 (z_pl S m fF fB fL k.toInt) = z_pl S m fF fB fL k.toInt by omega]
    by_cases hp : p_is S m fF fB fL k.toInt
    · have hp2 := hp.2.2.1
      have hle : z_pl S m fF fB fL k.toInt ≤ 1600 := by
        rcases Int.lt_or_le 1600 (z_pl S m fF fB fL k.toInt) with h | h
        · have := (rel.2 h).2; omega
        · exact h
      obtain ⟨w1, w2⟩ := rel.1 hle
      rw [w1, w2] at v8
      rw [w1] at a8
      have hneg : r11.toInt < 0 := by rw [v11, v8 (by omega)]; exact hp.2.2.2
      rw [if_neg (fun h => by have := i_le.mp h; rw [y0] at this; omega)] at eu
      have h80 : q_I T8 m 8 = 0 := a8.mpr ⟨h8.mpr ho, by omega⟩
      obtain ⟨x1, x2⟩ := r_lim_un g1.1 g8 hA (by decide) (by decide) (by decide)
      have hsg8 : v_sg T8 m fF fB fL = v_sg S m fF fB fL := by rw [v_sg_un g1.1 g8 hA (by decide), v_sg_un hI g1 hA (by decide)]
      obtain ⟨r, T, e, c1, c2, c3, c4⟩ := r_loop (us := us) (F := p_F S m fF fB fL k.toInt) (lim := p_lim S m fF fB fL k.toInt) hn hA hus ⟨mcs, rcs⟩ ⟨mpf, rpf⟩ ⟨hN, hsb.2⟩ (by unfold p_lim; omega) (fun p => p_Fb hI hF) 300 n T8 0 10 g8.1 hsg8 (by rw [x1]; exact w1) (fun p => by rw [x2]; exact w2 p) h80 (Or.inl rfl) (by decide) (by decide) (by show _ - (10 : Int) < _; unfold p_lim; omega) (by omega)
      have eu : m_X12_useParts n S m k = m_X12_useParts_39 n n T8 (some m) 0 1 10 := eu
      rw [eu, e]
      refine ⟨r, T, rfl, q_G_call G8 c1 (by decide), c2, fun h h2 => ?_, ?_⟩
      · rw [c3 h h2, us8]
        unfold p_of
        exact ⟨fun h3 => h3.elim Or.inl (fun h4 => Or.inr ⟨⟨hp, h4.1⟩, h4.2⟩), fun h3 => h3.elim Or.inl (fun h4 => Or.inr ⟨h4.1.2, h4.2⟩)⟩
      · rw [c4]
        unfold p_of
        constructor
        · rintro ⟨-, h3⟩ h h2 h4 h5
          have := h3 h h2 h4.2 h5
          rw [us8] at this
          exact this
        · intro h3
          refine ⟨rfl, fun h h2 h4 h5 => ?_⟩
          rw [us8]
          exact h3 h h2 ⟨hp, h4⟩ h5
    · have hge : 0 ≤ r11.toInt := by
        rw [v11]
        rcases Int.lt_or_le (r_lim T1 m fL) 2 with h | h
        · -- nothing can be read
          have h9 := r_dataP (p := 0) hn g1.1 hA ⟨by decide, by decide⟩ (by rw [y0]; omega)
          rw [e8] at h9
          cases h9
          decide
        · rcases Int.lt_or_le 1600 (z_pl S m fF fB fL k.toInt) with h5 | h5
          · have := (rel.2 h5).1; omega
          · obtain ⟨w1, w2⟩ := rel.1 h5
            rw [w2] at v8
            rw [v8 (by omega)]
            rcases Int.lt_or_le (v_sgn (p_F S m fF fB fL k.toInt 0)) 0 with h3 | h3
            · exact absurd ⟨ho, he, by omega, h3⟩ hp
            · exact h3
      rw [if_pos (i_le.mpr (by rw [y0]; exact hge))] at eu
      exact nothing T8 G8 us8 hp eu
  · have hr0 : r1 = 0 := hr01.resolve_right (fun h => ho (hr1.mp h))
    rw [if_pos hr0] at eu
    exact nothing T1 G1 us1 (fun h => ho h.1) eu
end QPT
