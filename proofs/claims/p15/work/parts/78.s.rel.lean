/-! VALUES: what both sides have alike, with the SIGNS that are used -/
def v_wa (ρ : Nat → Nat) (L : List Nat) (wo m fF fB fL sg pA : Nat) (S : q_S) : Prop := (∃ tl tg, w_s ρ L wo m fF fB fL sg tl tg S) ∧ (q_I S sg 6 = 0 ↔ z_tw S m fF fB fL (q_fd S m 1835104368).toInt 4 ≤ 200) ∧ q_I S pA 0 = 0
def v_wc (m fF fB fL sg uC oC us : Nat) (S : q_S) : Prop := 52 ≤ v_len S m fL (q_fd S m 1751474532).toInt → u_c S sg uC oC (v_sg S m fF fB fL) ∧ p_cl (p_P S m fF fB fL) (fun k => q_I S uC k ≠ 0) ∧ ∀ k : Nat, k < 200 → (q_I S uC k ≠ 0 ↔ q_I S us k ≠ 0)
def v_Rw (ρ : Nat → Nat) (L : List Nat) (wo ce tb en ab m fF fT fS fB fL : Nat) (S : q_S) : Prop := v_Rs ρ L wo ce tb en ab m fF fT fS fB fL S ∧ ∀ sg uC oC pA us, (sg ∈ L ∧ ρ sg = 9) → (uC ∈ L ∧ ρ uC = 10) → (oC ∈ L ∧ ρ oC = 11) → (pA ∈ L ∧ ρ pA = 43) → (us ∈ L ∧ ρ us = 51) → v_wa ρ L wo m fF fB fL sg pA S ∧ v_wc m fF fB fL sg uC oC us S
def v_frw (M9 : List Nat) : Bool := w_fr M9 && (!M9.contains 582 && (!M9.contains 2752 && (!M9.contains 580 && (!M9.contains 640 && (!M9.contains 704 && !M9.contains 3264)))))
section QWS
variable {ρ : Nat → Nat} {L M9 : List Nat} {n : Nat} {S S0 T : q_S} {x wo ce tb en ab m fF fT fS fB fL sg uC oC pA us tl tg : Nat}
theorem v_frwE (h : v_frw M9 = true) : w_fr M9 = true ∧ M9.contains 582 = false ∧ M9.contains 2752 = false ∧ M9.contains 580 = false ∧ M9.contains 640 = false ∧ M9.contains 704 = false ∧ M9.contains 3264 = false := by
  unfold v_frw at h
  simp only [Bool.and_eq_true, Bool.not_eq_true'] at h
  exact h
theorem w_fr_s (h : w_fr M9 = true) : v_frs M9 = true := by
  obtain ⟨h1, -, -, -, h5⟩ := w_frE h
  unfold v_frs
  rw [h1, h5]
  rfl
theorem v_waU (hI : q_Inv ρ L S) (g : q_G ρ L M9 S T) (hA : v_Ad ρ L x wo ce tb en ab m fF fT fS fB fL) (hs : sg ∈ L ∧ ρ sg = 9) (h : w_fr M9 = true) (h6 : M9.contains 582 = false) (hp : q_I T pA 0 = 0) (hw : v_wa ρ L wo m fF fB fL sg pA S) : v_wa ρ L wo m fF fB fL sg pA T := by
  obtain ⟨⟨tl, tg, w1⟩, w2, -⟩ := hw
  obtain ⟨u1, -, -, u4, -, -⟩ := z_un hI g hA (w_frE h).1
  refine ⟨⟨tl, tg, w_s_un hI g hA hs h w1⟩, ?_, hp⟩
  rw [q_unI (k := 6) g hs.1 hs.2 h6, u1, u4]
  exact w2
theorem u_c_cg {N : Int} (h1 : q_I T uC = q_I S uC) (h2 : q_I T sg 4 = q_I S sg 4) (h3 : q_I T oC = q_I S oC) (h : u_c S sg uC oC N) : u_c T sg uC oC N := by
  unfold u_c at *
  rw [h1, h2, h3]
  exact h
theorem v_wcU (hI : q_Inv ρ L S) (g : q_G ρ L M9 S T) (hA : v_Ad ρ L x wo ce tb en ab m fF fT fS fB fL) (hs : sg ∈ L ∧ ρ sg = 9) (hu : uC ∈ L ∧ ρ uC = 10) (ho : oC ∈ L ∧ ρ oC = 11) (hus : us ∈ L ∧ ρ us = 51) (h : v_fr9 M9 = true) (h1 : M9.contains 580 = false) (h2 : M9.contains 640 = false) (h3 : M9.contains 704 = false) (h4 : M9.contains 3264 = false) (hw : v_wc m fF fB fL sg uC oC us S) : v_wc m fF fB fL sg uC oC us T := by
  obtain ⟨u1, -, -, u4, -, u6⟩ := z_un hI g hA h
  have e1 : q_I T uC = q_I S uC := funext fun k => q_unIA g hu.1 hu.2 (by decide) h2
  have e3 : q_I T oC = q_I S oC := funext fun k => q_unIA g ho.1 ho.2 (by decide) h3
  have e4 : ∀ k, q_I T us k = q_I S us k := fun k => q_unIA g hus.1 hus.2 (by decide) h4
  intro h52
  rw [u4, u6] at h52
  obtain ⟨a, b, c⟩ := hw h52
  rw [v_sg_un hI g hA h, p_P_un hI g hA h, e1]
  exact ⟨u_c_cg e1 (q_unI (k := 4) g hs.1 hs.2 h1) e3 a, b, fun k hk => by rw [e4]; exact c k hk⟩
theorem v_RwU (hI : q_Inv ρ L S) (hA : v_Ad ρ L x wo ce tb en ab m fF fT fS fB fL) (g : q_G ρ L M9 S T) (h : v_frw M9 = true) (hR : v_Rw ρ L wo ce tb en ab m fF fT fS fB fL S) : v_Rw ρ L wo ce tb en ab m fF fT fS fB fL T := by
  obtain ⟨h1, h2, h3, h4, h5, h6, h7⟩ := v_frwE h
  refine ⟨v_RsU hI hA g (w_fr_s h1) hR.1, fun sg uC oC pA us hs hu ho hp hus => ?_⟩
  obtain ⟨a, b⟩ := hR.2 sg uC oC pA us hs hu ho hp hus
  exact ⟨v_waU hI g hA hs h1 h2 (by rw [q_unIA g hp.1 hp.2 (by decide) h3]; exact a.2.2) a, v_wcU hI g hA hs hu ho hus (w_frE h1).1 h4 h5 h6 h7 b⟩
theorem v_Rw0 (hA : v_Ad ρ L x wo ce tb en ab m fF fT fS fB fL) (hI : q_Inv ρ L S) (h00 : ∀ a, a ∈ L → ∀ k, q_I S a k = 0) (hs : sg ∈ L ∧ ρ sg = 9) (h8 : q_R S sg 8 = some ab) (h9 : q_R S sg 9 = some ab) (hR : v_Rl wo ce tb en ab m fF fT fS fB fL S) : v_Rw ρ L wo ce tb en ab m fF fT fS fB fL S := by
  have hRs := v_Rs0 hA hI h00 hR
  refine ⟨hRs, fun sg2 uC oC pA us hs2 hu ho hp hus => ?_⟩
  have e2 : sg2 = sg := q_one (q_G_refl (m := []) hI) hs2.1 hs2.2 hs.1 hs.2 rfl
  subst e2
  obtain ⟨hx, hw, hc, ht, he, hab, hm, hF, hT, hS, hB, hL⟩ := hA
  have e3 : (q_I S m 3).toInt = 0 := by rw [h00 m hm.1]; rfl
  have hlen : ∀ p, v_len S m fL p = 0 := fun p => by unfold v_len; rw [e3, if_neg (by omega)]
  have hst : ∀ p, v_st S m fB p = 0 := fun p => by unfold v_st; rw [e3, if_neg (by omega)]
  have hz : ∀ p i, z_tw S m fF fB fL p i = -1 := fun p i => by unfold z_tw v_tw; rw [hlen, if_neg (by omega)]
  have hv : ∀ p, v_is ρ L wo m fB fL S ab p := fun p => ⟨hab, by rw [h00 ab hab.1, hst]; rfl, by rw [h00 ab hab.1, hlen]; rfl, by rw [h00 ab hab.1, h00 ab hab.1, h00 wo hw.1]; decide⟩
  refine ⟨⟨⟨ab, ab, ?_, h8, hv _, h9, hv _, hRs.2 sg2 hs2.1 hs2.2⟩, ?_, h00 pA hp.1 0⟩, fun h => ?_⟩
  · rw [h00 sg2 hs2.1, hz, if_neg (by decide)]
  · rw [h00 sg2 hs2.1, hz]; exact ⟨fun _ => by decide, fun _ => rfl⟩
  · rw [hlen] at h; exact absurd h (by decide)
/-- what add() leaves of the TABLES -/
theorem w_addE (hI : q_Inv ρ L S) (hI2 : q_Inv ρ L T) (hA : v_Ad ρ L x wo ce tb en ab m fF fT fS fB fL) (hR : v_Rl wo ce tb en ab m fF fT fS fB fL S) (hG : q_G ρ L (M_X11_add_0 ++ M_X12_add_45) S T) (hb : ∀ k : Nat, (k : Int) < (q_I S m 2).toInt → q_I T fF k = q_I S fF k) : (∀ p i, z_tw T m fF fB fL p i = z_tw S m fF fB fL p i) ∧ (∀ p i, z_fr T m fF fB fL p i = z_fr S m fF fB fL p i) ∧ (∀ tag, q_fd T m tag = q_fd S m tag) ∧ (∀ p, v_st T m fB p = v_st S m fB p) ∧ ∀ p, v_len T m fL p = v_len S m fL p := by
  obtain ⟨hx, hw, hc, ht, he, hab, hm, hF, hT, hS, hB, hL⟩ := hA
  have e3 : q_I T m 3 = q_I S m 3 := q_unI hG hm.1 hm.2 (by decide)
  have f1 : q_J T fT = q_J S fT := funext fun k => q_unJA hG hT.1 hT.2 (by decide) (by decide)
  have f3 : ∀ k, q_I T fB k = q_I S fB k := fun k => q_unIA hG hB.1 hB.2 (by decide) (by decide)
  have f4 : ∀ k, q_I T fL k = q_I S fL k := fun k => q_unIA hG hL.1 hL.2 (by decide) (by decide)
  have es : ∀ p, v_st T m fB p = v_st S m fB p := fun p => by unfold v_st; rw [e3, f3]
  have el : ∀ p, v_len T m fL p = v_len S m fL p := fun p => by unfold v_len; rw [e3, f4]
  have hz := g_45_I2 (q_G_refl (m := []) hI) hm.1 hm.2
  have hst : ∀ p, 0 ≤ v_st S m fB p ∧ v_st S m fB p + v_len S m fL p ≤ (q_I S m 2).toInt := fun p => by
    have b := g_49_E (q_G_refl (m := []) hI) hB.1 hB.2 (k := p.toNat)
    unfold v_st v_len
    by_cases g : 0 ≤ p ∧ p < (q_I S m 3).toInt
    · rw [if_pos g, if_pos g]
      exact ⟨b.1, (hR.2.2.2.1 _ (by omega)).2⟩
    · rw [if_neg g, if_neg g]
      omega
  refine ⟨fun p i => ?_, fun p i => ?_, fun tag => by rw [v_fdE hI2 hm hT, v_fdE hI hm hT, e3, f1], es, el⟩
  · unfold z_tw
    rw [es, el, v_tw_cg (f := q_I T fF) (g := q_I S fF) hb (hst p).1 (hst p).2]
  · unfold z_fr
    rw [es, el, v_fr_cg (f := q_I T fF) (g := q_I S fF) hb (hst p).1 (hst p).2]
theorem yw_add (hn : 18446744073709551616 ≤ n) (hI : q_Inv ρ L S) (hA : v_Ad ρ L x wo ce tb en ab m fF fT fS fB fL) (hR : v_Rw ρ L wo ce tb en ab m fF fT fS fB fL S) {w : Int64} {p : Int32} : q_ok (m_X11_add n S x w p) (fun r T => q_Inv ρ L T ∧ q_ok (m_X12_add n T m w p) (fun r2 T2 => q_Inv ρ L T2 ∧ v_Rw ρ L wo ce tb en ab m fF fT fS fB fL T2 ∧ r = r2 ∧ q_G ρ L (M_X11_add_0 ++ M_X12_add_45) S T2)) := by
  obtain ⟨r, T, e, hI1, r2, T2, e2, hI2, hR2, hr, hG, hb, hsz⟩ := v_addR (w := w) (p := p) hn hI hA hR.1.1
  obtain ⟨r', T', e', -, r2', T2', e2', -, hRs, -, -⟩ := ys_add (w := w) (p := p) hn hI hA hR.1
  rw [e] at e'
  cases e'
  rw [e2] at e2'
  cases e2'
  refine ⟨r, T, e, hI1, r2, T2, e2, hI2, ⟨hRs, fun sg uC oC pA us hs hu ho hp hus => ?_⟩, hr, hG⟩
  obtain ⟨⟨⟨tl, tg, w1, w2, w3, w4, w5, w6⟩, a2, a3⟩, b⟩ := hR.2 sg uC oC pA us hs hu ho hp hus
  obtain ⟨z1, z2, z4, z5, z6⟩ := w_addE hI hI2 hA hR.1.1 hG hb
  have ew : ∀ t, (t ∈ L ∧ ρ t = 8) → q_I T2 t 3 = q_I S t 3 ∧ q_I T2 t 4 = q_I S t 4 := fun t h8 => ⟨q_unI hG h8.1 h8.2 (by decide), q_unI hG h8.1 h8.2 (by decide)⟩
  have eis : ∀ t q, v_is ρ L wo m fB fL S t q → v_is ρ L wo m fB fL T2 t q := fun t q h => by
    obtain ⟨h8, i1, i2, i3⟩ := h
    obtain ⟨j1, j2⟩ := ew t h8
    refine ⟨h8, by rw [j1, z5]; exact i1, by rw [j2, z6]; exact i2, ?_⟩
    rw [j1, j2, hR2.1]
    rw [hR.1.1.1] at i3
    omega
  have esg : v_sg T2 m fF fB fL = v_sg S m fF fB fL := by unfold v_sg; rw [z1, z4]
  have hz : ∀ k, z_pl T2 m fF fB fL k = z_pl S m fF fB fL k := fun k => by unfold z_pl; rw [z4, z4, z1, z1, z2]
  have hF : ∀ k, p_F T2 m fF fB fL k = p_F S m fF fB fL k := fun k => funext fun p => by unfold p_F; rw [hz, z4, z1]
  have hl : ∀ k, p_lim T2 m fF fB fL k = p_lim S m fF fB fL k := fun k => by unfold p_lim; rw [hz, hz, z4, z6]
  have hP : p_P T2 m fF fB fL = p_P S m fF fB fL := by
    funext k h
    unfold p_P p_of p_is
    rw [hF, hl, hz, hz, esg]
  refine ⟨⟨⟨tl, tg, ?_, ?_, ?_, ?_, ?_, ?_⟩, ?_, ?_⟩, fun h52 => ?_⟩
  · rw [q_unI hG hs.1 hs.2 (by decide), z1, z4]; exact w1
  · rw [q_unR hG hs.1 hs.2 (by decide)]; exact w2
  · rw [z4]; exact eis _ _ w3
  · rw [q_unR hG hs.1 hs.2 (by decide)]; exact w4
  · rw [z4]; exact eis _ _ w5
  · rw [q_unI hG hs.1 hs.2 (by decide), esg]; exact w6
  · rw [q_unI hG hs.1 hs.2 (by decide), z1, z4]; exact a2
  · rw [q_unIA hG hp.1 hp.2 (by decide) (by decide)]; exact a3
  · rw [z6, z4] at h52
    obtain ⟨c1, c2, c3⟩ := b h52
    have e1 : q_I T2 uC = q_I S uC := funext fun k => q_unIA hG hu.1 hu.2 (by decide) (by decide)
    have e3 : q_I T2 oC = q_I S oC := funext fun k => q_unIA hG ho.1 ho.2 (by decide) (by decide)
    rw [esg, hP, e1]
    exact ⟨u_c_cg e1 (q_unI hG hs.1 hs.2 (by decide)) e3 c1, c2, fun k hk => by rw [q_unIA hG hus.1 hus.2 (by decide) (by decide)]; exact c3 k hk⟩
end QWS
