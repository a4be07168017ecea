/-! VALUES: read, cut and write, both sides -/
section QWT
variable {ρ : Nat → Nat} {L M9 : List Nat} {n : Nat} {S S0 T : q_S} {x wo ce tb en ab m fF fT fS fB fL sg uC oC pA us tl tg : Nat}
theorem w_readC (hn : 18446744073709551616 ≤ n) (hI : q_Inv ρ L S) (hx : x ∈ L ∧ ρ x = 0) (hw : wo ∈ L ∧ ρ wo = 1) (hc : ce ∈ L ∧ ρ ce = 2) (ht : tb ∈ L ∧ ρ tb = 6) (he : en ∈ L ∧ ρ en = 7) (hab : ab ∈ L ∧ ρ ab = 8) (hs : sg ∈ L ∧ ρ sg = 9) (hu : uC ∈ L ∧ ρ uC = 10) (hd : v_di S en ab) (h5 : q_I S ab 3 = 0) (h6 : q_I S ab 4 = 0) (h7 : q_R S tb 2 = some ab) : q_ok (m_X11_read n S x) (fun r T => ∃ t tH tl tg, ((t ∈ L ∧ ρ t = 8) ∧ v_isc T tb en 1835104368 t) ∧ ((tH ∈ L ∧ ρ tH = 8) ∧ v_isc T tb en 1751474532 tH) ∧ ((tl ∈ L ∧ ρ tl = 8) ∧ v_isc T tb en 1819239265 tl) ∧ ((tg ∈ L ∧ ρ tg = 8) ∧ v_isc T tb en 1735162214 tg) ∧ (q_I T sg 6 = 0 ↔ w_V T ce t 4 ≤ 200) ∧ q_I T sg 7 = (if w_V T ce tH 50 = 1 then 1 else 0) ∧ q_R T sg 8 = some tl ∧ q_R T sg 9 = some tg ∧ q_I T sg 4 = 0 ∧ ∀ k : Nat, k < 200 → q_I T uC k = 0) := by
  have hG0 : q_G ρ L M_X11_read_0 S S := q_G_refl hI
  have y0 : (0 : Int32).toInt = 0 := rfl
  unfold m_X11_read
  rw [q_at_pos (k_x hI hx)]
  refine q_ok_at hG0 (g_0_R1 hG0 hx.1 hx.2) rfl (fun te mte rte ete => ?_)
  refine q_ok_b (s_X9_clear_3 hn hI mte rte) (fun _ T1 g1 => ?_)
  have hG1 := q_G_call hG0 g1 (by decide)
  rw [q_at_pos (k_x g1.1 hx), v_x2 g1.1 hx ht, q_at_pos (k_t g1.1 ht)]
  have ec : q_I T1 ce = q_I S ce := funext fun k => q_unIA g1 hc.1 hc.2 (by decide) (by decide)
  have ew : q_I T1 wo 1 = q_I S wo 1 := q_unI g1 hw.1 hw.2 (by decide)
  refine q_ok_b (v_load hn g1.1 hw hc ht he hab (v_di_un g1 he (by decide) hd)) (fun r2 T2 hT2 => ?_)
  obtain ⟨g2, ea, k1, k2⟩ := hT2
  rw [ec, ew] at k1 k2
  have hG2 := q_G_call hG1 g2 (by decide)
  rw [q_at_pos (k_x g2.1 hx), v_x2 g2.1 hx ht, q_at_pos (k_t g2.1 ht)]
  refine q_ok_b (s_X8_tellWrongSums_6_3 hn g2.1 ht.1 ht.2 (g_0_R1 hG2 hx.1 hx.2)) (fun _ T3 g3 => ?_)
  have hG3 := q_G_call hG2 g3 (by decide)
  have es : q_R T3 x 3 = some sg := v_ln g3.1 (g_0_R3 hG3 hx.1 hx.2) hs rfl
  rw [q_at_pos (k_x g3.1 hx), es, q_at_pos (k_s g3.1 hs)]
  have hs2 := g_6_I3 hG2 ht.1 ht.2
  have e3 : q_I T3 tb 3 = q_I T2 tb 3 := q_unI g3 ht.1 ht.2 (by decide)
  have ew3 : q_I T3 wo 1 = q_I S wo 1 := by rw [q_unI g3 hw.1 hw.2 (by decide), q_unI g2 hw.1 hw.2 (by decide), ew]
  have hz : ∀ (tag : Int64) (t : Nat), (t ∈ L ∧ ρ t = 8) → v_isc T3 tb en tag t → (q_I T3 t 3).toInt + (q_I T3 t 4).toInt ≤ (q_I T3 wo 1).toInt := by
    intro tag t h8 hi
    by_cases g : 0 ≤ (q_fdl (c_tag T3 en) tag (q_I T3 tb 3).toInt.toNat 0).toInt ∧ (q_fdl (c_tag T3 en) tag (q_I T3 tb 3).toInt.toNat 0).toInt < (q_I T3 tb 3).toInt
    · have et := hi.1 g
      obtain ⟨k3, k4⟩ := k2 (q_fdl (c_tag T3 en) tag (q_I T3 tb 3).toInt.toNat 0).toInt.toNat (by rw [e3] at g ⊢; omega)
      have k3 := v_en_un g3 he (by rw [e3] at g ⊢; omega) (by decide) (by decide) (by decide) (by decide) (by decide) k3
      obtain ⟨-, -, n3, n4⟩ := k3 t et
      rw [n3, n4, ew3]
      exact k4.2
    · have et := hi.2 g
      have e9 : q_R T3 tb 2 = some ab := by rw [q_unR g3 ht.1 ht.2 (by decide), q_unR g2 ht.1 ht.2 (by decide), q_unR g1 ht.1 ht.2 (by decide), h7]
      rw [e9] at et
      cases et
      have a3 : q_I T3 ab 3 = 0 := by rw [q_unI g3 hab.1 hab.2 (by decide), ea, q_unI g1 hab.1 hab.2 (by decide), h5]
      have a4 : q_I T3 ab 4 = 0 := by rw [q_unI g3 hab.1 hab.2 (by decide), ea, q_unI g1 hab.1 hab.2 (by decide), h6]
      have hs := g_1_I1 hG3 hw.1 hw.2
      rw [a3, a4]
      show (0 : Int) + 0 ≤ _
      omega
  obtain ⟨T4, e4, g4, t, tH, tl, tg, ⟨q1, i1⟩, ⟨q2, i2⟩, ⟨q3, i3⟩, ⟨q4, i4⟩, b1, b2, b3, b4, b5, b6⟩ := w_load (n := n) (uC := uC) hn g3.1 hs hu hw hc ht he hz
  rw [e4, q_b_some]
  have hG4 := q_G_call hG3 g4 (by decide)
  rw [q_at_pos (k_x g4.1 hx)]
  refine q_ok_at hG4 (g_0_R5 hG4 hx.1 hx.2) rfl (fun sh msh rsh esh => ?_)
  refine q_ok_b (s_X5_survey_14 hn g4.1 msh rsh) (fun _ T5 g5 => ?_)
  have ic : ∀ {tag : Int64} {t : Nat}, v_isc T3 tb en tag t → v_isc T5 tb en tag t := fun h => v_isc_un g4.1 g5 ht he (by decide) (v_isc_un g3.1 g4 ht he (by decide) h)
  have eV : ∀ t i, (t ∈ L ∧ ρ t = 8) → w_V T5 ce t i = w_V T3 ce t i := fun t i h8 => by
    have ec3 : q_I T5 ce = q_I T3 ce := funext fun k => by rw [q_unIA g5 hc.1 hc.2 (by decide) (by decide), q_unIA g4 hc.1 hc.2 (by decide) (by decide)]
    unfold w_V
    rw [ec3, q_unI (k := 3) g5 h8.1 h8.2 (by decide), q_unI (k := 3) g4 h8.1 h8.2 (by decide), q_unI (k := 4) g5 h8.1 h8.2 (by decide), q_unI (k := 4) g4 h8.1 h8.2 (by decide)]
  refine q_ok_some ⟨t, tH, tl, tg, ⟨q1, ic i1⟩, ⟨q2, ic i2⟩, ⟨q3, ic i3⟩, ⟨q4, ic i4⟩, ?_, ?_, ?_, ?_, ?_, fun k hk => ?_⟩
  · rw [q_unI g5 hs.1 hs.2 (by decide), eV _ _ q1]; exact b1
  · rw [q_unI g5 hs.1 hs.2 (by decide), eV _ _ q2]; exact b2
  · rw [q_unR g5 hs.1 hs.2 (by decide)]; exact b3
  · rw [q_unR g5 hs.1 hs.2 (by decide)]; exact b4
  · rw [q_unI g5 hs.1 hs.2 (by decide)]; exact b5
  · rw [q_unIA g5 hu.1 hu.2 (by decide) (by decide)]; exact b6 k hk
theorem w_Vz (hI : q_Inv ρ L S) (hA : v_Ad ρ L x wo ce tb en ab m fF fT fS fB fL) (hR : v_Rl wo ce tb en ab m fF fT fS fB fL S) {t : Nat} (h8 : t ∈ L ∧ ρ t = 8) {tag : Int64} (h : v_isc S tb en tag t) {i : Int} : w_V S ce t i = z_tw S m fF fB fL (q_fd S m tag).toInt i := by
  obtain ⟨-, k1, k2, k3⟩ := v_isc_is hI hA hR h8 h
  have b3 := g_8_I3 (q_G_refl (m := []) hI) h8.1 h8.2
  unfold w_V z_tw
  rw [v_tw_cg hR.2.1 b3.1 (by rw [← hR.1]; exact k3), k1, k2]
theorem q_cu0 {f : Nat → Int32} : ∀ i, (∀ k, k < i → f k = 0) → q_cu f i = 0
  | 0, _ => rfl
  | i + 1, h => by
    have := q_cu0 (f := f) i (fun k hk => h k (by omega))
    rw [q_cu, this, h i (by omega)]
    rfl
theorem yw_read (hn : 18446744073709551616 ≤ n) (hI : q_Inv ρ L S) (hA : v_Ad ρ L x wo ce tb en ab m fF fT fS fB fL) (hR : v_Rw ρ L wo ce tb en ab m fF fT fS fB fL S) : q_ok (m_X11_read n S x) (fun r T => q_Inv ρ L T ∧ q_ok (m_X12_read n T m) (fun r2 T2 => q_Inv ρ L T2 ∧ v_Rw ρ L wo ce tb en ab m fF fT fS fB fL T2 ∧ r = r2 ∧ q_G ρ L (M_X11_read_0 ++ M_X12_read_45) S T2)) := by
  obtain ⟨r, T, e, hI1, r2, T2, e2, hI2, hR2, hr, hG⟩ := ys_read hn hI hA hR.1
  refine ⟨r, T, e, hI1, r2, T2, e2, hI2, ⟨hR2, fun sg uC oC pA us hs hu ho hp hus => ?_⟩, hr, hG⟩
  obtain ⟨-, -, -, -, h5, h6, h7, h8⟩ := hR.1.1
  obtain ⟨r9, T9, e9, t, tH, tl, tg, ⟨q1, i1⟩, ⟨q2, i2⟩, ⟨q3, i3⟩, ⟨q4, i4⟩, b1, b2, b3, b4, b5, b6⟩ := w_readC (sg := sg) (uC := uC) hn hI hA.1 hA.2.1 hA.2.2.1 hA.2.2.2.1 hA.2.2.2.2.1 hA.2.2.2.2.2.1 hs hu h7 h5 h6 h8
  rw [e] at e9
  cases e9
  obtain ⟨r3, T3, e3, g3, -⟩ := s_X12_read_45 hn hI1 hA.2.2.2.2.2.2.1.1 hA.2.2.2.2.2.2.1.2
  rw [e2] at e3
  cases e3
  obtain ⟨r4, T4, e4, hz⟩ := r_readU (us := us) hn hI1 hA.2.2.2.2.2.2.1 hA.2.2.2.2.2.2.2.1 hA.2.2.2.2.2.2.2.2.1 hA.2.2.2.2.2.2.2.2.2.1 hA.2.2.2.2.2.2.2.2.2.2.1 hA.2.2.2.2.2.2.2.2.2.2.2 hus
  rw [e2] at e4
  cases e4
  have ic : ∀ {tag : Int64} {t : Nat}, v_isc T tb en tag t → v_isc T2 tb en tag t := fun h => v_isc_un hI1 g3 hA.2.2.2.1 hA.2.2.2.2.1 (by decide) h
  have eV : ∀ t i, (t ∈ L ∧ ρ t = 8) → w_V T ce t i = w_V T2 ce t i := fun t i h8 => by
    have ec3 : q_I T2 ce = q_I T ce := funext fun k => q_unIA g3 hA.2.2.1.1 hA.2.2.1.2 (by decide) (by decide)
    unfold w_V
    rw [ec3, q_unI (k := 3) g3 h8.1 h8.2 (by decide), q_unI (k := 4) g3 h8.1 h8.2 (by decide)]
  rw [eV _ _ q1, w_Vz hI2 hA hR2.1 q1 (ic i1)] at b1
  rw [eV _ _ q2, w_Vz hI2 hA hR2.1 q2 (ic i2)] at b2
  have hu0 : ∀ k : Nat, k < 200 → q_I T2 uC k = 0 := fun k hk => by rw [q_unIA g3 hu.1 hu.2 (by decide) (by decide)]; exact b6 k hk
  have e40 : q_I T2 sg 4 = 0 := by rw [q_unI g3 hs.1 hs.2 (by decide)]; exact b5
  have y0 : (0 : Int32).toInt = 0 := rfl
  refine ⟨⟨⟨tl, tg, ?_, ?_, v_isc_is hI2 hA hR2.1 q3 (ic i3), ?_, v_isc_is hI2 hA hR2.1 q4 (ic i4), hR2.2 sg hs.1 hs.2⟩, ?_, ?_⟩, fun h52 => ⟨⟨fun k hk h => absurd (hu0 k hk) h, ?_, fun i hi => ?_, fun k hk h => absurd (hu0 k hk) h⟩, fun k h hk hh hc => absurd (hu0 k hk) hc, fun k hk => ?_⟩⟩
  · rw [q_unI g3 hs.1 hs.2 (by decide)]; exact b2
  · rw [q_unR g3 hs.1 hs.2 (by decide)]; exact b3
  · rw [q_unR g3 hs.1 hs.2 (by decide)]; exact b4
  · rw [q_unI g3 hs.1 hs.2 (by decide)]; exact b1
  · rw [q_unIA hG hp.1 hp.2 (by decide) (by decide)]; exact (hR.2 sg uC oC pA us hs hu ho hp hus).1.2.2
  · rw [e40, q_cu0 200 hu0]; rfl
  · rw [e40, y0] at hi; omega
  · rw [hu0 k hk, hz k hk]
theorem y_cut (hn : 18446744073709551616 ≤ n) (hI : q_Inv ρ L S) (hA : v_Ad ρ L x wo ce tb en ab m fF fT fS fB fL) (hR : v_Rw ρ L wo ce tb en ab m fF fT fS fB fL S) {p0 : Int32} : q_ok (m_X11_cut n S x p0) (fun _ T => q_Inv ρ L T ∧ q_ok (m_X12_cut n T m p0) (fun _ T2 => q_Inv ρ L T2 ∧ v_Rw ρ L wo ce tb en ab m fF fT fS fB fL T2)) := by
  have hm := hA.2.2.2.2.2.2.1
  have hG0 : q_G ρ L [] S S := q_G_refl hI
  obtain ⟨r, T, e, g, -⟩ := s_X11_cut_0 hn hI hA.1.1 hA.1.2 (p0 := p0)
  obtain ⟨r2, T2, e2, g2⟩ := s_X12_cut_45 hn g.1 hm.1 hm.2 (p0 := p0)
  refine ⟨r, T, e, g.1, r2, T2, e2, g2.1, v_RsU g.1 hA g2 (by decide) (v_RsU hI hA g (by decide) hR.1), fun sg uC oC pA us hs hu ho hp hus => ?_⟩
  obtain ⟨wa, wc⟩ := hR.2 sg uC oC pA us hs hu ho hp hus
  have wa1 := v_waU hI g hA hs (by decide) (by decide) (by rw [q_unIA g hp.1 hp.2 (by decide) (by decide)]; exact wa.2.2) wa
  have wa2 := v_waU g.1 g2 hA hs (by decide) (by decide) (by rw [q_unIA g2 hp.1 hp.2 (by decide) (by decide)]; exact wa1.2.2) wa1
  refine ⟨wa2, fun h52 => ?_⟩
  have z1 := z_un hI g hA (by decide)
  have z2 := z_un g.1 g2 hA (by decide)
  rw [z2.2.2.2.1, z2.2.2.2.2.2, z1.2.2.2.1, z1.2.2.2.2.2] at h52
  have wc := wc h52
  have ex : q_R S x 3 = some sg := v_ln hI (g_0_R3 hG0 hA.1.1 hA.1.2) hs rfl
  have hN := hR.1.2 sg hs.1 hs.2
  by_cases g0 : 0 ≤ p0.toInt ∧ p0.toInt < v_sg S m fF fB fL
  · obtain ⟨⟨tl, tg, ws⟩, -, -⟩ := wa
    obtain ⟨dt, -, mdt, rdt⟩ := g_9_R1 hG0 hs.1 hs.2
    obtain ⟨T9, e9, g9, u1, u2, u3, u4⟩ := c_use (n := n) (g := p0) hn hI hA hR.1.1 hs ⟨mdt, rdt⟩ hu ho ws wc.1 wc.2.1 g0
    have eT : T9 = T := by
      have : m_X11_cut n S x p0 = some (q_I T9 sg 4, T9) := by
        unfold m_X11_cut m_X6_used
        have ex9 : q_R T9 x 3 = some sg := v_ln g9.1 (g_0_R3 g9 hA.1.1 hA.1.2) hs rfl
        rw [q_at_pos (k_x hI hA.1), ex, q_at_pos (k_s hI hs), v_hasS hI hs hN, q_b_some, if_pos g0, if_neg (by decide), q_at_pos (k_x hI hA.1), ex, q_at_pos (k_s hI hs), e9, q_b_some, q_at_pos (k_x g9.1 hA.1), ex9, q_at_pos (k_s g9.1 hs), q_at_pos (k_s g9.1 hs), q_b_some]
      rw [e] at this
      cases this
      rfl
    subst eT
    have hF := hA.2.2.2.2.2.2.2.1
    have h50 : 0 ≤ z_tw S m fF fB fL (q_fd S m 1751474532).toInt 50 := by
      unfold z_tw v_tw
      rw [if_pos (by omega)]
      have c1 := g_46_E hG0 hF.1 hF.2 (k := (v_st S m fB (q_fd S m 1751474532).toInt + 50).toNat)
      have c2 := g_46_E hG0 hF.1 hF.2 (k := (v_st S m fB (q_fd S m 1751474532).toInt + 50 + 1).toNat)
      omega
    have esg1 := v_sg_un hI g hA (by decide)
    have eP1 := p_P_un hI g hA (by decide)
    have esg2 := v_sg_un g.1 g2 hA (by decide)
    have eP2 := p_P_un g.1 g2 hA (by decide)
    obtain ⟨r8, T8, e8, g8, d1, d2, d3⟩ := r_cut (n := n) (us := us) (g := p0) hn g.1 hA hus (by rw [z1.1, z1.2.2.2.1]; exact h50) (by rw [esg1]; exact g0)
    rw [e2] at e8
    cases e8
    rw [eP1] at d1 d3
    have eu : q_I T2 uC = q_I T9 uC := funext fun k => q_unIA g2 hu.1 hu.2 (by decide) (by decide)
    have eo : q_I T2 oC = q_I T9 oC := funext fun k => q_unIA g2 ho.1 ho.2 (by decide) (by decide)
    have eus : ∀ k, q_I T9 us k = q_I S us k := fun k => q_unIA g hus.1 hus.2 (by decide) (by decide)
    rw [esg2, eP2, esg1, eP1, eu]
    refine ⟨u_c_cg eu (q_unI g2 hs.1 hs.2 (by decide)) eo u1, u2, fun k hk => ⟨fun h => ?_, fun h => ?_⟩⟩
    · refine u4 (fun k => q_I T2 us k ≠ 0) d1 (fun k hk h9 => d2 k hk ?_) k hk h
      rw [eus]
      rcases h9 with h9 | h9
      · exact Or.inl ((wc.2.2 k hk).mp h9)
      · exact Or.inr h9
    · refine d3 (fun k => q_I T9 uC k ≠ 0) u2 (fun k hk h9 => u3 k hk ?_) k hk h
      rw [eus] at h9
      rcases h9 with h9 | h9
      · exact Or.inl ((wc.2.2 k hk).mpr h9)
      · exact Or.inr h9
  · have eT : T = S := by
      have : m_X11_cut n S x p0 = some (-1, S) := by
        unfold m_X11_cut
        rw [q_at_pos (k_x hI hA.1), ex, q_at_pos (k_s hI hs), v_hasS hI hs hN, q_b_some, if_neg g0, if_pos rfl]
      rw [e] at this
      cases this
      rfl
    subst eT
    have G0 := u_45_I0 (x := 0) (q_G_refl (m := [2880, 2888]) hI) hm.1 hm.2 (by decide) ⟨by decide, by decide⟩
    obtain ⟨T8, e8, g8, -⟩ := r_isS (n := n) (p := p0) hn G0.1 hA
    have gT2 : q_G ρ L [2880, 2888] T T2 := by
      have : m_X12_cut n T m p0 = some (-1, T8) := by
        unfold m_X12_cut
        rw [q_at_pos (k_m hI hm), e8, v_sg_un hI G0 hA (by decide), if_neg g0, q_b_some, if_pos rfl]
      rw [e2] at this
      cases this
      exact q_G_call G0 g8 (by decide)
    exact v_wcU hI gT2 hA hs hu ho hus (by decide) (by decide) (by decide) (by decide) (by decide) (fun _ => wc) (by
      have z3 := z_un hI gT2 hA (by decide)
      rw [z3.2.2.2.1, z3.2.2.2.2.2]; exact h52)
theorem s_tot_cg {a b : Nat} (h : ∀ k : Nat, k < 200 → (q_I S a k ≠ 0 ↔ q_I S b k ≠ 0)) : s_tot S m fF fB fL a = s_tot S m fF fB fL b := by
  have hsb := v_sg_b (S := S) (m := m) (fF := fF) (fB := fB) (fL := fL)
  have h1 : ∀ k, k < 200 → s_one S m fF fB fL a k = s_one S m fF fB fL b k := fun k hk => by
    unfold s_one
    split
    · rename_i c
      rw [if_pos ⟨(h k hk).mp c.1, c.2⟩]
    · rename_i c
      rw [if_neg (fun d => c ⟨(h k hk).mpr d.1, d.2⟩)]
  have h2 : ∀ i, i ≤ 200 → s_gl S m fF fB fL a i = s_gl S m fF fB fL b i := fun i => by
    induction i with
    | zero => intro _; rfl
    | succ i ih => intro hi; rw [s_gl, s_gl, ih (by omega), h1 i (by omega)]
  have h3 : s_len S m fF fB fL a = s_len S m fF fB fL b := funext fun t => by
    unfold s_len
    rw [h2 _ (by omega)]
  unfold s_tot
  rw [h3]
theorem zw_write (hn : 18446744073709551616 ≤ n) (hI : q_Inv ρ L S) (hA : v_Ad ρ L x wo ce tb en ab m fF fT fS fB fL) (hR : v_Rw ρ L wo ce tb en ab m fF fT fS fB fL S) : q_ok (m_X11_write n S x) (fun r T => q_Inv ρ L T ∧ q_ok (m_X12_write n T m) (fun r2 T2 => q_Inv ρ L T2 ∧ v_Rw ρ L wo ce tb en ab m fF fT fS fB fL T2 ∧ r = r2)) := by
  have hm := hA.2.2.2.2.2.2.1
  have hG0 : q_G ρ L [] S S := q_G_refl hI
  obtain ⟨sg, -, msg, rsg⟩ := g_0_R3 hG0 hA.1.1 hA.1.2
  obtain ⟨uC, -, muC, ruC⟩ := g_9_R2 hG0 msg rsg
  obtain ⟨oC, -, moC, roC⟩ := g_9_R3 hG0 msg rsg
  obtain ⟨wr, -, mwr, rwr⟩ := g_0_R7 hG0 hA.1.1 hA.1.2
  obtain ⟨pA, -, mpA, rpA⟩ := g_38_R7 hG0 mwr rwr
  obtain ⟨us, -, mus, rus⟩ := g_45_R9 hG0 hm.1 hm.2
  obtain ⟨⟨⟨tl, tg, ws⟩, w6, w0⟩, wc⟩ := hR.2 sg uC oC pA us ⟨msg, rsg⟩ ⟨muC, ruC⟩ ⟨moC, roC⟩ ⟨mpA, rpA⟩ ⟨mus, rus⟩
  obtain ⟨r, T, e, g, p0, c1, c2⟩ := c_write (n := n) hn hI hA hR.1.1 ⟨msg, rsg⟩ ⟨muC, ruC⟩ ⟨mpA, rpA⟩ ws w0
  have hRT : v_Rw ρ L wo ce tb en ab m fF fT fS fB fL T := by
    refine ⟨v_RsU hI hA g (by decide) hR.1, fun sg2 uC2 oC2 pA2 us2 hs hu ho hp hus => ?_⟩
    have e1 : pA2 = pA := q_one hG0 hp.1 hp.2 mpA rpA rfl
    subst e1
    obtain ⟨a, b⟩ := hR.2 sg2 uC2 oC2 pA2 us2 hs hu ho hp hus
    exact ⟨v_waU hI g hA hs (by decide) (by decide) p0 a, v_wcU hI g hA hs hu ho hus (by decide) (by decide) (by decide) (by decide) (by decide) b⟩
  obtain ⟨r2, T2, e2, g2, d1, d2⟩ := r_write (n := n) (us := us) hn g.1 hA hRT.1.1 ⟨mus, rus⟩
  refine ⟨r, T, e, g.1, r2, T2, e2, g2.1, v_RwU g.1 hA g2 (by decide) hRT, ?_⟩
  obtain ⟨z1, -, -, z4, z5, z6⟩ := z_un hI g hA (by decide)
  obtain ⟨-, -, -, st⟩ := s_un (a := us) hI g hA (by decide) (fun k => q_unIA g mus rus (by decide) (by decide))
  have eok : s_ok T m fL ↔ s_ok S m fL := by unfold s_ok; rw [z4, z4, z4, z4, z6]
  rw [eok, z1, z4, st] at d1 d2
  rw [w6] at c1 c2
  by_cases g1 : s_ok S m fL
  · have es : s_tot S m fF fB fL uC = s_tot S m fF fB fL us := s_tot_cg (wc g1.2.2.2.2).2.2
    rw [es] at c1 c2
    by_cases g2 : s_ok S m fL ∧ z_tw S m fF fB fL (q_fd S m 1835104368).toInt 4 ≤ 200 ∧ s_tot S m fF fB fL us ≤ 2400
    · exact Int32.toInt_inj.mp (by rw [c1 g2, d1 g2])
    · rw [c2 g2, d2 g2]
  · rw [c2 (fun h => g1 h.1), d2 (fun h => g1 h.1)]
end QWT
