/-! VALUES: what both sides have alike, with the number of SIGNS -/
def v_Rs (ρ : Nat → Nat) (L : List Nat) (wo ce tb en ab m fF fT fS fB fL : Nat) (S : q_S) : Prop := v_Rl wo ce tb en ab m fF fT fS fB fL S ∧ ∀ sg, sg ∈ L → ρ sg = 9 → (q_I S sg 5).toInt = v_sg S m fF fB fL
def v_frs (M9 : List Nat) : Bool := v_fr9 M9 && !M9.contains 581
section QVH
variable {ρ : Nat → Nat} {L M9 : List Nat} {n : Nat} {S S0 T : q_S} {x wo ce tb en ab m fF fT fS fB fL : Nat}
theorem v_RsU (hI : q_Inv ρ L S) (hA : v_Ad ρ L x wo ce tb en ab m fF fT fS fB fL) (g : q_G ρ L M9 S T) (h : v_frs M9 = true) (hR : v_Rs ρ L wo ce tb en ab m fF fT fS fB fL S) : v_Rs ρ L wo ce tb en ab m fF fT fS fB fL T := by
  unfold v_frs at h
  rw [Bool.and_eq_true] at h
  have h2 : M9.contains 581 = false := by
    cases h3 : M9.contains 581 with
    | false => rfl
    | true => rw [h3] at h; cases h.2
  obtain ⟨u1, -, -, u4, -, -⟩ := z_un hI g hA h.1
  refine ⟨v_RlU hA g h.1 hR.1, fun sg ms rs => ?_⟩
  rw [q_unI (k := 5) g ms rs h2, hR.2 sg ms rs]
  unfold v_sg
  rw [u1, u4]
theorem v_readC2 (hn : 18446744073709551616 ≤ n) (hI : q_Inv ρ L S) (hx : x ∈ L ∧ ρ x = 0) (hw : wo ∈ L ∧ ρ wo = 1) (hc : ce ∈ L ∧ ρ ce = 2) (ht : tb ∈ L ∧ ρ tb = 6) (he : en ∈ L ∧ ρ en = 7) (hab : ab ∈ L ∧ ρ ab = 8) (hd : v_di S en ab) (h5 : q_I S ab 3 = 0) (h6 : q_I S ab 4 = 0) (h7 : q_R S tb 2 = some ab) : q_ok (m_X11_read n S x) (fun r T => ∀ sg, sg ∈ L → ρ sg = 9 → ∃ t, (t ∈ L ∧ ρ t = 8) ∧ v_isc T tb en 1835104368 t ∧ (q_I T sg 5).toInt = v_cl2 (v_tw (q_I T ce) (q_I T t 3).toInt (q_I T t 4).toInt 4)) := by
  have hG0 : q_G ρ L M_X11_read_0 S S := q_G_refl hI
  have y0 : (0 : Int32).toInt = 0 := rfl
  unfold m_X11_read
  rw [q_at_pos (k_x hI hx)]
  refine q_ok_at hG0 (g_0_R1 hG0 hx.1 hx.2) rfl (fun tl mtl rtl etl => ?_)
  refine q_ok_b (s_X9_clear_3 hn hI mtl rtl) (fun _ T1 g1 => ?_)
  have hG1 := q_G_call hG0 g1 (by decide)
  rw [q_at_pos (k_x g1.1 hx), v_x2 g1.1 hx ht, q_at_pos (k_t g1.1 ht)]
  have ec : q_I T1 ce = q_I S ce := funext fun k => q_unIA g1 hc.1 hc.2 (by decide) (by decide)
  have ew : q_I T1 wo 1 = q_I S wo 1 := q_unI g1 hw.1 hw.2 (by decide)
  refine q_ok_b (v_load hn g1.1 hw hc ht he hab (v_di_un g1 he (by decide) hd)) (fun r2 T2 hT2 => ?_)
  obtain ⟨g2, ea, k1, k2⟩ := hT2
  rw [ec, ew] at k1 k2
  have hG2 := q_G_call hG1 g2 (by decide)
  rw [q_at_pos (k_x g2.1 hx), v_x2 g2.1 hx ht, q_at_pos (k_t g2.1 ht)]
  refine q_ok_b (s_X8_tellWrongSums_6_3 hn g2.1 ht.1 ht.2 (g_0_R1 hG2 hx.1 hx.2)) (fun _ T3 g3 => ?_)
  have hG3 := q_G_call hG2 g3 (by decide)
  rw [q_at_pos (k_x g3.1 hx)]
  refine q_ok_at hG3 (g_0_R3 hG3 hx.1 hx.2) rfl (fun sg msg rsg esg => ?_)
  refine q_ok_b (v_sgl hn g3.1 ⟨msg, rsg⟩ ht he) (fun _ T4 hT4 => ?_)
  obtain ⟨g4, t, r, h8, hi, er, hv⟩ := hT4
  have hG4 := q_G_call hG3 g4 (by decide)
  rw [q_at_pos (k_x g4.1 hx)]
  refine q_ok_at hG4 (g_0_R5 hG4 hx.1 hx.2) rfl (fun sh msh rsh esh => ?_)
  refine q_ok_b (s_X5_survey_14 hn g4.1 msh rsh) (fun _ T5 g5 => ?_)
  refine q_ok_some (fun sg2 ms2 rs2 => ?_)
  have e2 : sg2 = sg := q_one hG4 ms2 rs2 msg rsg rfl
  subst e2
  have hs2 := g_6_I3 hG2 ht.1 ht.2
  have e3 : q_I T3 tb 3 = q_I T2 tb 3 := q_unI g3 ht.1 ht.2 (by decide)
  have ew3 : q_I T3 wo 1 = q_I S wo 1 := by rw [q_unI g3 hw.1 hw.2 (by decide), q_unI g2 hw.1 hw.2 (by decide), ew]
  have hz : (q_I T3 t 3).toInt + (q_I T3 t 4).toInt ≤ (q_I T3 wo 1).toInt := by
    by_cases g : 0 ≤ (q_fdl (c_tag T3 en) 1835104368 (q_I T3 tb 3).toInt.toNat 0).toInt ∧ (q_fdl (c_tag T3 en) 1835104368 (q_I T3 tb 3).toInt.toNat 0).toInt < (q_I T3 tb 3).toInt
    · have et := hi.1 g
      obtain ⟨k3, k4⟩ := k2 (q_fdl (c_tag T3 en) 1835104368 (q_I T3 tb 3).toInt.toNat 0).toInt.toNat (by rw [e3] at g ⊢; omega)
      have k3 := v_en_un g3 he (by rw [e3] at g ⊢; omega) (by decide) (by decide) (by decide) (by decide) (by decide) k3
      obtain ⟨-, -, n3, n4⟩ := k3 t et
      rw [n3, n4, ew3]
      exact k4.2
    · have et := hi.2 g
      have e9 : q_R T3 tb 2 = some ab := by rw [q_unR g3 ht.1 ht.2 (by decide), q_unR g2 ht.1 ht.2 (by decide), q_unR g1 ht.1 ht.2 (by decide), h7]
      rw [e9] at et
      cases et
      have a3 : q_I T3 ab 3 = 0 := by rw [q_unI g3 hab.1 hab.2 (by decide), ea, q_unI g1 hab.1 hab.2 (by decide), h5]
      have a4 : q_I T3 ab 4 = 0 := by rw [q_unI g3 hab.1 hab.2 (by decide), ea, q_unI g1 hab.1 hab.2 (by decide), h6]
      have hs := g_1_I1 hG3 hw.1 hw.2
      rw [a3, a4]
      show (0 : Int) + 0 ≤ _
      omega
  obtain ⟨r9, er9, vr9⟩ := v_ttwo (n := n) (i := 4) g3.1 hw hc h8 hz (by decide)
  rw [er] at er9
  cases er9
  have ec3 : q_I T5 ce = q_I T3 ce := funext fun k => by rw [q_unIA g5 hc.1 hc.2 (by decide) (by decide), q_unIA g4 hc.1 hc.2 (by decide) (by decide)]
  have f3 : q_I T5 t 3 = q_I T3 t 3 := by rw [q_unI g5 h8.1 h8.2 (by decide), q_unI g4 h8.1 h8.2 (by decide)]
  have f4 : q_I T5 t 4 = q_I T3 t 4 := by rw [q_unI g5 h8.1 h8.2 (by decide), q_unI g4 h8.1 h8.2 (by decide)]
  refine ⟨t, h8, v_isc_un g4.1 g5 ht he (by decide) (v_isc_un g3.1 g4 ht he (by decide) hi), ?_⟩
  rw [q_unI g5 msg rsg (by decide), hv, vr9, ec3, f3, f4]
  rfl
theorem ys_read (hn : 18446744073709551616 ≤ n) (hI : q_Inv ρ L S) (hA : v_Ad ρ L x wo ce tb en ab m fF fT fS fB fL) (hR : v_Rs ρ L wo ce tb en ab m fF fT fS fB fL S) : q_ok (m_X11_read n S x) (fun r T => q_Inv ρ L T ∧ q_ok (m_X12_read n T m) (fun r2 T2 => q_Inv ρ L T2 ∧ v_Rs ρ L wo ce tb en ab m fF fT fS fB fL T2 ∧ r = r2 ∧ q_G ρ L (M_X11_read_0 ++ M_X12_read_45) S T2)) := by
  obtain ⟨r, T, e, hI1, r2, T2, e2, hI2, hR2, hr, hG⟩ := v_readR hn hI hA hR.1
  obtain ⟨-, -, -, -, h5, h6, h7, h8⟩ := hR.1
  obtain ⟨r9, T9, e9, hs⟩ := v_readC2 hn hI hA.1 hA.2.1 hA.2.2.1 hA.2.2.2.1 hA.2.2.2.2.1 hA.2.2.2.2.2.1 h7 h5 h6 h8
  rw [e] at e9
  cases e9
  obtain ⟨r3, T3, e3, g3, -⟩ := s_X12_read_45 hn hI1 hA.2.2.2.2.2.2.1.1 hA.2.2.2.2.2.2.1.2
  rw [e2] at e3
  cases e3
  refine ⟨r, T, e, hI1, r2, T2, e2, hI2, ⟨hR2, fun sg ms rs => ?_⟩, hr, hG⟩
  obtain ⟨t, h8t, hi, hv⟩ := hs sg ms rs
  have hi2 := v_isc_un hI1 g3 hA.2.2.2.1 hA.2.2.2.2.1 (by decide) hi
  obtain ⟨-, k1, k2, k3⟩ := v_isc_is hI2 hA hR2 h8t hi2
  have ec : q_I T2 ce = q_I T ce := funext fun k => q_unIA g3 hA.2.2.1.1 hA.2.2.1.2 (by decide) (by decide)
  have f3 : q_I T2 t 3 = q_I T t 3 := q_unI g3 h8t.1 h8t.2 (by decide)
  have f4 : q_I T2 t 4 = q_I T t 4 := q_unI g3 h8t.1 h8t.2 (by decide)
  have b3 := g_8_I3 (q_G_refl (m := []) hI2) h8t.1 h8t.2
  rw [q_unI g3 ms rs (by decide), hv, ← ec, ← f3, ← f4, v_tw_cg hR2.2.1 b3.1 (by rw [← hR2.1]; exact k3), k1, k2]
  rfl
theorem ys_add (hn : 18446744073709551616 ≤ n) (hI : q_Inv ρ L S) (hA : v_Ad ρ L x wo ce tb en ab m fF fT fS fB fL) (hR : v_Rs ρ L wo ce tb en ab m fF fT fS fB fL S) {w : Int64} {p : Int32} : q_ok (m_X11_add n S x w p) (fun r T => q_Inv ρ L T ∧ q_ok (m_X12_add n T m w p) (fun r2 T2 => q_Inv ρ L T2 ∧ v_Rs ρ L wo ce tb en ab m fF fT fS fB fL T2 ∧ r = r2 ∧ q_G ρ L (M_X11_add_0 ++ M_X12_add_45) S T2)) := by
  obtain ⟨r, T, e, hI1, r2, T2, e2, hI2, hR2, hr, hG, hb, hsz⟩ := v_addR (w := w) (p := p) hn hI hA hR.1
  refine ⟨r, T, e, hI1, r2, T2, e2, hI2, ⟨hR2, fun sg ms rs => ?_⟩, hr, hG⟩
  obtain ⟨hx, hw, hc, ht, he, hab, hm, hF, hT, hS, hB, hL⟩ := hA
  rw [q_unI hG ms rs (by decide), hR.2 sg ms rs]
  have e3 : q_I T2 m 3 = q_I S m 3 := q_unI hG hm.1 hm.2 (by decide)
  have f1 : q_J T2 fT = q_J S fT := funext fun k => q_unJA hG hT.1 hT.2 (by decide) (by decide)
  have f3 : ∀ k, q_I T2 fB k = q_I S fB k := fun k => q_unIA hG hB.1 hB.2 (by decide) (by decide)
  have f4 : ∀ k, q_I T2 fL k = q_I S fL k := fun k => q_unIA hG hL.1 hL.2 (by decide) (by decide)
  have ef : q_fd T2 m 1835104368 = q_fd S m 1835104368 := by rw [v_fdE hI2 hm hT, v_fdE hI hm hT, e3, f1]
  unfold v_sg z_tw
  rw [ef]
  have es : ∀ p, v_st T2 m fB p = v_st S m fB p := fun p => by unfold v_st; rw [e3, f3]
  have el : ∀ p, v_len T2 m fL p = v_len S m fL p := fun p => by unfold v_len; rw [e3, f4]
  rw [es, el]
  have b := g_49_E (q_G_refl (m := []) hI) hB.1 hB.2 (k := (q_fd S m 1835104368).toInt.toNat)
  have hz := g_45_I2 (q_G_refl (m := []) hI) hm.1 hm.2
  have hst : 0 ≤ v_st S m fB (q_fd S m 1835104368).toInt ∧ v_st S m fB (q_fd S m 1835104368).toInt + v_len S m fL (q_fd S m 1835104368).toInt ≤ (q_I S m 2).toInt := by
    unfold v_st v_len
    by_cases g : 0 ≤ (q_fd S m 1835104368).toInt ∧ (q_fd S m 1835104368).toInt < (q_I S m 3).toInt
    · rw [if_pos g, if_pos g]
      exact ⟨b.1, (hR.1.2.2.2.1 _ (by omega)).2⟩
    · rw [if_neg g, if_neg g]
      omega
  rw [v_tw_cg (f := q_I T2 fF) (g := q_I S fF) hb hst.1 hst.2]
theorem v_Rs0 (hA : v_Ad ρ L x wo ce tb en ab m fF fT fS fB fL) (hI : q_Inv ρ L S) (h00 : ∀ a, a ∈ L → ∀ k, q_I S a k = 0) (hR : v_Rl wo ce tb en ab m fF fT fS fB fL S) : v_Rs ρ L wo ce tb en ab m fF fT fS fB fL S := by
  refine ⟨hR, fun sg ms rs => ?_⟩
  obtain ⟨hx, hw, hc, ht, he, hab, hm, hF, hT, hS, hB, hL⟩ := hA
  rw [h00 sg ms]
  have e3 : (q_I S m 3).toInt = 0 := by rw [h00 m hm.1]; rfl
  unfold v_sg z_tw v_tw v_len
  rw [e3, if_neg (fun h : 0 ≤ (q_fd S m 1835104368).toInt ∧ (q_fd S m 1835104368).toInt < 0 => by omega), if_neg (by decide)]
  rfl
/-! the reference's signs(), isSign() -/
theorem v_sgnM (hn : 18446744073709551616 ≤ n) (hI : q_Inv ρ L S) (hA : v_Ad ρ L x wo ce tb en ab m fF fT fS fB fL) {b : Int32} (hb : b = 0 ∨ b = 1) : ∃ r c : Int32, (c = 0 ∨ c = 1) ∧ m_X12_signs n (q_sI S m 8 b) m = some (r, q_sI S m 8 c) ∧ r.toInt = v_sg S m fF fB fL := by
  have hm := hA.2.2.2.2.2.2.1
  have hF := hA.2.2.2.2.2.2.2.1
  have y200 : (200 : Int32).toInt = 200 := rfl
  have kq : ∀ c : Int32, c = 0 ∨ c = 1 → q_G ρ L [2880, 2888] S (q_sI S m 8 c) := fun c hc => v_m8 hI hm (b := c) (by rcases hc with e | e <;> rw [e] <;> decide)
  have w4 := (z_un hI (kq 0 (Or.inl rfl)) hA (by decide)).2.2.2.1
  have hfd := v_fdR (tag := 1835104368) hI hm hA.2.2.2.2.2.2.2.2.1
  obtain ⟨r, c, d, a, f, k⟩ := v_twQ (p := q_fd S m 1835104368) (b := 0) (i := 4) hn hI hA (Or.inl rfl) hfd (by decide)
  have bz := z_tw_b (m := m) (fB := fB) (fL := fL) (p := (q_fd S m 1835104368).toInt) (i := (4 : Int64).toInt) hI hF
  have y4 : (4 : Int64).toInt = 4 := rfl
  rw [y4] at f k bz
  unfold m_X12_signs m_X12_signs_45 v_sg v_cl2
  rw [q_at_pos (k_m (kq b hb).1 hm), q_if_pos (Or.inl rfl), q_sI2, v_fdM hn (kq 0 (Or.inl rfl)).1 hm ⟨by decide, by decide⟩, q_b_some, w4, q_at_pos (k_m (kq 0 (Or.inl rfl)).1 hm), a, q_b_some, q_at_pos (k_m (kq c d).1 hm), q_hitI]
  by_cases g : z_tw S m fF fB fL (q_fd S m 1835104368).toInt 4 < 0
  · obtain ⟨-, ec⟩ := k g
    subst ec
    rw [if_neg (by decide), if_pos g]
    exact ⟨0, 1, d, rfl, rfl⟩
  · obtain ⟨hv, ec⟩ := f (by omega)
    subst ec
    rw [if_pos rfl, if_neg g]
    by_cases g2 : z_tw S m fF fB fL (q_fd S m 1835104368).toInt 4 ≤ 200
    · rw [if_pos (i_le.mpr (by rw [hv, y200]; exact g2)), if_pos g2]
      exact ⟨r, 0, d, rfl, hv⟩
    · rw [if_neg (fun h => g2 (by have := i_le.mp h; rw [hv, y200] at this; exact this)), if_neg g2]
      exact ⟨200, 0, d, rfl, rfl⟩
theorem v_sg_b : 0 ≤ v_sg S m fF fB fL ∧ v_sg S m fF fB fL ≤ 200 := by
  unfold v_sg v_cl2
  split
  · omega
  · split <;> omega
theorem v_isS (hn : 18446744073709551616 ≤ n) (hI : q_Inv ρ L S) (hA : v_Ad ρ L x wo ce tb en ab m fF fT fS fB fL) {b p : Int32} (hb : b = 0 ∨ b = 1) : ∃ c : Int32, (c = 0 ∨ c = 1) ∧ m_X12_isSign n (q_sI S m 8 b) m p = some (if 0 ≤ p.toInt ∧ p.toInt < v_sg S m fF fB fL then 1 else 0, q_sI S m 8 c) := by
  have hm := hA.2.2.2.2.2.2.1
  have kq : ∀ c : Int32, c = 0 ∨ c = 1 → q_G ρ L [2880, 2888] S (q_sI S m 8 c) := fun c hc => v_m8 hI hm (b := c) (by rcases hc with e | e <;> rw [e] <;> decide)
  obtain ⟨r, c, d, a, hv⟩ := v_sgnM hn hI hA hb
  have hb2 := v_sg_b (S := S) (m := m) (fF := fF) (fB := fB) (fL := fL)
  have y1 : (1 : Int32).toInt = 1 := rfl
  have y0 : (0 : Int64).toInt = 0 := rfl
  have e1 : (r - (1 : Int32)).toInt64.toInt = v_sg S m fF fB fL - 1 := by rw [q_wil, q_subI (by rw [y1]; omega) (by rw [y1]; omega), y1, hv]
  refine ⟨c, d, ?_⟩
  unfold m_X12_isSign
  rw [q_at_pos (k_m (kq b hb).1 hm), a, q_b_some, v_in, q_b_some, q_wil, e1, y0]
  by_cases g : 0 ≤ p.toInt ∧ p.toInt < v_sg S m fF fB fL
  · have g2 : 0 ≤ p.toInt ∧ p.toInt ≤ v_sg S m fF fB fL - 1 := by omega
    rw [if_pos g, if_pos g2, q_if_pos (Or.inr rfl)]
  · have g2 : ¬ (0 ≤ p.toInt ∧ p.toInt ≤ v_sg S m fF fB fL - 1) := by omega
    rw [if_neg g, if_neg g2, q_if_pos (Or.inl rfl)]
theorem v_hasS (hI : q_Inv ρ L S) {sg : Nat} (hs : sg ∈ L ∧ ρ sg = 9) {p : Int32} {k : Int} (h3 : (q_I S sg 5).toInt = k) : m_X6_has n S sg p = some (if 0 ≤ p.toInt ∧ p.toInt < k then 1 else 0, S) := by
  have z0 : (0 : Int32).toInt = 0 := rfl
  subst h3
  unfold m_X6_has m_X6_has_16 m_X6_has_17
  by_cases g : p.toInt < 0
  · rw [if_pos (i_lt.mpr (by rw [z0]; exact g)), q_if_pos (Or.inl rfl), if_neg (fun h => by omega)]
  rw [if_neg (fun h => g (by have := i_lt.mp h; rw [z0] at this; exact this)), q_at_pos (v_at (c := 7) hI hs rfl)]
  by_cases g2 : (q_I S sg 5).toInt ≤ p.toInt
  · rw [if_pos (i_le.mpr g2), q_if_pos (Or.inl rfl), if_neg (fun h => by omega)]
  · rw [if_neg (fun h => g2 (i_le.mp h)), q_if_pos (Or.inr rfl), if_pos ⟨by omega, by omega⟩]
end QVH
