/-! VALUES: how many SIGNS there are -/
def c_tag (S : q_S) (en u : Nat) : Int64 := match q_R S en u with
  | some t => q_J S t 1
  | none => 0
/-- the first TABLE of a TAG, by the rows of the one side alone -/
def v_isc (S : q_S) (tb en : Nat) (tag : Int64) (t : Nat) : Prop := (0 ≤ (q_fdl (c_tag S en) tag (q_I S tb 3).toInt.toNat 0).toInt ∧ (q_fdl (c_tag S en) tag (q_I S tb 3).toInt.toNat 0).toInt < (q_I S tb 3).toInt → q_R S en (q_fdl (c_tag S en) tag (q_I S tb 3).toInt.toNat 0).toInt.toNat = some t) ∧ (¬ (0 ≤ (q_fdl (c_tag S en) tag (q_I S tb 3).toInt.toNat 0).toInt ∧ (q_fdl (c_tag S en) tag (q_I S tb 3).toInt.toNat 0).toInt < (q_I S tb 3).toInt) → q_R S tb 2 = some t)
theorem v_fdl_cg {f g : Nat → Int64} {t : Int64} : ∀ (j i : Nat), (∀ u, i ≤ u → u < i + j → f u = g u) → q_fdl f t j i = q_fdl g t j i
  | 0, i, h => rfl
  | j + 1, i, h => by
    rw [q_fdl, q_fdl, h i (Nat.le_refl _) (by omega), v_fdl_cg j (i + 1) (fun u h1 h2 => h u (by omega) (by omega))]
def v_cl2 (z : Int) : Int := if z < 0 then 0 else if z ≤ 200 then z else 200
/-- how many SIGNS, by the reference -/
def v_sg (S : q_S) (m fF fB fL : Nat) : Int := v_cl2 (z_tw S m fF fB fL (q_fd S m 1835104368).toInt 4)
def v_frc (M9 : List Nat) : Bool := [386, 387, 448, 513, 515, 516].all (fun z => !M9.contains z)
theorem v_frcE {M9 : List Nat} (h : v_frc M9 = true) {z : Nat} (hz : [386, 387, 448, 513, 515, 516].contains z = true) : M9.contains z = false := by
  have h1 := List.all_eq_true.mp h z (List.contains_iff_mem.mp hz)
  cases h2 : M9.contains z with
  | false => rfl
  | true => rw [h2] at h1; cases h1
section QVG
variable {ρ : Nat → Nat} {L M9 : List Nat} {n : Nat} {S S0 T : q_S} {x wo ce tb en ab m fF fT fS fB fL t : Nat} {tag : Int64}
theorem v_ixc (hI : q_Inv ρ L S) (ht : tb ∈ L ∧ ρ tb = 6) (he : en ∈ L ∧ ρ en = 7) : ∀ (j k i : Nat) (l3 : Int32), l3.toInt = i → j = ((q_I S tb 3).toInt - i).toNat → j < k → m_X8_indexOf_2 n k S (some tb) tag l3 = some (q_fdl (c_tag S en) tag j i, S) := by
  have hG : q_G ρ L [] S S := q_G_refl hI
  have h3 := g_6_I3 hG ht.1 ht.2
  intro j
  induction j with
  | zero =>
    intro k i l3 e1 e2 hk
    obtain ⟨k, rfl⟩ : ∃ k', k = k' + 1 := ⟨k - 1, by omega⟩
    rw [m_X8_indexOf_2, q_at_pos (k_t hI ht), if_pos (i_le.mpr (by omega))]
    rfl
  | succ j ih =>
    intro k i l3 e1 e2 hk
    obtain ⟨k, rfl⟩ : ∃ k', k = k' + 1 := ⟨k - 1, by omega⟩
    obtain ⟨t, et, mt_, rt⟩ := g_7_RE hG he.1 he.2 (k := i) (by omega)
    have er : q_J S t 1 = c_tag S en i := by unfold c_tag; rw [et]
    have ec : (l3).toNatClampNeg = i := by rw [v_cl e1]; rfl
    rw [m_X8_indexOf_2, q_at_pos (k_t hI ht), if_neg (fun h => by have := i_le.mp h; omega), v_t1 hI ht he, q_at_pos (k_e hI he), q_if_pos (q_inI (g_7_N hG he.1 he.2) (by omega) (by omega)), ec, et, q_at_pos (k_8 hI ⟨mt_, rt⟩), er, q_fdl]
    have z1 : (1 : Int32).toInt = 1 := rfl
    by_cases g : c_tag S en i = tag
    · rw [if_pos g, if_pos (c_eq.mpr (by rw [g]))]
      have : l3 = Int32.ofNat i := Int32.toInt_inj.mp (by rw [e1, q_ofN (by omega)])
      rw [this]
    · rw [if_neg g, if_neg (fun h => g (Int64.toInt_inj.mp (c_eq.mp h)))]
      exact ih k (i + 1) (l3 + 1) (by rw [q_addI (by rw [z1]; omega) (by rw [z1]; omega), z1, e1]; rfl) (by omega) (by omega)
theorem v_firstc (hn : 18446744073709551616 ≤ n) (hI : q_Inv ρ L S) (ht : tb ∈ L ∧ ρ tb = 6) (he : en ∈ L ∧ ρ en = 7) : ∃ t, m_X8_first n S tb tag = some (t, S) ∧ (t ∈ L ∧ ρ t = 8) ∧ v_isc S tb en tag t := by
  have hG : q_G ρ L [] S S := q_G_refl hI
  have h3 := g_6_I3 hG ht.1 ht.2
  have ei : m_X8_indexOf n S tb tag = some (q_fdl (c_tag S en) tag (q_I S tb 3).toInt.toNat 0, S) := by
    unfold m_X8_indexOf
    exact v_ixc hI ht he (q_I S tb 3).toInt.toNat n 0 0 rfl (by omega) (by omega)
  have hr : m_X8_has n S tb (q_fdl (c_tag S en) tag (q_I S tb 3).toInt.toNat 0) = some (if 0 ≤ (q_fdl (c_tag S en) tag (q_I S tb 3).toInt.toNat 0).toInt ∧ (q_fdl (c_tag S en) tag (q_I S tb 3).toInt.toNat 0).toInt < (q_I S tb 3).toInt then 1 else 0, S) := by
    generalize q_fdl (c_tag S en) tag (q_I S tb 3).toInt.toNat 0 = p
    have z0 : (0 : Int32).toInt = 0 := rfl
    unfold m_X8_has m_X8_has_16 m_X8_has_17
    by_cases g : p.toInt < 0
    · rw [if_pos (i_lt.mpr (by rw [z0]; exact g)), q_if_pos (Or.inl rfl), if_neg (fun h => by omega)]
    rw [if_neg (fun h => g (by have := i_lt.mp h; rw [z0] at this; exact this)), q_at_pos (k_t hI ht)]
    by_cases g2 : (q_I S tb 3).toInt ≤ p.toInt
    · rw [if_pos (i_le.mpr g2), q_if_pos (Or.inl rfl), if_neg (fun h => by omega)]
    · rw [if_neg (fun h => g2 (i_le.mp h)), q_if_pos (Or.inr rfl), if_pos ⟨by omega, by omega⟩]
  unfold m_X8_first m_X8_get m_X8_get_21 v_isc
  rw [q_at_pos (k_t hI ht), ei, q_b_some, q_at_pos (k_t hI ht), q_at_pos (k_t hI ht), hr, q_b_some]
  generalize q_fdl (c_tag S en) tag (q_I S tb 3).toInt.toNat 0 = p
  by_cases g : 0 ≤ p.toInt ∧ p.toInt < (q_I S tb 3).toInt
  · obtain ⟨t, et, mt_, rt⟩ := g_7_RE hG he.1 he.2 (k := p.toInt.toNat) (by omega)
    rw [if_pos g, if_neg (by decide), q_at_pos (k_t hI ht), v_t1 hI ht he, q_at_pos (k_e hI he), q_if_pos (q_inI (g_7_N hG he.1 he.2) (by omega) (by omega)), v_cl (i := p) rfl, et, q_at_pos (k_8 hI ⟨mt_, rt⟩), q_b_some, q_at_pos (k_8 hI ⟨mt_, rt⟩)]
    exact ⟨t, rfl, ⟨mt_, rt⟩, fun _ => rfl, fun h => absurd g h⟩
  · obtain ⟨t, et, mt_, rt⟩ := g_6_R2 hG ht.1 ht.2
    rw [if_neg g, if_pos rfl, q_at_pos (k_t hI ht), et, q_at_pos (k_8 hI ⟨mt_, rt⟩), q_b_some, q_at_pos (k_8 hI ⟨mt_, rt⟩)]
    exact ⟨t, rfl, ⟨mt_, rt⟩, fun h => absurd h g, fun _ => rfl⟩
theorem v_isc_is (hI : q_Inv ρ L S) (hA : v_Ad ρ L x wo ce tb en ab m fF fT fS fB fL) (hR : v_Rl wo ce tb en ab m fF fT fS fB fL S) (h8 : t ∈ L ∧ ρ t = 8) (h : v_isc S tb en tag t) : v_is ρ L wo m fB fL S t (q_fd S m tag).toInt := by
  obtain ⟨hx, hw, hc, ht, he, hab, hm, hF, hT, hS, hB, hL⟩ := hA
  have hG : q_G ρ L [] S S := q_G_refl hI
  have h3 := g_45_I3 hG hm.1 hm.2
  have hsz := g_45_I2 hG hm.1 hm.2
  obtain ⟨r1, r2, r3, r4, r5, r6, r7, r8⟩ := hR
  have ep : q_fdl (c_tag S en) tag (q_I S tb 3).toInt.toNat 0 = q_fd S m tag := by
    rw [v_fdE hI hm hT, r3]
    refine v_fdl_cg _ _ (fun u _ hu => ?_)
    obtain ⟨a, ea, ma, ra⟩ := g_7_RE hG he.1 he.2 (k := u) (by omega)
    unfold c_tag
    rw [ea]
    exact ((r4 u (by omega)).1 a ea).1
  unfold v_isc at h
  rw [ep, r3] at h
  refine ⟨h8, ?_⟩
  rw [r1]
  unfold v_st v_len
  by_cases g : 0 ≤ (q_fd S m tag).toInt ∧ (q_fd S m tag).toInt < (q_I S m 3).toInt
  · obtain ⟨k1, k2⟩ := r4 (q_fd S m tag).toInt.toNat (by omega)
    obtain ⟨-, -, k3, k4⟩ := k1 t (h.1 g)
    rw [if_pos g, if_pos g, k3, k4]
    exact ⟨rfl, rfl, k2⟩
  · have e := h.2 g
    rw [r8] at e
    cases e
    rw [if_neg g, if_neg g, r5, r6]
    exact ⟨rfl, rfl, by show (0 : Int) + 0 ≤ _; omega⟩
theorem v_isc_un (hI : q_Inv ρ L S) (g : q_G ρ L M9 S T) (ht : tb ∈ L ∧ ρ tb = 6) (he : en ∈ L ∧ ρ en = 7) (hf : v_frc M9 = true) (h : v_isc S tb en tag t) : v_isc T tb en tag t := by
  have h3 := g_6_I3 (q_G_refl (m := []) hI) ht.1 ht.2
  have e3 : q_I T tb 3 = q_I S tb 3 := q_unI (k := 3) g ht.1 ht.2 (v_frcE hf (z := 387) (by decide))
  have e2 : q_R T tb 2 = q_R S tb 2 := q_unR (k := 2) g ht.1 ht.2 (v_frcE hf (z := 386) (by decide))
  have er : ∀ k, q_R T en k = q_R S en k := fun k => q_unRA g he.1 he.2 (by decide) (v_frcE hf (z := 448) (by decide))
  have ep : q_fdl (c_tag T en) tag (q_I S tb 3).toInt.toNat 0 = q_fdl (c_tag S en) tag (q_I S tb 3).toInt.toNat 0 := v_fdl_cg _ _ (fun u _ hu => by
    obtain ⟨a, ea, ma, ra⟩ := g_7_RE (q_G_refl (m := []) hI) he.1 he.2 (k := u) (by omega)
    unfold c_tag
    rw [er, ea]
    exact q_unJ (k := 1) g ma ra (v_frcE hf (z := 513) (by decide)))
  unfold v_isc at *
  rw [e3, ep, er, e2]
  exact h
theorem v_sgl (hn : 18446744073709551616 ≤ n) (hI : q_Inv ρ L S) {sg : Nat} (hs : sg ∈ L ∧ ρ sg = 9) (ht : tb ∈ L ∧ ρ tb = 6) (he : en ∈ L ∧ ρ en = 7) : q_ok (m_X6_load n S sg) (fun _ T => q_G ρ L M_X6_load_9 S T ∧ ∃ (t : Nat) (r : Int32), (t ∈ L ∧ ρ t = 8) ∧ v_isc S tb en 1835104368 t ∧ m_X7_two n S t 4 = some (r, S) ∧ (q_I T sg 5).toInt = v_cl2 r.toInt) := by
  have hG0 : q_G ρ L M_X6_load_9 S S := q_G_refl hI
  have y0 : (0 : Int32).toInt = 0 := rfl
  have y1 : (1 : Int32).toInt = 1 := rfl
  have y200 : (200 : Int32).toInt = 200 := rfl
  have lk : ∀ U : q_S, q_Inv ρ L U → q_R U sg 0 = some tb := fun U hU => v_ln hU (g_9_R0 (q_G_refl (m := []) hU) hs.1 hs.2) ht rfl
  have k9 : ∀ U : q_S, q_Inv ρ L U → sg ∈ q_L U ∧ q_K U sg = 7 := fun U hU => v_at hU hs rfl
  obtain ⟨t, et, h8, hi⟩ := v_firstc (n := n) (tag := 1835104368) hn hI ht he
  obtain ⟨r7, T7, e7, eT7, b7⟩ := s_X7_two_8 hn hI h8.1 h8.2 (p0 := 4) ⟨by decide, by decide⟩
  subst eT7
  obtain ⟨r10, T10, e10, eT10, c1, c2, c3⟩ := s_J9_min_7cf53 n T7 200 r7
  subst eT10
  obtain ⟨r13, T13, e13, eT13, d1, d2, d3⟩ := s_J9_max_7cf53 n T10 0 r10
  subst eT13
  have v13 : r13.toInt = v_cl2 r7.toInt := by
    rw [y200] at c1 c2
    rw [y0] at d1 d2
    unfold v_cl2
    split
    · omega
    · split <;> omega
  have hb13 : 0 ≤ r13.toInt ∧ r13.toInt ≤ 200 := by
    rw [v13]; unfold v_cl2; split
    · omega
    · split <;> omega
  have hG1 := u_9_I5 (x := r13) hG0 hs.1 hs.2 (by decide) hb13
  -- the rest keeps field 5
  have rest : ∀ (U : q_S) (c : Int32), q_Inv ρ L U → (c = 0 ∨ c = 1) → q_ok (m_X6_load_45 n U (some sg) c (some sg)) (fun _ T => q_G ρ L [580, 582, 583, 584, 585, 640] U T) := by
    intro U c hU hc
    have hcb : 0 ≤ c.toInt ∧ c.toInt ≤ 1 := by rcases hc with e | e <;> rw [e] <;> decide
    have l112 : ∀ (j k : Nat) (V : q_S) (l2 : Int32), q_G ρ L [580, 582, 583, 584, 585, 640] U V → 0 ≤ l2.toInt → j = (200 - l2.toInt).toNat → j < k → q_ok (m_X6_load_112 n k V (some sg) l2) (fun _ T => q_G ρ L [580, 582, 583, 584, 585, 640] U T) := by
      intro j
      induction j with
      | zero =>
        intro k V l2 hV h2 hj hk
        obtain ⟨k, rfl⟩ : ∃ k', k = k' + 1 := ⟨k - 1, by omega⟩
        rw [m_X6_load_112, if_pos (i_le.mpr (by rw [y200]; omega))]
        exact q_ok_some hV
      | succ j ih =>
        intro k V l2 hV h2 hj hk
        obtain ⟨k, rfl⟩ : ∃ k', k = k' + 1 := ⟨k - 1, by omega⟩
        have e1 : (l2 + 1).toInt = l2.toInt + 1 := by rw [q_addI (by rw [y1]; omega) (by rw [y1]; omega), y1]
        rw [m_X6_load_112, if_neg (fun h => by have := i_le.mp h; rw [y200] at this; omega), q_at_pos (k9 V hV.1)]
        refine q_ok_at hV (g_9_R2 hV hs.1 hs.2) rfl (fun a ma ra ea => ?_)
        refine q_ok_if (q_inI (g_10_N hV ma ra) h2 (by omega)) ?_
        exact ih k _ (l2 + 1) (u_10_E (k := (l2).toNatClampNeg) (x := vp_nar .boolean 0) hV ma ra (by decide) ⟨by decide, by decide⟩) (by omega) (by omega) (by omega)
    have l74 : ∀ (V : q_S) (c : Int32), q_G ρ L [580, 582, 583, 584, 585, 640] U V → (c = 0 ∨ c = 1) → q_ok (m_X6_load_74 n V (some sg) c (some sg)) (fun _ T => q_G ρ L [580, 582, 583, 584, 585, 640] U T) := by
      intro V c hV hc
      have hV1 := u_9_I7 (x := c) hV hs.1 hs.2 (by decide) (by rcases hc with e | e <;> rw [e] <;> decide)
      unfold m_X6_load_74
      rw [q_at_pos (k9 V hV.1), q_if_pos hc, q_at_pos (k9 _ hV1.1), lk _ hV1.1, q_at_pos (k_t hV1.1 ht)]
      obtain ⟨t5, e5, h5, -⟩ := v_firstc (n := n) (tag := 1819239265) hn hV1.1 ht he
      rw [e5, q_b_some, q_at_pos (k9 _ hV1.1)]
      have hV2 := u_9_R8 (x := some t5) hV1 hs.1 hs.2 (by decide) (q_trI h5.1 h5.2)
      rw [lk _ hV2.1, q_at_pos (k_t hV2.1 ht)]
      obtain ⟨t6, e6, h6, -⟩ := v_firstc (n := n) (tag := 1735162214) hn hV2.1 ht he
      rw [e6, q_b_some, q_at_pos (k9 _ hV2.1)]
      have hV3 := u_9_R9 (x := some t6) hV2 hs.1 hs.2 (by decide) (q_trI h6.1 h6.2)
      have hV4 := u_9_I4 (x := 0) hV3 hs.1 hs.2 (by decide) ⟨by decide, by decide⟩
      exact l112 200 n _ 0 hV4 (by decide) (by decide) (by omega)
    have hU0 : q_G ρ L [580, 582, 583, 584, 585, 640] U U := q_G_refl hU
    have hU1 := u_9_I6 (x := c) hU0 hs.1 hs.2 (by decide) hcb
    unfold m_X6_load_45
    rw [q_at_pos (k9 U hU), q_if_pos hc, q_at_pos (k9 _ hU1.1), lk _ hU1.1, q_at_pos (k_t hU1.1 ht)]
    obtain ⟨t5, e5, h5, -⟩ := v_firstc (n := n) (tag := 1751474532) hn hU1.1 ht he
    rw [e5, q_b_some, q_at_pos (k_8 hU1.1 h5)]
    refine q_ok_b (s_X7_two_8 hn hU1.1 h5.1 h5.2 ⟨by decide, by decide⟩) (fun r9 U9 h9 => ?_)
    obtain ⟨eU9, -⟩ := h9
    rw [eU9]
    refine q_ok_ite (fun _ => ?_) (fun _ => ?_)
    · exact l74 _ 1 hU1 (Or.inr rfl)
    · exact l74 _ 0 hU1 (Or.inl rfl)
  unfold m_X6_load
  rw [q_at_pos (k9 _ hI), lk _ hI, q_at_pos (k_t hI ht), et, q_b_some, q_at_pos (k_8 hI h8), e7, q_b_some, e10, q_b_some, e13, q_b_some, q_at_pos (k9 _ hI)]
  have fin : ∀ c : Int32, (c = 0 ∨ c = 1) → q_ok (m_X6_load_45 n (q_sI T13 sg 5 r13) (some sg) c (some sg)) (fun _ T => q_G ρ L M_X6_load_9 T13 T ∧ ∃ (t : Nat) (r : Int32), (t ∈ L ∧ ρ t = 8) ∧ v_isc T13 tb en 1835104368 t ∧ m_X7_two n T13 t 4 = some (r, T13) ∧ (q_I T sg 5).toInt = v_cl2 r.toInt) := fun c hc => by
    obtain ⟨r, T, e, g⟩ := rest _ c hG1.1 hc
    exact ⟨r, T, e, q_G_call hG1 g (by decide), t, r7, h8, hi, e7, by rw [q_unI g hs.1 hs.2 (by decide), q_hitI]; exact v13⟩
  refine q_ok_ite (fun _ => ?_) (fun _ => ?_)
  · exact fin 0 (Or.inl rfl)
  · exact fin 1 (Or.inr rfl)
end QVG
