/-! VALUES: read(), the class -/
def v_okr (f : Nat → Int32) (s i : Int) : Prop := 12 + 16 * i + 16 ≤ s ∧ v_fo f (12 + 16 * i + 8) + v_fo f (12 + 16 * i + 12) ≤ s
/-- a row of the class's TABLES is as the file says -/
def v_en (f : Nat → Int32) (S : q_S) (en u : Nat) : Prop := ∀ t, q_R S en u = some t → (q_J S t 1).toInt = v_fo f (12 + 16 * (u : Int)) ∧ (q_J S t 2).toInt = v_fo f (12 + 16 * (u : Int) + 4) ∧ (q_I S t 3).toInt = v_fo f (12 + 16 * (u : Int) + 8) ∧ (q_I S t 4).toInt = v_fo f (12 + 16 * (u : Int) + 12)
theorem v_fo_b {f : Nat → Int32} (h : ∀ k, 0 ≤ (f k).toInt ∧ (f k).toInt ≤ 255) (p : Int) : 0 ≤ v_fo f p ∧ v_fo f p ≤ 4294967295 := by
  have h0 := h p.toNat
  have h1 := h (p + 1).toNat
  have h2 := h (p + 2).toNat
  have h3 := h (p + 3).toNat
  unfold v_fo
  omega
/-- the rows of the class are 24 things -/
def v_di (S : q_S) (en ab : Nat) : Prop := (∀ i j, i < 24 → j < 24 → q_R S en i = q_R S en j → i = j) ∧ ∀ i, i < 24 → q_R S en i ≠ some ab
section QVL
variable {ρ : Nat → Nat} {L : List Nat} {n : Nat} {S S0 T : q_S} {x wo ce tb en t ab : Nat}
theorem v_pl {i c : Int32} (hi : 0 ≤ i.toInt ∧ i.toInt ≤ 23) (hc : 0 ≤ c.toInt ∧ c.toInt ≤ 16) : (((12 : Int32) + ((16 : Int32) * i)) + c).toInt64.toInt = 12 + 16 * i.toInt + c.toInt := by
  have e := q_rdP hi.1 hi.2
  generalize (12 : Int32) + ((16 : Int32) * i) = P at *
  rw [q_wil, q_addI (by omega) (by omega), e]
theorem v_le (hI : q_Inv ρ L S) (hw : wo ∈ L ∧ ρ wo = 1) (hc : ce ∈ L ∧ ρ ce = 2) (ht : tb ∈ L ∧ ρ tb = 6) (he : en ∈ L ∧ ρ en = 7) {i : Int32} (hi : 0 ≤ i.toInt ∧ i.toInt ≤ 23) :
    (v_okr (q_I S ce) (q_I S wo 1).toInt i.toInt → ∃ (t : Nat) (F0 F4 : Int64) (F8 F12 : Int32), q_R S en i.toInt.toNat = some t ∧ (t ∈ L ∧ ρ t = 8) ∧ F0.toInt = v_fo (q_I S ce) (12 + 16 * i.toInt) ∧ F4.toInt = v_fo (q_I S ce) (12 + 16 * i.toInt + 4) ∧ F8.toInt = v_fo (q_I S ce) (12 + 16 * i.toInt + 8) ∧ F12.toInt = v_fo (q_I S ce) (12 + 16 * i.toInt + 12) ∧ m_X8_loadEntry n S tb i = some (1, q_sI (q_sI (q_sJ (q_sJ S t 1 F0) t 2 F4) t 3 F8) t 4 F12))
    ∧ (¬ v_okr (q_I S ce) (q_I S wo 1).toInt i.toInt → m_X8_loadEntry n S tb i = some (0, S)) := by
  have hG : q_G ρ L [] S S := q_G_refl hI
  have hs := g_1_I1 hG hw.1 hw.2
  have hb := v_fo_b (f := q_I S ce) (fun k => g_2_E hG hc.1 hc.2)
  have zm : (-1 : Int64).toInt = -1 := rfl
  obtain ⟨t, et, mt_, rt⟩ := g_7_RE hG he.1 he.2 (k := i.toInt.toNat) (by omega)
  have p0 : ((12 : Int32) + ((16 : Int32) * i)).toInt64.toInt = 12 + 16 * i.toInt := by rw [q_wil]; exact q_rdP hi.1 hi.2
  have p4 := v_pl (c := 4) hi (by decide)
  have p8 := v_pl (c := 8) hi (by decide)
  have p12 := v_pl (c := 12) hi (by decide)
  have y4 : (4 : Int32).toInt = 4 := rfl
  have y8 : (8 : Int32).toInt = 8 := rfl
  have y12 : (12 : Int32).toInt = 12 := rfl
  rw [y4] at p4
  rw [y8] at p8
  rw [y12] at p12
  have b0 := hb (12 + 16 * i.toInt)
  have b4 := hb (12 + 16 * i.toInt + 4)
  have b8 := hb (12 + 16 * i.toInt + 8)
  have b12 := hb (12 + 16 * i.toInt + 12)
  obtain ⟨r0, h0, a0, c0⟩ := v_rfour (n := n) (p := ((12 : Int32) + ((16 : Int32) * i)).toInt64) (e := (q_I S wo 1).toInt64) hI hw hc (by omega)
  obtain ⟨r4, h4, a4, c4⟩ := v_rfour (n := n) (p := (((12 : Int32) + ((16 : Int32) * i)) + (4 : Int32)).toInt64) (e := (q_I S wo 1).toInt64) hI hw hc (by omega)
  obtain ⟨r8, h8, a8, c8⟩ := v_rfour (n := n) (p := (((12 : Int32) + ((16 : Int32) * i)) + (8 : Int32)).toInt64) (e := (q_I S wo 1).toInt64) hI hw hc (by omega)
  obtain ⟨r12, h12, a12, c12⟩ := v_rfour (n := n) (p := (((12 : Int32) + ((16 : Int32) * i)) + (12 : Int32)).toInt64) (e := (q_I S wo 1).toInt64) hI hw hc (by omega)
  rw [p0, q_wil] at a0 c0
  rw [p4, q_wil] at a4 c4
  rw [p8, q_wil] at a8 c8
  rw [p12, q_wil] at a12 c12
  have ht1 := k_t hI ht
  have hw1 := k_w hI hw
  have hr1 := v_t0 hI ht hw
  have e0 : m_X8_loadEntry n S tb i = (if (lg_cmp (r8) ((-1 : Int64))) = 0 then m_X8_loadEntry_75 n (S) else (if (lg_cmp (r12) ((-1 : Int64))) = 0 then m_X8_loadEntry_75 n (S) else (if (lg_cmp ((r8 + r12)) (((q_I S wo 1).toInt64))) ≤ 0 then some (1, q_sI (q_sI (q_sJ (q_sJ S t 1 r0) t 2 r4) t 3 r8.toInt32) t 4 r12.toInt32) else m_X8_loadEntry_75 n (S)))) := by
    unfold m_X8_loadEntry
    rw [q_at_pos ht1, hr1, q_at_pos hw1, v_sz hI hw, q_b_some, q_at_pos ht1, hr1, q_at_pos hw1, h8, q_b_some, q_at_pos ht1, hr1, q_at_pos hw1, h12, q_b_some]
    have e9 : m_X7_set n S t r0 r4 r8.toInt32 r12.toInt32 = some ((), q_sI (q_sI (q_sJ (q_sJ S t 1 r0) t 2 r4) t 3 r8.toInt32) t 4 r12.toInt32) := by
      unfold m_X7_set
      rw [q_at_pos (k_8 hI ⟨mt_, rt⟩)]
      rfl
    rw [q_at_pos ht1, v_t1 hI ht he, q_at_pos (k_e hI he), q_if_pos (q_inI (g_7_N hG he.1 he.2) (by omega) (by omega)), hr1, q_at_pos hw1, h0, q_b_some, q_at_pos ht1, hr1, q_at_pos hw1, h4, q_b_some, v_cl rfl, et, q_at_pos (k_8 hI ⟨mt_, rt⟩), e9, q_b_some, q_if_pos (Or.inr rfl)]
  have e75 : m_X8_loadEntry_75 n S = some (0, S) := by
    unfold m_X8_loadEntry_75
    rw [q_if_pos (Or.inl rfl)]
  rw [e75] at e0
  unfold v_okr
  constructor
  · intro hk
    have v8 := a8 ⟨by omega, by omega, by omega⟩
    have v12 := a12 ⟨by omega, by omega, by omega⟩
    have v0 := a0 ⟨by omega, by omega, by omega⟩
    have v4 := a4 ⟨by omega, by omega, by omega⟩
    have ev : (r8 + r12).toInt = r8.toInt + r12.toInt := q_addJ (by omega) (by omega)
    rw [if_neg (fun h => by have := c_eq.mp h; rw [zm] at this; omega), if_neg (fun h => by have := c_eq.mp h; rw [zm] at this; omega), if_pos (c_le.mpr (by rw [ev, q_wil]; omega))] at e0
    have w8 : r8.toInt32.toInt = r8.toInt := q_wli (by omega) (by omega)
    have w12 : r12.toInt32.toInt = r12.toInt := q_wli (by omega) (by omega)
    exact ⟨t, r0, r4, r8.toInt32, r12.toInt32, et, ⟨mt_, rt⟩, v0, v4, w8.trans v8, w12.trans v12, e0⟩
  · intro hk
    by_cases g8 : 12 + 16 * i.toInt + 8 + 3 < (q_I S wo 1).toInt
    · have v8 := a8 ⟨by omega, by omega, by omega⟩
      rw [if_neg (fun h => by have := c_eq.mp h; rw [zm] at this; omega)] at e0
      by_cases g12 : 12 + 16 * i.toInt + 12 + 3 < (q_I S wo 1).toInt
      · have v12 := a12 ⟨by omega, by omega, by omega⟩
        have ev : (r8 + r12).toInt = r8.toInt + r12.toInt := q_addJ (by omega) (by omega)
        rw [if_neg (fun h => by have := c_eq.mp h; rw [zm] at this; omega), if_neg (fun h => by have := c_le.mp h; rw [ev, q_wil] at this; omega)] at e0
        exact e0
      · rw [if_pos (c_eq.mpr (by rw [c12 (by omega)]))] at e0
        exact e0
    · rw [if_pos (c_eq.mpr (by rw [c8 (by omega)]))] at e0
      exact e0
theorem v_en_set {f : Nat → Int32} {u i : Nat} {F0 F4 : Int64} {F8 F12 : Int32} (hd : v_di S en ab) (hu : u < 24) (hi : i < 24) (et : q_R S en i = some t) (ne : t ≠ en) (h : u ≠ i → v_en f S en u) (h2 : u = i → F0.toInt = v_fo f (12 + 16 * (u : Int)) ∧ F4.toInt = v_fo f (12 + 16 * (u : Int) + 4) ∧ F8.toInt = v_fo f (12 + 16 * (u : Int) + 8) ∧ F12.toInt = v_fo f (12 + 16 * (u : Int) + 12)) : v_en f (q_sI (q_sI (q_sJ (q_sJ S t 1 F0) t 2 F4) t 3 F8) t 4 F12) en u := by
  intro t2 e2
  have e2 : q_R S en u = some t2 := e2
  by_cases e : u = i
  · have e3 : t2 = t := by rw [e] at e2; exact Option.some.inj (e2.symm.trans et)
    subst e3
    obtain ⟨k1, k2, k3, k4⟩ := h2 e
    refine ⟨?_, ?_, ?_, ?_⟩
    · rw [q_skJI, q_skJI, q_ffJ (by decide), q_hitJ]; exact k1
    · rw [q_skJI, q_skJI, q_hitJ]; exact k2
    · rw [q_ffI (by decide), q_hitI]; exact k3
    · rw [q_hitI]; exact k4
  · have e3 : t2 ≠ t := fun e4 => e (hd.1 u i hu hi (by rw [e2, et, e4]))
    obtain ⟨k1, k2, k3, k4⟩ := h e t2 e2
    have w : ∀ k, q_I (q_sI (q_sI (q_sJ (q_sJ S t 1 F0) t 2 F4) t 3 F8) t 4 F12) t2 k = q_I S t2 k := fun k => by
      show q_u (q_u (q_I S) t 3 F8) t 4 F12 t2 k = _
      rw [q_u_ne _ _ _ e3, q_u_ne _ _ _ e3]
    have w2 : ∀ k, q_J (q_sI (q_sI (q_sJ (q_sJ S t 1 F0) t 2 F4) t 3 F8) t 4 F12) t2 k = q_J S t2 k := fun k => by
      show q_u (q_u (q_J S) t 1 F0) t 2 F4 t2 k = _
      rw [q_u_ne _ _ _ e3, q_u_ne _ _ _ e3]
    rw [w, w, w2, w2]
    exact ⟨k1, k2, k3, k4⟩
/-- where the rows end: N of them, or the first one that isn't whole -/
def v_q (f : Nat → Int32) (s : Int) (N q : Nat) : Prop := q ≤ N ∧ (∀ u : Nat, u < q → v_okr f s u) ∧ (q < N → ¬ v_okr f s q)
theorem v_quq {f : Nat → Int32} {s : Int} {N q q2 : Nat} (h : v_q f s N q) (h2 : v_q f s N q2) : q = q2 := by
  rcases Nat.lt_trichotomy q q2 with e | e | e
  · exact absurd (h2.2.1 q e) (h.2.2 (by have := h2.1; omega))
  · exact e
  · exact absurd (h.2.1 q2 e) (h2.2.2 (by have := h.1; omega))
theorem v_ld (hn : 18446744073709551616 ≤ n) (hw : wo ∈ L ∧ ρ wo = 1) (hc : ce ∈ L ∧ ρ ce = 2) (ht : tb ∈ L ∧ ρ tb = 6) (he : en ∈ L ∧ ρ en = 7) (hab : ab ∈ L ∧ ρ ab = 8) {f : Nat → Int32} {s : Int} {l1 : Int32} {N : Nat} (h1 : l1.toInt = N) (hN : N ≤ 24) : ∀ (j k i : Nat) (S : q_S) (l2 : Int32), q_G ρ L M_X8_load_6 S0 S → v_di S en ab → q_I S ce = f → (q_I S wo 1).toInt = s → q_I S ab = q_I S0 ab → (q_I S tb 3).toInt = 0 → l2.toInt = i → i + j = N → (∀ u : Nat, u < i → v_okr f s u) → (∀ u, u < i → v_en f S en u) → j < k →
    q_ok (m_X8_load_40 n k S (some tb) l1 l2) (fun r T => q_G ρ L M_X8_load_6 S0 T ∧ q_I T ab = q_I S0 ab ∧ ∃ q, v_q f s N q ∧ (q = N → r.toInt = N ∧ (q_I T tb 3).toInt = N ∧ ∀ u, u < N → v_en f T en u) ∧ (q < N → r.toInt = -1 - (q : Int) ∧ (q_I T tb 3).toInt = 0)) := by
  intro j
  induction j with
  | zero =>
    intro k i S l2 hG hd hf hs hA h3 e2 ej hok hen hk
    obtain ⟨k, rfl⟩ : ∃ k', k = k' + 1 := ⟨k - 1, by omega⟩
    rw [m_X8_load_40, if_pos (i_le.mpr (by omega)), q_at_pos (k_t hG.1 ht)]
    have ei : i = N := by omega
    subst ei
    have nt : ab ≠ tb := fun e => by rw [e, ht.2] at hab; cases hab.2
    refine q_ok_some ⟨u_6_I3 hG ht.1 ht.2 (by decide) ⟨by omega, by omega⟩, ?_, i, ⟨Nat.le_refl _, hok, fun h => by omega⟩, fun _ => ⟨by rw [q_hitI]; exact h1, by rw [q_hitI]; exact h1, fun u hu t2 e2 => ?_⟩, fun h => by omega⟩
    · rw [← hA]
      show q_u (q_I S) tb 3 l1 ab = _
      rw [q_u_ne _ _ _ nt]
    · have e2 : q_R S en u = some t2 := e2
      obtain ⟨a9, ea, ma, ra⟩ := g_7_RE hG he.1 he.2 (k := u) (by omega)
      cases Option.some.inj (e2.symm.trans ea)
      have n9 : t2 ≠ tb := fun e => by rw [e, ht.2] at ra; cases ra
      have h9 := hen u hu t2 e2
      rw [q_skJI, q_skJI]
      have w : ∀ k, q_I (q_sI S tb 3 l1) t2 k = q_I S t2 k := fun k => by
        show q_u (q_I S) tb 3 l1 t2 k = _
        rw [q_u_ne _ _ _ n9]
      rw [w, w]
      exact h9
  | succ j ih =>
    intro k i S l2 hG hd hf hs hA h3 e2 ej hok hen hk
    obtain ⟨k, rfl⟩ : ∃ k', k = k' + 1 := ⟨k - 1, by omega⟩
    rw [m_X8_load_40, if_neg (fun h => by have := i_le.mp h; omega), q_at_pos (k_t hG.1 ht)]
    have hi : 0 ≤ l2.toInt ∧ l2.toInt ≤ 23 := ⟨by omega, by omega⟩
    obtain ⟨y1, y2⟩ := v_le (n := n) hG.1 hw hc ht he hi
    rw [hf, hs] at y1 y2
    obtain ⟨r9, T9, e9, g9, -⟩ := s_X8_loadEntry_6 hn hG.1 ht.1 ht.2 (p0 := l2) hi
    by_cases ho : v_okr f s l2.toInt
    · obtain ⟨t, F0, F4, F8, F12, et, h8, v0, v4, v8, v12, e1⟩ := y1 ho
      rw [e1] at e9
      cases e9
      refine q_ok_bE e1 ?_
      rw [if_neg (by decide)]
      have ei : l2.toInt.toNat = i := by omega
      rw [ei] at et
      rw [e2] at v0 v4 v8 v12 ho
      have z1 : (1 : Int32).toInt = 1 := rfl
      have nte : t ≠ en := fun e => by rw [e, he.2] at h8; cases h8.2
      have nta : t ≠ ab := fun e => hd.2 i (by omega) (by rw [et, e])
      have ntc : ce ≠ t := fun e => by rw [e, h8.2] at hc; cases hc.2
      have ntw : wo ≠ t := fun e => by rw [e, h8.2] at hw; cases hw.2
      have ntb : tb ≠ t := fun e => by rw [e, h8.2] at ht; cases ht.2
      have w : ∀ a, a ≠ t → q_I (q_sI (q_sI (q_sJ (q_sJ S t 1 F0) t 2 F4) t 3 F8) t 4 F12) a = q_I S a := fun a ha => by
        show q_u (q_u (q_I S) t 3 F8) t 4 F12 a = _
        rw [q_u_ne _ _ _ ha, q_u_ne _ _ _ ha]
      refine ih k (i + 1) _ (l2 + 1) (q_G_call hG g9 (by decide)) hd (by rw [w _ ntc]; exact hf) (by rw [w _ ntw]; exact hs) (by rw [w _ (fun e => nta e.symm)]; exact hA) (by rw [w _ ntb]; exact h3) (by rw [q_addI (by rw [z1]; omega) (by rw [z1]; omega), z1, e2]; rfl) (by omega) (fun u hu => ?_) (fun u hu => ?_) (by omega)
      · by_cases e : u = i
        · rw [e]; exact ho
        · exact hok u (by omega)
      · refine v_en_set hd (by omega) (by omega) et nte (fun ne => hen u (by omega)) (fun e => ?_)
        rw [e]; exact ⟨v0, v4, v8, v12⟩
    · have e1 := y2 ho
      refine q_ok_bE e1 ?_
      rw [if_pos rfl]
      rw [e2] at ho
      have zm : (-1 : Int32).toInt = -1 := rfl
      exact q_ok_some ⟨hG, hA, i, ⟨by omega, hok, fun _ => ho⟩, fun h => by omega, fun _ => ⟨by rw [q_subI (by rw [zm]; omega) (by rw [zm]; omega), zm, e2], h3⟩⟩
end QVL
