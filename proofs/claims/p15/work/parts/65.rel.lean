/-! VALUES: what both sides have alike -/
def v_Rl (wo ce tb en ab m fF fT fS fB fL : Nat) (S : q_S) : Prop :=
  q_I S wo 1 = q_I S m 2 ∧ (∀ k : Nat, (k : Int) < (q_I S m 2).toInt → q_I S ce k = q_I S fF k) ∧ q_I S tb 3 = q_I S m 3 ∧
  (∀ u : Nat, (u : Int) < (q_I S m 3).toInt → (∀ t, q_R S en u = some t → q_J S t 1 = q_J S fT u ∧ q_J S t 2 = q_J S fS u ∧ q_I S t 3 = q_I S fB u ∧ q_I S t 4 = q_I S fL u) ∧ (q_I S fB u).toInt + (q_I S fL u).toInt ≤ (q_I S m 2).toInt) ∧
  q_I S ab 3 = 0 ∧ q_I S ab 4 = 0 ∧ v_di S en ab ∧ q_R S tb 2 = some ab
/-- the things -/
def v_Ad (ρ : Nat → Nat) (L : List Nat) (x wo ce tb en ab m fF fT fS fB fL : Nat) : Prop :=
  (x ∈ L ∧ ρ x = 0) ∧ (wo ∈ L ∧ ρ wo = 1) ∧ (ce ∈ L ∧ ρ ce = 2) ∧ (tb ∈ L ∧ ρ tb = 6) ∧ (en ∈ L ∧ ρ en = 7) ∧ (ab ∈ L ∧ ρ ab = 8) ∧ (m ∈ L ∧ ρ m = 45) ∧ (fF ∈ L ∧ ρ fF = 46) ∧ (fT ∈ L ∧ ρ fT = 47) ∧ (fS ∈ L ∧ ρ fS = 48) ∧ (fB ∈ L ∧ ρ fB = 49) ∧ (fL ∈ L ∧ ρ fL = 50)
def v_fr9 (M9 : List Nat) : Bool := [65, 128, 386, 387, 448, 513, 514, 515, 516, 2882, 2883, 2944, 3008, 3072, 3136, 3200].all (fun z => !M9.contains z)
theorem v_fr9E {M9 : List Nat} (h : v_fr9 M9 = true) {z : Nat} (hz : [65, 128, 386, 387, 448, 513, 514, 515, 516, 2882, 2883, 2944, 3008, 3072, 3136, 3200].contains z = true) : M9.contains z = false := by
  have h1 := List.all_eq_true.mp h z (List.contains_iff_mem.mp hz)
  cases h2 : M9.contains z with
  | false => rfl
  | true => rw [h2] at h1; cases h1
theorem v_fo_cg {f g : Nat → Int32} {s p : Int} (h : ∀ k : Nat, (k : Int) < s → f k = g k) (h0 : 0 ≤ p) (h1 : p + 3 < s) : v_fo f p = v_fo g p := by
  unfold v_fo
  rw [h p.toNat (by omega), h (p + 1).toNat (by omega), h (p + 2).toNat (by omega), h (p + 3).toNat (by omega)]
theorem v_okr_cg {f g : Nat → Int32} {s : Int} (h : ∀ k : Nat, (k : Int) < s → f k = g k) {i : Int} (hi : 0 ≤ i) (h2 : v_okr f s i) : v_okr g s i := by
  obtain ⟨h3, h4⟩ := h2
  refine ⟨h3, ?_⟩
  rw [← v_fo_cg h (p := 12 + 16 * i + 8) (by omega) (by omega), ← v_fo_cg h (p := 12 + 16 * i + 12) (by omega) (by omega)]
  exact h4
theorem v_nt_cg {f g : Nat → Int32} {s : Int} (h : ∀ k : Nat, (k : Int) < s → f k = g k) (hs : 12 ≤ s) : v_nt f = v_nt g := by
  unfold v_nt
  rw [h 4 (by omega), h 5 (by omega)]
theorem v_rd_cg {f g : Nat → Int32} {s r k : Int} (h : ∀ k : Nat, (k : Int) < s → f k = g k) (h2 : v_rd f s r k) : v_rd g s r k := by
  refine ⟨h2.1, fun hs => ?_⟩
  obtain ⟨q, ⟨a1, a2, a3⟩, a4, a5⟩ := h2.2 hs
  rw [v_nt_cg h hs] at a1 a3 a4 a5
  exact ⟨q, ⟨a1, fun u hu => v_okr_cg h (by omega) (a2 u hu), fun hq h9 => a3 hq (v_okr_cg (fun k hk => (h k hk).symm) (by omega) h9)⟩, a4, a5⟩
section QVS
variable {ρ : Nat → Nat} {L M9 : List Nat} {n : Nat} {S T : q_S} {x wo ce tb en ab m fF fT fS fB fL : Nat}
theorem v_RlU (hA : v_Ad ρ L x wo ce tb en ab m fF fT fS fB fL) (g : q_G ρ L M9 S T) (h : v_fr9 M9 = true) (hR : v_Rl wo ce tb en ab m fF fT fS fB fL S) : v_Rl wo ce tb en ab m fF fT fS fB fL T := by
  obtain ⟨hx, hw, hc, ht, he, hab, hm, hF, hT, hS, hB, hL⟩ := hA
  obtain ⟨r1, r2, r3, r4, r5, r6, r7, r8⟩ := hR
  have e1 : q_I T wo 1 = q_I S wo 1 := q_unI (k := 1) g hw.1 hw.2 (v_fr9E h (z := 65) (by decide))
  have e2 : q_I T m 2 = q_I S m 2 := q_unI (k := 2) g hm.1 hm.2 (v_fr9E h (z := 2882) (by decide))
  have e3 : q_I T m 3 = q_I S m 3 := q_unI (k := 3) g hm.1 hm.2 (v_fr9E h (z := 2883) (by decide))
  have e4 : q_I T tb 3 = q_I S tb 3 := q_unI (k := 3) g ht.1 ht.2 (v_fr9E h (z := 387) (by decide))
  have e5 : q_I T ab 3 = q_I S ab 3 := q_unI (k := 3) g hab.1 hab.2 (v_fr9E h (z := 515) (by decide))
  have e6 : q_I T ab 4 = q_I S ab 4 := q_unI (k := 4) g hab.1 hab.2 (v_fr9E h (z := 516) (by decide))
  have e7 : q_R T tb 2 = q_R S tb 2 := q_unR (k := 2) g ht.1 ht.2 (v_fr9E h (z := 386) (by decide))
  have e8 : ∀ k, q_I T ce k = q_I S ce k := fun k => q_unIA g hc.1 hc.2 (by decide) (v_fr9E h (z := 128) (by decide))
  have e9 : ∀ k, q_I T fF k = q_I S fF k := fun k => q_unIA g hF.1 hF.2 (by decide) (v_fr9E h (z := 2944) (by decide))
  have f1 : ∀ k, q_J T fT k = q_J S fT k := fun k => q_unJA g hT.1 hT.2 (by decide) (v_fr9E h (z := 3008) (by decide))
  have f2 : ∀ k, q_J T fS k = q_J S fS k := fun k => q_unJA g hS.1 hS.2 (by decide) (v_fr9E h (z := 3072) (by decide))
  have f3 : ∀ k, q_I T fB k = q_I S fB k := fun k => q_unIA g hB.1 hB.2 (by decide) (v_fr9E h (z := 3136) (by decide))
  have f4 : ∀ k, q_I T fL k = q_I S fL k := fun k => q_unIA g hL.1 hL.2 (by decide) (v_fr9E h (z := 3200) (by decide))
  have f5 : ∀ k, q_R T en k = q_R S en k := fun k => q_unRA g he.1 he.2 (by decide) (v_fr9E h (z := 448) (by decide))
  have h3 := g_45_I3 (q_G_refl (m := []) g.1) hm.1 hm.2
  refine ⟨by rw [e1, e2]; exact r1, fun k hk => by rw [e8, e9]; rw [e2] at hk; exact r2 k hk, by rw [e4, e3]; exact r3, fun u hu => ?_, by rw [e5]; exact r5, by rw [e6]; exact r6, v_di_un g he (v_fr9E h (z := 448) (by decide)) r7, by rw [e7]; exact r8⟩
  obtain ⟨r9, r10⟩ := r4 u (by rw [e3] at hu; exact hu)
  rw [f1, f2, f3, f4, e2]
  refine ⟨fun t et => ?_, r10⟩
  obtain ⟨a9, ea, ma, ra⟩ := g_7_RE (q_G_refl (m := []) g.1) he.1 he.2 (k := u) (by omega)
  cases Option.some.inj (et.symm.trans ea)
  rw [q_unJ (k := 1) g ma ra (v_fr9E h (z := 513) (by decide)), q_unJ (k := 2) g ma ra (v_fr9E h (z := 514) (by decide)), q_unI (k := 3) g ma ra (v_fr9E h (z := 515) (by decide)), q_unI (k := 4) g ma ra (v_fr9E h (z := 516) (by decide))]
  exact r9 t (by rw [← f5]; exact et)
theorem v_readR (hn : 18446744073709551616 ≤ n) (hI : q_Inv ρ L S) (hA : v_Ad ρ L x wo ce tb en ab m fF fT fS fB fL) (hR : v_Rl wo ce tb en ab m fF fT fS fB fL S) : q_ok (m_X11_read n S x) (fun r T => q_Inv ρ L T ∧ q_ok (m_X12_read n T m) (fun r2 T2 => q_Inv ρ L T2 ∧ v_Rl wo ce tb en ab m fF fT fS fB fL T2 ∧ r = r2 ∧ q_G ρ L (M_X11_read_0 ++ M_X12_read_45) S T2)) := by
  obtain ⟨hx, hw, hc, ht, he, hab, hm, hF, hT, hS, hB, hL⟩ := hA
  obtain ⟨r1, r2, r3, r4, r5, r6, r7, r8⟩ := hR
  obtain ⟨r, T, e, g, ⟨a1, a2⟩, b1, b2⟩ := v_readC hn hI hx hw hc ht he hab r7
  obtain ⟨r9, T2, e9, g2, c1, c2⟩ := v_readM hn g.1 hm hF hT hS hB hL
  refine ⟨r, T, e, g.1, r9, T2, e9, g2.1, ?_⟩
  have eF : q_I T fF = q_I S fF := funext fun k => q_unIA g hF.1 hF.2 (by decide) (by decide)
  have eM : q_I T m 2 = q_I S m 2 := q_unI g hm.1 hm.2 (by decide)
  rw [eF, eM] at c1 c2
  rw [r1] at b1 b2
  have b1 := v_rd_cg r2 b1
  obtain ⟨k1, k2⟩ := v_rduq b1 c1
  have h0 : q_I T2 tb 3 = q_I T tb 3 := q_unI g2 ht.1 ht.2 (by decide)
  have h1 : q_I T2 wo 1 = q_I S wo 1 := by rw [q_unI g2 hw.1 hw.2 (by decide), q_unI g hw.1 hw.2 (by decide)]
  have h2 : q_I T2 m 2 = q_I S m 2 := by rw [q_unI g2 hm.1 hm.2 (by decide), eM]
  have h3 : ∀ k, q_I T2 ce k = q_I S ce k := fun k => by rw [q_unIA g2 hc.1 hc.2 (by decide) (by decide), q_unIA g hc.1 hc.2 (by decide) (by decide)]
  have h4 : ∀ k, q_I T2 fF k = q_I S fF k := fun k => by rw [q_unIA g2 hF.1 hF.2 (by decide) (by decide), eF]
  have h5 : q_I T2 ab 3 = q_I S ab 3 := by rw [q_unI g2 hab.1 hab.2 (by decide), a1]
  have h6 : q_I T2 ab 4 = q_I S ab 4 := by rw [q_unI g2 hab.1 hab.2 (by decide), a2]
  have h7 : q_R T2 tb 2 = q_R S tb 2 := by rw [q_unR g2 ht.1 ht.2 (by decide), q_unR g ht.1 ht.2 (by decide)]
  have h8 := g_45_I3 (q_G_refl (m := []) g2.1) hm.1 hm.2
  have hG : q_G ρ L (M_X11_read_0 ++ M_X12_read_45) S S := q_G_refl hI
  refine ⟨⟨by rw [h1, h2]; exact r1, fun k hk => by rw [h3, h4]; exact r2 k (by rw [h2] at hk; exact hk), Int32.toInt_inj.mp (by rw [h0]; exact k2), fun u hu => ?_, by rw [h5]; exact r5, by rw [h6]; exact r6, v_di_un g2 he (by decide) (v_di_un g he (by decide) r7), by rw [h7]; exact r8⟩, Int32.toInt_inj.mp k1, q_G_call (q_G_call hG g (by decide)) g2 (by decide)⟩
  obtain ⟨d1, d2⟩ := c2 u hu
  obtain ⟨d3, d4⟩ := b2 u (by rw [k2]; exact hu)
  have d3 := v_en_un g2 he (by omega) (by decide) (by decide) (by decide) (by decide) (by decide) d3
  have w : ∀ j : Int, 0 ≤ j → j ≤ 12 → v_fo (q_I S ce) (12 + 16 * (u : Int) + j) = v_fo (q_I S fF) (12 + 16 * (u : Int) + j) := fun j j0 j1 => v_fo_cg r2 (by omega) (by have := d2.1; omega)
  have w0 := w 0 (by decide) (by decide)
  rw [Int.add_zero] at w0
  obtain ⟨m1, m2, m3, m4⟩ := d1
  refine ⟨fun t et => ?_, by rw [m3, m4, h2]; exact d2.2⟩
  obtain ⟨n1, n2, n3, n4⟩ := d3 t et
  exact ⟨Int64.toInt_inj.mp (by rw [n1, m1, w0]), Int64.toInt_inj.mp (by rw [n2, m2, w 4 (by decide) (by decide)]), Int32.toInt_inj.mp (by rw [n3, m3, w 8 (by decide) (by decide)]), Int32.toInt_inj.mp (by rw [n4, m4, w 12 (by decide) (by decide)])⟩
theorem v_addR (hn : 18446744073709551616 ≤ n) (hI : q_Inv ρ L S) (hA : v_Ad ρ L x wo ce tb en ab m fF fT fS fB fL) (hR : v_Rl wo ce tb en ab m fF fT fS fB fL S) {w : Int64} {p : Int32} : q_ok (m_X11_add n S x w p) (fun r T => q_Inv ρ L T ∧ q_ok (m_X12_add n T m w p) (fun r2 T2 => q_Inv ρ L T2 ∧ v_Rl wo ce tb en ab m fF fT fS fB fL T2 ∧ r = r2 ∧ q_G ρ L (M_X11_add_0 ++ M_X12_add_45) S T2 ∧ (∀ k : Nat, (k : Int) < (q_I S m 2).toInt → q_I T2 fF k = q_I S fF k) ∧ (q_I S m 2).toInt ≤ (q_I T2 m 2).toInt)) := by
  obtain ⟨hx, hw, hc, ht, he, hab, hm, hF, hT, hS, hB, hL⟩ := hA
  obtain ⟨r1, r2, r3, r4, r5, r6, r7, r8⟩ := hR
  have hG : q_G ρ L (M_X11_add_0 ++ M_X12_add_45) S S := q_G_refl hI
  have hsz := g_45_I2 hG hm.1 hm.2
  have hB1 : ∀ i : Int32, 0 ≤ i.toInt → i.toInt < p.toInt → (fun k : Nat => if (k : Int) < (q_I S m 2).toInt then q_I S fF k else v_sh w (Int32.ofInt ((k : Int) - (q_I S m 2).toInt))) ((q_I S m 2).toInt + i.toInt).toNat = v_sh w i := fun i i0 i1 => by
    show (if ((((q_I S m 2).toInt + i.toInt).toNat : Nat) : Int) < (q_I S m 2).toInt then _ else _) = _
    rw [if_neg (by omega)]
    have e : ((((q_I S m 2).toInt + i.toInt).toNat : Nat) : Int) - (q_I S m 2).toInt = i.toInt := by omega
    rw [e, Int32.ofInt_toInt]
  have hB0 : ∀ k : Nat, (k : Int) < (q_I S m 2).toInt → q_I S fF k = (fun k : Nat => if (k : Int) < (q_I S m 2).toInt then q_I S fF k else v_sh w (Int32.ofInt ((k : Int) - (q_I S m 2).toInt))) k := fun k hk => by
    show _ = if (k : Int) < (q_I S m 2).toInt then _ else _
    rw [if_pos hk]
  generalize hBB : (fun k : Nat => if (k : Int) < (q_I S m 2).toInt then q_I S fF k else v_sh w (Int32.ofInt ((k : Int) - (q_I S m 2).toInt))) = B at hB1 hB0
  obtain ⟨r, T, e, g, b1, b2⟩ := v_addC (w := w) (p := p) (B := B) hn hI hx hw hc (by rw [r1]; exact hB1) (by rw [r1]; exact fun k hk => (r2 k hk).trans (hB0 k hk))
  have eF : q_I T fF = q_I S fF := funext fun k => q_unIA g hF.1 hF.2 (by decide) (by decide)
  have eM : q_I T m 2 = q_I S m 2 := q_unI g hm.1 hm.2 (by decide)
  obtain ⟨r9, T2, e9, g2, c1, c2⟩ := v_addM (w := w) (p := p) (B := B) hn g.1 hm hF (by rw [eM]; exact hB1) (by rw [eM, eF]; exact hB0)
  refine ⟨r, T, e, g.1, r9, T2, e9, g2.1, ?_⟩
  rw [eM] at c1 c2
  rw [r1] at b1 b2
  have h0 : q_I T2 tb 3 = q_I S tb 3 := by rw [q_unI g2 ht.1 ht.2 (by decide), q_unI g ht.1 ht.2 (by decide)]
  have h1 : q_I T2 wo 1 = q_I T wo 1 := q_unI g2 hw.1 hw.2 (by decide)
  have h3 : ∀ k, q_I T2 ce k = q_I T ce k := fun k => q_unIA g2 hc.1 hc.2 (by decide) (by decide)
  have h4 : q_I T2 m 3 = q_I S m 3 := by rw [q_unI g2 hm.1 hm.2 (by decide), q_unI g hm.1 hm.2 (by decide)]
  have h5 : q_I T2 ab 3 = q_I S ab 3 := by rw [q_unI g2 hab.1 hab.2 (by decide), q_unI g hab.1 hab.2 (by decide)]
  have h6 : q_I T2 ab 4 = q_I S ab 4 := by rw [q_unI g2 hab.1 hab.2 (by decide), q_unI g hab.1 hab.2 (by decide)]
  have h7 : q_R T2 tb 2 = q_R S tb 2 := by rw [q_unR g2 ht.1 ht.2 (by decide), q_unR g ht.1 ht.2 (by decide)]
  have f1 : ∀ k, q_J T2 fT k = q_J S fT k := fun k => by rw [q_unJA g2 hT.1 hT.2 (by decide) (by decide), q_unJA g hT.1 hT.2 (by decide) (by decide)]
  have f2 : ∀ k, q_J T2 fS k = q_J S fS k := fun k => by rw [q_unJA g2 hS.1 hS.2 (by decide) (by decide), q_unJA g hS.1 hS.2 (by decide) (by decide)]
  have f3 : ∀ k, q_I T2 fB k = q_I S fB k := fun k => by rw [q_unIA g2 hB.1 hB.2 (by decide) (by decide), q_unIA g hB.1 hB.2 (by decide) (by decide)]
  have f4 : ∀ k, q_I T2 fL k = q_I S fL k := fun k => by rw [q_unIA g2 hL.1 hL.2 (by decide) (by decide), q_unIA g hL.1 hL.2 (by decide) (by decide)]
  have f5 : ∀ k, q_R T2 en k = q_R S en k := fun k => by rw [q_unRA g2 he.1 he.2 (by decide) (by decide), q_unRA g he.1 he.2 (by decide) (by decide)]
  have h8 := g_45_I3 (q_G_refl (m := []) hI) hm.1 hm.2
  have key : q_I T2 wo 1 = q_I T2 m 2 ∧ (∀ k : Nat, (k : Int) < (q_I T2 m 2).toInt → q_I T2 ce k = q_I T2 fF k) ∧ r = r9 ∧ (q_I S m 2).toInt ≤ (q_I T2 m 2).toInt ∧ (∀ k : Nat, (k : Int) < (q_I S m 2).toInt → q_I T2 fF k = q_I S fF k) := by
    by_cases hk : 1 ≤ p.toInt ∧ p.toInt ≤ 8 ∧ (q_I S m 2).toInt + p.toInt ≤ 1600
    · obtain ⟨x1, x2, x3⟩ := b1 hk
      obtain ⟨y1, y2, y3⟩ := c1 hk
      have e1 : q_I T2 wo 1 = q_I T2 m 2 := Int32.toInt_inj.mp (by rw [h1, x2, y2])
      refine ⟨e1, fun k hk2 => ?_, by rw [x1, y1, ← h1, e1], by omega, fun k hk2 => ?_⟩
      · rw [h3, x3 k (by omega), y3 k (by omega)]
      · rw [y3 k (by omega)]; exact (hB0 k hk2).symm
    · obtain ⟨x1, x2⟩ := b2 hk
      obtain ⟨y1, y2, y3⟩ := c2 hk
      refine ⟨by rw [h1, y2, x2]; exact r1, fun k hk2 => ?_, by rw [x1, y1], by rw [y2]; exact Int.le_refl _, fun k hk2 => by rw [y3, eF]⟩
      rw [h3, y3, eF, x2]
      exact r2 k (by rw [y2] at hk2; exact hk2)
  obtain ⟨q1, q2, q3, q4, q5⟩ := key
  refine ⟨⟨q1, q2, by rw [h0, h4]; exact r3, fun u hu => ?_, by rw [h5]; exact r5, by rw [h6]; exact r6, v_di_un g2 he (by decide) (v_di_un g he (by decide) r7), by rw [h7]; exact r8⟩, q3, q_G_call (q_G_call hG g (by decide)) g2 (by decide), q5, q4⟩
  rw [h4] at hu
  obtain ⟨d1, d2⟩ := r4 u hu
  rw [f1, f2, f3, f4]
  refine ⟨fun t et => ?_, by omega⟩
  obtain ⟨a9, ea, ma, ra⟩ := g_7_RE (q_G_refl (m := []) g2.1) he.1 he.2 (k := u) (by omega)
  cases Option.some.inj (et.symm.trans ea)
  rw [q_unJ (k := 1) g2 ma ra (by decide), q_unJ (k := 2) g2 ma ra (by decide), q_unI (k := 3) g2 ma ra (by decide), q_unI (k := 4) g2 ma ra (by decide), q_unJ (k := 1) g ma ra (by decide), q_unJ (k := 2) g ma ra (by decide), q_unI (k := 3) g ma ra (by decide), q_unI (k := 4) g ma ra (by decide)]
  exact d1 t (by rw [← f5]; exact et)
end QVS
