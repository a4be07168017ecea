/-! VALUES: width() -/
theorem q_sId {S : q_S} {a k : Nat} : q_sI S a k (q_I S a k) = S := by
  have e : q_u S.2.2.2.1 a k (q_I S a k) = S.2.2.2.1 := funext fun c => funext fun j => by
    rw [q_u_at]
    by_cases e1 : c = a ∧ j = k
    · rw [if_pos e1, e1.1, e1.2]; rfl
    · rw [if_neg e1]
  show (S.1, S.2.1, S.2.2.1, q_u S.2.2.2.1 a k (q_I S a k), S.2.2.2.2.1, S.2.2.2.2.2) = S
  rw [e]
section QVW2
variable {ρ : Nat → Nat} {L M9 : List Nat} {n : Nat} {S T : q_S} {x wo ce tb en ab m fF fT fS fB fL : Nat}
theorem v_p8 (hI : q_Inv ρ L S) (hm : m ∈ L ∧ ρ m = 45) : q_I S m 8 = 0 ∨ q_I S m 8 = 1 := by
  have h := g_45_I8 (q_G_refl (m := []) hI) hm.1 hm.2
  exact q_b01 h.1 h.2
theorem zs_width (hn : 18446744073709551616 ≤ n) (hI : q_Inv ρ L S) (hA : v_Ad ρ L x wo ce tb en ab m fF fT fS fB fL) (hR : v_Rs ρ L wo ce tb en ab m fF fT fS fB fL S) {p0 : Int32} : q_ok (m_X11_width n S x p0) (fun r T => q_Inv ρ L T ∧ q_ok (m_X12_width n T m p0) (fun r2 T2 => q_Inv ρ L T2 ∧ v_Rs ρ L wo ce tb en ab m fF fT fS fB fL T2 ∧ r = r2)) := by
  have hm := hA.2.2.2.2.2.2.1
  have ht := hA.2.2.2.1
  have hx := hA.1
  have hF := hA.2.2.2.2.2.2.2.1
  have y0 : (0 : Int32).toInt = 0 := rfl
  have y1 : (1 : Int32).toInt = 1 := rfl
  have ym : (-1 : Int32).toInt = -1 := rfl
  have y4 : (4 : Int64).toInt = 4 := rfl
  have hsgb := v_sg_b (S := S) (m := m) (fF := fF) (fB := fB) (fL := fL)
  have hG0 : q_G ρ L [2880, 2888] S (q_sI S m 0 0) := u_45_I0 (q_G_refl hI) hm.1 hm.2 (by decide) ⟨by decide, by decide⟩
  obtain ⟨u1, u2, u3, u4, u5, u6⟩ := z_un hI hG0 hA (by decide)
  have hG8 : ∀ c : Int32, c = 0 ∨ c = 1 → q_G ρ L [2880, 2888] S (q_sI (q_sI S m 0 0) m 8 c) := fun c hc => v_m08 hI hm ⟨by decide, by decide⟩ (by rcases hc with e | e <;> rw [e] <;> decide)
  have w4 := (z_un hI (hG8 0 (Or.inl rfl)) hA (by decide)).2.2.2.1
  have fin : ∀ c : Int32, c = 0 ∨ c = 1 → q_Inv ρ L (q_sI (q_sI S m 0 0) m 8 c) ∧ v_Rs ρ L wo ce tb en ab m fF fT fS fB fL (q_sI (q_sI S m 0 0) m 8 c) := fun c hc => ⟨(hG8 c hc).1, v_RsU hI hA (hG8 c hc) (by decide) hR⟩
  have esg : v_sg (q_sI S m 0 0) m fF fB fL = v_sg S m fF fB fL := by unfold v_sg; rw [u1, u4]
  obtain ⟨c1, d1, a1⟩ := v_isS (p := p0) hn hG0.1 hA (v_p8 hG0.1 hm)
  rw [q_sId, esg] at a1
  obtain ⟨t1, et1, h81⟩ := v_first (n := n) (tag := 1751672161) hn hI hA hR.1
  obtain ⟨r7, a7, v7⟩ := v_ctw (n := n) (i := 34) hI hA hR.1 h81 (by decide)
  obtain ⟨t2, et2, h82⟩ := v_first (n := n) (tag := 1752003704) hn hI hA hR.1
  have b7 := z_tw_b (m := m) (fB := fB) (fL := fL) (p := (q_fd S m 1751672161).toInt) (i := (34 : Int64).toInt) hI hF
  have hfd1 := v_fdR (tag := 1751672161) hI hm hA.2.2.2.2.2.2.2.2.1
  have hfd2 := v_fdR (tag := 1752003704) hI hm hA.2.2.2.2.2.2.2.2.1
  obtain ⟨r8, c8, d8, a8, f8, k8⟩ := v_twQ (p := q_fd S m 1751672161) (b := 0) (i := 34) hn hG0.1 hA (Or.inl rfl) (by rw [u5]; exact hfd1) (by decide)
  rw [u1] at f8 k8
  unfold m_X11_width m_X11_width_32 m_X11_width_70 m_X12_width
  rw [q_at_pos (k_x hI hx), v_x2 hI hx ht, q_at_pos (k_t hI ht), et1, q_b_some, q_at_pos (k_8 hI h81.1), a7, q_b_some, q_at_pos (k_x hI hx)]
  refine q_ok_at (q_G_refl (m := []) hI) (g_0_R3 (q_G_refl (m := []) hI) hx.1 hx.2) rfl (fun sg ms rs es => ?_)
  rw [v_hasS hI ⟨ms, rs⟩ (hR.2 sg ms rs), q_b_some]
  by_cases g : 0 ≤ p0.toInt ∧ p0.toInt < v_sg S m fF fB fL
  · rw [if_pos g] at a1 ⊢
    rw [if_neg (by decide)]
    have ref : ∀ P : Int32 → q_S → Prop, q_ok (if r8 = 0 then m_X12_width_73 n (q_sI (q_sI S m 0 0) m 8 c8) (some m) 0 else q_b (m_X12_find n (q_sI (q_sI S m 0 0) m 8 c8) m 1752003704) (fun r17 S18 => (if (r8 - (1 : Int32)) ≤ p0 then m_X12_width_68 n (S18) (some m) (r8 - (1 : Int32)) ((4 : Int64)) (r17) (some m) else m_X12_width_68 n (S18) (some m) (p0) ((4 : Int64)) (r17) (some m)))) P → q_ok (q_at S (some m) 13 (fun a1 => q_b (m_X12_isSign n (q_sI (S) a1 0 ((0 : Int32))) a1 (p0)) (fun r2 S3 => (if r2 = 0 then some ((0 : Int32), S3) else q_at (S3) (some m) 13 (fun a6 => q_if ((0 : Int32) = 0 ∨ (0 : Int32) = 1) (q_b (m_X12_find n (q_sI (S3) a6 8 ((0 : Int32))) a6 ((1751672161 : Int64))) (fun r8 S9 => q_at (S9) (some m) 13 (fun a11 => q_b (m_X12_two n (S9) a11 (r8) ((34 : Int64))) (fun r12 S13 => (if r12 = 0 then m_X12_width_73 n (S13) (some m) ((0 : Int32)) else q_at (S13) (some m) 13 (fun a16 => q_b (m_X12_find n (S13) a16 ((1752003704 : Int64))) (fun r17 S18 => (if (r12 - (1 : Int32)) ≤ p0 then m_X12_width_68 n (S18) (some m) (r12 - (1 : Int32)) ((4 : Int64)) (r17) (some m) else m_X12_width_68 n (S18) (some m) (p0) ((4 : Int64)) (r17) (some m)))))))))))))) P := fun P h => by
      rw [q_at_pos (k_m hI hm), a1, q_b_some, if_neg (by decide), q_at_pos (k_m (hG8 c1 d1).1 hm), q_if_pos (Or.inl rfl), q_sI2, v_fdM hn (hG8 0 (Or.inl rfl)).1 hm ⟨by decide, by decide⟩, q_b_some, w4, q_at_pos (k_m (hG8 0 (Or.inl rfl)).1 hm), a8, q_b_some, q_at_pos (k_m (hG8 c8 d8).1 hm)]
      exact h
    by_cases g7 : 0 < z_tw S m fF fB fL (q_fd S m 1751672161).toInt (34 : Int64).toInt
    · obtain ⟨v8, ec8⟩ := f8 (by omega)
      subst ec8
      have er : r8 = r7 := Int32.toInt_inj.mp (by rw [v8, v7])
      subst er
      rw [if_pos (i_lt.mpr (by rw [y0]; omega)), q_at_pos (k_x hI hx), v_x2 hI hx ht, q_at_pos (k_t hI ht), et2, q_b_some]
      have e1 : (r8 - (1 : Int32)).toInt = r8.toInt - 1 := by rw [q_subI (by rw [y1]; omega) (by rw [y1]; omega), y1]
      obtain ⟨r22, T22, e22, eT22, s1, s2, s3⟩ := s_J9_min_7cf53 n S p0 (r8 - (1 : Int32))
      subst eT22
      rw [e22, q_b_some, q_at_pos (k_8 hI h82.1)]
      rw [e1] at s1 s3
      have hb22 : 0 ≤ r22.toInt ∧ r22.toInt ≤ 200 := by omega
      have em : ((4 : Int64) * (r22.toInt64)).toInt = 4 * r22.toInt := by rw [q_mulLJ y4 (by rw [q_wil]; omega) (by rw [q_wil]; omega), q_wil]
      obtain ⟨r26, a26, v26⟩ := v_ctw (n := n) (i := (4 : Int64) * (r22.toInt64)) hI hA hR.1 h82 (by omega)
      rw [a26, q_b_some]
      obtain ⟨r2, c2, d2, a2, f2, k2⟩ := v_twQ (p := q_fd T22 m 1752003704) (b := 0) (i := (4 : Int64) * (r22.toInt64)) hn hG0.1 hA (Or.inl rfl) (by rw [u5]; exact hfd2) (by omega)
      rw [u1] at f2 k2
      have b26 := z_tw_b (m := m) (fB := fB) (fL := fL) (p := (q_fd T22 m 1752003704).toInt) (i := ((4 : Int64) * (r22.toInt64)).toInt) hI hF
      have mx : q_ok (m_X12_width_68 n (q_sI (q_sI T22 m 0 0) m 8 0) (some m) r22 4 (q_fd T22 m 1752003704) (some m)) (fun r T2 => q_Inv ρ L T2 ∧ v_Rs ρ L wo ce tb en ab m fF fT fS fB fL T2 ∧ r.toInt = if z_tw T22 m fF fB fL (q_fd T22 m 1752003704).toInt ((4 : Int64) * (r22.toInt64)).toInt < 0 then 0 else z_tw T22 m fF fB fL (q_fd T22 m 1752003704).toInt ((4 : Int64) * (r22.toInt64)).toInt) := by
        unfold m_X12_width_68 m_X12_width_73 m_X12_width_86
        rw [q_at_pos (k_m (hG8 0 (Or.inl rfl)).1 hm), a2, q_b_some, q_at_pos (k_m (hG8 c2 d2).1 hm), q_hitI]
        by_cases g2 : z_tw T22 m fF fB fL (q_fd T22 m 1752003704).toInt ((4 : Int64) * (r22.toInt64)).toInt < 0
        · obtain ⟨-, ec⟩ := k2 g2
          subst ec
          rw [if_neg (by decide), if_pos g2]
          exact q_ok_some ⟨(fin 1 d2).1, (fin 1 d2).2, rfl⟩
        · obtain ⟨hv, ec⟩ := f2 (by omega)
          subst ec
          rw [if_pos rfl, if_neg g2]
          exact q_ok_some ⟨(fin 0 d2).1, (fin 0 d2).2, hv⟩
      have mx2 : q_ok (if (r8 - (1 : Int32)) ≤ p0 then m_X12_width_68 n (q_sI (q_sI T22 m 0 0) m 8 0) (some m) (r8 - (1 : Int32)) ((4 : Int64)) (q_fd T22 m 1752003704) (some m) else m_X12_width_68 n (q_sI (q_sI T22 m 0 0) m 8 0) (some m) (p0) ((4 : Int64)) (q_fd T22 m 1752003704) (some m)) (fun r T2 => q_Inv ρ L T2 ∧ v_Rs ρ L wo ce tb en ab m fF fT fS fB fL T2 ∧ r.toInt = if z_tw T22 m fF fB fL (q_fd T22 m 1752003704).toInt ((4 : Int64) * (r22.toInt64)).toInt < 0 then 0 else z_tw T22 m fF fB fL (q_fd T22 m 1752003704).toInt ((4 : Int64) * (r22.toInt64)).toInt) := by
        by_cases g3 : (r8 - (1 : Int32)) ≤ p0
        · have := i_le.mp g3
          have e : r8 - (1 : Int32) = r22 := Int32.toInt_inj.mp (by rw [e1] at *; omega)
          rw [if_pos g3, e]
          exact mx
        · have := mt i_le.mpr g3
          have e : p0 = r22 := Int32.toInt_inj.mp (by rw [e1] at *; omega)
          rw [if_neg g3]
          rw [← e] at mx ⊢
          exact mx
      by_cases g2 : z_tw T22 m fF fB fL (q_fd T22 m 1752003704).toInt ((4 : Int64) * (r22.toInt64)).toInt < 0
      · rw [if_pos (i_eq.mpr (by rw [v26, ym]; omega))]
        refine q_ok_some ⟨hI, ref _ ?_⟩
        rw [if_neg (fun h => by have := i_eq.mp h; omega), v_fdM hn (hG8 0 (Or.inl rfl)).1 hm ⟨by decide, by decide⟩, q_b_some, w4]
        obtain ⟨r3, T3, e3, h1, h2, h3⟩ := mx2
        rw [if_pos g2] at h3
        exact ⟨r3, T3, e3, h1, h2, Int32.toInt_inj.mp (by rw [h3]; rfl)⟩
      · rw [if_neg (fun h => g2 (by have := i_eq.mp h; rw [v26, ym] at this; omega))]
        refine q_ok_some ⟨hI, ref _ ?_⟩
        rw [if_neg (fun h => by have := i_eq.mp h; omega), v_fdM hn (hG8 0 (Or.inl rfl)).1 hm ⟨by decide, by decide⟩, q_b_some, w4]
        obtain ⟨r3, T3, e3, h1, h2, h3⟩ := mx2
        rw [if_neg g2] at h3
        exact ⟨r3, T3, e3, h1, h2, Int32.toInt_inj.mp (by rw [h3, v26])⟩
    · rw [if_neg (fun h => g7 (by have := i_lt.mp h; rw [y0] at this; omega))]
      refine q_ok_some ⟨hI, ref _ ?_⟩
      have e8 : r8 = 0 := by
        by_cases g8 : z_tw S m fF fB fL (q_fd S m 1751672161).toInt (34 : Int64).toInt < 0
        · exact (k8 g8).1
        · exact Int32.toInt_inj.mp (by rw [(f8 (by omega)).1]; show _ = (0 : Int); omega)
      rw [if_pos e8]
      unfold m_X12_width_73 m_X12_width_86
      rw [q_at_pos (k_m (hG8 c8 d8).1 hm)]
      refine q_ok_ite (fun _ => ?_) (fun _ => ?_)
      · exact q_ok_some ⟨(fin c8 d8).1, (fin c8 d8).2, rfl⟩
      · exact q_ok_some ⟨(fin c8 d8).1, (fin c8 d8).2, rfl⟩
  · rw [if_neg g] at a1 ⊢
    rw [if_pos rfl]
    refine q_ok_some ⟨hI, ?_⟩
    rw [q_at_pos (k_m hI hm), a1, q_b_some, if_pos rfl]
    exact q_ok_some ⟨(fin c1 d1).1, (fin c1 d1).2, rfl⟩
end QVW2
