/-! VALUES: the order of the TABLES, the one side: what is summed over it -/
theorem s_ins {h : Nat → Int} {k : Nat} : ∀ i, k ≤ i → s_sum h (i + 1) = s_sum (fun j => if j < k then h j else h (j + 1)) i + h k
  | 0, hk => by
    have : k = 0 := by omega
    subst this
    rw [s_sum, s_sum, s_sum]
  | i + 1, hk => by
    by_cases e : k = i + 1
    · subst e
      rw [s_sum]
      have : s_sum (fun j => if j < i + 1 then h j else h (j + 1)) (i + 1) = s_sum h (i + 1) := by
        have : ∀ q, q ≤ i + 1 → s_sum (fun j => if j < i + 1 then h j else h (j + 1)) q = s_sum h q := by
          intro q
          induction q with
          | zero => intro _; rfl
          | succ q ih => intro hq; rw [s_sum, s_sum, ih (by omega), if_pos (by omega)]
        exact this _ (Nat.le_refl _)
      rw [this]
    · have ih := s_ins (h := h) (k := k) i (by omega)
      rw [s_sum, ih, s_sum, if_neg (by omega)]
      omega
theorem s_sum_cg {f g : Nat → Int} : ∀ i, (∀ j, j < i → f j = g j) → s_sum f i = s_sum g i
  | 0, _ => rfl
  | i + 1, h => by rw [s_sum, s_sum, s_sum_cg i (fun j hj => h j (by omega)), h i (by omega)]
section QSO
variable {ρ : Nat → Nat} {L M9 : List Nat} {n : Nat} {S T : q_S} {x wo ce tb en ab m fF fT fS fB fL wr oA : Nat}
/-- the order with a hole at k -/
def o_g (S : q_S) (oA k j : Nat) : Nat := if j < k then (q_I S oA j).toInt.toNat else (q_I S oA (j + 1)).toInt.toNat
theorem c_sort (hn : 18446744073709551616 ≤ n) (hI : q_Inv ρ L S) (hA : v_Ad ρ L x wo ce tb en ab m fF fT fS fB fL) (hR : v_Rl wo ce tb en ab m fF fT fS fB fL S) (hr : wr ∈ L ∧ ρ wr = 38) (ho : oA ∈ L ∧ ρ oA = 41) : ∃ T, m_X10_sortByTags n S wr = some ((), T) ∧ q_G ρ L M_X10_sortByTags_38 S T ∧ (∀ f : Nat → Int, s_sum (fun j => f (q_I T oA j).toInt.toNat) (q_I S m 3).toInt.toNat = s_sum f (q_I S m 3).toInt.toNat) ∧ ∀ j : Nat, (j : Int) < (q_I S m 3).toInt → (q_I T oA j).toInt < (q_I S m 3).toInt := by
  have hG : q_G ρ L M_X10_sortByTags_38 S S := q_G_refl hI
  have hT := g_45_I3 hG hA.2.2.2.2.2.2.1.1 hA.2.2.2.2.2.2.1.2
  have y1 : (1 : Int32).toInt = 1 := rfl
  have y0 : (0 : Int32).toInt = 0 := rfl
  have ym : (-1 : Int32).toInt = -1 := rfl
  have l1 : ∀ U, q_Inv ρ L U → q_R U wr 1 = some tb := fun U hU => v_ln hU (g_38_R1 (q_G_refl (m := []) hU) hr.1 hr.2) hA.2.2.2.1 rfl
  have l5 : ∀ U, q_Inv ρ L U → q_R U wr 5 = some oA := fun U hU => v_ln hU (g_38_R5 (q_G_refl (m := []) hU) hr.1 hr.2) ho rfl
  obtain ⟨_, T, e, gT⟩ := s_X10_sortByTags_38 hn hI hr.1 hr.2
  refine ⟨T, e, gT, ?_⟩
  have tb3 : ∀ U, q_G ρ L M_X10_sortByTags_38 S U → q_I U tb 3 = q_I S m 3 := fun U g => by rw [q_unI g hA.2.2.2.1.1 hA.2.2.2.1.2 (by decide)]; exact hR.2.2.1
  have e8 : ∀ U, q_G ρ L M_X10_sortByTags_38 S U → m_X8_size n U tb = some (q_I S m 3, U) := fun U g => by unfold m_X8_size; rw [q_at_pos (k_t g.1 hA.2.2.2.1), tb3 U g]
  -- the outer loop, if it ends
  have outer : ∀ (k i : Nat) (U : q_S) (l : Int32), q_G ρ L M_X10_sortByTags_38 S U → l.toInt = i → (i : Int) ≤ (q_I S m 3).toInt → (∀ f : Nat → Int, s_sum (fun j => f (q_I U oA j).toInt.toNat) i = s_sum f i) → (∀ j, j < i → (q_I U oA j).toInt < i) → m_X10_sortByTags_2 n k U (some wr) l = some ((), T) → (∀ f : Nat → Int, s_sum (fun j => f (q_I T oA j).toInt.toNat) (q_I S m 3).toInt.toNat = s_sum f (q_I S m 3).toInt.toNat) ∧ ∀ j : Nat, (j : Int) < (q_I S m 3).toInt → (q_I T oA j).toInt < (q_I S m 3).toInt := by
    intro k
    induction k with
    | zero => intro i U l gU h1 h2 h3 h4 h; rw [m_X10_sortByTags_2] at h; cases h
    | succ k ih =>
      intro i U l gU h1 h2 h3 h4 h
      rw [m_X10_sortByTags_2, q_at_pos (k_r gU.1 hr), l1 _ gU.1, q_at_pos (k_t gU.1 hA.2.2.2.1), e8 U gU, q_b_some] at h
      by_cases g1 : (q_I S m 3).toInt ≤ l.toInt
      · rw [if_pos (i_le.mpr g1)] at h
        cases h
        have ei : (q_I S m 3).toInt.toNat = i := by omega
        rw [ei]
        exact ⟨h3, fun j hj => by have := h4 j (by omega); omega⟩
      rw [if_neg (fun h9 => g1 (i_le.mp h9))] at h
      have inner : ∀ (q c : Nat) (V : q_S) (l2 : Int32), q_G ρ L M_X10_sortByTags_38 S V → l2.toInt = c → c ≤ i → (∀ f : Nat → Int, s_sum (fun j => f (o_g V oA c j)) i = s_sum f i) → (∀ j, j < i → o_g V oA c j < i) → m_X10_sortByTags_15 n (m_X10_sortByTags_2 n k) q V (some wr) l l2 = some ((), T) → (∀ f : Nat → Int, s_sum (fun j => f (q_I T oA j).toInt.toNat) (q_I S m 3).toInt.toNat = s_sum f (q_I S m 3).toInt.toNat) ∧ ∀ j : Nat, (j : Int) < (q_I S m 3).toInt → (q_I T oA j).toInt < (q_I S m 3).toInt := by
        -- the place is found
        have put : ∀ (c : Nat) (V : q_S) (l2 : Int32), q_G ρ L M_X10_sortByTags_38 S V → l2.toInt = c → c ≤ i → (∀ f : Nat → Int, s_sum (fun j => f (o_g V oA c j)) i = s_sum f i) → (∀ j, j < i → o_g V oA c j < i) → m_X10_sortByTags_72 n (m_X10_sortByTags_2 n k) V (some wr) l l2 = some ((), T) → (∀ f : Nat → Int, s_sum (fun j => f (q_I T oA j).toInt.toNat) (q_I S m 3).toInt.toNat = s_sum f (q_I S m 3).toInt.toNat) ∧ ∀ j : Nat, (j : Int) < (q_I S m 3).toInt → (q_I T oA j).toInt < (q_I S m 3).toInt := by
          intro c V l2 gV k1 k2 k3 k4 h
          unfold m_X10_sortByTags_72 at h
          rw [q_at_pos (k_r gV.1 hr), l5 _ gV.1, q_at_pos (v_at (c := 100) gV.1 ho rfl), q_if_pos (q_inI (g_41_N gV ho.1 ho.2) (by omega) (by omega))] at h
          have ec : l2.toNatClampNeg = c := by rw [v_cl k1]; rfl
          rw [ec] at h
          have gW := u_41_E (k := c) (x := l) gV ho.1 ho.2 (by decide) ⟨by omega, by omega⟩
          have ev : ∀ j, (q_I (q_sI V oA c l) oA j).toInt.toNat = if j = c then i else (q_I V oA j).toInt.toNat := fun j => by
            by_cases e9 : j = c
            · rw [e9, q_hitI, if_pos rfl, h1]; rfl
            · rw [q_ffI e9, if_neg e9]
          refine ih (i + 1) _ (l + 1) gW (by rw [q_addI (by rw [y1]; omega) (by rw [y1]; omega), y1, h1]; rfl) (by omega) (fun f => ?_) (fun j hj => ?_) h
          · rw [s_ins (k := c) i k2, s_sum]
            have : s_sum (fun j => if j < c then f (q_I (q_sI V oA c l) oA j).toInt.toNat else f (q_I (q_sI V oA c l) oA (j + 1)).toInt.toNat) i = s_sum (fun j => f (o_g V oA c j)) i := s_sum_cg i (fun j hj => by
              unfold o_g
              by_cases e9 : j < c
              · rw [if_pos e9, if_pos e9, ev, if_neg (by omega)]
              · rw [if_neg e9, if_neg e9, ev, if_neg (by omega)])
            rw [this, k3 f, ev, if_pos rfl]
          · have bj := g_41_E gW ho.1 ho.2 (k := j)
            have ej := ev j
            by_cases e9 : j = c
            · rw [if_pos e9] at ej; omega
            · rw [if_neg e9] at ej
              by_cases e10 : j < c
              · have := k4 j (by omega)
                unfold o_g at this
                rw [if_pos e10] at this
                omega
              · have := k4 (j - 1) (by omega)
                unfold o_g at this
                rw [if_neg (by omega), show j - 1 + 1 = j by omega] at this
                omega
        intro q
        induction q with
        | zero => intro c V l2 gV k1 k2 k3 k4 h; rw [m_X10_sortByTags_15] at h; cases h
        | succ q ihq =>
          intro c V l2 gV k1 k2 k3 k4 h
          rw [m_X10_sortByTags_15] at h
          by_cases g2 : l2.toInt ≤ 0
          · rw [if_pos (i_le.mpr (by rw [y0]; exact g2))] at h
            exact put c V l2 gV k1 k2 k3 k4 h
          have em : (l2 - (1 : Int32)).toInt = (c : Int) - 1 := by rw [q_subI (by rw [y1]; omega) (by rw [y1]; omega), y1, k1]
          have ec1 : (l2 - (1 : Int32)).toNatClampNeg = c - 1 := by rw [v_cl em]; omega
          have ec : l2.toNatClampNeg = c := by rw [v_cl k1]; rfl
          have R := v_RlU hA gV (by decide) hR
          rw [if_neg (fun h9 => g2 (by have := i_le.mp h9; rw [y0] at this; exact this)), q_at_pos (k_r gV.1 hr), l5 _ gV.1, q_at_pos (v_at (c := 100) gV.1 ho rfl), q_if_pos (q_inI (g_41_N gV ho.1 ho.2) (by omega) (by omega)), l1 _ gV.1, q_at_pos (k_t gV.1 hA.2.2.2.1)] at h
          obtain ⟨t1, et1, h81, -⟩ := v_get (n := n) (p := q_I V oA (l2 - (1 : Int32)).toNatClampNeg) gV.1 hA R
          obtain ⟨t2, et2, h82, -⟩ := v_get (n := n) (p := l) gV.1 hA R
          rw [et1, q_b_some, q_at_pos (k_8 gV.1 h81), q_at_pos (k_r gV.1 hr), l1 _ gV.1, q_at_pos (k_t gV.1 hA.2.2.2.1), et2, q_b_some, q_at_pos (k_8 gV.1 h82)] at h
          by_cases g3 : lg_cmp (q_J V t1 1) (q_J V t2 1) ≤ 0
          · rw [if_pos g3] at h
            exact put c V l2 gV k1 k2 k3 k4 h
          rw [if_neg g3, q_at_pos (k_r gV.1 hr), l5 _ gV.1, q_at_pos (v_at (c := 100) gV.1 ho rfl), q_if_pos (q_inI (g_41_N gV ho.1 ho.2) (by omega) (by omega)), q_if_pos (q_inI (g_41_N gV ho.1 ho.2) (by omega) (by omega)), ec, ec1] at h
          have bo := g_41_E gV ho.1 ho.2 (k := c - 1)
          have gW := u_41_E (k := c) (x := q_I V oA (c - 1)) gV ho.1 ho.2 (by decide) bo
          have same : ∀ j, o_g (q_sI V oA c (q_I V oA (c - 1))) oA (c - 1) j = o_g V oA c j := fun j => by
            unfold o_g
            by_cases e9 : j < c - 1
            · rw [if_pos e9, if_pos (by omega), q_ffI (by omega)]
            · rw [if_neg e9]
              by_cases e10 : j = c - 1
              · rw [if_pos (by omega), e10, show c - 1 + 1 = c by omega, q_hitI]
              · rw [if_neg (by omega), q_ffI (by omega)]
          exact ihq (c - 1) _ (l2 + (-1)) gW (by rw [q_addI (by rw [ym]; omega) (by rw [ym]; omega), ym, k1]; omega) (by omega) (fun f => by rw [funext (fun j => congrArg f (same j)) ]; exact k3 f) (fun j hj => by rw [same]; exact k4 j hj) h
      refine inner n i U l gU h1 (Nat.le_refl _) (fun f => ?_) (fun j hj => ?_) h
      · rw [← h3 f]
        exact s_sum_cg i (fun j hj => by unfold o_g; rw [if_pos hj])
      · unfold o_g
        rw [if_pos hj]
        have := h4 j hj
        have := g_41_E gU ho.1 ho.2 (k := j)
        omega
  unfold m_X10_sortByTags at e
  exact outer n 0 S 0 hG rfl (by omega) (fun f => rfl) (fun j hj => by omega) e
end QSO
