/-! VALUES: write(), the other side: the order by ranks -/
theorem s_perm {g : Nat → Int} : ∀ (T : Nat) (p : Nat → Nat) (g : Nat → Int), (∀ k, k < T → p k < T) → (∀ i k, i < T → k < T → p i = p k → i = k) → s_sum (fun k => g (p k)) T = s_sum g T
  | 0, _, _, _, _ => rfl
  | T + 1, p, g, hb, hi => by
    have hq : p T ≤ T := by have := hb T (by omega); omega
    have hne : ∀ k, k < T → p k ≠ p T := fun k hk h => by have := hi k T (by omega) (by omega) h; omega
    have ih := s_perm (g := g) T (fun k => if p k < p T then p k else p k - 1) (fun j => if j < p T then g j else g (j + 1)) (fun k hk => by
      have h1 := hne k hk
      have h2 := hb k (by omega)
      show (if p k < p T then p k else p k - 1) < T
      split <;> omega) (fun i k h1 h2 h => by
      have h3 := hne i h1
      have h4 := hne k h2
      have h : (if p i < p T then p i else p i - 1) = (if p k < p T then p k else p k - 1) := h
      refine hi i k (by omega) (by omega) ?_
      split at h <;> split at h <;> omega)
    rw [s_ins (h := g) (k := p T) T hq, ← ih, s_sum]
    congr 1
    refine s_sum_cg T (fun k hk => ?_)
    have h1 := hne k hk
    show g (p k) = if (if p k < p T then p k else p k - 1) < p T then g (if p k < p T then p k else p k - 1) else g ((if p k < p T then p k else p k - 1) + 1)
    by_cases h2 : p k < p T
    · rw [if_pos h2, if_pos h2]
    · rw [if_neg h2, if_neg (by omega), show p k - 1 + 1 = p k by omega]
theorem s_lt {f g : Nat → Int} : ∀ (T : Nat), (∀ j, j < T → f j ≤ g j) → s_sum f T ≤ s_sum g T ∧ ∀ k, k < T → f k < g k → s_sum f T < s_sum g T
  | 0, _ => ⟨by rw [s_sum, s_sum]; omega, fun k hk => by omega⟩
  | T + 1, h => by
    obtain ⟨h1, h2⟩ := s_lt (f := f) (g := g) T (fun j hj => h j (by omega))
    have h3 := h T (by omega)
    rw [s_sum, s_sum]
    refine ⟨by omega, fun k hk hl => ?_⟩
    by_cases e : k = T
    · subst e; omega
    · have := h2 k (by omega) hl; omega
theorem s_one_n : ∀ T : Nat, s_sum (fun _ => 1) T = T
  | 0 => rfl
  | T + 1 => by rw [s_sum, s_one_n T]; rfl
theorem s_zero {f : Nat → Int} (h : ∀ j, 0 ≤ f j) (T : Nat) (h0 : s_sum f T = 0) {k : Nat} (hk : k < T) : f k = 0 := by
  have h1 := (s_lt (f := fun _ => 0) (g := f) T (fun j _ => h j)).2 k hk
  have h2 : s_sum (fun _ => 0) T = 0 := by
    induction T with
    | zero => rfl
    | succ T ih =>
      have : ∀ T : Nat, s_sum (fun _ => 0) T = 0 := fun T => by
        induction T with
        | zero => rfl
        | succ T ih => rw [s_sum, ih]; rfl
      exact this _
  have h3 := h k
  by_cases e : f k = 0
  · exact e
  · have := h1 (by show (0 : Int) < f k; omega)
    omega
/-- before: the order by tags, then by number -/
abbrev r_bf (f : Nat → Int64) (j k : Nat) : Prop := (f j).toInt < (f k).toInt ∨ ((f j).toInt = (f k).toInt ∧ j < k)
def r_b1 (f : Nat → Int64) (k j : Nat) : Int := if r_bf f j k then 1 else 0
def r_rk (f : Nat → Int64) (T k : Nat) : Int := s_sum (r_b1 f k) T
theorem r_b1_b {f : Nat → Int64} {k j : Nat} : 0 ≤ r_b1 f k j ∧ r_b1 f k j ≤ 1 := by unfold r_b1; split <;> omega
theorem r_rk_b {f : Nat → Int64} {T k : Nat} (h : k < T) : 0 ≤ r_rk f T k ∧ r_rk f T k < T := by
  have h1 := s_sum_b (f := r_b1 f k) (B := 1) (fun i => r_b1_b) T
  have h2 := (s_lt (f := r_b1 f k) (g := fun _ => 1) T (fun j _ => r_b1_b.2)).2 k h (by
    show r_b1 f k k < 1
    unfold r_b1
    rw [if_neg (fun h => by unfold r_bf at h; omega)]
    decide)
  rw [s_one_n] at h2
  exact ⟨h1.1, h2⟩
theorem r_rk_lt {f : Nat → Int64} {T k l : Nat} (h : k < T) (hb : r_bf f k l) : r_rk f T k < r_rk f T l := by
  refine (s_lt (f := r_b1 f k) (g := r_b1 f l) T (fun j _ => ?_)).2 k h ?_
  · unfold r_b1
    by_cases e : r_bf f j k
    · rw [if_pos e, if_pos (by unfold r_bf at *; omega)]; exact Int.le_refl _
    · rw [if_neg e]; split <;> decide
  · unfold r_b1
    rw [if_pos hb, if_neg (fun h => by unfold r_bf at h; omega)]
    decide
theorem r_rk_inj {f : Nat → Int64} {T k l : Nat} (hk : k < T) (hl : l < T) (h : r_rk f T k = r_rk f T l) : k = l := by
  by_cases e : k = l
  · exact e
  · by_cases e2 : r_bf f k l
    · have := r_rk_lt (T := T) hk e2; omega
    · have := r_rk_lt (T := T) hl (show r_bf f l k by unfold r_bf at *; omega); omega
section QRO
variable {ρ : Nat → Nat} {L M9 : List Nat} {n : Nat} {S S0 T : q_S} {x wo ce tb en ab m fF fT fS fB fL us oR : Nat}
theorem r_sort (hn : 18446744073709551616 ≤ n) (hI : q_Inv ρ L S) (hm : m ∈ L ∧ ρ m = 45) (hT : fT ∈ L ∧ ρ fT = 47) (ho : oR ∈ L ∧ ρ oR = 73) : ∃ T, m_X12_sort n S m = some ((), T) ∧ q_G ρ L M_X12_sort_45 S T ∧ (∀ f : Nat → Int, s_sum (fun j => f (q_I T oR j).toInt.toNat) (q_I S m 3).toInt.toNat = s_sum f (q_I S m 3).toInt.toNat) ∧ ∀ j : Nat, (j : Int) < (q_I S m 3).toInt → (q_I T oR j).toInt < (q_I S m 3).toInt := by
  have hG : q_G ρ L M_X12_sort_45 S S := q_G_refl hI
  have b3 := g_45_I3 hG hm.1 hm.2
  have y1 : (1 : Int32).toInt = 1 := rfl
  have y0 : (0 : Int32).toInt = 0 := rfl
  have e3 : ∀ U, q_G ρ L M_X12_sort_45 S U → q_I U m 3 = q_I S m 3 := fun U g => q_unI g hm.1 hm.2 (by decide)
  have e40 : ∀ U, q_Inv ρ L U → q_R U m 40 = some oR := fun U hU => v_ln hU (g_45_R40 (q_G_refl (m := []) hU) hm.1 hm.2) ho rfl
  have e4 : ∀ U, q_Inv ρ L U → q_R U m 4 = some fT := fun U hU => v_m4 hU hm hT
  have eJ : ∀ U, q_G ρ L M_X12_sort_45 S U → ∀ k, q_J U fT k = q_J S fT k := fun U g k => q_unJA g hT.1 hT.2 (by decide) (by decide)
  -- the inner loop: the rank
  have inner : ∀ (k2 : q_S → Option Nat → Int32 → Option (Unit × q_S)) (U : q_S) (l1 : Int32) (k : Nat), q_G ρ L M_X12_sort_45 S U → l1.toInt = k → k < (q_I S m 3).toInt.toNat → ∀ (j q i : Nat) (l2 l3 : Int32), l3.toInt = i → (i : Int) + j = (q_I S m 3).toInt → j < q → l2.toInt = s_sum (r_b1 (q_J S fT) k) i → m_X12_sort_14 n k2 q U (some m) l1 l2 l3 = k2 (q_sI U oR (r_rk (q_J S fT) (q_I S m 3).toInt.toNat k).toNat l1) (some m) (l1 + 1) := by
    intro k2 U l1 k gU h1 hk j
    have rb := r_rk_b (f := q_J S fT) hk
    induction j with
    | zero =>
      intro q i l2 l3 h3 hj hq h2
      obtain ⟨q, rfl⟩ : ∃ k', q = k' + 1 := ⟨q - 1, by omega⟩
      have e2 : l2.toInt = r_rk (q_J S fT) (q_I S m 3).toInt.toNat k := by rw [h2, show i = (q_I S m 3).toInt.toNat by omega]; rfl
      rw [m_X12_sort_14, q_at_pos (k_m gU.1 hm), e3 U gU, if_pos (i_le.mpr (by omega)), e40 _ gU.1, q_at_pos (v_at (c := 100) gU.1 ho rfl), q_if_pos (q_inI (g_73_N gU ho.1 ho.2) (by omega) (by omega)), v_cl e2]
    | succ j ih =>
      intro q i l2 l3 h3 hj hq h2
      obtain ⟨q, rfl⟩ : ∃ k', q = k' + 1 := ⟨q - 1, by omega⟩
      have bs := s_sum_b (f := r_b1 (q_J S fT) k) (B := 1) (fun i => r_b1_b) i
      have c3 : l3.toNatClampNeg = i := by rw [v_cl h3]; rfl
      have c1 : l1.toNatClampNeg = k := by rw [v_cl h1]; rfl
      have i3 : q_in l3 (q_N U fT) = true := q_inI (g_47_N gU hT.1 hT.2) (by omega) (by omega)
      have i1 : q_in l1 (q_N U fT) = true := q_inI (g_47_N gU hT.1 hT.2) (by omega) (by omega)
      have el : (l3 + 1).toInt = ((i + 1 : Nat) : Int) := by rw [q_addI (by rw [y1]; omega) (by rw [y1]; omega), y1, h3]; rfl
      have yes : r_bf (q_J S fT) i k → m_X12_sort_14 n k2 q U (some m) l1 (l2 + 1) (l3 + 1) = k2 (q_sI U oR (r_rk (q_J S fT) (q_I S m 3).toInt.toNat k).toNat l1) (some m) (l1 + 1) := fun h => ih q (i + 1) (l2 + 1) (l3 + 1) el (by omega) (by omega) (by rw [q_addI (by rw [y1]; omega) (by rw [y1]; omega), y1, s_sum, h2]; unfold r_b1; rw [if_pos h])
      have no : ¬ r_bf (q_J S fT) i k → m_X12_sort_14 n k2 q U (some m) l1 (l2 + 0) (l3 + 1) = k2 (q_sI U oR (r_rk (q_J S fT) (q_I S m 3).toInt.toNat k).toNat l1) (some m) (l1 + 1) := fun h => ih q (i + 1) (l2 + 0) (l3 + 1) el (by omega) (by omega) (by rw [q_addI (by rw [y0]; omega) (by rw [y0]; omega), y0, s_sum, h2]; unfold r_b1; rw [if_neg h])
      rw [m_X12_sort_14, q_at_pos (k_m gU.1 hm), e3 U gU, if_neg (fun h => by have := i_le.mp h; omega), e4 _ gU.1, q_at_pos (k_T gU.1 hT), q_if_pos i3, q_if_pos i1, c3, c1, eJ U gU, eJ U gU]
      unfold m_X12_sort_60 m_X12_sort_64 m_X12_sort_65
      by_cases g1 : (q_J S fT i).toInt < (q_J S fT k).toInt
      · rw [if_pos (c_lt.mpr g1)]
        exact yes (Or.inl g1)
      rw [if_neg (fun h => g1 (c_lt.mp h)), q_if_pos i3, q_if_pos i1]
      by_cases g2 : (q_J S fT i).toInt = (q_J S fT k).toInt
      · rw [if_pos (c_eq.mpr g2)]
        by_cases g3 : k ≤ i
        · rw [if_pos (i_le.mpr (by omega))]
          exact no (fun h => by unfold r_bf at h; omega)
        · rw [if_neg (fun h => by have := i_le.mp h; omega)]
          exact yes (Or.inr ⟨g2, by omega⟩)
      · rw [if_neg (fun h => g2 (c_eq.mp h))]
        exact no (fun h => by unfold r_bf at h; omega)
  have loop : ∀ (j q i : Nat) (U : q_S) (l1 : Int32), q_G ρ L M_X12_sort_45 S U → l1.toInt = i → (i : Int) + j = (q_I S m 3).toInt → j < q → (∀ k, k < i → (q_I U oR (r_rk (q_J S fT) (q_I S m 3).toInt.toNat k).toNat).toInt = k) → ∃ T, m_X12_sort_2 n q U (some m) l1 = some ((), T) ∧ q_G ρ L M_X12_sort_45 S T ∧ ∀ k, k < (q_I S m 3).toInt.toNat → (q_I T oR (r_rk (q_J S fT) (q_I S m 3).toInt.toNat k).toNat).toInt = k := by
    intro j
    induction j with
    | zero =>
      intro q i U l1 gU h1 hj hq hu
      obtain ⟨q, rfl⟩ : ∃ k', q = k' + 1 := ⟨q - 1, by omega⟩
      rw [m_X12_sort_2, q_at_pos (k_m gU.1 hm), e3 U gU, if_pos (i_le.mpr (by omega))]
      exact ⟨U, rfl, gU, fun k hk => hu k (by omega)⟩
    | succ j ih =>
      intro q i U l1 gU h1 hj hq hu
      obtain ⟨q, rfl⟩ : ∃ k', q = k' + 1 := ⟨q - 1, by omega⟩
      rw [m_X12_sort_2, q_at_pos (k_m gU.1 hm), e3 U gU, if_neg (fun h => by have := i_le.mp h; omega), inner (m_X12_sort_2 n q) U l1 i gU h1 (by omega) (q_I S m 3).toInt.toNat n 0 0 0 rfl (by omega) (by omega) rfl]
      have G1 := u_73_E (k := (r_rk (q_J S fT) (q_I S m 3).toInt.toNat i).toNat) (x := l1) gU ho.1 ho.2 (by decide) ⟨by omega, by omega⟩
      refine ih q (i + 1) _ (l1 + 1) G1 (by rw [q_addI (by rw [y1]; omega) (by rw [y1]; omega), y1, h1]; rfl) (by omega) (by omega) (fun k hk => ?_)
      by_cases e : k = i
      · rw [e, q_hitI, h1]
      · have r1 := r_rk_b (f := q_J S fT) (T := (q_I S m 3).toInt.toNat) (k := k) (by omega)
        have r2 := r_rk_b (f := q_J S fT) (T := (q_I S m 3).toInt.toNat) (k := i) (by omega)
        rw [q_ffI (fun h => e (r_rk_inj (f := q_J S fT) (T := (q_I S m 3).toInt.toNat) (by omega) (by omega) (by omega)))]
        exact hu k (by omega)
  obtain ⟨T, e, g, h⟩ := loop (q_I S m 3).toInt.toNat n 0 S 0 hG rfl (by omega) (by omega) (fun k hk => by omega)
  have key : ∀ f : Nat → Int, s_sum (fun j => f (q_I T oR j).toInt.toNat) (q_I S m 3).toInt.toNat = s_sum f (q_I S m 3).toInt.toNat := fun f => by
    rw [← s_perm (g := f) (q_I S m 3).toInt.toNat (fun k => (r_rk (q_J S fT) (q_I S m 3).toInt.toNat k).toNat) (fun j => f (q_I T oR j).toInt.toNat) (fun k hk => by
      have := r_rk_b (f := q_J S fT) hk
      show (r_rk (q_J S fT) (q_I S m 3).toInt.toNat k).toNat < _
      omega) (fun i k hi hk h9 => by
      have r1 := r_rk_b (f := q_J S fT) hi
      have r2 := r_rk_b (f := q_J S fT) hk
      have h9 : (r_rk (q_J S fT) (q_I S m 3).toInt.toNat i).toNat = (r_rk (q_J S fT) (q_I S m 3).toInt.toNat k).toNat := h9
      exact r_rk_inj (f := q_J S fT) hi hk (by omega))]
    refine s_sum_cg _ (fun k hk => ?_)
    show f (q_I T oR (r_rk (q_J S fT) (q_I S m 3).toInt.toNat k).toNat).toInt.toNat = f k
    rw [h k hk]
    rfl
  refine ⟨T, by unfold m_X12_sort; exact e, g, key, fun j hj => ?_⟩
  have z1 := key (fun t => if (t : Int) < (q_I S m 3).toInt then 0 else 1)
  have z2 : s_sum (fun t : Nat => if (t : Int) < (q_I S m 3).toInt then (0 : Int) else 1) (q_I S m 3).toInt.toNat = 0 := by
    rw [s_sum_cg (g := fun _ => 0) _ (fun j hj => if_pos (by omega))]
    have : ∀ T : Nat, s_sum (fun _ => 0) T = 0 := fun T => by
      induction T with
      | zero => rfl
      | succ T ih => rw [s_sum, ih]; rfl
    exact this _
  rw [z2] at z1
  have z3 := s_zero (f := fun j => if ((q_I T oR j).toInt.toNat : Int) < (q_I S m 3).toInt then 0 else 1) (fun j => by show (0 : Int) ≤ if _ then 0 else 1; split <;> decide) _ z1 (k := j) (by omega)
  have z3 : (if ((q_I T oR j).toInt.toNat : Int) < (q_I S m 3).toInt then (0 : Int) else 1) = 0 := z3
  have bo := g_73_E g ho.1 ho.2 (k := j)
  by_cases e9 : ((q_I T oR j).toInt.toNat : Int) < (q_I S m 3).toInt
  · omega
  · rw [if_neg e9] at z3; cases z3
end QRO
