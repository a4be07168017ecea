/-! the reference's run: contours ascend, frames keep what was there -/
def q_N3v (c C P p D : Int) (la fC fP : Nat → Int) : Prop :=
  (0 ≤ c ∧ c ≤ C ∧ C ≤ c + p ∧ c ≤ P) ∧
  (∀ i j : Nat, i < j → (j : Int) < C → la i < la j) ∧
  (∀ i : Nat, (i : Int) < C → la i < P + p) ∧
  (∀ i : Nat, (i : Int) < c → la i < P) ∧
  (∀ d : Nat, (d : Int) < D → (0 ≤ fC d ∧ fC d ≤ c ∧ fP d ≤ P ∧ fC d ≤ fP d) ∧ (∀ i : Nat, (i : Int) < fC d → la i < fP d) ∧ (∀ e : Nat, e < d → fC e ≤ fC d ∧ fP e ≤ fP d))
section QNV
variable {c C P p D v : Int} {la fC fP la' fC' fP' : Nat → Int} {k : Nat}
theorem v_ok (h : q_N3v c C P p D la fC fP) : q_N3v C C (P + p) 0 D la fC fP := by
  obtain ⟨⟨g1, g2, g3, g4⟩, g5, g6, g7, g8⟩ := h
  refine ⟨⟨by omega, by omega, by omega, by omega⟩, g5, fun i hi => ?_, fun i hi => g6 i hi, fun d hd => ?_⟩
  · have := g6 i hi; omega
  · obtain ⟨⟨e1, e2, e3, e4⟩, e5, e6⟩ := g8 d hd
    exact ⟨⟨e1, by omega, by omega, e4⟩, e5, e6⟩
theorem v_no (h : q_N3v c C P p D la fC fP) : q_N3v c c P 0 D la fC fP := by
  obtain ⟨⟨g1, g2, g3, g4⟩, g5, g6, g7, g8⟩ := h
  exact ⟨⟨g1, by omega, by omega, g4⟩, fun i j hij hj => g5 i j hij (by omega), fun i hi => by have := g7 i hi; omega, g7, g8⟩
theorem v_app (h : q_N3v c C P p D la fC fP) (hk : (k : Int) = C) (hla : ∀ i, la' i = if i = k then P + v else la i) (hv : p ≤ v) : q_N3v c (C + 1) P (v + 1) D la' fC fP := by
  obtain ⟨⟨g1, g2, g3, g4⟩, g5, g6, g7, g8⟩ := h
  refine ⟨⟨g1, by omega, by omega, g4⟩, fun i j hij hj => ?_, fun i hi => ?_, fun i hi => ?_, fun d hd => ?_⟩
  · rw [hla, hla]
    by_cases e : j = k
    · rw [if_pos e, if_neg (by omega)]
      have := g6 i (by omega); omega
    · rw [if_neg e, if_neg (by omega)]
      exact g5 i j hij (by omega)
  · rw [hla]
    by_cases e : i = k
    · rw [if_pos e]; omega
    · rw [if_neg e]; have := g6 i (by omega); omega
  · rw [hla, if_neg (by omega)]; exact g7 i hi
  · obtain ⟨e1, e5, e6⟩ := g8 d hd
    refine ⟨e1, fun i hi => ?_, e6⟩
    rw [hla, if_neg (by omega)]; exact e5 i hi
theorem v_fp (h : q_N3v c C P p D la fC fP) (hk : D ≤ (k : Int)) (hf : ∀ i, i ≠ k → fP' i = fP i) : q_N3v c C P p D la fC fP' := by
  obtain ⟨g1, g5, g6, g7, g8⟩ := h
  refine ⟨g1, g5, g6, g7, fun d hd => ?_⟩
  obtain ⟨e1, e5, e6⟩ := g8 d hd
  rw [hf d (by omega)]
  exact ⟨e1, e5, fun e he => by rw [hf e (by omega)]; exact e6 e he⟩
theorem v_fc (h : q_N3v c C P p D la fC fP) (hk : D ≤ (k : Int)) (hf : ∀ i, i ≠ k → fC' i = fC i) : q_N3v c C P p D la fC' fP := by
  obtain ⟨g1, g5, g6, g7, g8⟩ := h
  refine ⟨g1, g5, g6, g7, fun d hd => ?_⟩
  obtain ⟨e1, e5, e6⟩ := g8 d hd
  rw [hf d (by omega)]
  exact ⟨e1, e5, fun e he => by rw [hf e (by omega)]; exact e6 e he⟩
theorem v_push (h : q_N3v c C P p D la fC fP) (hc : c = C) (hk : (k : Int) = D) (e1 : fC k = C) (e2 : fP k = P) : q_N3v c C P p (D + 1) la fC fP := by
  obtain ⟨⟨g1, g2, g3, g4⟩, g5, g6, g7, g8⟩ := h
  refine ⟨⟨g1, g2, g3, g4⟩, g5, g6, g7, fun d hd => ?_⟩
  by_cases e : d = k
  · subst e
    rw [e1, e2]
    refine ⟨⟨by omega, by omega, by omega, by omega⟩, fun i hi => g7 i (by omega), fun e he => ?_⟩
    have := (g8 e (by omega)).1
    exact ⟨by have := this.2.1; omega, this.2.2.1⟩
  · exact g8 d (by omega)
theorem v_pop {D' : Int} (h : q_N3v c C P p D la fC fP) (hx : D' ≤ D) : q_N3v c C P p D' la fC fP := by
  obtain ⟨g1, g5, g6, g7, g8⟩ := h
  exact ⟨g1, g5, g6, g7, fun d hd => g8 d (by omega)⟩
theorem v_reset (h : q_N3v c C P p D la fC fP) (hk : (k : Int) + 1 = D) : q_N3v (fC k) (fC k) (fP k) 0 D la fC fP := by
  obtain ⟨⟨g1, g2, g3, g4⟩, g5, g6, g7, g8⟩ := h
  obtain ⟨⟨f1, f2, f3, f4⟩, f5, f6⟩ := g8 k (by omega)
  refine ⟨⟨f1, by omega, by omega, f4⟩, fun i j hij hj => g5 i j hij (by omega), fun i hi => ?_, fun i hi => f5 i hi, fun d hd => ?_⟩
  · have := f5 i hi; omega
  · obtain ⟨⟨e1, e2, e3, e4⟩, e5, e6⟩ := g8 d hd
    by_cases e : d = k
    · subst e; exact ⟨⟨e1, by omega, by omega, e4⟩, e5, e6⟩
    · have := f6 d (by omega)
      exact ⟨⟨e1, this.1, this.2, e4⟩, e5, e6⟩
end QNV
def q_N3 (S : q_S) (o bL bC bP : Nat) (c p : Int) : Prop :=
  q_N3v c (q_I S o 18).toInt (q_I S o 14).toInt p (q_I S o 24).toInt (fun i => (q_I S bL i).toInt) (fun i => (q_I S bC i).toInt) (fun i => (q_I S bP i).toInt)
def q_N3x (S : q_S) (o : Nat) (c p : Int) : Prop := ∀ bL bC bP, q_R S o 19 = some bL → q_R S o 28 = some bC → q_R S o 27 = some bP → q_N3 S o bL bC bP c p
section QN
variable {ρ : Nat → Nat} {L m : List Nat} {S T : q_S} {o a k r bL bC bP : Nat} {x : Int32} {y : Int64} {c p c' p' : Int}
theorem q_N3xI (e1 : q_R S o 19 = some bL) (e2 : q_R S o 28 = some bC) (e3 : q_R S o 27 = some bP) (h : q_N3 S o bL bC bP c p) : q_N3x S o c p := fun _ _ _ f1 f2 f3 => by
  cases Option.some.inj (e1.symm.trans f1)
  cases Option.some.inj (e2.symm.trans f2)
  cases Option.some.inj (e3.symm.trans f3)
  exact h
theorem q_N3c (h : q_N3 S o bL bC bP c p) (hc : c' = c) (hp : p' = p) : q_N3 S o bL bC bP c' p' := by rw [hc, hp]; exact h
theorem q_N3L (e : T = S) (h : q_N3 S o bL bC bP c p) : q_N3 T o bL bC bP c p := by rw [e]; exact h
theorem q_N3J (h : q_N3 S o bL bC bP c p) : q_N3 (q_sJ S a k y) o bL bC bP c p := h
theorem q_N3eq (h : q_N3 S o bL bC bP c p) (e1 : q_I T o 18 = q_I S o 18) (e2 : q_I T o 14 = q_I S o 14) (e3 : q_I T o 24 = q_I S o 24) (e4 : ∀ i, q_I T bL i = q_I S bL i) (e5 : ∀ i, q_I T bC i = q_I S bC i) (e6 : ∀ i, q_I T bP i = q_I S bP i) : q_N3 T o bL bC bP c p := by
  unfold q_N3
  rw [e1, e2, e3, funext e4, funext e5, funext e6]
  exact h
theorem q_N3U (g : q_G ρ L m S T) (mo : o ∈ L) (ro : ρ o = 45) (mL : bL ∈ L) (rL : ρ bL = 58) (mC : bC ∈ L) (rC : ρ bC = 63) (mP : bP ∈ L) (rP : ρ bP = 62) (h1 : m.contains (q_ar 45 18) = false) (h2 : m.contains (q_ar 45 14) = false) (h3 : m.contains (q_ar 45 24) = false) (h4 : m.contains (64 * 58) = false) (h5 : m.contains (64 * 63) = false) (h6 : m.contains (64 * 62) = false) (h : q_N3 S o bL bC bP c p) : q_N3 T o bL bC bP c p :=
  q_N3eq h (q_unI g mo ro h1) (q_unI g mo ro h2) (q_unI g mo ro h3) (fun _ => q_unIA g mL rL (by decide) h4) (fun _ => q_unIA g mC rC (by decide) h5) (fun _ => q_unIA g mP rP (by decide) h6)
theorem q_N3I (ro : ρ o = 45) (ra : ρ a = r) (rL : ρ bL = 58) (rC : ρ bC = 63) (rP : ρ bP = 62) (h1 : 45 ≠ r) (h2 : 58 ≠ r) (h3 : 63 ≠ r) (h4 : 62 ≠ r) (h : q_N3 S o bL bC bP c p) : q_N3 (q_sI S a k x) o bL bC bP c p :=
  q_N3eq h (q_fwI ro ra h1) (q_fwI ro ra h1) (q_fwI ro ra h1) (fun _ => q_fwI rL ra h2) (fun _ => q_fwI rC ra h3) (fun _ => q_fwI rP ra h4)
theorem q_N3K (ro : ρ o = 45) (rL : ρ bL = 58) (rC : ρ bC = 63) (rP : ρ bP = 62) (h1 : 18 ≠ k) (h2 : 14 ≠ k) (h3 : 24 ≠ k) (h : q_N3 S o bL bC bP c p) : q_N3 (q_sI S o k x) o bL bC bP c p :=
  q_N3eq h (q_ffI h1) (q_ffI h2) (q_ffI h3) (fun _ => q_fwI rL ro (by decide)) (fun _ => q_fwI rC ro (by decide)) (fun _ => q_fwI rP ro (by decide))
theorem q_N3lin (h : q_N3 S o bL bC bP c p) : 0 ≤ c ∧ c ≤ (q_I S o 18).toInt ∧ (q_I S o 18).toInt ≤ c + p ∧ c ≤ (q_I S o 14).toInt := h.1
theorem q_N3zero (h : (q_I S o 18).toInt = 0 ∧ (q_I S o 14).toInt = 0 ∧ (q_I S o 24).toInt = 0) : q_N3 S o bL bC bP 0 0 := by
  unfold q_N3 q_N3v
  rw [h.1, h.2.1, h.2.2]
  exact ⟨⟨by omega, by omega, by omega, by omega⟩, fun i j _ h => by omega, fun i h => by omega, fun i h => by omega, fun d h => by omega⟩
theorem q_N3asc (h : q_N3 S o bL bC bP c p) {i j : Nat} (hij : i < j) (hj : (j : Int) < (q_I S o 18).toInt) : (q_I S bL i).toInt < (q_I S bL j).toInt := h.2.1 i j hij hj
theorem q_N3ok (ro : ρ o = 45) (rL : ρ bL = 58) (rC : ρ bC = 63) (rP : ρ bP = 62) (h : q_N3 S o bL bC bP c p) (hx : x.toInt = (q_I S o 14).toInt + p) : q_N3 (q_sI S o 14 x) o bL bC bP (q_I S o 18).toInt 0 := by
  unfold q_N3
  rw [show q_I (q_sI S o 14 x) o 18 = q_I S o 18 from q_ffI (by decide), show q_I (q_sI S o 14 x) o 24 = q_I S o 24 from q_ffI (by decide), show q_I (q_sI S o 14 x) o 14 = x from q_hitI, hx, show (fun i => (q_I (q_sI S o 14 x) bL i).toInt) = (fun i => (q_I S bL i).toInt) from funext fun _ => by rw [q_fwI rL ro (by decide)], show (fun i => (q_I (q_sI S o 14 x) bC i).toInt) = (fun i => (q_I S bC i).toInt) from funext fun _ => by rw [q_fwI rC ro (by decide)], show (fun i => (q_I (q_sI S o 14 x) bP i).toInt) = (fun i => (q_I S bP i).toInt) from funext fun _ => by rw [q_fwI rP ro (by decide)]]
  exact v_ok h
theorem q_N3no (ro : ρ o = 45) (rL : ρ bL = 58) (rC : ρ bC = 63) (rP : ρ bP = 62) (h : q_N3 S o bL bC bP c p) (hx : x.toInt = c) : q_N3 (q_sI S o 18 x) o bL bC bP c 0 := by
  unfold q_N3
  rw [show q_I (q_sI S o 18 x) o 14 = q_I S o 14 from q_ffI (by decide), show q_I (q_sI S o 18 x) o 24 = q_I S o 24 from q_ffI (by decide), show q_I (q_sI S o 18 x) o 18 = x from q_hitI, hx, show (fun i => (q_I (q_sI S o 18 x) bL i).toInt) = (fun i => (q_I S bL i).toInt) from funext fun _ => by rw [q_fwI rL ro (by decide)], show (fun i => (q_I (q_sI S o 18 x) bC i).toInt) = (fun i => (q_I S bC i).toInt) from funext fun _ => by rw [q_fwI rC ro (by decide)], show (fun i => (q_I (q_sI S o 18 x) bP i).toInt) = (fun i => (q_I S bP i).toInt) from funext fun _ => by rw [q_fwI rP ro (by decide)]]
  exact v_no h
theorem q_N3app (ro : ρ o = 45) (rL : ρ bL = 58) (rC : ρ bC = 63) (rP : ρ bP = 62) {v : Int} {z : Int32} (h : q_N3 S o bL bC bP c p) (hk : (k : Int) = (q_I S o 18).toInt) (hx : x.toInt = (q_I S o 14).toInt + v) (hv : p ≤ v) (hz : z.toInt = (q_I S o 18).toInt + 1) : q_N3 (q_sI (q_sI S bL k x) o 18 z) o bL bC bP c (v + 1) := by
  have hla : ∀ i, q_I (q_sI (q_sI S bL k x) o 18 z) bL i = if i = k then x else q_I S bL i := fun i => by
    rw [q_fwI rL ro (by decide)]
    by_cases e : i = k
    · rw [e, if_pos rfl]; exact q_hitI
    · rw [if_neg e]; exact q_ffI e
  unfold q_N3
  rw [show q_I (q_sI (q_sI S bL k x) o 18 z) o 14 = q_I S o 14 from (q_ffI (by decide)).trans (q_fwI ro rL (by decide)), show q_I (q_sI (q_sI S bL k x) o 18 z) o 24 = q_I S o 24 from (q_ffI (by decide)).trans (q_fwI ro rL (by decide)), show q_I (q_sI (q_sI S bL k x) o 18 z) o 18 = z from q_hitI, hz, show (fun i => (q_I (q_sI (q_sI S bL k x) o 18 z) bC i).toInt) = (fun i => (q_I S bC i).toInt) from funext fun _ => by rw [q_fwI rC ro (by decide), q_fwI rC rL (by decide)], show (fun i => (q_I (q_sI (q_sI S bL k x) o 18 z) bP i).toInt) = (fun i => (q_I S bP i).toInt) from funext fun _ => by rw [q_fwI rP ro (by decide), q_fwI rP rL (by decide)]]
  exact v_app h hk (fun i => by
    show (q_I _ bL i).toInt = _
    rw [hla]
    by_cases e : i = k
    · rw [if_pos e, if_pos e, hx]
    · rw [if_neg e, if_neg e]) hv
theorem q_N3fp (ro : ρ o = 45) (rL : ρ bL = 58) (rC : ρ bC = 63) (rP : ρ bP = 62) (h : q_N3 S o bL bC bP c p) (hk : (q_I S o 24).toInt ≤ (k : Int)) : q_N3 (q_sI S bP k x) o bL bC bP c p := by
  have hf : ∀ i, i ≠ k → q_I (q_sI S bP k x) bP i = q_I S bP i := fun i e => q_ffI e
  unfold q_N3
  rw [show q_I (q_sI S bP k x) o 18 = q_I S o 18 from q_fwI ro rP (by decide), show q_I (q_sI S bP k x) o 14 = q_I S o 14 from q_fwI ro rP (by decide), show q_I (q_sI S bP k x) o 24 = q_I S o 24 from q_fwI ro rP (by decide), show (fun i => (q_I (q_sI S bP k x) bL i).toInt) = (fun i => (q_I S bL i).toInt) from funext fun _ => by rw [q_fwI rL rP (by decide)], show (fun i => (q_I (q_sI S bP k x) bC i).toInt) = (fun i => (q_I S bC i).toInt) from funext fun _ => by rw [q_fwI rC rP (by decide)]]
  exact v_fp h hk (fun i e => by
    show (q_I _ bP i).toInt = _
    rw [hf i e])
theorem q_N3fc (ro : ρ o = 45) (rL : ρ bL = 58) (rC : ρ bC = 63) (rP : ρ bP = 62) (h : q_N3 S o bL bC bP c p) (hk : (q_I S o 24).toInt ≤ (k : Int)) : q_N3 (q_sI S bC k x) o bL bC bP c p := by
  have hf : ∀ i, i ≠ k → q_I (q_sI S bC k x) bC i = q_I S bC i := fun i e => q_ffI e
  unfold q_N3
  rw [show q_I (q_sI S bC k x) o 18 = q_I S o 18 from q_fwI ro rC (by decide), show q_I (q_sI S bC k x) o 14 = q_I S o 14 from q_fwI ro rC (by decide), show q_I (q_sI S bC k x) o 24 = q_I S o 24 from q_fwI ro rC (by decide), show (fun i => (q_I (q_sI S bC k x) bL i).toInt) = (fun i => (q_I S bL i).toInt) from funext fun _ => by rw [q_fwI rL rC (by decide)], show (fun i => (q_I (q_sI S bC k x) bP i).toInt) = (fun i => (q_I S bP i).toInt) from funext fun _ => by rw [q_fwI rP rC (by decide)]]
  exact v_fc h hk (fun i e => by
    show (q_I _ bC i).toInt = _
    rw [hf i e])
theorem q_N3dep {D : Int} (ro : ρ o = 45) (rL : ρ bL = 58) (rC : ρ bC = 63) (rP : ρ bP = 62) (hx : x.toInt = D) (h : q_N3v c (q_I S o 18).toInt (q_I S o 14).toInt p D (fun i => (q_I S bL i).toInt) (fun i => (q_I S bC i).toInt) (fun i => (q_I S bP i).toInt)) : q_N3 (q_sI S o 24 x) o bL bC bP c p := by
  unfold q_N3
  rw [show q_I (q_sI S o 24 x) o 18 = q_I S o 18 from q_ffI (by decide), show q_I (q_sI S o 24 x) o 14 = q_I S o 14 from q_ffI (by decide), show q_I (q_sI S o 24 x) o 24 = x from q_hitI, hx, show (fun i => (q_I (q_sI S o 24 x) bL i).toInt) = (fun i => (q_I S bL i).toInt) from funext fun _ => by rw [q_fwI rL ro (by decide)], show (fun i => (q_I (q_sI S o 24 x) bC i).toInt) = (fun i => (q_I S bC i).toInt) from funext fun _ => by rw [q_fwI rC ro (by decide)], show (fun i => (q_I (q_sI S o 24 x) bP i).toInt) = (fun i => (q_I S bP i).toInt) from funext fun _ => by rw [q_fwI rP ro (by decide)]]
  exact h
theorem q_N3push {k2 : Nat} (ro : ρ o = 45) (rL : ρ bL = 58) (rC : ρ bC = 63) (rP : ρ bP = 62) (h : q_N3 S o bL bC bP c p) (hc : c = (q_I S o 18).toInt) (hk : (k : Int) = (q_I S o 24).toInt) (hk2 : (k2 : Int) = (q_I S o 24).toInt) (e1 : (q_I S bC k).toInt = (q_I S o 18).toInt) (e2 : (q_I S bP k2).toInt = (q_I S o 14).toInt) (hx : x.toInt = (q_I S o 24).toInt + 1) : q_N3 (q_sI S o 24 x) o bL bC bP c p := by
  have hkk : k2 = k := by omega
  subst hkk
  exact q_N3dep ro rL rC rP hx (v_push h hc hk e1 e2)
theorem q_N3pop (ro : ρ o = 45) (rL : ρ bL = 58) (rC : ρ bC = 63) (rP : ρ bP = 62) (h : q_N3 S o bL bC bP c p) (hx : x.toInt ≤ (q_I S o 24).toInt) : q_N3 (q_sI S o 24 x) o bL bC bP c p := by
  exact q_N3dep ro rL rC rP rfl (v_pop h hx)
theorem q_N3reset (ro : ρ o = 45) (rL : ρ bL = 58) (rC : ρ bC = 63) (rP : ρ bP = 62) {z : Int32} (h : q_N3 S o bL bC bP c p) (hk : (k : Int) + 1 = (q_I S o 24).toInt) (hx : x = q_I S bP k) (hz : z = q_I S bC k) : q_N3 (q_sI (q_sI S o 14 x) o 18 z) o bL bC bP z.toInt 0 := by
  unfold q_N3
  rw [show q_I (q_sI (q_sI S o 14 x) o 18 z) o 14 = x from (q_ffI (by decide)).trans q_hitI, show q_I (q_sI (q_sI S o 14 x) o 18 z) o 24 = q_I S o 24 from (q_ffI (by decide)).trans (q_ffI (by decide)), show q_I (q_sI (q_sI S o 14 x) o 18 z) o 18 = z from q_hitI, show (fun i => (q_I (q_sI (q_sI S o 14 x) o 18 z) bL i).toInt) = (fun i => (q_I S bL i).toInt) from funext fun _ => by rw [q_fwI rL ro (by decide), q_fwI rL ro (by decide)], show (fun i => (q_I (q_sI (q_sI S o 14 x) o 18 z) bC i).toInt) = (fun i => (q_I S bC i).toInt) from funext fun _ => by rw [q_fwI rC ro (by decide), q_fwI rC ro (by decide)], show (fun i => (q_I (q_sI (q_sI S o 14 x) o 18 z) bP i).toInt) = (fun i => (q_I S bP i).toInt) from funext fun _ => by rw [q_fwI rP ro (by decide), q_fwI rP ro (by decide)]]
  subst hx
  subst hz
  exact v_reset h hk
end QN
theorem q_clamp {i : Int32} {C : Int} (h : 0 ≤ i.toInt) (e : i.toInt = C) : ((i.toNatClampNeg : Nat) : Int) = C := by
  have h1 : i.toNatClampNeg = i.toInt.toNat := rfl
  rw [h1]; omega
theorem q_clamp1 {i : Int32} {C : Int} (h : 0 ≤ i.toInt) (e : i.toInt + 1 = C) : ((i.toNatClampNeg : Nat) : Int) + 1 = C := by
  have h1 : i.toNatClampNeg = i.toInt.toNat := rfl
  rw [h1]; omega
theorem q_clampL {i : Int32} {C : Int} (h : 0 ≤ i.toInt) (e : C ≤ i.toInt) : C ≤ ((i.toNatClampNeg : Nat) : Int) := by
  have h1 : i.toNatClampNeg = i.toInt.toNat := rfl
  rw [h1]; omega
