/-! how many SIGNS are used -/
def q_cu (f : Nat → Int32) : Nat → Nat
  | 0 => 0
  | i + 1 => q_cu f i + (if f i = 0 then 0 else 1)
theorem q_cu_le (f : Nat → Int32) : ∀ i, q_cu f i ≤ i
  | 0 => Nat.le_refl _
  | i + 1 => by have := q_cu_le f i; rw [q_cu]; split <;> omega
theorem q_cu_up {f g : Nat → Int32} {k : Nat} (hg : ∀ i, i ≠ k → g i = f i) (hk : g k ≠ 0) : ∀ i, q_cu f i ≤ q_cu g i ∧ (k < i → f k = 0 → q_cu f i + 1 ≤ q_cu g i)
  | 0 => ⟨Nat.le_refl _, fun h => by omega⟩
  | i + 1 => by
    obtain ⟨h1, h2⟩ := q_cu_up hg hk i
    rw [q_cu, q_cu]
    by_cases e : i = k
    · subst e
      rw [if_neg hk]
      constructor
      · split <;> omega
      · intro _ h0; rw [if_pos h0]; omega
    · rw [hg i e]
      constructor
      · omega
      · intro h3 h0; have := h2 (by omega) h0; omega
def q_us (S T : q_S) (b : Nat) (e : Int) : Prop := (q_cu (q_I S b) 200 : Int) + e ≤ (q_cu (q_I T b) 200 : Int)
def q_usx (S T : q_S) (o : Nat) (e : Int) : Prop := ∀ b, q_R T o 9 = some b → q_us S T b e
section QUS
variable {ρ : Nat → Nat} {L m : List Nat} {S0 S T : q_S} {o a k r b : Nat} {x : Int32} {y : Int64} {e e2 : Int}
theorem q_us0 : q_us S S b 0 := by unfold q_us; omega
theorem q_usc (h : q_us S T b e) (he : e2 ≤ e) : q_us S T b e2 := by unfold q_us at *; omega
theorem q_usxI (e1 : q_R T o 9 = some b) (h : q_us S T b e) : q_usx S T o e := fun _ f1 => by
  cases Option.some.inj (e1.symm.trans f1)
  exact h
theorem q_usL (e1 : T = S) (h : q_us S0 S b e) : q_us S0 T b e := by rw [e1]; exact h
theorem q_usJ (h : q_us S0 S b e) : q_us S0 (q_sJ S a k y) b e := h
theorem q_usEq (h : q_us S0 S b e) (e1 : ∀ i, q_I T b i = q_I S b i) : q_us S0 T b e := by
  unfold q_us at *; rw [funext e1]; exact h
theorem q_usU (g : q_G ρ L m S T) (m1 : b ∈ L) (r1 : ρ b = 51) (h1 : m.contains (64 * 51) = false) (h : q_us S0 S b e) : q_us S0 T b e := q_usEq h (fun _ => q_unIA g m1 r1 (by decide) h1)
theorem q_usI (ra : ρ a = r) (r1 : ρ b = 51) (h1 : 51 ≠ r) (h : q_us S0 S b e) : q_us S0 (q_sI S a k x) b e := q_usEq h (fun _ => q_fwI r1 ra h1)
theorem q_usW (hk : k < 200) (hx : x.toInt ≠ 0) (h : q_us S0 S b e) : q_us S0 (q_sI S b k x) b e := by
  unfold q_us at *
  have h1 := (q_cu_up (f := q_I S b) (g := q_I (q_sI S b k x) b) (k := k) (fun i hi => q_ffI hi) (by rw [q_hitI]; exact fun e9 => hx (by rw [e9]; rfl)) 200).1
  omega
theorem q_usS (hk : k < 200) (h0 : (q_I S b k).toInt = 0) (hx : x.toInt ≠ 0) (h : q_us S0 S b e) : q_us S0 (q_sI S b k x) b (e + 1) := by
  unfold q_us at *
  have h1 := (q_cu_up (f := q_I S b) (g := q_I (q_sI S b k x) b) (k := k) (fun i hi => q_ffI hi) (by rw [q_hitI]; exact fun e9 => hx (by rw [e9]; rfl)) 200).2 hk (Int32.toInt_inj.mp (by rw [h0]; rfl))
  omega
end QUS
theorem q_clLt {i j : Int32} (h0 : 0 ≤ i.toInt) (h : i.toInt < j.toInt) : i.toNatClampNeg < j.toNatClampNeg := by
  have h1 : i.toNatClampNeg = i.toInt.toNat := rfl
  have h2 : j.toNatClampNeg = j.toInt.toNat := rfl
  rw [h1, h2]; omega
theorem q_clI {j : Int32} {C : Int} (h0 : 0 ≤ j.toInt) (h : j.toInt < C) : ((j.toNatClampNeg : Nat) : Int) < C := by
  have h2 : j.toNatClampNeg = j.toInt.toNat := rfl
  rw [h2]; omega
