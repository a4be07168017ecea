/-! elements below a place stay as they were: framePlace, frameMore, partFlags, partOne, partTwo -/
def q_ef (S T : q_S) (b1 b2 b3 b4 b5 : Nat) (K : Int) : Prop := ∀ d : Nat, (d : Int) < K → q_I T b1 d = q_I S b1 d ∧ q_I T b2 d = q_I S b2 d ∧ q_I T b3 d = q_I S b3 d ∧ q_I T b4 d = q_I S b4 d ∧ q_I T b5 d = q_I S b5 d
def q_efx (S T : q_S) (o : Nat) (K : Int) : Prop := ∀ b1 b2 b3 b4 b5, q_R T o 26 = some b1 → q_R T o 29 = some b2 → q_R T o 32 = some b3 → q_R T o 33 = some b4 → q_R T o 34 = some b5 → q_ef S T b1 b2 b3 b4 b5 K
section QEF
variable {ρ : Nat → Nat} {L m : List Nat} {S0 S T : q_S} {o a k r b1 b2 b3 b4 b5 : Nat} {x : Int32} {y : Int64} {K K2 : Int}
theorem q_efxI (e1 : q_R T o 26 = some b1) (e2 : q_R T o 29 = some b2) (e3 : q_R T o 32 = some b3) (e4 : q_R T o 33 = some b4) (e5 : q_R T o 34 = some b5) (h : q_ef S T b1 b2 b3 b4 b5 K) : q_efx S T o K := fun _ _ _ _ _ f1 f2 f3 f4 f5 => by
  cases Option.some.inj (e1.symm.trans f1)
  cases Option.some.inj (e2.symm.trans f2)
  cases Option.some.inj (e3.symm.trans f3)
  cases Option.some.inj (e4.symm.trans f4)
  cases Option.some.inj (e5.symm.trans f5)
  exact h
theorem q_ef0 : q_ef S S b1 b2 b3 b4 b5 K := fun _ _ => ⟨rfl, rfl, rfl, rfl, rfl⟩
theorem q_efc (h : q_ef S T b1 b2 b3 b4 b5 K) (hk : K2 ≤ K) : q_ef S T b1 b2 b3 b4 b5 K2 := fun d hd => h d (by omega)
theorem q_efT (h : q_ef S0 S b1 b2 b3 b4 b5 K) (g : q_ef S T b1 b2 b3 b4 b5 K2) (hk : K ≤ K2) : q_ef S0 T b1 b2 b3 b4 b5 K := fun d hd => by
  obtain ⟨e1, e2, e3, e4, e5⟩ := h d hd
  obtain ⟨f1, f2, f3, f4, f5⟩ := g d (by omega)
  exact ⟨f1.trans e1, f2.trans e2, f3.trans e3, f4.trans e4, f5.trans e5⟩
theorem q_efL (e : T = S) (h : q_ef S0 S b1 b2 b3 b4 b5 K) : q_ef S0 T b1 b2 b3 b4 b5 K := by rw [e]; exact h
theorem q_efJ (h : q_ef S0 S b1 b2 b3 b4 b5 K) : q_ef S0 (q_sJ S a k y) b1 b2 b3 b4 b5 K := h
theorem q_efU (g : q_G ρ L m S T) (m1 : b1 ∈ L) (r1 : ρ b1 = 61) (m2 : b2 ∈ L) (r2 : ρ b2 = 64) (m3 : b3 ∈ L) (r3 : ρ b3 = 67) (m4 : b4 ∈ L) (r4 : ρ b4 = 68) (m5 : b5 ∈ L) (r5 : ρ b5 = 69) (h1 : m.contains (64 * 61) = false) (h2 : m.contains (64 * 64) = false) (h3 : m.contains (64 * 67) = false) (h4 : m.contains (64 * 68) = false) (h5 : m.contains (64 * 69) = false) (h : q_ef S0 S b1 b2 b3 b4 b5 K) : q_ef S0 T b1 b2 b3 b4 b5 K :=
  q_efT h (fun _ _ => ⟨q_unIA g m1 r1 (by decide) h1, q_unIA g m2 r2 (by decide) h2, q_unIA g m3 r3 (by decide) h3, q_unIA g m4 r4 (by decide) h4, q_unIA g m5 r5 (by decide) h5⟩) (Int.le_refl _)
theorem q_efI (ra : ρ a = r) (r1 : ρ b1 = 61) (r2 : ρ b2 = 64) (r3 : ρ b3 = 67) (r4 : ρ b4 = 68) (r5 : ρ b5 = 69) (h1 : 61 ≠ r) (h2 : 64 ≠ r) (h3 : 67 ≠ r) (h4 : 68 ≠ r) (h5 : 69 ≠ r) (h : q_ef S0 S b1 b2 b3 b4 b5 K) : q_ef S0 (q_sI S a k x) b1 b2 b3 b4 b5 K :=
  q_efT h (fun _ _ => ⟨q_fwI r1 ra h1, q_fwI r2 ra h2, q_fwI r3 ra h3, q_fwI r4 ra h4, q_fwI r5 ra h5⟩) (Int.le_refl _)
theorem q_efA (hk : K ≤ (k : Int)) (h : q_ef S0 S b1 b2 b3 b4 b5 K) : q_ef S0 (q_sI S a k x) b1 b2 b3 b4 b5 K :=
  q_efT h (fun d hd => by have e : d ≠ k := by omega
                          exact ⟨q_ffI e, q_ffI e, q_ffI e, q_ffI e, q_ffI e⟩) (Int.le_refl _)
end QEF
theorem q_PBcg {S : q_S} {o : Nat} {i g : Int32} (e : i = g) (h : ((q_fE S o 32 (g : Int32).toNatClampNeg) &&& (2 : Int32)).toInt = 0 → 0 ≤ (q_fE S o 33 (g : Int32).toNatClampNeg).toInt ∧ 0 ≤ (q_fE S o 34 (g : Int32).toNatClampNeg).toInt) : ((q_fE S o 32 (i : Int32).toNatClampNeg) &&& (2 : Int32)).toInt = 0 → 0 ≤ (q_fE S o 33 (i : Int32).toNatClampNeg).toInt ∧ 0 ≤ (q_fE S o 34 (i : Int32).toNatClampNeg).toInt := by
  subst e; exact h
