/-! read(): four bytes of the file, and two stores that belong together -/
theorem q_ok_bE {α β : Type} {P : β → q_S → Prop} {x : Option (α × q_S)} {r : α} {T : q_S} {f : α → q_S → Option (β × q_S)} (e : x = some (r, T)) (k : q_ok (f r T) P) : q_ok (q_b x f) P := by rw [e]; exact k
theorem q_ok_atM {β : Type} {P : β → q_S → Prop} {S : q_S} {r : Option Nat} {a c : Nat} {f : Nat → Option (β × q_S)} (e : r = some a) (h : a ∈ q_L S ∧ q_K S a = c) (k : q_ok (f a) P) : q_ok (q_at S r c f) P := by
  subst e
  unfold q_at
  simp only
  rw [if_pos h]
  exact k
def q_fo (f : Nat → Int32) (p0 : Int32) : Int64 := ((((f (p0).toNatClampNeg).toInt64 <<< (((24 : Int32)).toInt64 &&& 63)) + (((f (p0 + (1 : Int32)).toNatClampNeg) <<< ((16 : Int32) &&& 31)).toInt64)) + (((f (p0 + (2 : Int32)).toNatClampNeg) <<< ((8 : Int32) &&& 31)).toInt64)) + ((f (p0 + (3 : Int32)).toNatClampNeg).toInt64)
theorem q_at_pos {β : Type} {S : q_S} {a c : Nat} {f : Nat → Option (β × q_S)} (h : a ∈ q_L S ∧ q_K S a = c) : q_at S (some a) c f = f a := by
  unfold q_at
  simp only
  rw [if_pos h]
theorem q_if_pos {β : Type} {c : Prop} [Decidable c] {x : Option β} (h : c) : q_if c x = x := by unfold q_if; rw [if_pos h]
theorem q_fourAt_eq {n : Nat} {S : q_S} {o b : Nat} {p0 : Int32} (h1 : o ∈ q_L S ∧ q_K S o = 13) (h2 : q_R S o 1 = some b) (h3 : b ∈ q_L S ∧ q_K S b = 100) (h4 : q_N S b = 1600) (h5 : 0 ≤ p0.toInt) (h6 : p0.toInt ≤ 1596) : m_X12_fourAt n S o p0 = some (q_fo (q_I S b) p0, S) := by
  have z1 : (1 : Int32).toInt = 1 := rfl
  have z2 : (2 : Int32).toInt = 2 := rfl
  have z3 : (3 : Int32).toInt = 3 := rfl
  have e1 : (p0 + (1 : Int32)).toInt = p0.toInt + 1 := by rw [q_addI (by rw [z1]; omega) (by rw [z1]; omega), z1]
  have e2 : (p0 + (2 : Int32)).toInt = p0.toInt + 2 := by rw [q_addI (by rw [z2]; omega) (by rw [z2]; omega), z2]
  have e3 : (p0 + (3 : Int32)).toInt = p0.toInt + 3 := by rw [q_addI (by rw [z3]; omega) (by rw [z3]; omega), z3]
  unfold m_X12_fourAt
  rw [q_at_pos h1, h2, q_at_pos h3, q_if_pos (q_inI h4 (by omega) (by omega)), q_if_pos (q_inI h4 (by omega) (by omega)), q_if_pos (q_inI h4 (by omega) (by omega)), q_if_pos (q_inI h4 (by omega) (by omega))]
  rfl
theorem q_sI3 {S : q_S} {a b k : Nat} {x y z : Int32} (h : a ≠ b) : q_sI (q_sI (q_sI S b k z) a k x) b k y = q_sI (q_sI S a k x) b k y := by
  have e : q_u (q_u (q_u S.2.2.2.1 b k z) a k x) b k y = q_u (q_u S.2.2.2.1 a k x) b k y := funext fun c => funext fun j => by
    rw [q_u_at, q_u_at, q_u_at, q_u_at, q_u_at]
    by_cases e1 : c = b ∧ j = k
    · rw [if_pos e1, if_pos e1]
    · rw [if_neg e1, if_neg e1, if_neg e1]
  show (S.1, S.2.1, S.2.2.1, q_u (q_u (q_u S.2.2.2.1 b k z) a k x) b k y, S.2.2.2.2.1, S.2.2.2.2.2) = (S.1, S.2.1, S.2.2.1, q_u (q_u S.2.2.2.1 a k x) b k y, S.2.2.2.2.1, S.2.2.2.2.2)
  rw [e]
