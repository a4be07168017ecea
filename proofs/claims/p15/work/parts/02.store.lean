/-! THE STORE: what the objects and rows hold, by their addresses: the list of addresses, the kind of each (a class's place in vwCl, or 100 int[], 101 long[], 102 boolean[], 103 and 104 rows of objects), the lengths of rows, the ints, the longs, the references -/
abbrev q_S : Type := List Nat × (Nat → Nat) × (Nat → Nat) × (Nat → Nat → Int32) × (Nat → Nat → Int64) × (Nat → Nat → Option Nat)
def q_L (S : q_S) : List Nat := S.1
def q_K (S : q_S) : Nat → Nat := S.2.1
def q_N (S : q_S) : Nat → Nat := S.2.2.1
def q_I (S : q_S) : Nat → Nat → Int32 := S.2.2.2.1
def q_J (S : q_S) : Nat → Nat → Int64 := S.2.2.2.2.1
def q_R (S : q_S) : Nat → Nat → Option Nat := S.2.2.2.2.2
def q_u {α : Type} (f : Nat → Nat → α) (a k : Nat) (x : α) : Nat → Nat → α := va_up f a (va_up (f a) k x)
def q_sI (S : q_S) (a k : Nat) (x : Int32) : q_S := (S.1, S.2.1, S.2.2.1, q_u S.2.2.2.1 a k x, S.2.2.2.2.1, S.2.2.2.2.2)
def q_sJ (S : q_S) (a k : Nat) (x : Int64) : q_S := (S.1, S.2.1, S.2.2.1, S.2.2.2.1, q_u S.2.2.2.2.1 a k x, S.2.2.2.2.2)
def q_sR (S : q_S) (a k : Nat) (x : Option Nat) : q_S := (S.1, S.2.1, S.2.2.1, S.2.2.2.1, S.2.2.2.2.1, q_u S.2.2.2.2.2 a k x)
theorem q_u_same {α : Type} (f : Nat → Nat → α) (a k : Nat) (x : α) : q_u f a k x a = va_up (f a) k x := by unfold q_u va_up; simp
theorem q_u_ne {α : Type} (f : Nat → Nat → α) {a b : Nat} (k : Nat) (x : α) (h : b ≠ a) : q_u f a k x b = f b := by unfold q_u va_up; simp [h]
theorem q_u_at {α : Type} (f : Nat → Nat → α) (a k b j : Nat) (x : α) : q_u f a k x b j = if b = a ∧ j = k then x else f b j := by
  unfold q_u va_up
  by_cases h : b = a
  · subst h
    by_cases h2 : j = k <;> simp [h2]
  · simp [h]
/-- a field's value, by the code of its type: 0 int, 1 long, else a reference -/
def q_v (S : q_S) (a k t : Nat) : Value := if t = 0 then .int (q_I S a k) else if t = 1 then .long (q_J S a k) else va_rf (q_R S a k)
def q_fs (S : q_S) (a : Nat) : Nat → List Nat → List Value
  | _, [] => []
  | k, t :: ts => q_v S a k t :: q_fs S a (k + 1) ts
theorem q_fs_len (S : q_S) (a : Nat) : ∀ (ts : List Nat) (k : Nat), (q_fs S a k ts).length = ts.length
  | [], _ => rfl
  | _ :: ts, k => by show (q_fs S a (k + 1) ts).length + 1 = ts.length + 1; rw [q_fs_len S a ts (k + 1)]
theorem q_fs_get (S : q_S) (a : Nat) : ∀ (ts : List Nat) (k j : Nat), (q_fs S a k ts)[j]? = (ts[j]?).map (q_v S a (k + j))
  | [], _, j => by simp [q_fs]
  | _ :: ts, k, 0 => by simp [q_fs]
  | _ :: ts, k, j + 1 => by
    have h := q_fs_get S a ts (k + 1) j
    rw [show k + (j + 1) = k + 1 + j by omega]
    simpa [q_fs] using h
theorem q_fs_set {S S2 : q_S} {a j : Nat} {v : Value} (ts : List Nat) (hj : j < ts.length) (h : ∀ i t, ts[i]? = some t → q_v S2 a i t = if i = j then v else q_v S a i t) : (q_fs S a 0 ts).set j v = q_fs S2 a 0 ts := by
  apply List.ext_getElem?
  intro i
  rw [List.getElem?_set, q_fs_get, q_fs_get, q_fs_len]
  by_cases hij : j = i
  · subst hij
    rw [if_pos rfl, if_pos hj]
    obtain ⟨t, ht⟩ : ∃ t, ts[j]? = some t := ⟨ts[j], List.getElem?_eq_getElem hj⟩
    have h1 := h j t ht
    rw [if_pos rfl] at h1
    rw [ht]
    simp only [Option.map_some, Nat.zero_add]
    rw [h1]
  · rw [if_neg hij]
    cases ht : ts[i]? with
    | none => rfl
    | some t =>
      have h1 := h i t ht
      rw [if_neg (fun e => hij e.symm)] at h1
      simp only [Option.map_some, Nat.zero_add]
      rw [h1]
theorem q_fs_congr {S S2 : q_S} {a : Nat} (h1 : q_I S2 a = q_I S a) (h2 : q_J S2 a = q_J S a) (h3 : q_R S2 a = q_R S a) : ∀ (ts : List Nat) (k : Nat), q_fs S2 a k ts = q_fs S a k ts
  | [], _ => rfl
  | t :: ts, k => by
    show q_v S2 a k t :: q_fs S2 a (k + 1) ts = q_v S a k t :: q_fs S a (k + 1) ts
    rw [q_fs_congr h1 h2 h3 ts (k + 1)]
    unfold q_v
    rw [h1, h2, h3]
/-- the types of a class's fields: 0 int, 1 long, 2 a reference -/
def q_ft : Nat → List Nat := fun c => match c with
  | 0 => []
  | 1 => [2, 2, 1]
  | 2 => [2, 0, 0, 1, 1, 0, 0, 0, 0, 0, 0, 0, 0, 0]
  | 3 => [2, 0, 0, 0]
  | 4 => [2, 2, 2, 2, 0, 0]
  | 5 => [2, 0]
  | 6 => [2, 2, 2, 2, 2, 2, 2, 2, 2, 0]
  | 7 => [2, 2, 2, 2, 0, 0, 0, 0, 2, 2]
  | 8 => [2, 1, 1, 0, 0]
  | 9 => [2, 2, 2, 0]
  | 10 => [2, 2, 0]
  | 11 => [2, 2, 2, 2, 2, 2, 2, 2, 0]
  | 12 => [2, 2, 2, 2, 2, 2, 2, 2]
  | 13 => [0, 2, 0, 0, 2, 2, 2, 2, 0, 2, 2, 0, 2, 2, 0, 2, 2, 2, 0, 2, 2, 0, 0, 0, 0, 2, 2, 2, 2, 2, 2, 2, 2, 2, 2, 2, 0, 2, 0, 2, 2, 0, 0]
  | _ => []
/-- what lies at an address -/
def q_c (cy : Nat → ClassId) (S : q_S) (a : Nat) : va_E :=
  if q_K S a = 100 then .inl (cy 0, q_N S a, .inl (q_I S a))
  else if q_K S a = 101 then .inl (cy 1, q_N S a, .inr (.inl (q_J S a)))
  else if q_K S a = 102 then .inl (cy 2, q_N S a, .inl (q_I S a))
  else if q_K S a = 103 then .inl (cy 3, q_N S a, .inr (.inr (.inr (.inr (q_R S a)))))
  else if q_K S a = 104 then .inl (cy 4, q_N S a, .inr (.inr (.inr (.inr (q_R S a)))))
  else .inr (q_K S a, q_fs S a 0 (q_ft (q_K S a)))
theorem q_c_congr {cy : Nat → ClassId} {S S2 : q_S} {a : Nat} (hk : q_K S2 a = q_K S a) (hn : q_N S2 a = q_N S a) (h1 : q_I S2 a = q_I S a) (h2 : q_J S2 a = q_J S a) (h3 : q_R S2 a = q_R S a) : q_c cy S2 a = q_c cy S a := by
  unfold q_c
  rw [hk, hn, h1, h2, h3, q_fs_congr h1 h2 h3]
theorem q_c_obj {cy : Nat → ClassId} {S : q_S} {a c : Nat} (hk : q_K S a = c) (hc : c < 100) : q_c cy S a = .inr (c, q_fs S a 0 (q_ft c)) := by
  unfold q_c
  rw [hk, if_neg (by omega), if_neg (by omega), if_neg (by omega), if_neg (by omega), if_neg (by omega)]
theorem q_c_100 {cy : Nat → ClassId} {S : q_S} {a : Nat} (hk : q_K S a = 100) : q_c cy S a = .inl (cy 0, q_N S a, .inl (q_I S a)) := by unfold q_c; rw [hk, if_pos rfl]
theorem q_c_101 {cy : Nat → ClassId} {S : q_S} {a : Nat} (hk : q_K S a = 101) : q_c cy S a = .inl (cy 1, q_N S a, .inr (.inl (q_J S a))) := by unfold q_c; rw [hk, if_neg (by decide), if_pos rfl]
theorem q_c_102 {cy : Nat → ClassId} {S : q_S} {a : Nat} (hk : q_K S a = 102) : q_c cy S a = .inl (cy 2, q_N S a, .inl (q_I S a)) := by unfold q_c; rw [hk, if_neg (by decide), if_neg (by decide), if_pos rfl]
theorem q_c_103 {cy : Nat → ClassId} {S : q_S} {a : Nat} (hk : q_K S a = 103) : q_c cy S a = .inl (cy 3, q_N S a, .inr (.inr (.inr (.inr (q_R S a))))) := by unfold q_c; rw [hk, if_neg (by decide), if_neg (by decide), if_neg (by decide), if_pos rfl]
theorem q_c_104 {cy : Nat → ClassId} {S : q_S} {a : Nat} (hk : q_K S a = 104) : q_c cy S a = .inl (cy 4, q_N S a, .inr (.inr (.inr (.inr (q_R S a))))) := by unfold q_c; rw [hk, if_neg (by decide), if_neg (by decide), if_neg (by decide), if_neg (by decide), if_pos rfl]
/-- the world -/
def q_w (cy : Nat → ClassId) (S : q_S) : va_W := va_pl (q_L S) (q_c cy S)
theorem q_w_get {cy : Nat → ClassId} {S : q_S} {a : Nat} (h : a ∈ q_L S) : ∃ k : Nat, (q_w cy S)[k]? = some (a, q_c cy S a) := va_pl_get (X := []) h
theorem q_w_set {cy : Nat → ClassId} {S S2 : q_S} {A : Nat → Prop} {a k : Nat} {e : va_E} (hD : va_D A (q_w cy S)) (hm : a ∈ q_L S) (hk : (q_w cy S)[k]? = some (a, q_c cy S a)) (hL : q_L S2 = q_L S) (h1 : q_c cy S2 a = e) (h2 : ∀ b, b ≠ a → q_c cy S2 b = q_c cy S b) : (q_w cy S).set k (a, e) = q_w cy S2 := by
  have h := va_pl_set (X := []) (e := e) hD hm hk
  refine h.trans ?_
  unfold q_w
  rw [hL]
  refine va_pl_congr (fun b => ?_)
  by_cases hb : b = a
  · subst hb; rw [h1]; unfold va_up; simp
  · rw [h2 b hb]; unfold va_up; simp [hb]
theorem q_sI_c {cy : Nat → ClassId} {S : q_S} {a j c : Nat} {x : Int32} (hk : q_K S a = c) (hc : c < 100) (hf : (q_ft c)[j]? = some 0) : q_c cy (q_sI S a j x) a = .inr (c, (q_fs S a 0 (q_ft c)).set j (.int x)) := by
  rw [q_c_obj (S := q_sI S a j x) (show q_K (q_sI S a j x) a = c from hk) hc]
  refine congrArg (fun z => Sum.inr (c, z)) (Eq.symm ?_)
  refine q_fs_set _ (List.getElem?_eq_some_iff.mp hf).1 (fun i t ht => ?_)
  unfold q_v
  show (if t = 0 then Value.int (q_u (q_I S) a j x a i) else if t = 1 then .long (q_J S a i) else va_rf (q_R S a i)) = _
  rw [q_u_at]
  by_cases hij : i = j
  · subst hij; rw [hf] at ht; cases ht; simp
  · simp [hij]
theorem q_sJ_c {cy : Nat → ClassId} {S : q_S} {a j c : Nat} {x : Int64} (hk : q_K S a = c) (hc : c < 100) (hf : (q_ft c)[j]? = some 1) : q_c cy (q_sJ S a j x) a = .inr (c, (q_fs S a 0 (q_ft c)).set j (.long x)) := by
  rw [q_c_obj (S := q_sJ S a j x) (show q_K (q_sJ S a j x) a = c from hk) hc]
  refine congrArg (fun z => Sum.inr (c, z)) (Eq.symm ?_)
  refine q_fs_set _ (List.getElem?_eq_some_iff.mp hf).1 (fun i t ht => ?_)
  unfold q_v
  show (if t = 0 then Value.int (q_I S a i) else if t = 1 then .long (q_u (q_J S) a j x a i) else va_rf (q_R S a i)) = _
  rw [q_u_at]
  by_cases hij : i = j
  · subst hij; rw [hf] at ht; cases ht; simp
  · simp [hij]
theorem q_sR_c {cy : Nat → ClassId} {S : q_S} {a j c : Nat} {x : Option Nat} (hk : q_K S a = c) (hc : c < 100) (hf : (q_ft c)[j]? = some 2) : q_c cy (q_sR S a j x) a = .inr (c, (q_fs S a 0 (q_ft c)).set j (va_rf x)) := by
  rw [q_c_obj (S := q_sR S a j x) (show q_K (q_sR S a j x) a = c from hk) hc]
  refine congrArg (fun z => Sum.inr (c, z)) (Eq.symm ?_)
  refine q_fs_set _ (List.getElem?_eq_some_iff.mp hf).1 (fun i t ht => ?_)
  unfold q_v
  show (if t = 0 then Value.int (q_I S a i) else if t = 1 then .long (q_J S a i) else va_rf (q_u (q_R S) a j x a i)) = _
  rw [q_u_at]
  by_cases hij : i = j
  · subst hij; rw [hf] at ht; cases ht; simp
  · simp [hij]
theorem q_sI_o {cy : Nat → ClassId} {S : q_S} {a j : Nat} {x : Int32} : ∀ b, b ≠ a → q_c cy (q_sI S a j x) b = q_c cy S b := fun b h => q_c_congr rfl rfl (q_u_ne (q_I S) j x h) rfl rfl
theorem q_sJ_o {cy : Nat → ClassId} {S : q_S} {a j : Nat} {x : Int64} : ∀ b, b ≠ a → q_c cy (q_sJ S a j x) b = q_c cy S b := fun b h => q_c_congr rfl rfl rfl (q_u_ne (q_J S) j x h) rfl
theorem q_sR_o {cy : Nat → ClassId} {S : q_S} {a j : Nat} {x : Option Nat} : ∀ b, b ≠ a → q_c cy (q_sR S a j x) b = q_c cy S b := fun b h => q_c_congr rfl rfl rfl rfl (q_u_ne (q_R S) j x h)
