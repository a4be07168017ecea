/-! THE STORE BY A TABLE: as, the addresses in the order of their making; t, for each (kind, length, references by place): what constructors leave -/
def q_tb (t : List (Nat × Nat × List (Nat × Nat))) (i : Nat) : Nat × Nat × List (Nat × Nat) := (t[i]?).getD (0, 0, [])
def q_rf (l : List (Nat × Nat)) (j : Nat) : Option Nat := (l.find? (fun p => p.1 == j)).map (fun p => p.2)
def q_D (S : q_S) (as : List Nat) (t : List (Nat × Nat × List (Nat × Nat))) : Prop :=
  q_L S = as ∧ as.length = t.length ∧ (∀ (i j a : Nat), as[i]? = some a → as[j]? = some a → i = j) ∧
  ∀ (i a : Nat), as[i]? = some a → q_K S a = (q_tb t i).1 ∧ q_N S a = (q_tb t i).2.1 ∧ (∀ k, q_I S a k = 0) ∧ (∀ k, q_J S a k = 0) ∧ ∀ j, q_R S a j = (q_rf (q_tb t i).2.2 j).bind (fun p => as[p]?)
theorem q_D0 : q_D q_S0 [] [] := ⟨rfl, rfl, fun i j a h => by simp at h, fun i a h => by simp at h⟩
def q_dn (t : List (Nat × Nat × List (Nat × Nat))) (kd n : Nat) : List (Nat × Nat × List (Nat × Nat)) := t ++ [(kd, n, [])]
def q_ds (t : List (Nat × Nat × List (Nat × Nat))) (i j p : Nat) : List (Nat × Nat × List (Nat × Nat)) := t.set i ((q_tb t i).1, (q_tb t i).2.1, (j, p) :: (q_tb t i).2.2)
/-- all references of a table lie within it -/
def q_tw (t : List (Nat × Nat × List (Nat × Nat))) : Bool := t.all (fun e => e.2.2.all (fun q => decide (q.2 < t.length)))
theorem q_D_mem {S : q_S} {as : List Nat} {t : List (Nat × Nat × List (Nat × Nat))} {i a : Nat} (h : q_D S as t) (hi : as[i]? = some a) : a ∈ q_L S := by
  rw [h.1]; exact List.mem_of_getElem? hi
theorem q_D_K {S : q_S} {as : List Nat} {t : List (Nat × Nat × List (Nat × Nat))} {i a c : Nat} (h : q_D S as t) (hi : as[i]? = some a) (hc : (q_tb t i).1 = c) : q_K S a = c := by rw [(h.2.2.2 i a hi).1, hc]
theorem q_D_N {S : q_S} {as : List Nat} {t : List (Nat × Nat × List (Nat × Nat))} {i a c : Nat} (h : q_D S as t) (hi : as[i]? = some a) (hc : (q_tb t i).2.1 = c) : q_N S a = c := by rw [(h.2.2.2 i a hi).2.1, hc]
theorem q_D_R {S : q_S} {as : List Nat} {t : List (Nat × Nat × List (Nat × Nat))} {i a j p b : Nat} (h : q_D S as t) (hi : as[i]? = some a) (hp : q_rf (q_tb t i).2.2 j = some p) (hb : as[p]? = some b) : q_R S a j = some b := by
  rw [(h.2.2.2 i a hi).2.2.2.2 j, hp]; exact hb
theorem q_rf_lt {l : List (Nat × Nat)} {j p n : Nat} (hw : l.all (fun q => decide (q.2 < n)) = true) (h : q_rf l j = some p) : p < n := by
  unfold q_rf at h
  obtain ⟨e, he, rfl⟩ := Option.map_eq_some_iff.mp h
  exact of_decide_eq_true (List.all_eq_true.mp hw e (List.mem_of_find?_eq_some he))
theorem q_tb_all {t : List (Nat × Nat × List (Nat × Nat))} (hw : q_tw t = true) (i : Nat) : (q_tb t i).2.2.all (fun q => decide (q.2 < t.length)) = true := by
  unfold q_tb
  cases h : t[i]? with
  | none => rfl
  | some e => exact List.all_eq_true.mp hw e (List.mem_of_getElem? h)
theorem q_D_nw {S : q_S} {as : List Nat} {t : List (Nat × Nat × List (Nat × Nat))} {q kd n : Nat} (h : q_D S as t) (hw : q_tw t = true) (hf : q ∉ q_L S) : q_D (q_nw S q kd n) (as ++ [q]) (q_dn t kd n) := by
  have hq : ∀ i, as[i]? ≠ some q := fun i e => hf (q_D_mem h e)
  refine ⟨by show q_L S ++ [q] = as ++ [q]; rw [h.1], by simp [q_dn, h.2.1], ?_, ?_⟩
  · intro i j a hi hj
    rcases Nat.lt_or_ge i as.length with h1 | h1 <;> rcases Nat.lt_or_ge j as.length with h2 | h2
    · rw [List.getElem?_append_left h1] at hi; rw [List.getElem?_append_left h2] at hj; exact h.2.2.1 i j a hi hj
    · rw [List.getElem?_append_left h1] at hi; rw [List.getElem?_append_right h2] at hj
      have : j - as.length = 0 := by have := (List.getElem?_eq_some_iff.mp hj).1; simp at this; omega
      rw [this] at hj; simp at hj; subst hj; exact absurd hi (hq i)
    · rw [List.getElem?_append_right h1] at hi; rw [List.getElem?_append_left h2] at hj
      have : i - as.length = 0 := by have := (List.getElem?_eq_some_iff.mp hi).1; simp at this; omega
      rw [this] at hi; simp at hi; subst hi; exact absurd hj (hq j)
    · have e1 := (List.getElem?_eq_some_iff.mp hi).1
      have e2 := (List.getElem?_eq_some_iff.mp hj).1
      simp at e1 e2; omega
  · intro i a hi
    rcases Nat.lt_or_ge i as.length with h1 | h1
    · rw [List.getElem?_append_left h1] at hi
      have hne : a ≠ q := fun e => hq i (by rw [← e]; exact hi)
      have ht : q_tb (q_dn t kd n) i = q_tb t i := by
        unfold q_tb q_dn; rw [List.getElem?_append_left (by rw [← h.2.1]; exact h1)]
      obtain ⟨k1, k2, k3, k4, k5⟩ := h.2.2.2 i a hi
      rw [ht]
      refine ⟨(q_up_ne _ _ hne).trans k1, (q_up_ne _ _ hne).trans k2, fun k => ?_, fun k => ?_, fun j => ?_⟩
      · show va_up (q_I S) q (fun _ => 0) a k = 0
        rw [q_up_ne _ _ hne]; exact k3 k
      · show va_up (q_J S) q (fun _ => 0) a k = 0
        rw [q_up_ne _ _ hne]; exact k4 k
      · show va_up (q_R S) q (fun _ => none) a j = _
        rw [q_up_ne _ _ hne, k5 j]
        cases hp : q_rf (q_tb t i).2.2 j with
        | none => rfl
        | some p =>
          have hlt := q_rf_lt (q_tb_all hw i) hp
          show as[p]? = (as ++ [q])[p]?
          rw [List.getElem?_append_left (by rw [h.2.1]; exact hlt)]
    · have e1 := (List.getElem?_eq_some_iff.mp hi).1
      have h2 : i = as.length := by simp at e1; omega
      subst h2
      simp at hi
      subst hi
      have ht : q_tb (q_dn t kd n) as.length = (kd, n, []) := by
        unfold q_tb q_dn; rw [h.2.1]; simp
      rw [ht]
      refine ⟨q_up_same _ _ _, q_up_same _ _ _, fun k => ?_, fun k => ?_, fun j => ?_⟩
      · show va_up (q_I S) q (fun _ => 0) q k = 0
        rw [q_up_same]
      · show va_up (q_J S) q (fun _ => 0) q k = 0
        rw [q_up_same]
      · show va_up (q_R S) q (fun _ => none) q j = _
        rw [q_up_same]; rfl
theorem q_D_sR {S : q_S} {as : List Nat} {t : List (Nat × Nat × List (Nat × Nat))} {i a j p b : Nat} {v : Option Nat} (h : q_D S as t) (hi : as[i]? = some a) (hp : as[p]? = some b) (hv : v = some b) : q_D (q_sR S a j v) as (q_ds t i j p) := by
  have hil : i < t.length := by rw [← h.2.1]; exact (List.getElem?_eq_some_iff.mp hi).1
  refine ⟨h.1, by simp [q_ds, h.2.1], h.2.2.1, ?_⟩
  intro i2 a2 hi2
  obtain ⟨k1, k2, k3, k4, k5⟩ := h.2.2.2 i2 a2 hi2
  by_cases e : i2 = i
  · subst e
    have ea : a2 = a := Option.some.inj (hi2.symm.trans hi)
    subst ea
    have ht : q_tb (q_ds t i2 j p) i2 = ((q_tb t i2).1, (q_tb t i2).2.1, (j, p) :: (q_tb t i2).2.2) := by
      unfold q_ds; conv => lhs; unfold q_tb
      rw [List.getElem?_set_self hil]; rfl
    rw [ht]
    refine ⟨k1, k2, k3, k4, fun j2 => ?_⟩
    show q_u (q_R S) a2 j v a2 j2 = _
    rw [q_u_at]
    by_cases e2 : j2 = j
    · subst e2
      rw [if_pos ⟨rfl, rfl⟩, hv]
      simp [q_rf, hp]
    · rw [if_neg (fun z => e2 z.2), k5 j2]
      have : (j == j2) = false := by simp; exact fun z => e2 z.symm
      simp [q_rf, List.find?, this]
  · have hne : a2 ≠ a := fun z => e (h.2.2.1 i2 i a (by rw [← z]; exact hi2) hi)
    have ht : q_tb (q_ds t i j p) i2 = q_tb t i2 := by
      unfold q_ds; conv => lhs; unfold q_tb
      rw [List.getElem?_set_ne (fun z => e z.symm)]; rfl
    rw [ht]
    refine ⟨k1, k2, k3, k4, fun j2 => ?_⟩
    show q_u (q_R S) a j v a2 j2 = _
    rw [q_u_ne _ _ _ hne]; exact k5 j2
