/-! what the constructors leave keeps the invariant -/
def q_rl : List Nat := [0, 1, 2, 3, 4, 5, 6, 7, 8, 8, 8, 8, 8, 8, 8, 8, 8, 8, 8, 8, 8, 8, 8, 8, 8, 8, 8, 8, 8, 8, 8, 8, 8, 9, 10, 11, 12, 13, 14, 15, 16, 17, 18, 19, 20, 21, 22, 23, 24, 25, 26, 27, 28, 29, 30, 31, 32, 33, 34, 35, 36, 37, 38, 39, 40, 41, 42, 43, 44, 45, 46, 47, 48, 49, 50, 51, 52, 53, 54, 55, 56, 57, 58, 59, 60, 61, 62, 63, 64, 65, 66, 67, 68, 69, 70, 71, 72, 73, 74]
def q_pos : List Nat → Nat → Nat
  | [], _ => 0
  | b :: l, a => if b = a then 0 else q_pos l a + 1
theorem q_pos_get : ∀ (l : List Nat) (a : Nat), a ∈ l → l[q_pos l a]? = some a
  | [], a, h => by cases h
  | b :: l, a, h => by
    unfold q_pos
    by_cases e : b = a
    · rw [if_pos e, e]; rfl
    · rw [if_neg e]
      rcases List.mem_cons.mp h with h | h
      · exact absurd h.symm e
      · exact q_pos_get l a h
def q_ra (i : Nat) : Nat := (q_rl[i]?).getD 0
def q_rho (as : List Nat) (a : Nat) : Nat := q_ra (q_pos as a)
def q_chk (i j r : Nat) : Bool := match q_rf (q_tb q_TF i).2.2 j with
  | none => false
  | some p => decide (p < 99) && (q_ra p == r)
section QF
variable {S : q_S} {as : List Nat} {i a j r : Nat}
theorem q_D_pos (h : q_D S as q_TF) (hi : as[i]? = some a) : q_pos as a = i := h.2.2.1 _ _ a (q_pos_get as a (List.mem_of_getElem? hi)) hi
theorem q_D_rho (h : q_D S as q_TF) (hi : as[i]? = some a) : q_rho as a = q_ra i := by unfold q_rho; rw [q_D_pos h hi]
theorem q_D_tr (h : q_D S as q_TF) (hi : as[i]? = some a) (hc : q_chk i j r = true) : q_tr (q_rho as) as (q_R S a j) r := by
  unfold q_chk at hc
  cases hp : q_rf (q_tb q_TF i).2.2 j with
  | none => rw [hp] at hc; cases hc
  | some p =>
    rw [hp] at hc
    simp only [Bool.and_eq_true, decide_eq_true_eq, beq_iff_eq] at hc
    have hl : as.length = 99 := h.2.1
    have hb : as[p]? = some as[p] := List.getElem?_eq_getElem (by omega)
    exact ⟨as[p], q_D_R h hi hp hb, List.mem_of_getElem? hb, (q_D_rho h hb).trans hc.2⟩
theorem q_D_I0 {lo hi : Int} (h : q_D S as q_TF) (hi_ : as[i]? = some a) (h1 : lo ≤ 0) (h2 : 0 ≤ hi) : lo ≤ (q_I S a j).toInt ∧ (q_I S a j).toInt ≤ hi := by rw [(h.2.2.2 i a hi_).2.2.1 j]; exact ⟨h1, h2⟩
theorem q_D_J0 {lo hi : Int} (h : q_D S as q_TF) (hi_ : as[i]? = some a) (h1 : lo ≤ 0) (h2 : 0 ≤ hi) : lo ≤ (q_J S a j).toInt ∧ (q_J S a j).toInt ≤ hi := by rw [(h.2.2.2 i a hi_).2.2.2.1 j]; exact ⟨h1, h2⟩
theorem q_v0 (h : q_D S as q_TF) (hi : as[0]? = some a) : q_io (q_rho as) as (q_N S a) (q_I S a) (q_J S a) (q_R S a) 0 := ⟨q_D_tr (i := 0) (j := 0) h hi (by decide +kernel), q_D_tr (i := 0) (j := 1) h hi (by decide +kernel), q_D_tr (i := 0) (j := 2) h hi (by decide +kernel), q_D_tr (i := 0) (j := 3) h hi (by decide +kernel), q_D_tr (i := 0) (j := 4) h hi (by decide +kernel), q_D_tr (i := 0) (j := 5) h hi (by decide +kernel), q_D_tr (i := 0) (j := 6) h hi (by decide +kernel), q_D_tr (i := 0) (j := 7) h hi (by decide +kernel)⟩
theorem q_v1 (h : q_D S as q_TF) (hi : as[1]? = some a) : q_io (q_rho as) as (q_N S a) (q_I S a) (q_J S a) (q_R S a) 1 := ⟨q_D_tr (i := 1) (j := 0) h hi (by decide +kernel), q_D_I0 (i := 1) (j := 1) h hi (by decide) (by decide)⟩
theorem q_v2 (h : q_D S as q_TF) (hi : as[2]? = some a) : q_io (q_rho as) as (q_N S a) (q_I S a) (q_J S a) (q_R S a) 2 := ⟨q_D_N (i := 2) h hi rfl, fun k => q_D_I0 (i := 2) (j := k) h hi (by decide) (by decide)⟩
theorem q_v3 (h : q_D S as q_TF) (hi : as[3]? = some a) : q_io (q_rho as) as (q_N S a) (q_I S a) (q_J S a) (q_R S a) 3 := ⟨q_D_tr (i := 3) (j := 0) h hi (by decide +kernel), q_D_tr (i := 3) (j := 1) h hi (by decide +kernel), q_D_I0 (i := 3) (j := 2) h hi (by decide) (by decide)⟩
theorem q_v4 (h : q_D S as q_TF) (hi : as[4]? = some a) : q_io (q_rho as) as (q_N S a) (q_I S a) (q_J S a) (q_R S a) 4 := ⟨q_D_N (i := 4) h hi rfl, fun k => q_D_I0 (i := 4) (j := k) h hi (by decide) (by decide)⟩
theorem q_v5 (h : q_D S as q_TF) (hi : as[5]? = some a) : q_io (q_rho as) as (q_N S a) (q_I S a) (q_J S a) (q_R S a) 5 := ⟨q_D_N (i := 5) h hi rfl, fun k => q_D_I0 (i := 5) (j := k) h hi (by decide) (by decide)⟩
theorem q_v6 (h : q_D S as q_TF) (hi : as[6]? = some a) : q_io (q_rho as) as (q_N S a) (q_I S a) (q_J S a) (q_R S a) 6 := ⟨q_D_tr (i := 6) (j := 0) h hi (by decide +kernel), q_D_tr (i := 6) (j := 1) h hi (by decide +kernel), q_D_tr (i := 6) (j := 2) h hi (by decide +kernel), q_D_I0 (i := 6) (j := 3) h hi (by decide) (by decide)⟩
theorem q_v7 (h : q_D S as q_TF) (hi : as[7]? = some a) : q_io (q_rho as) as (q_N S a) (q_I S a) (q_J S a) (q_R S a) 7 := ⟨q_D_N (i := 7) h hi rfl, fun k hk => q_D_tr (i := 7) h hi ((show ∀ k, k < 24 → q_chk 7 k 8 = true by decide +kernel) k hk)⟩
theorem q_v8 (h : q_D S as q_TF) (hi : as[8]? = some a) : q_io (q_rho as) as (q_N S a) (q_I S a) (q_J S a) (q_R S a) 8 := ⟨q_D_tr (i := 8) (j := 0) h hi (by decide +kernel), q_D_J0 (i := 8) (j := 1) h hi (by decide) (by decide), q_D_J0 (i := 8) (j := 2) h hi (by decide) (by decide), q_D_I0 (i := 8) (j := 3) h hi (by decide) (by decide), q_D_I0 (i := 8) (j := 4) h hi (by decide) (by decide)⟩
theorem q_v9 (h : q_D S as q_TF) (hi : as[9]? = some a) : q_io (q_rho as) as (q_N S a) (q_I S a) (q_J S a) (q_R S a) 8 := ⟨q_D_tr (i := 9) (j := 0) h hi (by decide +kernel), q_D_J0 (i := 9) (j := 1) h hi (by decide) (by decide), q_D_J0 (i := 9) (j := 2) h hi (by decide) (by decide), q_D_I0 (i := 9) (j := 3) h hi (by decide) (by decide), q_D_I0 (i := 9) (j := 4) h hi (by decide) (by decide)⟩
theorem q_v10 (h : q_D S as q_TF) (hi : as[10]? = some a) : q_io (q_rho as) as (q_N S a) (q_I S a) (q_J S a) (q_R S a) 8 := ⟨q_D_tr (i := 10) (j := 0) h hi (by decide +kernel), q_D_J0 (i := 10) (j := 1) h hi (by decide) (by decide), q_D_J0 (i := 10) (j := 2) h hi (by decide) (by decide), q_D_I0 (i := 10) (j := 3) h hi (by decide) (by decide), q_D_I0 (i := 10) (j := 4) h hi (by decide) (by decide)⟩
theorem q_v11 (h : q_D S as q_TF) (hi : as[11]? = some a) : q_io (q_rho as) as (q_N S a) (q_I S a) (q_J S a) (q_R S a) 8 := ⟨q_D_tr (i := 11) (j := 0) h hi (by decide +kernel), q_D_J0 (i := 11) (j := 1) h hi (by decide) (by decide), q_D_J0 (i := 11) (j := 2) h hi (by decide) (by decide), q_D_I0 (i := 11) (j := 3) h hi (by decide) (by decide), q_D_I0 (i := 11) (j := 4) h hi (by decide) (by decide)⟩
theorem q_v12 (h : q_D S as q_TF) (hi : as[12]? = some a) : q_io (q_rho as) as (q_N S a) (q_I S a) (q_J S a) (q_R S a) 8 := ⟨q_D_tr (i := 12) (j := 0) h hi (by decide +kernel), q_D_J0 (i := 12) (j := 1) h hi (by decide) (by decide), q_D_J0 (i := 12) (j := 2) h hi (by decide) (by decide), q_D_I0 (i := 12) (j := 3) h hi (by decide) (by decide), q_D_I0 (i := 12) (j := 4) h hi (by decide) (by decide)⟩
theorem q_v13 (h : q_D S as q_TF) (hi : as[13]? = some a) : q_io (q_rho as) as (q_N S a) (q_I S a) (q_J S a) (q_R S a) 8 := ⟨q_D_tr (i := 13) (j := 0) h hi (by decide +kernel), q_D_J0 (i := 13) (j := 1) h hi (by decide) (by decide), q_D_J0 (i := 13) (j := 2) h hi (by decide) (by decide), q_D_I0 (i := 13) (j := 3) h hi (by decide) (by decide), q_D_I0 (i := 13) (j := 4) h hi (by decide) (by decide)⟩
theorem q_v14 (h : q_D S as q_TF) (hi : as[14]? = some a) : q_io (q_rho as) as (q_N S a) (q_I S a) (q_J S a) (q_R S a) 8 := ⟨q_D_tr (i := 14) (j := 0) h hi (by decide +kernel), q_D_J0 (i := 14) (j := 1) h hi (by decide) (by decide), q_D_J0 (i := 14) (j := 2) h hi (by decide) (by decide), q_D_I0 (i := 14) (j := 3) h hi (by decide) (by decide), q_D_I0 (i := 14) (j := 4) h hi (by decide) (by decide)⟩
theorem q_v15 (h : q_D S as q_TF) (hi : as[15]? = some a) : q_io (q_rho as) as (q_N S a) (q_I S a) (q_J S a) (q_R S a) 8 := ⟨q_D_tr (i := 15) (j := 0) h hi (by decide +kernel), q_D_J0 (i := 15) (j := 1) h hi (by decide) (by decide), q_D_J0 (i := 15) (j := 2) h hi (by decide) (by decide), q_D_I0 (i := 15) (j := 3) h hi (by decide) (by decide), q_D_I0 (i := 15) (j := 4) h hi (by decide) (by decide)⟩
theorem q_v16 (h : q_D S as q_TF) (hi : as[16]? = some a) : q_io (q_rho as) as (q_N S a) (q_I S a) (q_J S a) (q_R S a) 8 := ⟨q_D_tr (i := 16) (j := 0) h hi (by decide +kernel), q_D_J0 (i := 16) (j := 1) h hi (by decide) (by decide), q_D_J0 (i := 16) (j := 2) h hi (by decide) (by decide), q_D_I0 (i := 16) (j := 3) h hi (by decide) (by decide), q_D_I0 (i := 16) (j := 4) h hi (by decide) (by decide)⟩
theorem q_v17 (h : q_D S as q_TF) (hi : as[17]? = some a) : q_io (q_rho as) as (q_N S a) (q_I S a) (q_J S a) (q_R S a) 8 := ⟨q_D_tr (i := 17) (j := 0) h hi (by decide +kernel), q_D_J0 (i := 17) (j := 1) h hi (by decide) (by decide), q_D_J0 (i := 17) (j := 2) h hi (by decide) (by decide), q_D_I0 (i := 17) (j := 3) h hi (by decide) (by decide), q_D_I0 (i := 17) (j := 4) h hi (by decide) (by decide)⟩
theorem q_v18 (h : q_D S as q_TF) (hi : as[18]? = some a) : q_io (q_rho as) as (q_N S a) (q_I S a) (q_J S a) (q_R S a) 8 := ⟨q_D_tr (i := 18) (j := 0) h hi (by decide +kernel), q_D_J0 (i := 18) (j := 1) h hi (by decide) (by decide), q_D_J0 (i := 18) (j := 2) h hi (by decide) (by decide), q_D_I0 (i := 18) (j := 3) h hi (by decide) (by decide), q_D_I0 (i := 18) (j := 4) h hi (by decide) (by decide)⟩
theorem q_v19 (h : q_D S as q_TF) (hi : as[19]? = some a) : q_io (q_rho as) as (q_N S a) (q_I S a) (q_J S a) (q_R S a) 8 := ⟨q_D_tr (i := 19) (j := 0) h hi (by decide +kernel), q_D_J0 (i := 19) (j := 1) h hi (by decide) (by decide), q_D_J0 (i := 19) (j := 2) h hi (by decide) (by decide), q_D_I0 (i := 19) (j := 3) h hi (by decide) (by decide), q_D_I0 (i := 19) (j := 4) h hi (by decide) (by decide)⟩
theorem q_v20 (h : q_D S as q_TF) (hi : as[20]? = some a) : q_io (q_rho as) as (q_N S a) (q_I S a) (q_J S a) (q_R S a) 8 := ⟨q_D_tr (i := 20) (j := 0) h hi (by decide +kernel), q_D_J0 (i := 20) (j := 1) h hi (by decide) (by decide), q_D_J0 (i := 20) (j := 2) h hi (by decide) (by decide), q_D_I0 (i := 20) (j := 3) h hi (by decide) (by decide), q_D_I0 (i := 20) (j := 4) h hi (by decide) (by decide)⟩
theorem q_v21 (h : q_D S as q_TF) (hi : as[21]? = some a) : q_io (q_rho as) as (q_N S a) (q_I S a) (q_J S a) (q_R S a) 8 := ⟨q_D_tr (i := 21) (j := 0) h hi (by decide +kernel), q_D_J0 (i := 21) (j := 1) h hi (by decide) (by decide), q_D_J0 (i := 21) (j := 2) h hi (by decide) (by decide), q_D_I0 (i := 21) (j := 3) h hi (by decide) (by decide), q_D_I0 (i := 21) (j := 4) h hi (by decide) (by decide)⟩
theorem q_v22 (h : q_D S as q_TF) (hi : as[22]? = some a) : q_io (q_rho as) as (q_N S a) (q_I S a) (q_J S a) (q_R S a) 8 := ⟨q_D_tr (i := 22) (j := 0) h hi (by decide +kernel), q_D_J0 (i := 22) (j := 1) h hi (by decide) (by decide), q_D_J0 (i := 22) (j := 2) h hi (by decide) (by decide), q_D_I0 (i := 22) (j := 3) h hi (by decide) (by decide), q_D_I0 (i := 22) (j := 4) h hi (by decide) (by decide)⟩
theorem q_v23 (h : q_D S as q_TF) (hi : as[23]? = some a) : q_io (q_rho as) as (q_N S a) (q_I S a) (q_J S a) (q_R S a) 8 := ⟨q_D_tr (i := 23) (j := 0) h hi (by decide +kernel), q_D_J0 (i := 23) (j := 1) h hi (by decide) (by decide), q_D_J0 (i := 23) (j := 2) h hi (by decide) (by decide), q_D_I0 (i := 23) (j := 3) h hi (by decide) (by decide), q_D_I0 (i := 23) (j := 4) h hi (by decide) (by decide)⟩
theorem q_v24 (h : q_D S as q_TF) (hi : as[24]? = some a) : q_io (q_rho as) as (q_N S a) (q_I S a) (q_J S a) (q_R S a) 8 := ⟨q_D_tr (i := 24) (j := 0) h hi (by decide +kernel), q_D_J0 (i := 24) (j := 1) h hi (by decide) (by decide), q_D_J0 (i := 24) (j := 2) h hi (by decide) (by decide), q_D_I0 (i := 24) (j := 3) h hi (by decide) (by decide), q_D_I0 (i := 24) (j := 4) h hi (by decide) (by decide)⟩
theorem q_v25 (h : q_D S as q_TF) (hi : as[25]? = some a) : q_io (q_rho as) as (q_N S a) (q_I S a) (q_J S a) (q_R S a) 8 := ⟨q_D_tr (i := 25) (j := 0) h hi (by decide +kernel), q_D_J0 (i := 25) (j := 1) h hi (by decide) (by decide), q_D_J0 (i := 25) (j := 2) h hi (by decide) (by decide), q_D_I0 (i := 25) (j := 3) h hi (by decide) (by decide), q_D_I0 (i := 25) (j := 4) h hi (by decide) (by decide)⟩
theorem q_v26 (h : q_D S as q_TF) (hi : as[26]? = some a) : q_io (q_rho as) as (q_N S a) (q_I S a) (q_J S a) (q_R S a) 8 := ⟨q_D_tr (i := 26) (j := 0) h hi (by decide +kernel), q_D_J0 (i := 26) (j := 1) h hi (by decide) (by decide), q_D_J0 (i := 26) (j := 2) h hi (by decide) (by decide), q_D_I0 (i := 26) (j := 3) h hi (by decide) (by decide), q_D_I0 (i := 26) (j := 4) h hi (by decide) (by decide)⟩
theorem q_v27 (h : q_D S as q_TF) (hi : as[27]? = some a) : q_io (q_rho as) as (q_N S a) (q_I S a) (q_J S a) (q_R S a) 8 := ⟨q_D_tr (i := 27) (j := 0) h hi (by decide +kernel), q_D_J0 (i := 27) (j := 1) h hi (by decide) (by decide), q_D_J0 (i := 27) (j := 2) h hi (by decide) (by decide), q_D_I0 (i := 27) (j := 3) h hi (by decide) (by decide), q_D_I0 (i := 27) (j := 4) h hi (by decide) (by decide)⟩
theorem q_v28 (h : q_D S as q_TF) (hi : as[28]? = some a) : q_io (q_rho as) as (q_N S a) (q_I S a) (q_J S a) (q_R S a) 8 := ⟨q_D_tr (i := 28) (j := 0) h hi (by decide +kernel), q_D_J0 (i := 28) (j := 1) h hi (by decide) (by decide), q_D_J0 (i := 28) (j := 2) h hi (by decide) (by decide), q_D_I0 (i := 28) (j := 3) h hi (by decide) (by decide), q_D_I0 (i := 28) (j := 4) h hi (by decide) (by decide)⟩
theorem q_v29 (h : q_D S as q_TF) (hi : as[29]? = some a) : q_io (q_rho as) as (q_N S a) (q_I S a) (q_J S a) (q_R S a) 8 := ⟨q_D_tr (i := 29) (j := 0) h hi (by decide +kernel), q_D_J0 (i := 29) (j := 1) h hi (by decide) (by decide), q_D_J0 (i := 29) (j := 2) h hi (by decide) (by decide), q_D_I0 (i := 29) (j := 3) h hi (by decide) (by decide), q_D_I0 (i := 29) (j := 4) h hi (by decide) (by decide)⟩
theorem q_v30 (h : q_D S as q_TF) (hi : as[30]? = some a) : q_io (q_rho as) as (q_N S a) (q_I S a) (q_J S a) (q_R S a) 8 := ⟨q_D_tr (i := 30) (j := 0) h hi (by decide +kernel), q_D_J0 (i := 30) (j := 1) h hi (by decide) (by decide), q_D_J0 (i := 30) (j := 2) h hi (by decide) (by decide), q_D_I0 (i := 30) (j := 3) h hi (by decide) (by decide), q_D_I0 (i := 30) (j := 4) h hi (by decide) (by decide)⟩
theorem q_v31 (h : q_D S as q_TF) (hi : as[31]? = some a) : q_io (q_rho as) as (q_N S a) (q_I S a) (q_J S a) (q_R S a) 8 := ⟨q_D_tr (i := 31) (j := 0) h hi (by decide +kernel), q_D_J0 (i := 31) (j := 1) h hi (by decide) (by decide), q_D_J0 (i := 31) (j := 2) h hi (by decide) (by decide), q_D_I0 (i := 31) (j := 3) h hi (by decide) (by decide), q_D_I0 (i := 31) (j := 4) h hi (by decide) (by decide)⟩
theorem q_v32 (h : q_D S as q_TF) (hi : as[32]? = some a) : q_io (q_rho as) as (q_N S a) (q_I S a) (q_J S a) (q_R S a) 8 := ⟨q_D_tr (i := 32) (j := 0) h hi (by decide +kernel), q_D_J0 (i := 32) (j := 1) h hi (by decide) (by decide), q_D_J0 (i := 32) (j := 2) h hi (by decide) (by decide), q_D_I0 (i := 32) (j := 3) h hi (by decide) (by decide), q_D_I0 (i := 32) (j := 4) h hi (by decide) (by decide)⟩
theorem q_v33 (h : q_D S as q_TF) (hi : as[33]? = some a) : q_io (q_rho as) as (q_N S a) (q_I S a) (q_J S a) (q_R S a) 9 := ⟨q_D_tr (i := 33) (j := 0) h hi (by decide +kernel), q_D_tr (i := 33) (j := 1) h hi (by decide +kernel), q_D_tr (i := 33) (j := 2) h hi (by decide +kernel), q_D_tr (i := 33) (j := 3) h hi (by decide +kernel), q_D_I0 (i := 33) (j := 4) h hi (by decide) (by decide), q_D_I0 (i := 33) (j := 5) h hi (by decide) (by decide), q_D_I0 (i := 33) (j := 6) h hi (by decide) (by decide), q_D_I0 (i := 33) (j := 7) h hi (by decide) (by decide), q_D_tr (i := 33) (j := 8) h hi (by decide +kernel), q_D_tr (i := 33) (j := 9) h hi (by decide +kernel)⟩
theorem q_v34 (h : q_D S as q_TF) (hi : as[34]? = some a) : q_io (q_rho as) as (q_N S a) (q_I S a) (q_J S a) (q_R S a) 10 := ⟨q_D_N (i := 34) h hi rfl, fun k => q_D_I0 (i := 34) (j := k) h hi (by decide) (by decide)⟩
theorem q_v35 (h : q_D S as q_TF) (hi : as[35]? = some a) : q_io (q_rho as) as (q_N S a) (q_I S a) (q_J S a) (q_R S a) 11 := ⟨q_D_N (i := 35) h hi rfl, fun k => q_D_I0 (i := 35) (j := k) h hi (by decide) (by decide)⟩
theorem q_v36 (h : q_D S as q_TF) (hi : as[36]? = some a) : q_io (q_rho as) as (q_N S a) (q_I S a) (q_J S a) (q_R S a) 12 := ⟨q_D_tr (i := 36) (j := 0) h hi (by decide +kernel), q_D_I0 (i := 36) (j := 1) h hi (by decide) (by decide), q_D_I0 (i := 36) (j := 2) h hi (by decide) (by decide), q_D_J0 (i := 36) (j := 3) h hi (by decide) (by decide), q_D_J0 (i := 36) (j := 4) h hi (by decide) (by decide), q_D_I0 (i := 36) (j := 5) h hi (by decide) (by decide), q_D_I0 (i := 36) (j := 6) h hi (by decide) (by decide), q_D_I0 (i := 36) (j := 7) h hi (by decide) (by decide), q_D_I0 (i := 36) (j := 8) h hi (by decide) (by decide), q_D_I0 (i := 36) (j := 9) h hi (by decide) (by decide), q_D_I0 (i := 36) (j := 10) h hi (by decide) (by decide), q_D_I0 (i := 36) (j := 11) h hi (by decide) (by decide), q_D_I0 (i := 36) (j := 12) h hi (by decide) (by decide), q_D_I0 (i := 36) (j := 13) h hi (by decide) (by decide)⟩
theorem q_v37 (h : q_D S as q_TF) (hi : as[37]? = some a) : q_io (q_rho as) as (q_N S a) (q_I S a) (q_J S a) (q_R S a) 13 := ⟨q_D_tr (i := 37) (j := 0) h hi (by decide +kernel), q_D_tr (i := 37) (j := 1) h hi (by decide +kernel), q_D_J0 (i := 37) (j := 2) h hi (by decide) (by decide)⟩
theorem q_v38 (h : q_D S as q_TF) (hi : as[38]? = some a) : q_io (q_rho as) as (q_N S a) (q_I S a) (q_J S a) (q_R S a) 14 := ⟨q_D_tr (i := 38) (j := 0) h hi (by decide +kernel), q_D_tr (i := 38) (j := 1) h hi (by decide +kernel), q_D_tr (i := 38) (j := 2) h hi (by decide +kernel), q_D_tr (i := 38) (j := 3) h hi (by decide +kernel), q_D_tr (i := 38) (j := 4) h hi (by decide +kernel), q_D_tr (i := 38) (j := 5) h hi (by decide +kernel), q_D_tr (i := 38) (j := 6) h hi (by decide +kernel), q_D_tr (i := 38) (j := 7) h hi (by decide +kernel), q_D_tr (i := 38) (j := 8) h hi (by decide +kernel)⟩
theorem q_v39 (h : q_D S as q_TF) (hi : as[39]? = some a) : q_io (q_rho as) as (q_N S a) (q_I S a) (q_J S a) (q_R S a) 15 := ⟨q_D_tr (i := 39) (j := 0) h hi (by decide +kernel), q_D_tr (i := 39) (j := 1) h hi (by decide +kernel), q_D_tr (i := 39) (j := 2) h hi (by decide +kernel), q_D_tr (i := 39) (j := 3) h hi (by decide +kernel), q_D_I0 (i := 39) (j := 4) h hi (by decide) (by decide), q_D_I0 (i := 39) (j := 5) h hi (by decide) (by decide)⟩
theorem q_v40 (h : q_D S as q_TF) (hi : as[40]? = some a) : q_io (q_rho as) as (q_N S a) (q_I S a) (q_J S a) (q_R S a) 16 := q_D_N (i := 40) h hi rfl
theorem q_v41 (h : q_D S as q_TF) (hi : as[41]? = some a) : q_io (q_rho as) as (q_N S a) (q_I S a) (q_J S a) (q_R S a) 17 := q_D_N (i := 41) h hi rfl
theorem q_v42 (h : q_D S as q_TF) (hi : as[42]? = some a) : q_io (q_rho as) as (q_N S a) (q_I S a) (q_J S a) (q_R S a) 18 := ⟨q_D_N (i := 42) h hi rfl, fun k => q_D_I0 (i := 42) (j := k) h hi (by decide) (by decide)⟩
theorem q_v43 (h : q_D S as q_TF) (hi : as[43]? = some a) : q_io (q_rho as) as (q_N S a) (q_I S a) (q_J S a) (q_R S a) 19 := ⟨q_D_N (i := 43) h hi rfl, fun k => q_D_I0 (i := 43) (j := k) h hi (by decide) (by decide)⟩
theorem q_v44 (h : q_D S as q_TF) (hi : as[44]? = some a) : q_io (q_rho as) as (q_N S a) (q_I S a) (q_J S a) (q_R S a) 20 := ⟨q_D_tr (i := 44) (j := 0) h hi (by decide +kernel), q_D_tr (i := 44) (j := 1) h hi (by decide +kernel), q_D_tr (i := 44) (j := 2) h hi (by decide +kernel), q_D_tr (i := 44) (j := 3) h hi (by decide +kernel), q_D_I0 (i := 44) (j := 4) h hi (by decide) (by decide), q_D_I0 (i := 44) (j := 5) h hi (by decide) (by decide)⟩
theorem q_v45 (h : q_D S as q_TF) (hi : as[45]? = some a) : q_io (q_rho as) as (q_N S a) (q_I S a) (q_J S a) (q_R S a) 21 := q_D_N (i := 45) h hi rfl
theorem q_v46 (h : q_D S as q_TF) (hi : as[46]? = some a) : q_io (q_rho as) as (q_N S a) (q_I S a) (q_J S a) (q_R S a) 22 := q_D_N (i := 46) h hi rfl
theorem q_v47 (h : q_D S as q_TF) (hi : as[47]? = some a) : q_io (q_rho as) as (q_N S a) (q_I S a) (q_J S a) (q_R S a) 23 := ⟨q_D_N (i := 47) h hi rfl, fun k => q_D_I0 (i := 47) (j := k) h hi (by decide) (by decide)⟩
theorem q_v48 (h : q_D S as q_TF) (hi : as[48]? = some a) : q_io (q_rho as) as (q_N S a) (q_I S a) (q_J S a) (q_R S a) 24 := ⟨q_D_N (i := 48) h hi rfl, fun k => q_D_I0 (i := 48) (j := k) h hi (by decide) (by decide)⟩
theorem q_v49 (h : q_D S as q_TF) (hi : as[49]? = some a) : q_io (q_rho as) as (q_N S a) (q_I S a) (q_J S a) (q_R S a) 25 := ⟨q_D_N (i := 49) h hi rfl, q_D_tr (i := 49) (j := 0) h hi (by decide +kernel), q_D_tr (i := 49) (j := 1) h hi (by decide +kernel), q_D_tr (i := 49) (j := 2) h hi (by decide +kernel), q_D_tr (i := 49) (j := 3) h hi (by decide +kernel), q_D_tr (i := 49) (j := 4) h hi (by decide +kernel), q_D_tr (i := 49) (j := 5) h hi (by decide +kernel)⟩
theorem q_v50 (h : q_D S as q_TF) (hi : as[50]? = some a) : q_io (q_rho as) as (q_N S a) (q_I S a) (q_J S a) (q_R S a) 26 := ⟨q_D_N (i := 50) h hi rfl, fun k => q_D_I0 (i := 50) (j := k) h hi (by decide) (by decide)⟩
theorem q_v51 (h : q_D S as q_TF) (hi : as[51]? = some a) : q_io (q_rho as) as (q_N S a) (q_I S a) (q_J S a) (q_R S a) 27 := q_D_N (i := 51) h hi rfl
theorem q_v52 (h : q_D S as q_TF) (hi : as[52]? = some a) : q_io (q_rho as) as (q_N S a) (q_I S a) (q_J S a) (q_R S a) 28 := ⟨q_D_N (i := 52) h hi rfl, fun k => q_D_I0 (i := 52) (j := k) h hi (by decide) (by decide)⟩
theorem q_v53 (h : q_D S as q_TF) (hi : as[53]? = some a) : q_io (q_rho as) as (q_N S a) (q_I S a) (q_J S a) (q_R S a) 29 := q_D_N (i := 53) h hi rfl
theorem q_v54 (h : q_D S as q_TF) (hi : as[54]? = some a) : q_io (q_rho as) as (q_N S a) (q_I S a) (q_J S a) (q_R S a) 30 := ⟨q_D_tr (i := 54) (j := 0) h hi (by decide +kernel), q_D_I0 (i := 54) (j := 1) h hi (by decide) (by decide), q_D_I0 (i := 54) (j := 2) h hi (by decide) (by decide), q_D_J0 (i := 54) (j := 3) h hi (by decide) (by decide), q_D_J0 (i := 54) (j := 4) h hi (by decide) (by decide), q_D_I0 (i := 54) (j := 5) h hi (by decide) (by decide), q_D_I0 (i := 54) (j := 6) h hi (by decide) (by decide), q_D_I0 (i := 54) (j := 7) h hi (by decide) (by decide), q_D_I0 (i := 54) (j := 8) h hi (by decide) (by decide), q_D_I0 (i := 54) (j := 9) h hi (by decide) (by decide), q_D_I0 (i := 54) (j := 10) h hi (by decide) (by decide), q_D_I0 (i := 54) (j := 11) h hi (by decide) (by decide), q_D_I0 (i := 54) (j := 12) h hi (by decide) (by decide), q_D_I0 (i := 54) (j := 13) h hi (by decide) (by decide)⟩
theorem q_v55 (h : q_D S as q_TF) (hi : as[55]? = some a) : q_io (q_rho as) as (q_N S a) (q_I S a) (q_J S a) (q_R S a) 31 := ⟨q_D_tr (i := 55) (j := 0) h hi (by decide +kernel), q_D_I0 (i := 55) (j := 1) h hi (by decide) (by decide), q_D_I0 (i := 55) (j := 2) h hi (by decide) (by decide), q_D_J0 (i := 55) (j := 3) h hi (by decide) (by decide), q_D_J0 (i := 55) (j := 4) h hi (by decide) (by decide), q_D_I0 (i := 55) (j := 5) h hi (by decide) (by decide), q_D_I0 (i := 55) (j := 6) h hi (by decide) (by decide), q_D_I0 (i := 55) (j := 7) h hi (by decide) (by decide), q_D_I0 (i := 55) (j := 8) h hi (by decide) (by decide), q_D_I0 (i := 55) (j := 9) h hi (by decide) (by decide), q_D_I0 (i := 55) (j := 10) h hi (by decide) (by decide), q_D_I0 (i := 55) (j := 11) h hi (by decide) (by decide), q_D_I0 (i := 55) (j := 12) h hi (by decide) (by decide), q_D_I0 (i := 55) (j := 13) h hi (by decide) (by decide)⟩
theorem q_v56 (h : q_D S as q_TF) (hi : as[56]? = some a) : q_io (q_rho as) as (q_N S a) (q_I S a) (q_J S a) (q_R S a) 32 := ⟨q_D_tr (i := 56) (j := 0) h hi (by decide +kernel), q_D_I0 (i := 56) (j := 1) h hi (by decide) (by decide), q_D_I0 (i := 56) (j := 2) h hi (by decide) (by decide), q_D_J0 (i := 56) (j := 3) h hi (by decide) (by decide), q_D_J0 (i := 56) (j := 4) h hi (by decide) (by decide), q_D_I0 (i := 56) (j := 5) h hi (by decide) (by decide), q_D_I0 (i := 56) (j := 6) h hi (by decide) (by decide), q_D_I0 (i := 56) (j := 7) h hi (by decide) (by decide), q_D_I0 (i := 56) (j := 8) h hi (by decide) (by decide), q_D_I0 (i := 56) (j := 9) h hi (by decide) (by decide), q_D_I0 (i := 56) (j := 10) h hi (by decide) (by decide), q_D_I0 (i := 56) (j := 11) h hi (by decide) (by decide), q_D_I0 (i := 56) (j := 12) h hi (by decide) (by decide), q_D_I0 (i := 56) (j := 13) h hi (by decide) (by decide)⟩
theorem q_v57 (h : q_D S as q_TF) (hi : as[57]? = some a) : q_io (q_rho as) as (q_N S a) (q_I S a) (q_J S a) (q_R S a) 33 := ⟨q_D_tr (i := 57) (j := 0) h hi (by decide +kernel), q_D_I0 (i := 57) (j := 1) h hi (by decide) (by decide), q_D_I0 (i := 57) (j := 2) h hi (by decide) (by decide), q_D_J0 (i := 57) (j := 3) h hi (by decide) (by decide), q_D_J0 (i := 57) (j := 4) h hi (by decide) (by decide), q_D_I0 (i := 57) (j := 5) h hi (by decide) (by decide), q_D_I0 (i := 57) (j := 6) h hi (by decide) (by decide), q_D_I0 (i := 57) (j := 7) h hi (by decide) (by decide), q_D_I0 (i := 57) (j := 8) h hi (by decide) (by decide), q_D_I0 (i := 57) (j := 9) h hi (by decide) (by decide), q_D_I0 (i := 57) (j := 10) h hi (by decide) (by decide), q_D_I0 (i := 57) (j := 11) h hi (by decide) (by decide), q_D_I0 (i := 57) (j := 12) h hi (by decide) (by decide), q_D_I0 (i := 57) (j := 13) h hi (by decide) (by decide)⟩
theorem q_v58 (h : q_D S as q_TF) (hi : as[58]? = some a) : q_io (q_rho as) as (q_N S a) (q_I S a) (q_J S a) (q_R S a) 34 := ⟨q_D_tr (i := 58) (j := 0) h hi (by decide +kernel), q_D_I0 (i := 58) (j := 1) h hi (by decide) (by decide), q_D_I0 (i := 58) (j := 2) h hi (by decide) (by decide), q_D_J0 (i := 58) (j := 3) h hi (by decide) (by decide), q_D_J0 (i := 58) (j := 4) h hi (by decide) (by decide), q_D_I0 (i := 58) (j := 5) h hi (by decide) (by decide), q_D_I0 (i := 58) (j := 6) h hi (by decide) (by decide), q_D_I0 (i := 58) (j := 7) h hi (by decide) (by decide), q_D_I0 (i := 58) (j := 8) h hi (by decide) (by decide), q_D_I0 (i := 58) (j := 9) h hi (by decide) (by decide), q_D_I0 (i := 58) (j := 10) h hi (by decide) (by decide), q_D_I0 (i := 58) (j := 11) h hi (by decide) (by decide), q_D_I0 (i := 58) (j := 12) h hi (by decide) (by decide), q_D_I0 (i := 58) (j := 13) h hi (by decide) (by decide)⟩
theorem q_v59 (h : q_D S as q_TF) (hi : as[59]? = some a) : q_io (q_rho as) as (q_N S a) (q_I S a) (q_J S a) (q_R S a) 35 := ⟨q_D_tr (i := 59) (j := 0) h hi (by decide +kernel), q_D_I0 (i := 59) (j := 1) h hi (by decide) (by decide), q_D_I0 (i := 59) (j := 2) h hi (by decide) (by decide), q_D_J0 (i := 59) (j := 3) h hi (by decide) (by decide), q_D_J0 (i := 59) (j := 4) h hi (by decide) (by decide), q_D_I0 (i := 59) (j := 5) h hi (by decide) (by decide), q_D_I0 (i := 59) (j := 6) h hi (by decide) (by decide), q_D_I0 (i := 59) (j := 7) h hi (by decide) (by decide), q_D_I0 (i := 59) (j := 8) h hi (by decide) (by decide), q_D_I0 (i := 59) (j := 9) h hi (by decide) (by decide), q_D_I0 (i := 59) (j := 10) h hi (by decide) (by decide), q_D_I0 (i := 59) (j := 11) h hi (by decide) (by decide), q_D_I0 (i := 59) (j := 12) h hi (by decide) (by decide), q_D_I0 (i := 59) (j := 13) h hi (by decide) (by decide)⟩
theorem q_v60 (h : q_D S as q_TF) (hi : as[60]? = some a) : q_io (q_rho as) as (q_N S a) (q_I S a) (q_J S a) (q_R S a) 36 := ⟨q_D_tr (i := 60) (j := 0) h hi (by decide +kernel), q_D_I0 (i := 60) (j := 1) h hi (by decide) (by decide)⟩
theorem q_v61 (h : q_D S as q_TF) (hi : as[61]? = some a) : q_io (q_rho as) as (q_N S a) (q_I S a) (q_J S a) (q_R S a) 37 := q_D_N (i := 61) h hi rfl
theorem q_v62 (h : q_D S as q_TF) (hi : as[62]? = some a) : q_io (q_rho as) as (q_N S a) (q_I S a) (q_J S a) (q_R S a) 38 := ⟨q_D_tr (i := 62) (j := 0) h hi (by decide +kernel), q_D_tr (i := 62) (j := 1) h hi (by decide +kernel), q_D_tr (i := 62) (j := 2) h hi (by decide +kernel), q_D_tr (i := 62) (j := 3) h hi (by decide +kernel), q_D_tr (i := 62) (j := 4) h hi (by decide +kernel), q_D_tr (i := 62) (j := 5) h hi (by decide +kernel), q_D_tr (i := 62) (j := 6) h hi (by decide +kernel), q_D_tr (i := 62) (j := 7) h hi (by decide +kernel), q_D_I0 (i := 62) (j := 8) h hi (by decide) (by decide)⟩
theorem q_v63 (h : q_D S as q_TF) (hi : as[63]? = some a) : q_io (q_rho as) as (q_N S a) (q_I S a) (q_J S a) (q_R S a) 39 := ⟨q_D_tr (i := 63) (j := 0) h hi (by decide +kernel), q_D_I0 (i := 63) (j := 1) h hi (by decide) (by decide)⟩
theorem q_v64 (h : q_D S as q_TF) (hi : as[64]? = some a) : q_io (q_rho as) as (q_N S a) (q_I S a) (q_J S a) (q_R S a) 40 := ⟨q_D_N (i := 64) h hi rfl, fun k => q_D_I0 (i := 64) (j := k) h hi (by decide) (by decide)⟩
theorem q_v65 (h : q_D S as q_TF) (hi : as[65]? = some a) : q_io (q_rho as) as (q_N S a) (q_I S a) (q_J S a) (q_R S a) 41 := ⟨q_D_N (i := 65) h hi rfl, fun k => q_D_I0 (i := 65) (j := k) h hi (by decide) (by decide)⟩
theorem q_v66 (h : q_D S as q_TF) (hi : as[66]? = some a) : q_io (q_rho as) as (q_N S a) (q_I S a) (q_J S a) (q_R S a) 42 := q_D_N (i := 66) h hi rfl
theorem q_v67 (h : q_D S as q_TF) (hi : as[67]? = some a) : q_io (q_rho as) as (q_N S a) (q_I S a) (q_J S a) (q_R S a) 43 := q_D_N (i := 67) h hi rfl
theorem q_v68 (h : q_D S as q_TF) (hi : as[68]? = some a) : q_io (q_rho as) as (q_N S a) (q_I S a) (q_J S a) (q_R S a) 44 := ⟨q_D_tr (i := 68) (j := 0) h hi (by decide +kernel), q_D_J0 (i := 68) (j := 1) h hi (by decide) (by decide), q_D_J0 (i := 68) (j := 2) h hi (by decide) (by decide), q_D_I0 (i := 68) (j := 3) h hi (by decide) (by decide), q_D_I0 (i := 68) (j := 4) h hi (by decide) (by decide)⟩
theorem q_v69 (h : q_D S as q_TF) (hi : as[69]? = some a) : q_io (q_rho as) as (q_N S a) (q_I S a) (q_J S a) (q_R S a) 45 := ⟨q_D_I0 (i := 69) (j := 0) h hi (by decide) (by decide), q_D_tr (i := 69) (j := 1) h hi (by decide +kernel), q_D_I0 (i := 69) (j := 2) h hi (by decide) (by decide), q_D_I0 (i := 69) (j := 3) h hi (by decide) (by decide), q_D_tr (i := 69) (j := 4) h hi (by decide +kernel), q_D_tr (i := 69) (j := 5) h hi (by decide +kernel), q_D_tr (i := 69) (j := 6) h hi (by decide +kernel), q_D_tr (i := 69) (j := 7) h hi (by decide +kernel), q_D_I0 (i := 69) (j := 8) h hi (by decide) (by decide), q_D_tr (i := 69) (j := 9) h hi (by decide +kernel), q_D_tr (i := 69) (j := 10) h hi (by decide +kernel), q_D_I0 (i := 69) (j := 11) h hi (by decide) (by decide), q_D_tr (i := 69) (j := 12) h hi (by decide +kernel), q_D_tr (i := 69) (j := 13) h hi (by decide +kernel), q_D_I0 (i := 69) (j := 14) h hi (by decide) (by decide), q_D_tr (i := 69) (j := 15) h hi (by decide +kernel), q_D_tr (i := 69) (j := 16) h hi (by decide +kernel), q_D_tr (i := 69) (j := 17) h hi (by decide +kernel), q_D_I0 (i := 69) (j := 18) h hi (by decide) (by decide), q_D_tr (i := 69) (j := 19) h hi (by decide +kernel), q_D_tr (i := 69) (j := 20) h hi (by decide +kernel), q_D_I0 (i := 69) (j := 21) h hi (by decide) (by decide), q_D_I0 (i := 69) (j := 22) h hi (by decide) (by decide), q_D_I0 (i := 69) (j := 23) h hi (by decide) (by decide), q_D_I0 (i := 69) (j := 24) h hi (by decide) (by decide), q_D_tr (i := 69) (j := 25) h hi (by decide +kernel), q_D_tr (i := 69) (j := 26) h hi (by decide +kernel), q_D_tr (i := 69) (j := 27) h hi (by decide +kernel), q_D_tr (i := 69) (j := 28) h hi (by decide +kernel), q_D_tr (i := 69) (j := 29) h hi (by decide +kernel), q_D_tr (i := 69) (j := 30) h hi (by decide +kernel), q_D_tr (i := 69) (j := 31) h hi (by decide +kernel), q_D_tr (i := 69) (j := 32) h hi (by decide +kernel), q_D_tr (i := 69) (j := 33) h hi (by decide +kernel), q_D_tr (i := 69) (j := 34) h hi (by decide +kernel), q_D_tr (i := 69) (j := 35) h hi (by decide +kernel), q_D_I0 (i := 69) (j := 36) h hi (by decide) (by decide), q_D_tr (i := 69) (j := 37) h hi (by decide +kernel), q_D_I0 (i := 69) (j := 38) h hi (by decide) (by decide), q_D_tr (i := 69) (j := 39) h hi (by decide +kernel), q_D_tr (i := 69) (j := 40) h hi (by decide +kernel), q_D_I0 (i := 69) (j := 41) h hi (by decide) (by decide)⟩
theorem q_v70 (h : q_D S as q_TF) (hi : as[70]? = some a) : q_io (q_rho as) as (q_N S a) (q_I S a) (q_J S a) (q_R S a) 46 := ⟨q_D_N (i := 70) h hi rfl, fun k => q_D_I0 (i := 70) (j := k) h hi (by decide) (by decide)⟩
theorem q_v71 (h : q_D S as q_TF) (hi : as[71]? = some a) : q_io (q_rho as) as (q_N S a) (q_I S a) (q_J S a) (q_R S a) 47 := ⟨q_D_N (i := 71) h hi rfl, fun k => q_D_J0 (i := 71) (j := k) h hi (by decide) (by decide)⟩
theorem q_v72 (h : q_D S as q_TF) (hi : as[72]? = some a) : q_io (q_rho as) as (q_N S a) (q_I S a) (q_J S a) (q_R S a) 48 := ⟨q_D_N (i := 72) h hi rfl, fun k => q_D_J0 (i := 72) (j := k) h hi (by decide) (by decide)⟩
theorem q_v73 (h : q_D S as q_TF) (hi : as[73]? = some a) : q_io (q_rho as) as (q_N S a) (q_I S a) (q_J S a) (q_R S a) 49 := ⟨q_D_N (i := 73) h hi rfl, fun k => q_D_I0 (i := 73) (j := k) h hi (by decide) (by decide)⟩
theorem q_v74 (h : q_D S as q_TF) (hi : as[74]? = some a) : q_io (q_rho as) as (q_N S a) (q_I S a) (q_J S a) (q_R S a) 50 := ⟨q_D_N (i := 74) h hi rfl, fun k => q_D_I0 (i := 74) (j := k) h hi (by decide) (by decide)⟩
theorem q_v75 (h : q_D S as q_TF) (hi : as[75]? = some a) : q_io (q_rho as) as (q_N S a) (q_I S a) (q_J S a) (q_R S a) 51 := ⟨q_D_N (i := 75) h hi rfl, fun k => q_D_I0 (i := 75) (j := k) h hi (by decide) (by decide)⟩
theorem q_v76 (h : q_D S as q_TF) (hi : as[76]? = some a) : q_io (q_rho as) as (q_N S a) (q_I S a) (q_J S a) (q_R S a) 52 := ⟨q_D_N (i := 76) h hi rfl, fun k => q_D_I0 (i := 76) (j := k) h hi (by decide) (by decide)⟩
theorem q_v77 (h : q_D S as q_TF) (hi : as[77]? = some a) : q_io (q_rho as) as (q_N S a) (q_I S a) (q_J S a) (q_R S a) 53 := ⟨q_D_N (i := 77) h hi rfl, fun k => q_D_I0 (i := 77) (j := k) h hi (by decide) (by decide)⟩
theorem q_v78 (h : q_D S as q_TF) (hi : as[78]? = some a) : q_io (q_rho as) as (q_N S a) (q_I S a) (q_J S a) (q_R S a) 54 := ⟨q_D_N (i := 78) h hi rfl, fun k => q_D_I0 (i := 78) (j := k) h hi (by decide) (by decide)⟩
theorem q_v79 (h : q_D S as q_TF) (hi : as[79]? = some a) : q_io (q_rho as) as (q_N S a) (q_I S a) (q_J S a) (q_R S a) 55 := q_D_N (i := 79) h hi rfl
theorem q_v80 (h : q_D S as q_TF) (hi : as[80]? = some a) : q_io (q_rho as) as (q_N S a) (q_I S a) (q_J S a) (q_R S a) 56 := q_D_N (i := 80) h hi rfl
theorem q_v81 (h : q_D S as q_TF) (hi : as[81]? = some a) : q_io (q_rho as) as (q_N S a) (q_I S a) (q_J S a) (q_R S a) 57 := ⟨q_D_N (i := 81) h hi rfl, fun k => q_D_I0 (i := 81) (j := k) h hi (by decide) (by decide)⟩
theorem q_v82 (h : q_D S as q_TF) (hi : as[82]? = some a) : q_io (q_rho as) as (q_N S a) (q_I S a) (q_J S a) (q_R S a) 58 := ⟨q_D_N (i := 82) h hi rfl, fun k => q_D_I0 (i := 82) (j := k) h hi (by decide) (by decide)⟩
theorem q_v83 (h : q_D S as q_TF) (hi : as[83]? = some a) : q_io (q_rho as) as (q_N S a) (q_I S a) (q_J S a) (q_R S a) 59 := ⟨q_D_N (i := 83) h hi rfl, fun k => q_D_I0 (i := 83) (j := k) h hi (by decide) (by decide)⟩
theorem q_v84 (h : q_D S as q_TF) (hi : as[84]? = some a) : q_io (q_rho as) as (q_N S a) (q_I S a) (q_J S a) (q_R S a) 60 := ⟨q_D_N (i := 84) h hi rfl, fun k => q_D_I0 (i := 84) (j := k) h hi (by decide) (by decide)⟩
theorem q_v85 (h : q_D S as q_TF) (hi : as[85]? = some a) : q_io (q_rho as) as (q_N S a) (q_I S a) (q_J S a) (q_R S a) 61 := ⟨q_D_N (i := 85) h hi rfl, fun k => q_D_I0 (i := 85) (j := k) h hi (by decide) (by decide)⟩
theorem q_v86 (h : q_D S as q_TF) (hi : as[86]? = some a) : q_io (q_rho as) as (q_N S a) (q_I S a) (q_J S a) (q_R S a) 62 := ⟨q_D_N (i := 86) h hi rfl, fun k => q_D_I0 (i := 86) (j := k) h hi (by decide) (by decide)⟩
theorem q_v87 (h : q_D S as q_TF) (hi : as[87]? = some a) : q_io (q_rho as) as (q_N S a) (q_I S a) (q_J S a) (q_R S a) 63 := ⟨q_D_N (i := 87) h hi rfl, fun k => q_D_I0 (i := 87) (j := k) h hi (by decide) (by decide)⟩
theorem q_v88 (h : q_D S as q_TF) (hi : as[88]? = some a) : q_io (q_rho as) as (q_N S a) (q_I S a) (q_J S a) (q_R S a) 64 := ⟨q_D_N (i := 88) h hi rfl, fun k => q_D_I0 (i := 88) (j := k) h hi (by decide) (by decide)⟩
theorem q_v89 (h : q_D S as q_TF) (hi : as[89]? = some a) : q_io (q_rho as) as (q_N S a) (q_I S a) (q_J S a) (q_R S a) 65 := ⟨q_D_N (i := 89) h hi rfl, fun k => q_D_I0 (i := 89) (j := k) h hi (by decide) (by decide)⟩
theorem q_v90 (h : q_D S as q_TF) (hi : as[90]? = some a) : q_io (q_rho as) as (q_N S a) (q_I S a) (q_J S a) (q_R S a) 66 := ⟨q_D_N (i := 90) h hi rfl, fun k => q_D_I0 (i := 90) (j := k) h hi (by decide) (by decide)⟩
theorem q_v91 (h : q_D S as q_TF) (hi : as[91]? = some a) : q_io (q_rho as) as (q_N S a) (q_I S a) (q_J S a) (q_R S a) 67 := ⟨q_D_N (i := 91) h hi rfl, fun k => q_D_I0 (i := 91) (j := k) h hi (by decide) (by decide)⟩
theorem q_v92 (h : q_D S as q_TF) (hi : as[92]? = some a) : q_io (q_rho as) as (q_N S a) (q_I S a) (q_J S a) (q_R S a) 68 := ⟨q_D_N (i := 92) h hi rfl, fun k => q_D_I0 (i := 92) (j := k) h hi (by decide) (by decide)⟩
theorem q_v93 (h : q_D S as q_TF) (hi : as[93]? = some a) : q_io (q_rho as) as (q_N S a) (q_I S a) (q_J S a) (q_R S a) 69 := ⟨q_D_N (i := 93) h hi rfl, fun k => q_D_I0 (i := 93) (j := k) h hi (by decide) (by decide)⟩
theorem q_v94 (h : q_D S as q_TF) (hi : as[94]? = some a) : q_io (q_rho as) as (q_N S a) (q_I S a) (q_J S a) (q_R S a) 70 := ⟨q_D_N (i := 94) h hi rfl, fun k => q_D_I0 (i := 94) (j := k) h hi (by decide) (by decide)⟩
theorem q_v95 (h : q_D S as q_TF) (hi : as[95]? = some a) : q_io (q_rho as) as (q_N S a) (q_I S a) (q_J S a) (q_R S a) 71 := q_D_N (i := 95) h hi rfl
theorem q_v96 (h : q_D S as q_TF) (hi : as[96]? = some a) : q_io (q_rho as) as (q_N S a) (q_I S a) (q_J S a) (q_R S a) 72 := ⟨q_D_N (i := 96) h hi rfl, fun k => q_D_I0 (i := 96) (j := k) h hi (by decide) (by decide)⟩
theorem q_v97 (h : q_D S as q_TF) (hi : as[97]? = some a) : q_io (q_rho as) as (q_N S a) (q_I S a) (q_J S a) (q_R S a) 73 := ⟨q_D_N (i := 97) h hi rfl, fun k => q_D_I0 (i := 97) (j := k) h hi (by decide) (by decide)⟩
theorem q_v98 (h : q_D S as q_TF) (hi : as[98]? = some a) : q_io (q_rho as) as (q_N S a) (q_I S a) (q_J S a) (q_R S a) 74 := q_D_N (i := 98) h hi rfl
set_option maxHeartbeats 4000000 in
set_option maxRecDepth 100000 in
theorem q_sgu : ∀ i, i < 99 → ∀ j, j < 99 → q_ra i = q_ra j → q_sg (q_ra i) = true → i = j := by decide +kernel
set_option maxHeartbeats 4000000 in
set_option maxRecDepth 100000 in
theorem q_Inv_of (h : q_D S as q_TF) : q_Inv (q_rho as) as S := by
  refine ⟨h.1, fun a ma => ?_, fun a b ma mb hab hs => ?_, fun b c mb mc rb rc k => ?_⟩
  case refine_2 =>
    obtain ⟨i, hil, e⟩ := List.getElem_of_mem ma
    obtain ⟨j, hjl, e2⟩ := List.getElem_of_mem mb
    have hi : as[i]? = some a := by rw [List.getElem?_eq_getElem hil, e]
    have hj : as[j]? = some b := by rw [List.getElem?_eq_getElem hjl, e2]
    have hl : as.length = 99 := h.2.1
    rw [q_D_rho h hi, q_D_rho h hj] at hab
    rw [q_D_rho h hi] at hs
    have hij := q_sgu i (by omega) j (by omega) hab hs
    subst hij
    exact Option.some.inj (hi.symm.trans hj)
  case refine_3 =>
    obtain ⟨i, hil, e⟩ := List.getElem_of_mem mb
    obtain ⟨j, hjl, e2⟩ := List.getElem_of_mem mc
    have hi : as[i]? = some b := by rw [List.getElem?_eq_getElem hil, e]
    have hj : as[j]? = some c := by rw [List.getElem?_eq_getElem hjl, e2]
    rw [(h.2.2.2 i b hi).2.2.1 k, (h.2.2.2 j c hj).2.2.1 k]
    decide
  obtain ⟨i, hil, e⟩ := List.getElem_of_mem ma
  have hi : as[i]? = some a := by rw [List.getElem?_eq_getElem hil, e]
  have hl : as.length = 99 := h.2.1
  have hr := q_D_rho h hi
  have hk := (h.2.2.2 i a hi).1
  rw [hr, hk]
  have hN9 : i < 99 := by omega
  clear hr hk e hil ma
  match i, hi, hN9 with
  | 0, hi, _ => exact ⟨rfl, q_v0 h hi⟩
  | 1, hi, _ => exact ⟨rfl, q_v1 h hi⟩
  | 2, hi, _ => exact ⟨rfl, q_v2 h hi⟩
  | 3, hi, _ => exact ⟨rfl, q_v3 h hi⟩
  | 4, hi, _ => exact ⟨rfl, q_v4 h hi⟩
  | 5, hi, _ => exact ⟨rfl, q_v5 h hi⟩
  | 6, hi, _ => exact ⟨rfl, q_v6 h hi⟩
  | 7, hi, _ => exact ⟨rfl, q_v7 h hi⟩
  | 8, hi, _ => exact ⟨rfl, q_v8 h hi⟩
  | 9, hi, _ => exact ⟨rfl, q_v9 h hi⟩
  | 10, hi, _ => exact ⟨rfl, q_v10 h hi⟩
  | 11, hi, _ => exact ⟨rfl, q_v11 h hi⟩
  | 12, hi, _ => exact ⟨rfl, q_v12 h hi⟩
  | 13, hi, _ => exact ⟨rfl, q_v13 h hi⟩
  | 14, hi, _ => exact ⟨rfl, q_v14 h hi⟩
  | 15, hi, _ => exact ⟨rfl, q_v15 h hi⟩
  | 16, hi, _ => exact ⟨rfl, q_v16 h hi⟩
  | 17, hi, _ => exact ⟨rfl, q_v17 h hi⟩
  | 18, hi, _ => exact ⟨rfl, q_v18 h hi⟩
  | 19, hi, _ => exact ⟨rfl, q_v19 h hi⟩
  | 20, hi, _ => exact ⟨rfl, q_v20 h hi⟩
  | 21, hi, _ => exact ⟨rfl, q_v21 h hi⟩
  | 22, hi, _ => exact ⟨rfl, q_v22 h hi⟩
  | 23, hi, _ => exact ⟨rfl, q_v23 h hi⟩
  | 24, hi, _ => exact ⟨rfl, q_v24 h hi⟩
  | 25, hi, _ => exact ⟨rfl, q_v25 h hi⟩
  | 26, hi, _ => exact ⟨rfl, q_v26 h hi⟩
  | 27, hi, _ => exact ⟨rfl, q_v27 h hi⟩
  | 28, hi, _ => exact ⟨rfl, q_v28 h hi⟩
  | 29, hi, _ => exact ⟨rfl, q_v29 h hi⟩
  | 30, hi, _ => exact ⟨rfl, q_v30 h hi⟩
  | 31, hi, _ => exact ⟨rfl, q_v31 h hi⟩
  | 32, hi, _ => exact ⟨rfl, q_v32 h hi⟩
  | 33, hi, _ => exact ⟨rfl, q_v33 h hi⟩
  | 34, hi, _ => exact ⟨rfl, q_v34 h hi⟩
  | 35, hi, _ => exact ⟨rfl, q_v35 h hi⟩
  | 36, hi, _ => exact ⟨rfl, q_v36 h hi⟩
  | 37, hi, _ => exact ⟨rfl, q_v37 h hi⟩
  | 38, hi, _ => exact ⟨rfl, q_v38 h hi⟩
  | 39, hi, _ => exact ⟨rfl, q_v39 h hi⟩
  | 40, hi, _ => exact ⟨rfl, q_v40 h hi⟩
  | 41, hi, _ => exact ⟨rfl, q_v41 h hi⟩
  | 42, hi, _ => exact ⟨rfl, q_v42 h hi⟩
  | 43, hi, _ => exact ⟨rfl, q_v43 h hi⟩
  | 44, hi, _ => exact ⟨rfl, q_v44 h hi⟩
  | 45, hi, _ => exact ⟨rfl, q_v45 h hi⟩
  | 46, hi, _ => exact ⟨rfl, q_v46 h hi⟩
  | 47, hi, _ => exact ⟨rfl, q_v47 h hi⟩
  | 48, hi, _ => exact ⟨rfl, q_v48 h hi⟩
  | 49, hi, _ => exact ⟨rfl, q_v49 h hi⟩
  | 50, hi, _ => exact ⟨rfl, q_v50 h hi⟩
  | 51, hi, _ => exact ⟨rfl, q_v51 h hi⟩
  | 52, hi, _ => exact ⟨rfl, q_v52 h hi⟩
  | 53, hi, _ => exact ⟨rfl, q_v53 h hi⟩
  | 54, hi, _ => exact ⟨rfl, q_v54 h hi⟩
  | 55, hi, _ => exact ⟨rfl, q_v55 h hi⟩
  | 56, hi, _ => exact ⟨rfl, q_v56 h hi⟩
  | 57, hi, _ => exact ⟨rfl, q_v57 h hi⟩
  | 58, hi, _ => exact ⟨rfl, q_v58 h hi⟩
  | 59, hi, _ => exact ⟨rfl, q_v59 h hi⟩
  | 60, hi, _ => exact ⟨rfl, q_v60 h hi⟩
  | 61, hi, _ => exact ⟨rfl, q_v61 h hi⟩
  | 62, hi, _ => exact ⟨rfl, q_v62 h hi⟩
  | 63, hi, _ => exact ⟨rfl, q_v63 h hi⟩
  | 64, hi, _ => exact ⟨rfl, q_v64 h hi⟩
  | 65, hi, _ => exact ⟨rfl, q_v65 h hi⟩
  | 66, hi, _ => exact ⟨rfl, q_v66 h hi⟩
  | 67, hi, _ => exact ⟨rfl, q_v67 h hi⟩
  | 68, hi, _ => exact ⟨rfl, q_v68 h hi⟩
  | 69, hi, _ => exact ⟨rfl, q_v69 h hi⟩
  | 70, hi, _ => exact ⟨rfl, q_v70 h hi⟩
  | 71, hi, _ => exact ⟨rfl, q_v71 h hi⟩
  | 72, hi, _ => exact ⟨rfl, q_v72 h hi⟩
  | 73, hi, _ => exact ⟨rfl, q_v73 h hi⟩
  | 74, hi, _ => exact ⟨rfl, q_v74 h hi⟩
  | 75, hi, _ => exact ⟨rfl, q_v75 h hi⟩
  | 76, hi, _ => exact ⟨rfl, q_v76 h hi⟩
  | 77, hi, _ => exact ⟨rfl, q_v77 h hi⟩
  | 78, hi, _ => exact ⟨rfl, q_v78 h hi⟩
  | 79, hi, _ => exact ⟨rfl, q_v79 h hi⟩
  | 80, hi, _ => exact ⟨rfl, q_v80 h hi⟩
  | 81, hi, _ => exact ⟨rfl, q_v81 h hi⟩
  | 82, hi, _ => exact ⟨rfl, q_v82 h hi⟩
  | 83, hi, _ => exact ⟨rfl, q_v83 h hi⟩
  | 84, hi, _ => exact ⟨rfl, q_v84 h hi⟩
  | 85, hi, _ => exact ⟨rfl, q_v85 h hi⟩
  | 86, hi, _ => exact ⟨rfl, q_v86 h hi⟩
  | 87, hi, _ => exact ⟨rfl, q_v87 h hi⟩
  | 88, hi, _ => exact ⟨rfl, q_v88 h hi⟩
  | 89, hi, _ => exact ⟨rfl, q_v89 h hi⟩
  | 90, hi, _ => exact ⟨rfl, q_v90 h hi⟩
  | 91, hi, _ => exact ⟨rfl, q_v91 h hi⟩
  | 92, hi, _ => exact ⟨rfl, q_v92 h hi⟩
  | 93, hi, _ => exact ⟨rfl, q_v93 h hi⟩
  | 94, hi, _ => exact ⟨rfl, q_v94 h hi⟩
  | 95, hi, _ => exact ⟨rfl, q_v95 h hi⟩
  | 96, hi, _ => exact ⟨rfl, q_v96 h hi⟩
  | 97, hi, _ => exact ⟨rfl, q_v97 h hi⟩
  | 98, hi, _ => exact ⟨rfl, q_v98 h hi⟩
  | i + 99, _, hN9 => exact absurd hN9 (by omega)
end QF
