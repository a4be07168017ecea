/-! VALUES: numbers -/
theorem q_b_some {α β : Type} {r : α} {T : q_S} {k : α → q_S → Option β} : q_b (some (r, T)) k = k r T := rfl
section QVN
variable {a b c d : Int32} {X Y : Int64}
theorem c_lt : lg_cmp X Y < 0 ↔ X.toInt < Y.toInt := ⟨q_cp_lt, fun h => Classical.byContradiction fun g => by have := q_cn_lt g; omega⟩
theorem c_ge : 0 ≤ lg_cmp X Y ↔ Y.toInt ≤ X.toInt := ⟨q_cp_ge, fun h => Classical.byContradiction fun g => by have := q_cn_ge g; omega⟩
theorem c_gt : 0 < lg_cmp X Y ↔ Y.toInt < X.toInt := ⟨q_cp_gt, fun h => Classical.byContradiction fun g => by have := q_cn_gt g; omega⟩
theorem c_le : lg_cmp X Y ≤ 0 ↔ X.toInt ≤ Y.toInt := ⟨q_cp_le, fun h => Classical.byContradiction fun g => by have := q_cn_le g; omega⟩
theorem c_eq : lg_cmp X Y = 0 ↔ X.toInt = Y.toInt := ⟨q_cp_eq, fun h => Classical.byContradiction fun g => by have := q_cn_eq g; omega⟩
theorem i_eq : a = b ↔ a.toInt = b.toInt := Int32.toInt_inj.symm
theorem i_lt : a < b ↔ a.toInt < b.toInt := Int32.lt_iff_toInt_lt
theorem i_le : a ≤ b ↔ a.toInt ≤ b.toInt := Int32.le_iff_toInt_le
theorem v_orI {x y : Int32} {k : Int} (c M9 : Nat) (hM : 2 ^ c = M9) (hk : 0 ≤ k) (hx : x.toInt = k * M9) (hx2 : x.toInt + M9 ≤ 2147483648) (hy : 0 ≤ y.toInt) (hy2 : y.toInt < M9) : (x ||| y).toInt = x.toInt + y.toInt := by
  have h0 : 0 ≤ x.toInt := by rw [hx]; exact Int.mul_nonneg hk (by omega)
  have h1 := q_posI h0
  have h2 := q_posI hy
  have h3 := q_natI (x ||| y)
  rw [Int32.toBitVec_or, BitVec.toNat_or] at h3
  obtain ⟨j, rfl⟩ := Int.eq_ofNat_of_zero_le hk
  have h5 : x.toBitVec.toNat = j * 2 ^ c := by
    rw [hM]
    have h6 := h1.2
    rw [hx, ← Int.natCast_mul] at h6
    omega
  have h4 : x.toBitVec.toNat ||| y.toBitVec.toNat = x.toBitVec.toNat + y.toBitVec.toNat := by
    rw [h5, ← Nat.shiftLeft_eq, Nat.shiftLeft_add_eq_or_of_lt (by omega)]
  rw [h4] at h3
  split at h3 <;> omega
theorem v_orJ {x y : Int64} {k : Int} (c M9 : Nat) (hM : 2 ^ c = M9) (hk : 0 ≤ k) (hx : x.toInt = k * M9) (hx2 : x.toInt + M9 ≤ 9223372036854775808) (hy : 0 ≤ y.toInt) (hy2 : y.toInt < M9) : (x ||| y).toInt = x.toInt + y.toInt := by
  have h0 : 0 ≤ x.toInt := by rw [hx]; exact Int.mul_nonneg hk (by omega)
  have h1 := q_posJ h0
  have h2 := q_posJ hy
  have h3 := q_natJ (x ||| y)
  rw [Int64.toBitVec_or, BitVec.toNat_or] at h3
  obtain ⟨j, rfl⟩ := Int.eq_ofNat_of_zero_le hk
  have h5 : x.toBitVec.toNat = j * 2 ^ c := by
    rw [hM]
    have h6 := h1.2
    rw [hx, ← Int.natCast_mul] at h6
    omega
  have h4 : x.toBitVec.toNat ||| y.toBitVec.toNat = x.toBitVec.toNat + y.toBitVec.toNat := by
    rw [h5, ← Nat.shiftLeft_eq, Nat.shiftLeft_add_eq_or_of_lt (by omega)]
  rw [h4] at h3
  split at h3 <;> omega
theorem v_two (ha : 0 ≤ a.toInt ∧ a.toInt ≤ 255) (hb : 0 ≤ b.toInt ∧ b.toInt ≤ 255) : ((a <<< ((8 : Int32) &&& 31)) ||| b).toInt = 256 * a.toInt + b.toInt := by
  have h1 : (a <<< ((8 : Int32) &&& 31)).toInt = a.toInt * (256 : Nat) := q_shlI 8 256 (by decide) (by decide) ha.1 (by omega)
  rw [v_orI 8 256 (by decide) ha.1 h1 (by omega) hb.1 (by omega), h1]
  omega
theorem v_four (ha : 0 ≤ a.toInt ∧ a.toInt ≤ 255) (hb : 0 ≤ b.toInt ∧ b.toInt ≤ 255) (hc : 0 ≤ c.toInt ∧ c.toInt ≤ 255) (hd : 0 ≤ d.toInt ∧ d.toInt ≤ 255) : ((((((a <<< ((8 : Int32) &&& 31)) ||| b).toInt64) <<< (((16 : Int32)).toInt64 &&& 63)) ||| ((c <<< ((8 : Int32) &&& 31)).toInt64)) ||| (d.toInt64)).toInt = 16777216 * a.toInt + 65536 * b.toInt + 256 * c.toInt + d.toInt := by
  have h1 := v_two ha hb
  generalize (a <<< ((8 : Int32) &&& 31)) ||| b = t at h1 ⊢
  have h2 : (t.toInt64 <<< (((16 : Int32)).toInt64 &&& 63)).toInt = t.toInt64.toInt * (65536 : Nat) := q_shlJ 16 65536 (by decide) (by decide) (by rw [q_wil]; omega) (by rw [q_wil]; omega)
  rw [q_wil] at h2
  generalize t.toInt64 <<< (((16 : Int32)).toInt64 &&& 63) = u at h2 ⊢
  have h3 : (c <<< ((8 : Int32) &&& 31)).toInt = c.toInt * (256 : Nat) := q_shlI 8 256 (by decide) (by decide) hc.1 (by omega)
  generalize c <<< ((8 : Int32) &&& 31) = w at h3 ⊢
  have h4 : (u ||| w.toInt64).toInt = u.toInt + w.toInt64.toInt := v_orJ (k := t.toInt) 16 65536 (by decide) (by omega) h2 (by omega) (by rw [q_wil]; omega) (by rw [q_wil]; omega)
  rw [q_wil] at h4
  have h5 : (u ||| w.toInt64).toInt = (t.toInt * 256 + c.toInt) * (256 : Nat) := by omega
  generalize u ||| w.toInt64 = z at h4 h5 ⊢
  rw [v_orJ (k := t.toInt * 256 + c.toInt) 8 256 (by decide) (by omega) h5 (by omega) (by rw [q_wil]; omega) (by rw [q_wil]; omega), q_wil]
  omega
/-- fourAt's four -/
theorem v_fourM (ha : 0 ≤ a.toInt ∧ a.toInt ≤ 255) (hb : 0 ≤ b.toInt ∧ b.toInt ≤ 255) (hc : 0 ≤ c.toInt ∧ c.toInt ≤ 255) (hd : 0 ≤ d.toInt ∧ d.toInt ≤ 255) : (((((a.toInt64) <<< (((24 : Int32)).toInt64 &&& 63)) + ((b <<< ((16 : Int32) &&& 31)).toInt64)) + ((c <<< ((8 : Int32) &&& 31)).toInt64)) + (d.toInt64)).toInt = 16777216 * a.toInt + 65536 * b.toInt + 256 * c.toInt + d.toInt := by
  have h2 : (a.toInt64 <<< (((24 : Int32)).toInt64 &&& 63)).toInt = a.toInt64.toInt * (16777216 : Nat) := q_shlJ 24 16777216 (by decide) (by decide) (by rw [q_wil]; omega) (by rw [q_wil]; omega)
  rw [q_wil] at h2
  generalize a.toInt64 <<< (((24 : Int32)).toInt64 &&& 63) = u at h2 ⊢
  have h3 : (b <<< ((16 : Int32) &&& 31)).toInt = b.toInt * (65536 : Nat) := q_shlI 16 65536 (by decide) (by decide) hb.1 (by omega)
  generalize b <<< ((16 : Int32) &&& 31) = w at h3 ⊢
  have h4 : (c <<< ((8 : Int32) &&& 31)).toInt = c.toInt * (256 : Nat) := q_shlI 8 256 (by decide) (by decide) hc.1 (by omega)
  generalize c <<< ((8 : Int32) &&& 31) = y at h4 ⊢
  have k1 : (u + w.toInt64).toInt = u.toInt + w.toInt := by rw [q_addJ (by rw [q_wil]; omega) (by rw [q_wil]; omega), q_wil]
  generalize u + w.toInt64 = u1 at k1 ⊢
  have k2 : (u1 + y.toInt64).toInt = u1.toInt + y.toInt := by rw [q_addJ (by rw [q_wil]; omega) (by rw [q_wil]; omega), q_wil]
  generalize u1 + y.toInt64 = u2 at k2 ⊢
  rw [q_addJ (by rw [q_wil]; omega) (by rw [q_wil]; omega), q_wil]
  omega
end QVN
