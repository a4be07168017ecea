/-! THE FUNCTIONS END: typed heap. ρ gives each address its role; q_kd the kind of a role, q_io what holds of the fields of a thing of that role -/
def q_tr (ρ : Nat → Nat) (L : List Nat) (r : Option Nat) (c : Nat) : Prop := ∃ a, r = some a ∧ a ∈ L ∧ ρ a = c
theorem q_trE {ρ : Nat → Nat} {L : List Nat} {r : Option Nat} {a c : Nat} (e : r = some a) (ma : a ∈ L) (ra : ρ a = c) : q_tr ρ L r c := ⟨a, e, ma, ra⟩
theorem q_trI {ρ : Nat → Nat} {L : List Nat} {a c : Nat} (ma : a ∈ L) (ra : ρ a = c) : q_tr ρ L (some a) c := ⟨a, rfl, ma, ra⟩
def q_kd : Nat → Nat := fun r => match r with
  | 0 => 12
  | 1 => 5
  | 2 => 100
  | 3 => 10
  | 4 => 100
  | 5 => 100
  | 6 => 9
  | 7 => 104
  | 8 => 8
  | 9 => 7
  | 10 => 102
  | 11 => 100
  | 12 => 2
  | 13 => 1
  | 14 => 6
  | 15 => 4
  | 16 => 100
  | 17 => 100
  | 18 => 100
  | 19 => 100
  | 20 => 4
  | 21 => 100
  | 22 => 100
  | 23 => 100
  | 24 => 100
  | 25 => 103
  | 26 => 100
  | 27 => 100
  | 28 => 100
  | 29 => 100
  | 30 => 2
  | 31 => 2
  | 32 => 2
  | 33 => 2
  | 34 => 2
  | 35 => 2
  | 36 => 3
  | 37 => 100
  | 38 => 11
  | 39 => 5
  | 40 => 100
  | 41 => 100
  | 42 => 100
  | 43 => 100
  | 44 => 8
  | 45 => 13
  | 46 => 100
  | 47 => 101
  | 48 => 101
  | 49 => 100
  | 50 => 100
  | 51 => 102
  | 52 => 102
  | 53 => 100
  | 54 => 100
  | 55 => 100
  | 56 => 100
  | 57 => 102
  | 58 => 100
  | 59 => 100
  | 60 => 100
  | 61 => 100
  | 62 => 100
  | 63 => 100
  | 64 => 102
  | 65 => 100
  | 66 => 100
  | 67 => 100
  | 68 => 100
  | 69 => 100
  | 70 => 100
  | 71 => 100
  | 72 => 100
  | 73 => 100
  | 74 => 101
  | _ => 0
def q_io (ρ : Nat → Nat) (L : List Nat) (N : Nat) (I : Nat → Int32) (J : Nat → Int64) (R : Nat → Option Nat) : Nat → Prop := fun r => match r with
  | 0 => q_tr ρ L (R 0) 1 ∧ q_tr ρ L (R 1) 3 ∧ q_tr ρ L (R 2) 6 ∧ q_tr ρ L (R 3) 9 ∧ q_tr ρ L (R 4) 13 ∧ q_tr ρ L (R 5) 14 ∧ q_tr ρ L (R 6) 36 ∧ q_tr ρ L (R 7) 38
  | 1 => q_tr ρ L (R 0) 2 ∧ (0 ≤ (I 1).toInt ∧ (I 1).toInt ≤ 1600)
  | 2 => N = 1600 ∧ (∀ k, (0 ≤ (I k).toInt ∧ (I k).toInt ≤ 255))
  | 3 => q_tr ρ L (R 0) 4 ∧ q_tr ρ L (R 1) 5 ∧ (0 ≤ (I 2).toInt ∧ (I 2).toInt ≤ 100)
  | 4 => N = 100 ∧ (∀ k, (0 ≤ (I k).toInt ∧ (I k).toInt ≤ 5))
  | 5 => N = 100 ∧ (∀ k, (0 ≤ (I k).toInt ∧ (I k).toInt ≤ 65535))
  | 6 => q_tr ρ L (R 0) 1 ∧ q_tr ρ L (R 1) 7 ∧ q_tr ρ L (R 2) 8 ∧ (-1 ≤ (I 3).toInt ∧ (I 3).toInt ≤ 24)
  | 7 => N = 24 ∧ (∀ k, k < 24 → q_tr ρ L (R k) 8)
  | 8 => q_tr ρ L (R 0) 1 ∧ (-1 ≤ (J 1).toInt ∧ (J 1).toInt ≤ 4294967295) ∧ (-1 ≤ (J 2).toInt ∧ (J 2).toInt ≤ 4294967295) ∧ (0 ≤ (I 3).toInt ∧ (I 3).toInt ≤ 1600) ∧ (0 ≤ (I 4).toInt ∧ (I 4).toInt ≤ 1600)
  | 9 => q_tr ρ L (R 0) 6 ∧ q_tr ρ L (R 1) 12 ∧ q_tr ρ L (R 2) 10 ∧ q_tr ρ L (R 3) 11 ∧ (0 ≤ (I 4).toInt ∧ (I 4).toInt ≤ 200) ∧ (0 ≤ (I 5).toInt ∧ (I 5).toInt ≤ 200) ∧ (0 ≤ (I 6).toInt ∧ (I 6).toInt ≤ 1) ∧ (0 ≤ (I 7).toInt ∧ (I 7).toInt ≤ 1) ∧ q_tr ρ L (R 8) 8 ∧ q_tr ρ L (R 9) 8
  | 10 => N = 200 ∧ (∀ k, (0 ≤ (I k).toInt ∧ (I k).toInt ≤ 1))
  | 11 => N = 200 ∧ (∀ k, (0 ≤ (I k).toInt ∧ (I k).toInt ≤ 199))
  | 12 => q_tr ρ L (R 0) 1 ∧ (0 ≤ (I 1).toInt ∧ (I 1).toInt ≤ 1) ∧ (0 ≤ (I 2).toInt ∧ (I 2).toInt ≤ 1) ∧ (-281474976710656 ≤ (J 3).toInt ∧ (J 3).toInt ≤ 281474976710656) ∧ (0 ≤ (J 4).toInt ∧ (J 4).toInt ≤ 65535) ∧ (-32768 ≤ (I 5).toInt ∧ (I 5).toInt ≤ 32767) ∧ (0 ≤ (I 6).toInt ∧ (I 6).toInt ≤ 65535) ∧ (0 ≤ (I 7).toInt ∧ (I 7).toInt ≤ 65535) ∧ (-32768 ≤ (I 8).toInt ∧ (I 8).toInt ≤ 65535) ∧ (-32768 ≤ (I 9).toInt ∧ (I 9).toInt ≤ 65535) ∧ (-32768 ≤ (I 10).toInt ∧ (I 10).toInt ≤ 32767) ∧ (-32768 ≤ (I 11).toInt ∧ (I 11).toInt ≤ 32767) ∧ (-32768 ≤ (I 12).toInt ∧ (I 12).toInt ≤ 32767) ∧ (-32768 ≤ (I 13).toInt ∧ (I 13).toInt ≤ 32767)
  | 13 => q_tr ρ L (R 0) 6 ∧ q_tr ρ L (R 1) 8 ∧ (-1 ≤ (J 2).toInt ∧ (J 2).toInt ≤ 4294967295)
  | 14 => q_tr ρ L (R 0) 9 ∧ q_tr ρ L (R 1) 3 ∧ q_tr ρ L (R 2) 15 ∧ q_tr ρ L (R 3) 20 ∧ q_tr ρ L (R 4) 25 ∧ q_tr ρ L (R 5) 26 ∧ q_tr ρ L (R 6) 27 ∧ q_tr ρ L (R 7) 28 ∧ q_tr ρ L (R 8) 29
  | 15 => q_tr ρ L (R 0) 16 ∧ q_tr ρ L (R 1) 17 ∧ q_tr ρ L (R 2) 18 ∧ q_tr ρ L (R 3) 19 ∧ (0 ≤ (I 4).toInt ∧ (I 4).toInt ≤ 120) ∧ (0 ≤ (I 5).toInt ∧ (I 5).toInt ≤ 120)
  | 16 => N = 120
  | 17 => N = 120
  | 18 => N = 120 ∧ (∀ k, (0 ≤ (I k).toInt ∧ (I k).toInt ≤ 65535))
  | 19 => N = 120 ∧ (∀ k, (0 ≤ (I k).toInt ∧ (I k).toInt ≤ 119))
  | 20 => q_tr ρ L (R 0) 21 ∧ q_tr ρ L (R 1) 22 ∧ q_tr ρ L (R 2) 23 ∧ q_tr ρ L (R 3) 24 ∧ (0 ≤ (I 4).toInt ∧ (I 4).toInt ≤ 120) ∧ (0 ≤ (I 5).toInt ∧ (I 5).toInt ≤ 120)
  | 21 => N = 120
  | 22 => N = 120
  | 23 => N = 120 ∧ (∀ k, (0 ≤ (I k).toInt ∧ (I k).toInt ≤ 65535))
  | 24 => N = 120 ∧ (∀ k, (0 ≤ (I k).toInt ∧ (I k).toInt ≤ 119))
  | 25 => N = 6 ∧ q_tr ρ L (R 0) 30 ∧ q_tr ρ L (R 1) 31 ∧ q_tr ρ L (R 2) 32 ∧ q_tr ρ L (R 3) 33 ∧ q_tr ρ L (R 4) 34 ∧ q_tr ρ L (R 5) 35
  | 26 => N = 6 ∧ (∀ k, (0 ≤ (I k).toInt ∧ (I k).toInt ≤ 199))
  | 27 => N = 6
  | 28 => N = 1200 ∧ (∀ k, (0 ≤ (I k).toInt ∧ (I k).toInt ≤ 2000))
  | 29 => N = 1200
  | 30 => q_tr ρ L (R 0) 1 ∧ (0 ≤ (I 1).toInt ∧ (I 1).toInt ≤ 1) ∧ (0 ≤ (I 2).toInt ∧ (I 2).toInt ≤ 1) ∧ (-281474976710656 ≤ (J 3).toInt ∧ (J 3).toInt ≤ 281474976710656) ∧ (0 ≤ (J 4).toInt ∧ (J 4).toInt ≤ 65535) ∧ (-32768 ≤ (I 5).toInt ∧ (I 5).toInt ≤ 32767) ∧ (0 ≤ (I 6).toInt ∧ (I 6).toInt ≤ 65535) ∧ (0 ≤ (I 7).toInt ∧ (I 7).toInt ≤ 65535) ∧ (-32768 ≤ (I 8).toInt ∧ (I 8).toInt ≤ 65535) ∧ (-32768 ≤ (I 9).toInt ∧ (I 9).toInt ≤ 65535) ∧ (-32768 ≤ (I 10).toInt ∧ (I 10).toInt ≤ 32767) ∧ (-32768 ≤ (I 11).toInt ∧ (I 11).toInt ≤ 32767) ∧ (-32768 ≤ (I 12).toInt ∧ (I 12).toInt ≤ 32767) ∧ (-32768 ≤ (I 13).toInt ∧ (I 13).toInt ≤ 32767)
  | 31 => q_tr ρ L (R 0) 1 ∧ (0 ≤ (I 1).toInt ∧ (I 1).toInt ≤ 1) ∧ (0 ≤ (I 2).toInt ∧ (I 2).toInt ≤ 1) ∧ (-281474976710656 ≤ (J 3).toInt ∧ (J 3).toInt ≤ 281474976710656) ∧ (0 ≤ (J 4).toInt ∧ (J 4).toInt ≤ 65535) ∧ (-32768 ≤ (I 5).toInt ∧ (I 5).toInt ≤ 32767) ∧ (0 ≤ (I 6).toInt ∧ (I 6).toInt ≤ 65535) ∧ (0 ≤ (I 7).toInt ∧ (I 7).toInt ≤ 65535) ∧ (-32768 ≤ (I 8).toInt ∧ (I 8).toInt ≤ 65535) ∧ (-32768 ≤ (I 9).toInt ∧ (I 9).toInt ≤ 65535) ∧ (-32768 ≤ (I 10).toInt ∧ (I 10).toInt ≤ 32767) ∧ (-32768 ≤ (I 11).toInt ∧ (I 11).toInt ≤ 32767) ∧ (-32768 ≤ (I 12).toInt ∧ (I 12).toInt ≤ 32767) ∧ (-32768 ≤ (I 13).toInt ∧ (I 13).toInt ≤ 32767)
  | 32 => q_tr ρ L (R 0) 1 ∧ (0 ≤ (I 1).toInt ∧ (I 1).toInt ≤ 1) ∧ (0 ≤ (I 2).toInt ∧ (I 2).toInt ≤ 1) ∧ (-281474976710656 ≤ (J 3).toInt ∧ (J 3).toInt ≤ 281474976710656) ∧ (0 ≤ (J 4).toInt ∧ (J 4).toInt ≤ 65535) ∧ (-32768 ≤ (I 5).toInt ∧ (I 5).toInt ≤ 32767) ∧ (0 ≤ (I 6).toInt ∧ (I 6).toInt ≤ 65535) ∧ (0 ≤ (I 7).toInt ∧ (I 7).toInt ≤ 65535) ∧ (-32768 ≤ (I 8).toInt ∧ (I 8).toInt ≤ 65535) ∧ (-32768 ≤ (I 9).toInt ∧ (I 9).toInt ≤ 65535) ∧ (-32768 ≤ (I 10).toInt ∧ (I 10).toInt ≤ 32767) ∧ (-32768 ≤ (I 11).toInt ∧ (I 11).toInt ≤ 32767) ∧ (-32768 ≤ (I 12).toInt ∧ (I 12).toInt ≤ 32767) ∧ (-32768 ≤ (I 13).toInt ∧ (I 13).toInt ≤ 32767)
  | 33 => q_tr ρ L (R 0) 1 ∧ (0 ≤ (I 1).toInt ∧ (I 1).toInt ≤ 1) ∧ (0 ≤ (I 2).toInt ∧ (I 2).toInt ≤ 1) ∧ (-281474976710656 ≤ (J 3).toInt ∧ (J 3).toInt ≤ 281474976710656) ∧ (0 ≤ (J 4).toInt ∧ (J 4).toInt ≤ 65535) ∧ (-32768 ≤ (I 5).toInt ∧ (I 5).toInt ≤ 32767) ∧ (0 ≤ (I 6).toInt ∧ (I 6).toInt ≤ 65535) ∧ (0 ≤ (I 7).toInt ∧ (I 7).toInt ≤ 65535) ∧ (-32768 ≤ (I 8).toInt ∧ (I 8).toInt ≤ 65535) ∧ (-32768 ≤ (I 9).toInt ∧ (I 9).toInt ≤ 65535) ∧ (-32768 ≤ (I 10).toInt ∧ (I 10).toInt ≤ 32767) ∧ (-32768 ≤ (I 11).toInt ∧ (I 11).toInt ≤ 32767) ∧ (-32768 ≤ (I 12).toInt ∧ (I 12).toInt ≤ 32767) ∧ (-32768 ≤ (I 13).toInt ∧ (I 13).toInt ≤ 32767)
  | 34 => q_tr ρ L (R 0) 1 ∧ (0 ≤ (I 1).toInt ∧ (I 1).toInt ≤ 1) ∧ (0 ≤ (I 2).toInt ∧ (I 2).toInt ≤ 1) ∧ (-281474976710656 ≤ (J 3).toInt ∧ (J 3).toInt ≤ 281474976710656) ∧ (0 ≤ (J 4).toInt ∧ (J 4).toInt ≤ 65535) ∧ (-32768 ≤ (I 5).toInt ∧ (I 5).toInt ≤ 32767) ∧ (0 ≤ (I 6).toInt ∧ (I 6).toInt ≤ 65535) ∧ (0 ≤ (I 7).toInt ∧ (I 7).toInt ≤ 65535) ∧ (-32768 ≤ (I 8).toInt ∧ (I 8).toInt ≤ 65535) ∧ (-32768 ≤ (I 9).toInt ∧ (I 9).toInt ≤ 65535) ∧ (-32768 ≤ (I 10).toInt ∧ (I 10).toInt ≤ 32767) ∧ (-32768 ≤ (I 11).toInt ∧ (I 11).toInt ≤ 32767) ∧ (-32768 ≤ (I 12).toInt ∧ (I 12).toInt ≤ 32767) ∧ (-32768 ≤ (I 13).toInt ∧ (I 13).toInt ≤ 32767)
  | 35 => q_tr ρ L (R 0) 1 ∧ (0 ≤ (I 1).toInt ∧ (I 1).toInt ≤ 1) ∧ (0 ≤ (I 2).toInt ∧ (I 2).toInt ≤ 1) ∧ (-281474976710656 ≤ (J 3).toInt ∧ (J 3).toInt ≤ 281474976710656) ∧ (0 ≤ (J 4).toInt ∧ (J 4).toInt ≤ 65535) ∧ (-32768 ≤ (I 5).toInt ∧ (I 5).toInt ≤ 32767) ∧ (0 ≤ (I 6).toInt ∧ (I 6).toInt ≤ 65535) ∧ (0 ≤ (I 7).toInt ∧ (I 7).toInt ≤ 65535) ∧ (-32768 ≤ (I 8).toInt ∧ (I 8).toInt ≤ 65535) ∧ (-32768 ≤ (I 9).toInt ∧ (I 9).toInt ≤ 65535) ∧ (-32768 ≤ (I 10).toInt ∧ (I 10).toInt ≤ 32767) ∧ (-32768 ≤ (I 11).toInt ∧ (I 11).toInt ≤ 32767) ∧ (-32768 ≤ (I 12).toInt ∧ (I 12).toInt ≤ 32767) ∧ (-32768 ≤ (I 13).toInt ∧ (I 13).toInt ≤ 32767)
  | 36 => q_tr ρ L (R 0) 37 ∧ (0 ≤ (I 1).toInt ∧ (I 1).toInt ≤ 120)
  | 37 => N = 960
  | 38 => q_tr ρ L (R 0) 1 ∧ q_tr ρ L (R 1) 6 ∧ q_tr ρ L (R 2) 9 ∧ q_tr ρ L (R 3) 39 ∧ q_tr ρ L (R 4) 44 ∧ q_tr ρ L (R 5) 41 ∧ q_tr ρ L (R 6) 42 ∧ q_tr ρ L (R 7) 43 ∧ (0 ≤ (I 8).toInt ∧ (I 8).toInt ≤ 2400)
  | 39 => q_tr ρ L (R 0) 40 ∧ (0 ≤ (I 1).toInt ∧ (I 1).toInt ≤ 2400)
  | 40 => N = 2400 ∧ (∀ k, (0 ≤ (I k).toInt ∧ (I k).toInt ≤ 255))
  | 41 => N = 24 ∧ (∀ k, (0 ≤ (I k).toInt ∧ (I k).toInt ≤ 23))
  | 42 => N = 200
  | 43 => N = 201
  | 44 => q_tr ρ L (R 0) 39 ∧ (-1 ≤ (J 1).toInt ∧ (J 1).toInt ≤ 4294967295) ∧ (0 ≤ (J 2).toInt ∧ (J 2).toInt ≤ 0) ∧ (0 ≤ (I 3).toInt ∧ (I 3).toInt ≤ 2400) ∧ (-2147483648 ≤ (I 4).toInt ∧ (I 4).toInt ≤ 2400)
  | 45 => (0 ≤ (I 0).toInt ∧ (I 0).toInt ≤ 1) ∧ q_tr ρ L (R 1) 46 ∧ (0 ≤ (I 2).toInt ∧ (I 2).toInt ≤ 1600) ∧ (0 ≤ (I 3).toInt ∧ (I 3).toInt ≤ 24) ∧ q_tr ρ L (R 4) 47 ∧ q_tr ρ L (R 5) 48 ∧ q_tr ρ L (R 6) 49 ∧ q_tr ρ L (R 7) 50 ∧ (0 ≤ (I 8).toInt ∧ (I 8).toInt ≤ 1) ∧ q_tr ρ L (R 9) 51 ∧ q_tr ρ L (R 10) 52 ∧ (0 ≤ (I 11).toInt ∧ (I 11).toInt ≤ 100) ∧ q_tr ρ L (R 12) 53 ∧ q_tr ρ L (R 13) 54 ∧ (0 ≤ (I 14).toInt ∧ (I 14).toInt ≤ 120) ∧ q_tr ρ L (R 15) 55 ∧ q_tr ρ L (R 16) 56 ∧ q_tr ρ L (R 17) 57 ∧ (0 ≤ (I 18).toInt ∧ (I 18).toInt ≤ 120) ∧ q_tr ρ L (R 19) 58 ∧ q_tr ρ L (R 20) 59 ∧ (0 ≤ (I 21).toInt ∧ (I 21).toInt ≤ 1601) ∧ (0 ≤ (I 22).toInt ∧ (I 22).toInt ≤ 1601) ∧ (0 ≤ (I 23).toInt ∧ (I 23).toInt ≤ 1) ∧ (0 ≤ (I 24).toInt ∧ (I 24).toInt ≤ 6) ∧ q_tr ρ L (R 25) 60 ∧ q_tr ρ L (R 26) 61 ∧ q_tr ρ L (R 27) 62 ∧ q_tr ρ L (R 28) 63 ∧ q_tr ρ L (R 29) 64 ∧ q_tr ρ L (R 30) 65 ∧ q_tr ρ L (R 31) 66 ∧ q_tr ρ L (R 32) 67 ∧ q_tr ρ L (R 33) 68 ∧ q_tr ρ L (R 34) 69 ∧ q_tr ρ L (R 35) 70 ∧ (0 ≤ (I 36).toInt ∧ (I 36).toInt ≤ 120) ∧ q_tr ρ L (R 37) 71 ∧ (0 ≤ (I 38).toInt ∧ (I 38).toInt ≤ 2400) ∧ q_tr ρ L (R 39) 72 ∧ q_tr ρ L (R 40) 73 ∧ (0 ≤ (I 41).toInt ∧ (I 41).toInt ≤ 1)
  | 46 => N = 1600 ∧ (∀ k, (0 ≤ (I k).toInt ∧ (I k).toInt ≤ 255))
  | 47 => N = 24 ∧ (∀ k, (0 ≤ (J k).toInt ∧ (J k).toInt ≤ 4294967295))
  | 48 => N = 24 ∧ (∀ k, (0 ≤ (J k).toInt ∧ (J k).toInt ≤ 4294967295))
  | 49 => N = 24 ∧ (∀ k, (0 ≤ (I k).toInt ∧ (I k).toInt ≤ 1600))
  | 50 => N = 24 ∧ (∀ k, (0 ≤ (I k).toInt ∧ (I k).toInt ≤ 1600))
  | 51 => N = 200 ∧ (∀ k, (0 ≤ (I k).toInt ∧ (I k).toInt ≤ 1))
  | 52 => N = 200 ∧ (∀ k, (0 ≤ (I k).toInt ∧ (I k).toInt ≤ 0))
  | 53 => N = 100 ∧ (∀ k, (0 ≤ (I k).toInt ∧ (I k).toInt ≤ 5))
  | 54 => N = 100 ∧ (∀ k, (0 ≤ (I k).toInt ∧ (I k).toInt ≤ 65535))
  | 55 => N = 120
  | 56 => N = 120
  | 57 => N = 120 ∧ (∀ k, (0 ≤ (I k).toInt ∧ (I k).toInt ≤ 1))
  | 58 => N = 400 ∧ (∀ k, (0 ≤ (I k).toInt ∧ (I k).toInt ≤ 119))
  | 59 => N = 120 ∧ (∀ k, (0 ≤ (I k).toInt ∧ (I k).toInt ≤ 255))
  | 60 => N = 8 ∧ (∀ k, (0 ≤ (I k).toInt ∧ (I k).toInt ≤ 199))
  | 61 => N = 8 ∧ (∀ k, (0 ≤ (I k).toInt ∧ (I k).toInt ≤ 1700))
  | 62 => N = 8 ∧ (∀ k, (0 ≤ (I k).toInt ∧ (I k).toInt ≤ 120))
  | 63 => N = 8 ∧ (∀ k, (0 ≤ (I k).toInt ∧ (I k).toInt ≤ 120))
  | 64 => N = 8 ∧ (∀ k, (0 ≤ (I k).toInt ∧ (I k).toInt ≤ 1))
  | 65 => N = 8 ∧ (∀ k, (0 ≤ (I k).toInt ∧ (I k).toInt ≤ 65535))
  | 66 => N = 8 ∧ (∀ k, (0 ≤ (I k).toInt ∧ (I k).toInt ≤ 120))
  | 67 => N = 8 ∧ (∀ k, (0 ≤ (I k).toInt ∧ (I k).toInt ≤ 65535))
  | 68 => N = 8 ∧ (∀ k, (-32768 ≤ (I k).toInt ∧ (I k).toInt ≤ 65535))
  | 69 => N = 8 ∧ (∀ k, (-32768 ≤ (I k).toInt ∧ (I k).toInt ≤ 65535))
  | 70 => N = 32 ∧ (∀ k, (-32768 ≤ (I k).toInt ∧ (I k).toInt ≤ 32767))
  | 71 => N = 2000
  | 72 => N = 2400 ∧ (∀ k, (0 ≤ (I k).toInt ∧ (I k).toInt ≤ 255))
  | 73 => N = 24 ∧ (∀ k, (0 ≤ (I k).toInt ∧ (I k).toInt ≤ 23))
  | 74 => N = 1
  | _ => False
/-- the reference's TABLES lie in its file -/
def q_E1s (ρ : Nat → Nat) (L : List Nat) (S : q_S) : Prop := ∀ b c, b ∈ L → c ∈ L → ρ b = 49 → ρ c = 50 → ∀ k : Nat, (q_I S b k).toInt + (q_I S c k).toInt ≤ 1600
/-- of a role of one thing there is one thing -/
def q_sg : Nat → Bool := fun r => match r with
  | 0 => true
  | 1 => true
  | 2 => true
  | 3 => true
  | 4 => true
  | 5 => true
  | 6 => true
  | 7 => true
  | 9 => true
  | 10 => true
  | 11 => true
  | 12 => true
  | 13 => true
  | 14 => true
  | 15 => true
  | 16 => true
  | 17 => true
  | 18 => true
  | 19 => true
  | 20 => true
  | 21 => true
  | 22 => true
  | 23 => true
  | 24 => true
  | 25 => true
  | 26 => true
  | 27 => true
  | 28 => true
  | 29 => true
  | 30 => true
  | 31 => true
  | 32 => true
  | 33 => true
  | 34 => true
  | 35 => true
  | 36 => true
  | 37 => true
  | 38 => true
  | 39 => true
  | 40 => true
  | 41 => true
  | 42 => true
  | 43 => true
  | 44 => true
  | 45 => true
  | 46 => true
  | 47 => true
  | 48 => true
  | 49 => true
  | 50 => true
  | 51 => true
  | 52 => true
  | 53 => true
  | 54 => true
  | 55 => true
  | 56 => true
  | 57 => true
  | 58 => true
  | 59 => true
  | 60 => true
  | 61 => true
  | 62 => true
  | 63 => true
  | 64 => true
  | 65 => true
  | 66 => true
  | 67 => true
  | 68 => true
  | 69 => true
  | 70 => true
  | 71 => true
  | 72 => true
  | 73 => true
  | 74 => true
  | _ => false
def q_E1u (ρ : Nat → Nat) (L : List Nat) : Prop := ∀ a b, a ∈ L → b ∈ L → ρ a = ρ b → q_sg (ρ a) = true → a = b
def q_E1 (ρ : Nat → Nat) (L : List Nat) (S : q_S) : Prop := q_E1u ρ L ∧ q_E1s ρ L S
def q_Inv (ρ : Nat → Nat) (L : List Nat) (S : q_S) : Prop := q_L S = L ∧ (∀ a ∈ L, q_K S a = q_kd (ρ a) ∧ q_io ρ L (q_N S a) (q_I S a) (q_J S a) (q_R S a) (ρ a)) ∧ q_E1 ρ L S
/-- which places a role's field is: rows as a whole -/
def q_ar (r k : Nat) : Nat := if q_kd r < 100 then 64 * r + k else 64 * r
def q_un (ρ : Nat → Nat) (L : List Nat) (m : List Nat) (S T : q_S) : Prop := ∀ a ∈ L, ∀ k, q_ar (ρ a) k ∉ m → q_I T a k = q_I S a k ∧ q_J T a k = q_J S a k ∧ q_R T a k = q_R S a k
def q_G (ρ : Nat → Nat) (L : List Nat) (m : List Nat) (S T : q_S) : Prop := q_Inv ρ L T ∧ q_un ρ L m S T
def q_ok {α : Type} (x : Option (α × q_S)) (P : α → q_S → Prop) : Prop := ∃ r T, x = some (r, T) ∧ P r T
section QO
variable {α β : Type} {ρ : Nat → Nat} {L m m1 : List Nat} {S S0 T : q_S} {P : β → q_S → Prop}
theorem q_G_refl (h : q_Inv ρ L S) : q_G ρ L m S S := ⟨h, fun _ _ _ _ => ⟨rfl, rfl, rfl⟩⟩
theorem q_G_call (h : q_G ρ L m S0 S) (g : q_G ρ L m1 S T) (hs : m1.all (fun x => m.contains x) = true) : q_G ρ L m S0 T := by
  refine ⟨g.1, fun a ma k hk => ?_⟩
  have h1 := h.2 a ma k hk
  have h2 := g.2 a ma k (fun hm => hk (by
    have h3 := List.all_eq_true.mp hs _ hm
    exact List.contains_iff_mem.mp h3))
  exact ⟨h2.1.trans h1.1, h2.2.1.trans h1.2.1, h2.2.2.trans h1.2.2⟩
theorem q_ok_some {r : β} (h : P r T) : q_ok (some (r, T)) P := ⟨r, T, rfl, h⟩
theorem q_ok_if {c : Prop} [Decidable c] {x : Option (β × q_S)} (h : c) (k : q_ok x P) : q_ok (q_if c x) P := by
  unfold q_if; rw [if_pos h]; exact k
theorem q_ok_ite {c : Prop} [Decidable c] {x y : Option (β × q_S)} (h1 : c → q_ok x P) (h2 : ¬ c → q_ok y P) : q_ok (if c then x else y) P := by
  by_cases h : c
  · rw [if_pos h]; exact h1 h
  · rw [if_neg h]; exact h2 h
theorem q_ok_b {x : Option (α × q_S)} {Q : α → q_S → Prop} {f : α → q_S → Option (β × q_S)} (h : q_ok x Q) (k : ∀ r T, Q r T → q_ok (f r T) P) : q_ok (q_b x f) P := by
  obtain ⟨r, T, e, hq⟩ := h
  rw [e]; exact k r T hq
theorem q_ok_let {x : q_S} {f : q_S → Option (β × q_S)} (k : ∀ T, T = x → q_ok (f T) P) : q_ok (q_let x f) P := k x rfl
theorem q_ok_atA {r : Option Nat} {a c c0 : Nat} {f : Nat → Option (β × q_S)} (hG : q_G ρ L m S0 S) (ea : r = some a) (ma : a ∈ L) (ra : ρ a = c0) (hk : q_kd c0 = c) (k : q_ok (f a) P) : q_ok (q_at S r c f) P := by
  subst ea
  have h1 : q_K S a = c := by rw [(hG.1.2.1 a ma).1, ra, hk]
  unfold q_at
  simp only
  rw [if_pos ⟨by rw [hG.1.1]; exact ma, h1⟩]
  exact k
theorem q_ok_at {r : Option Nat} {c c0 : Nat} {f : Nat → Option (β × q_S)} (hG : q_G ρ L m S0 S) (h : q_tr ρ L r c0) (hk : q_kd c0 = c) (k : ∀ a, a ∈ L → ρ a = c0 → r = some a → q_ok (f a) P) : q_ok (q_at S r c f) P := by
  obtain ⟨a, ea, ma, ra⟩ := h
  exact q_ok_atA hG ea ma ra hk (k a ma ra ea)
theorem q_ok_atS {a c c0 : Nat} {f : Nat → Option (β × q_S)} (hG : q_G ρ L m S0 S) (h : q_tr ρ L (some a) c0) (hk : q_kd c0 = c) (k : a ∈ L → ρ a = c0 → q_ok (f a) P) : q_ok (q_at S (some a) c f) P := by
  obtain ⟨b, e, ma, ra⟩ := h
  cases e
  exact q_ok_atA hG rfl ma ra hk (k ma ra)
theorem q_unR {a k r : Nat} (g : q_G ρ L m S T) (ma : a ∈ L) (ra : ρ a = r) (h : m.contains (q_ar r k) = false) : q_R T a k = q_R S a k := (g.2 a ma k (by rw [ra]; intro hm; rw [List.contains_iff_mem.mpr hm] at h; cases h)).2.2
theorem q_unI {a k r : Nat} (g : q_G ρ L m S T) (ma : a ∈ L) (ra : ρ a = r) (h : m.contains (q_ar r k) = false) : q_I T a k = q_I S a k := (g.2 a ma k (by rw [ra]; intro hm; rw [List.contains_iff_mem.mpr hm] at h; cases h)).1
theorem q_unJ {a k r : Nat} (g : q_G ρ L m S T) (ma : a ∈ L) (ra : ρ a = r) (h : m.contains (q_ar r k) = false) : q_J T a k = q_J S a k := (g.2 a ma k (by rw [ra]; intro hm; rw [List.contains_iff_mem.mpr hm] at h; cases h)).2.1
end QO
section QE
variable {ρ : Nat → Nat} {S T : q_S} {a b k j r1 r2 : Nat} {x : Int32} {y : Int64} {z : Option Nat}
theorem q_hitI : q_I (q_sI S a k x) a k = x := by show q_u (q_I S) a k x a k = x; rw [q_u_at]; simp
theorem q_hitJ : q_J (q_sJ S a k y) a k = y := by show q_u (q_J S) a k y a k = y; rw [q_u_at]; simp
theorem q_fwI (ra : ρ a = r1) (rb : ρ b = r2) (h : r1 ≠ r2) : q_I (q_sI S b k x) a j = q_I S a j := by
  show q_u (q_I S) b k x a j = q_I S a j
  rw [q_u_ne _ _ _ (fun e => h (by rw [← ra, ← rb, e]))]
theorem q_fwJ (ra : ρ a = r1) (rb : ρ b = r2) (h : r1 ≠ r2) : q_J (q_sJ S b k y) a j = q_J S a j := by
  show q_u (q_J S) b k y a j = q_J S a j
  rw [q_u_ne _ _ _ (fun e => h (by rw [← ra, ← rb, e]))]
theorem q_ffI (h : j ≠ k) : q_I (q_sI S b k x) a j = q_I S a j := by show q_u (q_I S) b k x a j = _; rw [q_u_at]; simp [h]
theorem q_ffJ (h : j ≠ k) : q_J (q_sJ S b k y) a j = q_J S a j := by show q_u (q_J S) b k y a j = _; rw [q_u_at]; simp [h]
theorem q_fwR (ra : ρ a = r1) (rb : ρ b = r2) (h : r1 ≠ r2) : q_R (q_sR S b k z) a j = q_R S a j := by
  show q_u (q_R S) b k z a j = q_R S a j
  rw [q_u_ne _ _ _ (fun e => h (by rw [← ra, ← rb, e]))]
theorem q_ffR (h : j ≠ k) : q_R (q_sR S b k z) a j = q_R S a j := by show q_u (q_R S) b k z a j = _; rw [q_u_at]; simp [h]
theorem q_hitR : q_R (q_sR S a k z) a k = z := by show q_u (q_R S) a k z a k = z; rw [q_u_at]; simp
theorem q_skRI : q_R (q_sI S b k x) a j = q_R S a j := rfl
theorem q_skRJ : q_R (q_sJ S b k y) a j = q_R S a j := rfl
theorem q_leR (e : T = S) : q_R T a j = q_R S a j := by rw [e]
theorem q_skIJ : q_I (q_sJ S b k y) a j = q_I S a j := rfl
theorem q_skIR : q_I (q_sR S b k z) a j = q_I S a j := rfl
theorem q_skJI : q_J (q_sI S b k x) a j = q_J S a j := rfl
theorem q_skJR : q_J (q_sR S b k z) a j = q_J S a j := rfl
theorem q_leI (e : T = S) : q_I T a j = q_I S a j := by rw [e]
theorem q_leJ (e : T = S) : q_J T a j = q_J S a j := by rw [e]
end QE
/-! numbers -/
theorem q_rngI (x : Int32) : -2147483648 ≤ x.toInt ∧ x.toInt ≤ 2147483647 := ⟨Int32.le_toInt x, by have := Int32.toInt_lt x; omega⟩
theorem q_rngJ (x : Int64) : -9223372036854775808 ≤ x.toInt ∧ x.toInt ≤ 9223372036854775807 := ⟨Int64.le_toInt x, by have := Int64.toInt_lt x; omega⟩
theorem q_bm {x n : Int} (h1 : -2147483648 ≤ x) (h2 : x ≤ 2147483647) (hn : n = 4294967296) : x.bmod 4294967296 = x := by
  rw [Int.bmod_def]; split <;> omega
theorem q_bmJ {x : Int} (h1 : -9223372036854775808 ≤ x) (h2 : x ≤ 9223372036854775807) : x.bmod 18446744073709551616 = x := by
  rw [Int.bmod_def]; split <;> omega
theorem q_addI {x y : Int32} (h1 : -2147483648 ≤ x.toInt + y.toInt) (h2 : x.toInt + y.toInt ≤ 2147483647) : (x + y).toInt = x.toInt + y.toInt := by
  rw [Int32.toInt_add]; exact q_bm h1 h2 rfl
theorem q_subI {x y : Int32} (h1 : -2147483648 ≤ x.toInt - y.toInt) (h2 : x.toInt - y.toInt ≤ 2147483647) : (x - y).toInt = x.toInt - y.toInt := by
  rw [Int32.toInt_sub]; exact q_bm h1 h2 rfl
theorem q_addJ {x y : Int64} (h1 : -9223372036854775808 ≤ x.toInt + y.toInt) (h2 : x.toInt + y.toInt ≤ 9223372036854775807) : (x + y).toInt = x.toInt + y.toInt := by
  rw [Int64.toInt_add]; exact q_bmJ h1 h2
theorem q_subJ {x y : Int64} (h1 : -9223372036854775808 ≤ x.toInt - y.toInt) (h2 : x.toInt - y.toInt ≤ 9223372036854775807) : (x - y).toInt = x.toInt - y.toInt := by
  rw [Int64.toInt_sub]; exact q_bmJ h1 h2
theorem q_mulLI {x y : Int32} {c : Int} (hc : x.toInt = c) (h1 : -2147483648 ≤ c * y.toInt) (h2 : c * y.toInt ≤ 2147483647) : (x * y).toInt = c * y.toInt := by
  rw [Int32.toInt_mul, hc]; exact q_bm h1 h2 rfl
theorem q_mulRI {x y : Int32} {c : Int} (hc : y.toInt = c) (h1 : -2147483648 ≤ x.toInt * c) (h2 : x.toInt * c ≤ 2147483647) : (x * y).toInt = x.toInt * c := by
  rw [Int32.toInt_mul, hc]; exact q_bm h1 h2 rfl
theorem q_mulLJ {x y : Int64} {c : Int} (hc : x.toInt = c) (h1 : -9223372036854775808 ≤ c * y.toInt) (h2 : c * y.toInt ≤ 9223372036854775807) : (x * y).toInt = c * y.toInt := by
  rw [Int64.toInt_mul, hc]; exact q_bmJ h1 h2
theorem q_mulRJ {x y : Int64} {c : Int} (hc : y.toInt = c) (h1 : -9223372036854775808 ≤ x.toInt * c) (h2 : x.toInt * c ≤ 9223372036854775807) : (x * y).toInt = x.toInt * c := by
  rw [Int64.toInt_mul, hc]; exact q_bmJ h1 h2
theorem q_addXI {x y : Int32} {a b : Int} (hx : x.toInt = a) (hy : y.toInt = b) (h1 : -2147483648 ≤ a + b) (h2 : a + b ≤ 2147483647) : (x + y).toInt = a + b := by subst hx; subst hy; exact q_addI h1 h2
theorem q_subXI {x y : Int32} {a b : Int} (hx : x.toInt = a) (hy : y.toInt = b) (h1 : -2147483648 ≤ a - b) (h2 : a - b ≤ 2147483647) : (x - y).toInt = a - b := by subst hx; subst hy; exact q_subI h1 h2
theorem q_addXJ {x y : Int64} {a b : Int} (hx : x.toInt = a) (hy : y.toInt = b) (h1 : -9223372036854775808 ≤ a + b) (h2 : a + b ≤ 9223372036854775807) : (x + y).toInt = a + b := by subst hx; subst hy; exact q_addJ h1 h2
theorem q_subXJ {x y : Int64} {a b : Int} (hx : x.toInt = a) (hy : y.toInt = b) (h1 : -9223372036854775808 ≤ a - b) (h2 : a - b ≤ 9223372036854775807) : (x - y).toInt = a - b := by subst hx; subst hy; exact q_subJ h1 h2
theorem q_wil (x : Int32) : x.toInt64.toInt = x.toInt := by simp
theorem q_wli {x : Int64} (h1 : -2147483648 ≤ x.toInt) (h2 : x.toInt ≤ 2147483647) : x.toInt32.toInt = x.toInt := by
  rw [Int64.toInt_toInt32]; exact q_bm h1 h2 rfl
theorem q_wd {x lo hi lo2 hi2 : Int} (h : lo ≤ x ∧ x ≤ hi) (h1 : lo2 ≤ lo) (h2 : hi ≤ hi2) : lo2 ≤ x ∧ x ≤ hi2 := ⟨Int.le_trans h1 h.1, Int.le_trans h.2 h2⟩
theorem q_addBI {x y : Int32} {a b c d : Int} (lo hi : Int) (hx : a ≤ x.toInt ∧ x.toInt ≤ b) (hy : c ≤ y.toInt ∧ y.toInt ≤ d) (h1 : a + c = lo) (h2 : b + d = hi) (h3 : -2147483648 ≤ lo) (h4 : hi ≤ 2147483647) : lo ≤ (x + y).toInt ∧ (x + y).toInt ≤ hi := by rw [q_addI (by omega) (by omega)]; omega
theorem q_subBI {x y : Int32} {a b c d : Int} (lo hi : Int) (hx : a ≤ x.toInt ∧ x.toInt ≤ b) (hy : c ≤ y.toInt ∧ y.toInt ≤ d) (h1 : a - d = lo) (h2 : b - c = hi) (h3 : -2147483648 ≤ lo) (h4 : hi ≤ 2147483647) : lo ≤ (x - y).toInt ∧ (x - y).toInt ≤ hi := by rw [q_subI (by omega) (by omega)]; omega
theorem q_addBJ {x y : Int64} {a b c d : Int} (lo hi : Int) (hx : a ≤ x.toInt ∧ x.toInt ≤ b) (hy : c ≤ y.toInt ∧ y.toInt ≤ d) (h1 : a + c = lo) (h2 : b + d = hi) (h3 : -9223372036854775808 ≤ lo) (h4 : hi ≤ 9223372036854775807) : lo ≤ (x + y).toInt ∧ (x + y).toInt ≤ hi := by rw [q_addJ (by omega) (by omega)]; omega
theorem q_subBJ {x y : Int64} {a b c d : Int} (lo hi : Int) (hx : a ≤ x.toInt ∧ x.toInt ≤ b) (hy : c ≤ y.toInt ∧ y.toInt ≤ d) (h1 : a - d = lo) (h2 : b - c = hi) (h3 : -9223372036854775808 ≤ lo) (h4 : hi ≤ 9223372036854775807) : lo ≤ (x - y).toInt ∧ (x - y).toInt ≤ hi := by rw [q_subJ (by omega) (by omega)]; omega
theorem q_i2lB {x : Int32} {a b : Int} (h : a ≤ x.toInt ∧ x.toInt ≤ b) : a ≤ x.toInt64.toInt ∧ x.toInt64.toInt ≤ b := by rw [q_wil]; exact h
theorem q_eqBI {x y : Int32} {a b : Int} (e : x = y) (h : a ≤ y.toInt ∧ y.toInt ≤ b) : a ≤ x.toInt ∧ x.toInt ≤ b := by rw [e]; exact h
theorem q_eqBJ {x y : Int64} {a b : Int} (e : x = y) (h : a ≤ y.toInt ∧ y.toInt ≤ b) : a ≤ x.toInt ∧ x.toInt ≤ b := by rw [e]; exact h
theorem q_ne0I {x : Int32} (h : x.toInt ≠ 0) : ¬ x = 0 := fun e => h (by rw [e]; rfl)
theorem q_ne0J {x : Int64} (h : x.toInt ≠ 0) : ¬ x = 0 := fun e => h (by rw [e]; rfl)
theorem q_b01 {x : Int32} (h1 : 0 ≤ x.toInt) (h2 : x.toInt ≤ 1) : x = 0 ∨ x = 1 := by
  rcases (show x.toInt = 0 ∨ x.toInt = 1 by omega) with h | h
  · exact Or.inl (Int32.toInt_inj.mp h)
  · exact Or.inr (Int32.toInt_inj.mp h)
theorem q_narB {x : Int32} (h1 : 0 ≤ x.toInt) (h2 : x.toInt ≤ 1) : (vp_nar .boolean x).toInt = x.toInt := by
  rcases q_b01 h1 h2 with rfl | rfl <;> decide
theorem q_inI {S : q_S} {a n : Nat} {i : Int32} (hN : q_N S a = n) (h1 : 0 ≤ i.toInt) (h2 : i.toInt < n) : q_in i (q_N S a) = true := by
  unfold q_in; rw [hN]; exact decide_eq_true ⟨h1, h2⟩
theorem q_idx {i : Int32} {n : Nat} (h1 : 0 ≤ i.toInt) (h2 : i.toInt < n) : i.toNatClampNeg < n := by
  have h : i.toNatClampNeg = i.toInt.toNat := rfl
  rw [h]; omega
theorem q_lenI {S : q_S} {a n : Nat} (hN : q_N S a = n) (h : decide (n ≤ 2147483647) = true) : (nI (q_N S a)).toInt = n := by
  rw [hN]; have h := of_decide_eq_true h
  show (Int32.ofNat n).toInt = n
  rw [Int32.toInt_ofNat']; exact q_bm (by omega) (by omega) rfl
theorem q_p_lt {x y : Int32} (h : x < y) : x.toInt < y.toInt := Int32.lt_iff_toInt_lt.mp h
theorem q_n_lt {x y : Int32} (h : ¬ x < y) : y.toInt ≤ x.toInt := by have := mt Int32.lt_iff_toInt_lt.mpr h; omega
theorem q_p_ge {x y : Int32} (h : x ≤ y) : x.toInt ≤ y.toInt := Int32.le_iff_toInt_le.mp h
theorem q_n_ge {x y : Int32} (h : ¬ x ≤ y) : y.toInt < x.toInt := by have := mt Int32.le_iff_toInt_le.mpr h; omega
theorem q_p_le {x y : Int32} (h : x ≤ y) : x.toInt ≤ y.toInt := Int32.le_iff_toInt_le.mp h
theorem q_n_le {x y : Int32} (h : ¬ x ≤ y) : y.toInt < x.toInt := by have := mt Int32.le_iff_toInt_le.mpr h; omega
theorem q_p_gt {x y : Int32} (h : x < y) : x.toInt < y.toInt := Int32.lt_iff_toInt_lt.mp h
theorem q_n_gt {x y : Int32} (h : ¬ x < y) : y.toInt ≤ x.toInt := by have := mt Int32.lt_iff_toInt_lt.mpr h; omega
theorem q_p_eq {x y : Int32} (h : x = y) : x.toInt = y.toInt := by rw [h]
theorem q_n_eq {x y : Int32} (h : ¬ x = y) : x.toInt ≠ y.toInt := fun e => h (Int32.toInt_inj.mp e)
theorem q_cmp3 (x y : Int64) : (x.toInt < y.toInt ∧ lg_cmp x y = -1) ∨ (x.toInt = y.toInt ∧ lg_cmp x y = 0) ∨ (y.toInt < x.toInt ∧ lg_cmp x y = 1) := by
  unfold lg_cmp
  by_cases h1 : x > y
  · rw [if_pos h1]; exact Or.inr (Or.inr ⟨Int64.lt_iff_toInt_lt.mp h1, rfl⟩)
  · rw [if_neg h1]
    have h2 := mt Int64.lt_iff_toInt_lt.mpr h1
    by_cases h3 : x = y
    · rw [if_pos h3]; exact Or.inr (Or.inl ⟨by rw [h3], rfl⟩)
    · rw [if_neg h3]
      have h4 := mt Int64.toInt_inj.mp h3
      exact Or.inl ⟨by omega, rfl⟩
theorem q_cp_lt {x y : Int64} (h : lg_cmp x y < 0) : x.toInt < y.toInt := by
  rcases q_cmp3 x y with ⟨g, e⟩ | ⟨g, e⟩ | ⟨g, e⟩ <;> rw [e] at h <;> first | exact g | (exfalso; revert h; decide)
theorem q_cn_lt {x y : Int64} (h : ¬ lg_cmp x y < 0) : y.toInt ≤ x.toInt := by
  rcases q_cmp3 x y with ⟨g, e⟩ | ⟨g, e⟩ | ⟨g, e⟩ <;> rw [e] at h <;> first | omega | (exfalso; revert h; decide)
theorem q_cp_ge {x y : Int64} (h : 0 ≤ lg_cmp x y) : y.toInt ≤ x.toInt := by
  rcases q_cmp3 x y with ⟨g, e⟩ | ⟨g, e⟩ | ⟨g, e⟩ <;> rw [e] at h <;> first | omega | (exfalso; revert h; decide)
theorem q_cn_ge {x y : Int64} (h : ¬ 0 ≤ lg_cmp x y) : x.toInt < y.toInt := by
  rcases q_cmp3 x y with ⟨g, e⟩ | ⟨g, e⟩ | ⟨g, e⟩ <;> rw [e] at h <;> first | exact g | (exfalso; revert h; decide)
theorem q_cp_gt {x y : Int64} (h : 0 < lg_cmp x y) : y.toInt < x.toInt := by
  rcases q_cmp3 x y with ⟨g, e⟩ | ⟨g, e⟩ | ⟨g, e⟩ <;> rw [e] at h <;> first | exact g | (exfalso; revert h; decide)
theorem q_cn_gt {x y : Int64} (h : ¬ 0 < lg_cmp x y) : x.toInt ≤ y.toInt := by
  rcases q_cmp3 x y with ⟨g, e⟩ | ⟨g, e⟩ | ⟨g, e⟩ <;> rw [e] at h <;> first | omega | (exfalso; revert h; decide)
theorem q_cp_le {x y : Int64} (h : lg_cmp x y ≤ 0) : x.toInt ≤ y.toInt := by
  rcases q_cmp3 x y with ⟨g, e⟩ | ⟨g, e⟩ | ⟨g, e⟩ <;> rw [e] at h <;> first | omega | (exfalso; revert h; decide)
theorem q_cn_le {x y : Int64} (h : ¬ lg_cmp x y ≤ 0) : y.toInt < x.toInt := by
  rcases q_cmp3 x y with ⟨g, e⟩ | ⟨g, e⟩ | ⟨g, e⟩ <;> rw [e] at h <;> first | exact g | (exfalso; revert h; decide)
theorem q_cp_eq {x y : Int64} (h : lg_cmp x y = 0) : x.toInt = y.toInt := by
  rcases q_cmp3 x y with ⟨g, e⟩ | ⟨g, e⟩ | ⟨g, e⟩ <;> rw [e] at h <;> first | exact g | (exfalso; revert h; decide)
theorem q_cn_eq {x y : Int64} (h : ¬ lg_cmp x y = 0) : x.toInt ≠ y.toInt := by
  rcases q_cmp3 x y with ⟨g, e⟩ | ⟨g, e⟩ | ⟨g, e⟩ <;> rw [e] at h <;> first | omega | (exfalso; revert h; decide)
theorem q_natI (z : Int32) : z.toInt = if z.toBitVec.toNat < 2147483648 then (z.toBitVec.toNat : Int) else (z.toBitVec.toNat : Int) - 4294967296 := by
  show z.toBitVec.toInt = _
  rw [BitVec.toInt_eq_toNat_cond]
  split <;> split <;> omega
theorem q_natJ (z : Int64) : z.toInt = if z.toBitVec.toNat < 9223372036854775808 then (z.toBitVec.toNat : Int) else (z.toBitVec.toNat : Int) - 18446744073709551616 := by
  show z.toBitVec.toInt = _
  rw [BitVec.toInt_eq_toNat_cond]
  split <;> split <;> omega
theorem q_posI {z : Int32} (h : 0 ≤ z.toInt) : z.toBitVec.toNat < 2147483648 ∧ z.toInt = (z.toBitVec.toNat : Int) := by
  have h1 := q_natI z
  have h2 := z.toBitVec.isLt
  split at h1 <;> omega
theorem q_posJ {z : Int64} (h : 0 ≤ z.toInt) : z.toBitVec.toNat < 9223372036854775808 ∧ z.toInt = (z.toBitVec.toNat : Int) := by
  have h1 := q_natJ z
  have h2 := z.toBitVec.isLt
  split at h1 <;> omega
theorem q_andRI {x y : Int32} (h : 0 ≤ y.toInt) : 0 ≤ (x &&& y).toInt ∧ (x &&& y).toInt ≤ y.toInt := by
  have h1 := q_posI h
  have h2 := q_natI (x &&& y)
  rw [Int32.toBitVec_and, BitVec.toNat_and] at h2
  have h3 : x.toBitVec.toNat &&& y.toBitVec.toNat ≤ y.toBitVec.toNat := Nat.and_le_right
  split at h2 <;> omega
theorem q_andRJ {x y : Int64} (h : 0 ≤ y.toInt) : 0 ≤ (x &&& y).toInt ∧ (x &&& y).toInt ≤ y.toInt := by
  have h1 := q_posJ h
  have h2 := q_natJ (x &&& y)
  rw [Int64.toBitVec_and, BitVec.toNat_and] at h2
  have h3 : x.toBitVec.toNat &&& y.toBitVec.toNat ≤ y.toBitVec.toNat := Nat.and_le_right
  split at h2 <;> omega
theorem q_andLI {x y : Int32} (h : 0 ≤ x.toInt) : 0 ≤ (x &&& y).toInt ∧ (x &&& y).toInt ≤ x.toInt := by
  have h1 := q_posI h
  have h2 := q_natI (x &&& y)
  rw [Int32.toBitVec_and, BitVec.toNat_and] at h2
  have h3 : x.toBitVec.toNat &&& y.toBitVec.toNat ≤ x.toBitVec.toNat := Nat.and_le_left
  split at h2 <;> omega
theorem q_andLJ {x y : Int64} (h : 0 ≤ x.toInt) : 0 ≤ (x &&& y).toInt ∧ (x &&& y).toInt ≤ x.toInt := by
  have h1 := q_posJ h
  have h2 := q_natJ (x &&& y)
  rw [Int64.toBitVec_and, BitVec.toNat_and] at h2
  have h3 : x.toBitVec.toNat &&& y.toBitVec.toNat ≤ x.toBitVec.toNat := Nat.and_le_left
  split at h2 <;> omega
theorem q_orI {x y : Int32} (c M9 : Nat) (hM : 2 ^ c = M9) (hm : M9 ≤ 2147483648) (hx : 0 ≤ x.toInt) (hx2 : x.toInt < M9) (hy : 0 ≤ y.toInt) (hy2 : y.toInt < M9) : 0 ≤ (x ||| y).toInt ∧ (x ||| y).toInt < M9 := by
  have h1 := q_posI hx
  have h2 := q_posI hy
  have h3 := q_natI (x ||| y)
  rw [Int32.toBitVec_or, BitVec.toNat_or] at h3
  have h4 : x.toBitVec.toNat ||| y.toBitVec.toNat < 2 ^ c := Nat.or_lt_two_pow (by omega) (by omega)
  split at h3 <;> omega
theorem q_orJ {x y : Int64} (c M9 : Nat) (hM : 2 ^ c = M9) (hm : M9 ≤ 9223372036854775808) (hx : 0 ≤ x.toInt) (hx2 : x.toInt < M9) (hy : 0 ≤ y.toInt) (hy2 : y.toInt < M9) : 0 ≤ (x ||| y).toInt ∧ (x ||| y).toInt < M9 := by
  have h1 := q_posJ hx
  have h2 := q_posJ hy
  have h3 := q_natJ (x ||| y)
  rw [Int64.toBitVec_or, BitVec.toNat_or] at h3
  have h4 : x.toBitVec.toNat ||| y.toBitVec.toNat < 2 ^ c := Nat.or_lt_two_pow (by omega) (by omega)
  split at h3 <;> omega
theorem q_shlI {x y : Int32} (c M9 : Nat) (hc : (y.toBitVec.smod 32).toNat = c) (hM : 2 ^ c = M9) (h0 : 0 ≤ x.toInt) (h1 : x.toInt * M9 ≤ 2147483647) : (x <<< y).toInt = x.toInt * M9 := by
  have h2 := q_posI h0
  have h3 := q_natI (x <<< y)
  rw [Int32.toBitVec_shiftLeft, BitVec.shiftLeft_eq', hc, BitVec.toNat_shiftLeft, Nat.shiftLeft_eq, hM] at h3
  rw [h2.2] at h1 ⊢
  have h4 : x.toBitVec.toNat * M9 ≤ 2147483647 := by
    rw [← Int.natCast_mul] at h1
    omega
  have h5 : x.toBitVec.toNat * M9 % 2 ^ 32 = x.toBitVec.toNat * M9 := Nat.mod_eq_of_lt (by omega)
  rw [h5] at h3
  rw [if_pos (by omega)] at h3
  rw [h3, Int.natCast_mul]
theorem q_shlJ {x y : Int64} (c M9 : Nat) (hc : (y.toBitVec.smod 64).toNat = c) (hM : 2 ^ c = M9) (h0 : 0 ≤ x.toInt) (h1 : x.toInt * M9 ≤ 9223372036854775807) : (x <<< y).toInt = x.toInt * M9 := by
  have h2 := q_posJ h0
  have h3 := q_natJ (x <<< y)
  rw [Int64.toBitVec_shiftLeft, BitVec.shiftLeft_eq', hc, BitVec.toNat_shiftLeft, Nat.shiftLeft_eq, hM] at h3
  rw [h2.2] at h1 ⊢
  have h4 : x.toBitVec.toNat * M9 ≤ 9223372036854775807 := by
    rw [← Int.natCast_mul] at h1
    omega
  have h5 : x.toBitVec.toNat * M9 % 2 ^ 64 = x.toBitVec.toNat * M9 := Nat.mod_eq_of_lt (by omega)
  rw [h5] at h3
  rw [if_pos (by omega)] at h3
  rw [h3, Int.natCast_mul]
theorem q_divI {x y : Int32} (c : Nat) (hc : y.toInt = c) (hp : 0 < c) (h0 : 0 ≤ x.toInt) : (x / y).toInt = x.toInt / c := by
  rw [Int32.toInt_div, hc, Int.tdiv_eq_ediv_of_nonneg h0]
  have h1 := (q_rngI x).2
  have h2 : 0 ≤ x.toInt / (c : Int) := Int.ediv_nonneg h0 (by omega)
  have h3 : x.toInt / (c : Int) ≤ x.toInt := Int.ediv_le_self _ h0
  exact q_bm (by omega) (by omega) rfl
theorem q_divJ {x y : Int64} (c : Nat) (hc : y.toInt = c) (hp : 0 < c) (h0 : 0 ≤ x.toInt) : (x / y).toInt = x.toInt / c := by
  rw [Int64.toInt_div, hc, Int.tdiv_eq_ediv_of_nonneg h0]
  have h1 := (q_rngJ x).2
  have h2 : 0 ≤ x.toInt / (c : Int) := Int.ediv_nonneg h0 (by omega)
  have h3 : x.toInt / (c : Int) ≤ x.toInt := Int.ediv_le_self _ h0
  exact q_bmJ (by omega) (by omega)
theorem s_J9_min_7cf53 (n : Nat) (S : q_S) (a b : Int32) : q_ok (m_J9_min_7cf53 n S a b) (fun r T => T = S ∧ (r.toInt = a.toInt ∨ r.toInt = b.toInt) ∧ r.toInt ≤ a.toInt ∧ r.toInt ≤ b.toInt) := by
  unfold m_J9_min_7cf53 m_J9_min_7cf53_10
  refine q_ok_ite (fun g => ?_) (fun g => ?_)
  · have g := q_p_lt g; exact q_ok_some ⟨rfl, by omega⟩
  · have g := q_n_lt g; exact q_ok_some ⟨rfl, by omega⟩
theorem s_J9_max_7cf53 (n : Nat) (S : q_S) (a b : Int32) : q_ok (m_J9_max_7cf53 n S a b) (fun r T => T = S ∧ (r.toInt = a.toInt ∨ r.toInt = b.toInt) ∧ a.toInt ≤ r.toInt ∧ b.toInt ≤ r.toInt) := by
  unfold m_J9_max_7cf53 m_J9_max_7cf53_10
  refine q_ok_ite (fun g => ?_) (fun g => ?_)
  · have g := q_p_lt g; exact q_ok_some ⟨rfl, by omega⟩
  · have g := q_n_lt g; exact q_ok_some ⟨rfl, by omega⟩
theorem s_J9_min_f86c9 (n : Nat) (S : q_S) (a b : Int64) : q_ok (m_J9_min_f86c9 n S a b) (fun r T => T = S ∧ (r.toInt = a.toInt ∨ r.toInt = b.toInt) ∧ r.toInt ≤ a.toInt ∧ r.toInt ≤ b.toInt) := by
  unfold m_J9_min_f86c9 m_J9_min_f86c9_11
  refine q_ok_ite (fun g => ?_) (fun g => ?_)
  · have g := q_cp_gt g; exact q_ok_some ⟨rfl, by omega⟩
  · have g := q_cn_gt g; exact q_ok_some ⟨rfl, by omega⟩
section QG
variable {ρ : Nat → Nat} {L m : List Nat} {S S0 : q_S} {a j r : Nat}
theorem q_E1_sI {x : Int32} (hG : q_G ρ L m S0 S) (ra : ρ a = r) (h1 : (r == 49) = false) (h2 : (r == 50) = false) : q_E1 ρ L (q_sI S a j x) := by
  refine ⟨hG.1.2.2.1, ?_⟩
  intro b c mb mc rb rc k
  have e1 : b ≠ a := fun e => by subst e; rw [ra] at rb; subst rb; cases h1
  have e2 : c ≠ a := fun e => by subst e; rw [ra] at rc; subst rc; cases h2
  show (q_u (q_I S) a j x b k).toInt + (q_u (q_I S) a j x c k).toInt ≤ 1600
  rw [q_u_ne _ _ _ e1, q_u_ne _ _ _ e2]
  exact hG.1.2.2.2 b c mb mc rb rc k
theorem q_one {b : Nat} (hG : q_G ρ L m S0 S) (ma : a ∈ L) (ra : ρ a = r) (mb : b ∈ L) (rb : ρ b = r) (h : q_sg r = true) : a = b := hG.1.2.2.1 a b ma mb (ra.trans rb.symm) (by rw [ra]; exact h)
theorem q_E1_len {x : Int32} {b : Nat} (hG : q_G ρ L m S0 S) (ma : a ∈ L) (ra : ρ a = 50) (mb : b ∈ L) (rb : ρ b = 49) (h : (q_I S b j).toInt + x.toInt ≤ 1600) : q_E1 ρ L (q_sI S a j x) := by
  refine ⟨hG.1.2.2.1, ?_⟩
  intro b2 c mb2 mc rb2 rc k
  have e1 : b2 ≠ a := fun e => by subst e; rw [ra] at rb2; cases rb2
  have e2 : c = a := q_one hG mc rc ma ra rfl
  have e3 : b2 = b := q_one hG mb2 rb2 mb rb rfl
  subst e2
  subst e3
  show (q_u (q_I S) c j x b2 k).toInt + (q_u (q_I S) c j x c k).toInt ≤ 1600
  rw [q_u_ne _ _ _ e1, q_u_at]
  by_cases e : k = j
  · subst e; rw [if_pos ⟨rfl, rfl⟩]; exact h
  · rw [if_neg (fun h9 => e h9.2)]; exact hG.1.2.2.2 b2 c mb2 mc rb2 rc k
theorem q_E1_st {x : Int32} {c : Nat} (hG : q_G ρ L m S0 S) (ma : a ∈ L) (ra : ρ a = 49) (mc : c ∈ L) (rc : ρ c = 50) (h : x.toInt + (q_I S c j).toInt ≤ 1600) : q_E1 ρ L (q_sI S a j x) := by
  refine ⟨hG.1.2.2.1, ?_⟩
  intro b c2 mb mc2 rb rc2 k
  have e1 : c2 ≠ a := fun e => by subst e; rw [ra] at rc2; cases rc2
  have e2 : b = a := q_one hG mb rb ma ra rfl
  have e3 : c2 = c := q_one hG mc2 rc2 mc rc rfl
  subst e2
  subst e3
  show (q_u (q_I S) b j x b k).toInt + (q_u (q_I S) b j x c2 k).toInt ≤ 1600
  rw [q_u_ne _ _ _ e1, q_u_at]
  by_cases e : k = j
  · subst e; rw [if_pos ⟨rfl, rfl⟩]; exact h
  · rw [if_neg (fun h9 => e h9.2)]; exact hG.1.2.2.2 b c2 mb mc2 rb rc2 k
theorem q_G_sI {x : Int32} (hG : q_G ρ L m S0 S) (ma : a ∈ L) (ra : ρ a = r) (hm : m.contains (q_ar r j) = true) (hE : q_E1 ρ L (q_sI S a j x)) (h : q_io ρ L (q_N S a) (va_up (q_I S a) j x) (q_J S a) (q_R S a) r) : q_G ρ L m S0 (q_sI S a j x) := by
  refine ⟨⟨hG.1.1, fun b mb => ⟨(hG.1.2.1 b mb).1, ?_⟩, hE⟩, fun b mb k hk => ?_⟩
  · by_cases e : b = a
    · subst e; rw [ra]
      show q_io ρ L (q_N S b) (q_u (q_I S) b j x b) (q_J S b) (q_R S b) r
      rw [q_u_same]; exact h
    · show q_io ρ L (q_N S b) (q_u (q_I S) a j x b) (q_J S b) (q_R S b) (ρ b)
      rw [q_u_ne _ _ _ e]; exact (hG.1.2.1 b mb).2
  · have h1 := hG.2 b mb k hk
    refine ⟨?_, h1.2⟩
    show q_u (q_I S) a j x b k = _
    rw [q_u_at]
    by_cases e : b = a ∧ k = j
    · obtain ⟨rfl, rfl⟩ := e
      rw [ra] at hk
      exact absurd (List.contains_iff_mem.mp hm) hk
    · rw [if_neg e]; exact h1.1
theorem q_G_sJ {x : Int64} (hG : q_G ρ L m S0 S) (ma : a ∈ L) (ra : ρ a = r) (hm : m.contains (q_ar r j) = true) (h : q_io ρ L (q_N S a) (q_I S a) (va_up (q_J S a) j x) (q_R S a) r) : q_G ρ L m S0 (q_sJ S a j x) := by
  refine ⟨⟨hG.1.1, fun b mb => ⟨(hG.1.2.1 b mb).1, ?_⟩, hG.1.2.2⟩, fun b mb k hk => ?_⟩
  · by_cases e : b = a
    · subst e; rw [ra]
      show q_io ρ L (q_N S b) (q_I S b) (q_u (q_J S) b j x b) (q_R S b) r
      rw [q_u_same]; exact h
    · show q_io ρ L (q_N S b) (q_I S b) (q_u (q_J S) a j x b) (q_R S b) (ρ b)
      rw [q_u_ne _ _ _ e]; exact (hG.1.2.1 b mb).2
  · have h1 := hG.2 b mb k hk
    refine ⟨h1.1, ?_, h1.2.2⟩
    show q_u (q_J S) a j x b k = _
    rw [q_u_at]
    by_cases e : b = a ∧ k = j
    · obtain ⟨rfl, rfl⟩ := e
      rw [ra] at hk
      exact absurd (List.contains_iff_mem.mp hm) hk
    · rw [if_neg e]; exact h1.2.1
theorem q_G_sR {x : Option Nat} (hG : q_G ρ L m S0 S) (ma : a ∈ L) (ra : ρ a = r) (hm : m.contains (q_ar r j) = true) (h : q_io ρ L (q_N S a) (q_I S a) (q_J S a) (va_up (q_R S a) j x) r) : q_G ρ L m S0 (q_sR S a j x) := by
  refine ⟨⟨hG.1.1, fun b mb => ⟨(hG.1.2.1 b mb).1, ?_⟩, hG.1.2.2⟩, fun b mb k hk => ?_⟩
  · by_cases e : b = a
    · subst e; rw [ra]
      show q_io ρ L (q_N S b) (q_I S b) (q_J S b) (q_u (q_R S) b j x b) r
      rw [q_u_same]; exact h
    · show q_io ρ L (q_N S b) (q_I S b) (q_J S b) (q_u (q_R S) a j x b) (ρ b)
      rw [q_u_ne _ _ _ e]; exact (hG.1.2.1 b mb).2
  · have h1 := hG.2 b mb k hk
    refine ⟨h1.1, h1.2.1, ?_⟩
    show q_u (q_R S) a j x b k = _
    rw [q_u_at]
    by_cases e : b = a ∧ k = j
    · obtain ⟨rfl, rfl⟩ := e
      rw [ra] at hk
      exact absurd (List.contains_iff_mem.mp hm) hk
    · rw [if_neg e]; exact h1.2.2
theorem g_0 (hG : q_G ρ L m S0 S) (ma : a ∈ L) (ra : ρ a = 0) : q_tr ρ L ((q_R S a) 0) 1 ∧ q_tr ρ L ((q_R S a) 1) 3 ∧ q_tr ρ L ((q_R S a) 2) 6 ∧ q_tr ρ L ((q_R S a) 3) 9 ∧ q_tr ρ L ((q_R S a) 4) 13 ∧ q_tr ρ L ((q_R S a) 5) 14 ∧ q_tr ρ L ((q_R S a) 6) 36 ∧ q_tr ρ L ((q_R S a) 7) 38 := by
  have h := (hG.1.2.1 a ma).2
  rw [ra] at h
  exact h
theorem g_0_R0 (hG : q_G ρ L m S0 S) (ma : a ∈ L) (ra : ρ a = 0) : q_tr ρ L ((q_R S a) 0) 1 := (g_0 hG ma ra).1
theorem g_0_R1 (hG : q_G ρ L m S0 S) (ma : a ∈ L) (ra : ρ a = 0) : q_tr ρ L ((q_R S a) 1) 3 := (g_0 hG ma ra).2.1
theorem g_0_R2 (hG : q_G ρ L m S0 S) (ma : a ∈ L) (ra : ρ a = 0) : q_tr ρ L ((q_R S a) 2) 6 := (g_0 hG ma ra).2.2.1
theorem g_0_R3 (hG : q_G ρ L m S0 S) (ma : a ∈ L) (ra : ρ a = 0) : q_tr ρ L ((q_R S a) 3) 9 := (g_0 hG ma ra).2.2.2.1
theorem g_0_R4 (hG : q_G ρ L m S0 S) (ma : a ∈ L) (ra : ρ a = 0) : q_tr ρ L ((q_R S a) 4) 13 := (g_0 hG ma ra).2.2.2.2.1
theorem g_0_R5 (hG : q_G ρ L m S0 S) (ma : a ∈ L) (ra : ρ a = 0) : q_tr ρ L ((q_R S a) 5) 14 := (g_0 hG ma ra).2.2.2.2.2.1
theorem g_0_R6 (hG : q_G ρ L m S0 S) (ma : a ∈ L) (ra : ρ a = 0) : q_tr ρ L ((q_R S a) 6) 36 := (g_0 hG ma ra).2.2.2.2.2.2.1
theorem g_0_R7 (hG : q_G ρ L m S0 S) (ma : a ∈ L) (ra : ρ a = 0) : q_tr ρ L ((q_R S a) 7) 38 := (g_0 hG ma ra).2.2.2.2.2.2.2
theorem g_1 (hG : q_G ρ L m S0 S) (ma : a ∈ L) (ra : ρ a = 1) : q_tr ρ L ((q_R S a) 0) 2 ∧ (0 ≤ ((q_I S a) 1).toInt ∧ ((q_I S a) 1).toInt ≤ 1600) := by
  have h := (hG.1.2.1 a ma).2
  rw [ra] at h
  exact h
theorem g_1_R0 (hG : q_G ρ L m S0 S) (ma : a ∈ L) (ra : ρ a = 1) : q_tr ρ L ((q_R S a) 0) 2 := (g_1 hG ma ra).1
theorem g_1_I1 (hG : q_G ρ L m S0 S) (ma : a ∈ L) (ra : ρ a = 1) : (0 ≤ ((q_I S a) 1).toInt ∧ ((q_I S a) 1).toInt ≤ 1600) := (g_1 hG ma ra).2
theorem u_1_I1 {x : Int32} (hG : q_G ρ L m S0 S) (ma : a ∈ L) (ra : ρ a = 1) (hm : m.contains (q_ar 1 1) = true) (hx : (0 ≤ x.toInt ∧ x.toInt ≤ 1600)) : q_G ρ L m S0 (q_sI S a 1 x) := q_G_sI hG ma ra hm (q_E1_sI hG ra rfl rfl) (⟨(g_1 hG ma ra).1, by show (0 ≤ ((va_up (q_I S a) 1 x) 1).toInt ∧ ((va_up (q_I S a) 1 x) 1).toInt ≤ 1600); rw [q_up_same]; exact hx⟩)
theorem g_2 (hG : q_G ρ L m S0 S) (ma : a ∈ L) (ra : ρ a = 2) : (q_N S a) = 1600 ∧ (∀ k, (0 ≤ ((q_I S a) k).toInt ∧ ((q_I S a) k).toInt ≤ 255)) := by
  have h := (hG.1.2.1 a ma).2
  rw [ra] at h
  exact h
theorem g_2_N (hG : q_G ρ L m S0 S) (ma : a ∈ L) (ra : ρ a = 2) : (q_N S a) = 1600 := (g_2 hG ma ra).1
theorem g_2_E (hG : q_G ρ L m S0 S) (ma : a ∈ L) (ra : ρ a = 2) {k : Nat} : (0 ≤ ((q_I S a) k).toInt ∧ ((q_I S a) k).toInt ≤ 255) := (g_2 hG ma ra).2 k
theorem u_2_E {k : Nat} {x : Int32} (hG : q_G ρ L m S0 S) (ma : a ∈ L) (ra : ρ a = 2) (hm : m.contains (q_ar 2 0) = true) (hx : (0 ≤ x.toInt ∧ x.toInt ≤ 255)) : q_G ρ L m S0 (q_sI S a k x) := q_G_sI hG ma ra hm (q_E1_sI hG ra rfl rfl) (⟨(g_2 hG ma ra).1, fun k9 => by
    by_cases e : k9 = k
    · subst e; rw [q_up_same]; exact hx
    · rw [q_up_ne _ _ e]; exact (g_2 hG ma ra).2 k9⟩)
theorem g_3 (hG : q_G ρ L m S0 S) (ma : a ∈ L) (ra : ρ a = 3) : q_tr ρ L ((q_R S a) 0) 4 ∧ q_tr ρ L ((q_R S a) 1) 5 ∧ (0 ≤ ((q_I S a) 2).toInt ∧ ((q_I S a) 2).toInt ≤ 100) := by
  have h := (hG.1.2.1 a ma).2
  rw [ra] at h
  exact h
theorem g_3_R0 (hG : q_G ρ L m S0 S) (ma : a ∈ L) (ra : ρ a = 3) : q_tr ρ L ((q_R S a) 0) 4 := (g_3 hG ma ra).1
theorem g_3_R1 (hG : q_G ρ L m S0 S) (ma : a ∈ L) (ra : ρ a = 3) : q_tr ρ L ((q_R S a) 1) 5 := (g_3 hG ma ra).2.1
theorem g_3_I2 (hG : q_G ρ L m S0 S) (ma : a ∈ L) (ra : ρ a = 3) : (0 ≤ ((q_I S a) 2).toInt ∧ ((q_I S a) 2).toInt ≤ 100) := (g_3 hG ma ra).2.2
theorem u_3_I2 {x : Int32} (hG : q_G ρ L m S0 S) (ma : a ∈ L) (ra : ρ a = 3) (hm : m.contains (q_ar 3 2) = true) (hx : (0 ≤ x.toInt ∧ x.toInt ≤ 100)) : q_G ρ L m S0 (q_sI S a 2 x) := q_G_sI hG ma ra hm (q_E1_sI hG ra rfl rfl) (⟨(g_3 hG ma ra).1, (g_3 hG ma ra).2.1, by show (0 ≤ ((va_up (q_I S a) 2 x) 2).toInt ∧ ((va_up (q_I S a) 2 x) 2).toInt ≤ 100); rw [q_up_same]; exact hx⟩)
theorem g_4 (hG : q_G ρ L m S0 S) (ma : a ∈ L) (ra : ρ a = 4) : (q_N S a) = 100 ∧ (∀ k, (0 ≤ ((q_I S a) k).toInt ∧ ((q_I S a) k).toInt ≤ 5)) := by
  have h := (hG.1.2.1 a ma).2
  rw [ra] at h
  exact h
theorem g_4_N (hG : q_G ρ L m S0 S) (ma : a ∈ L) (ra : ρ a = 4) : (q_N S a) = 100 := (g_4 hG ma ra).1
theorem g_4_E (hG : q_G ρ L m S0 S) (ma : a ∈ L) (ra : ρ a = 4) {k : Nat} : (0 ≤ ((q_I S a) k).toInt ∧ ((q_I S a) k).toInt ≤ 5) := (g_4 hG ma ra).2 k
theorem u_4_E {k : Nat} {x : Int32} (hG : q_G ρ L m S0 S) (ma : a ∈ L) (ra : ρ a = 4) (hm : m.contains (q_ar 4 0) = true) (hx : (0 ≤ x.toInt ∧ x.toInt ≤ 5)) : q_G ρ L m S0 (q_sI S a k x) := q_G_sI hG ma ra hm (q_E1_sI hG ra rfl rfl) (⟨(g_4 hG ma ra).1, fun k9 => by
    by_cases e : k9 = k
    · subst e; rw [q_up_same]; exact hx
    · rw [q_up_ne _ _ e]; exact (g_4 hG ma ra).2 k9⟩)
theorem g_5 (hG : q_G ρ L m S0 S) (ma : a ∈ L) (ra : ρ a = 5) : (q_N S a) = 100 ∧ (∀ k, (0 ≤ ((q_I S a) k).toInt ∧ ((q_I S a) k).toInt ≤ 65535)) := by
  have h := (hG.1.2.1 a ma).2
  rw [ra] at h
  exact h
theorem g_5_N (hG : q_G ρ L m S0 S) (ma : a ∈ L) (ra : ρ a = 5) : (q_N S a) = 100 := (g_5 hG ma ra).1
theorem g_5_E (hG : q_G ρ L m S0 S) (ma : a ∈ L) (ra : ρ a = 5) {k : Nat} : (0 ≤ ((q_I S a) k).toInt ∧ ((q_I S a) k).toInt ≤ 65535) := (g_5 hG ma ra).2 k
theorem u_5_E {k : Nat} {x : Int32} (hG : q_G ρ L m S0 S) (ma : a ∈ L) (ra : ρ a = 5) (hm : m.contains (q_ar 5 0) = true) (hx : (0 ≤ x.toInt ∧ x.toInt ≤ 65535)) : q_G ρ L m S0 (q_sI S a k x) := q_G_sI hG ma ra hm (q_E1_sI hG ra rfl rfl) (⟨(g_5 hG ma ra).1, fun k9 => by
    by_cases e : k9 = k
    · subst e; rw [q_up_same]; exact hx
    · rw [q_up_ne _ _ e]; exact (g_5 hG ma ra).2 k9⟩)
theorem g_6 (hG : q_G ρ L m S0 S) (ma : a ∈ L) (ra : ρ a = 6) : q_tr ρ L ((q_R S a) 0) 1 ∧ q_tr ρ L ((q_R S a) 1) 7 ∧ q_tr ρ L ((q_R S a) 2) 8 ∧ (-1 ≤ ((q_I S a) 3).toInt ∧ ((q_I S a) 3).toInt ≤ 24) := by
  have h := (hG.1.2.1 a ma).2
  rw [ra] at h
  exact h
theorem g_6_R0 (hG : q_G ρ L m S0 S) (ma : a ∈ L) (ra : ρ a = 6) : q_tr ρ L ((q_R S a) 0) 1 := (g_6 hG ma ra).1
theorem g_6_R1 (hG : q_G ρ L m S0 S) (ma : a ∈ L) (ra : ρ a = 6) : q_tr ρ L ((q_R S a) 1) 7 := (g_6 hG ma ra).2.1
theorem g_6_R2 (hG : q_G ρ L m S0 S) (ma : a ∈ L) (ra : ρ a = 6) : q_tr ρ L ((q_R S a) 2) 8 := (g_6 hG ma ra).2.2.1
theorem g_6_I3 (hG : q_G ρ L m S0 S) (ma : a ∈ L) (ra : ρ a = 6) : (-1 ≤ ((q_I S a) 3).toInt ∧ ((q_I S a) 3).toInt ≤ 24) := (g_6 hG ma ra).2.2.2
theorem u_6_I3 {x : Int32} (hG : q_G ρ L m S0 S) (ma : a ∈ L) (ra : ρ a = 6) (hm : m.contains (q_ar 6 3) = true) (hx : (-1 ≤ x.toInt ∧ x.toInt ≤ 24)) : q_G ρ L m S0 (q_sI S a 3 x) := q_G_sI hG ma ra hm (q_E1_sI hG ra rfl rfl) (⟨(g_6 hG ma ra).1, (g_6 hG ma ra).2.1, (g_6 hG ma ra).2.2.1, by show (-1 ≤ ((va_up (q_I S a) 3 x) 3).toInt ∧ ((va_up (q_I S a) 3 x) 3).toInt ≤ 24); rw [q_up_same]; exact hx⟩)
theorem g_7 (hG : q_G ρ L m S0 S) (ma : a ∈ L) (ra : ρ a = 7) : (q_N S a) = 24 ∧ (∀ k, k < 24 → q_tr ρ L ((q_R S a) k) 8) := by
  have h := (hG.1.2.1 a ma).2
  rw [ra] at h
  exact h
theorem g_7_N (hG : q_G ρ L m S0 S) (ma : a ∈ L) (ra : ρ a = 7) : (q_N S a) = 24 := (g_7 hG ma ra).1
theorem g_7_RE (hG : q_G ρ L m S0 S) (ma : a ∈ L) (ra : ρ a = 7) {k : Nat} (hk : k < 24) : q_tr ρ L (q_R S a k) 8 := (g_7 hG ma ra).2 k hk
theorem g_8 (hG : q_G ρ L m S0 S) (ma : a ∈ L) (ra : ρ a = 8) : q_tr ρ L ((q_R S a) 0) 1 ∧ (-1 ≤ ((q_J S a) 1).toInt ∧ ((q_J S a) 1).toInt ≤ 4294967295) ∧ (-1 ≤ ((q_J S a) 2).toInt ∧ ((q_J S a) 2).toInt ≤ 4294967295) ∧ (0 ≤ ((q_I S a) 3).toInt ∧ ((q_I S a) 3).toInt ≤ 1600) ∧ (0 ≤ ((q_I S a) 4).toInt ∧ ((q_I S a) 4).toInt ≤ 1600) := by
  have h := (hG.1.2.1 a ma).2
  rw [ra] at h
  exact h
theorem g_8_R0 (hG : q_G ρ L m S0 S) (ma : a ∈ L) (ra : ρ a = 8) : q_tr ρ L ((q_R S a) 0) 1 := (g_8 hG ma ra).1
theorem g_8_J1 (hG : q_G ρ L m S0 S) (ma : a ∈ L) (ra : ρ a = 8) : (-1 ≤ ((q_J S a) 1).toInt ∧ ((q_J S a) 1).toInt ≤ 4294967295) := (g_8 hG ma ra).2.1
theorem g_8_J2 (hG : q_G ρ L m S0 S) (ma : a ∈ L) (ra : ρ a = 8) : (-1 ≤ ((q_J S a) 2).toInt ∧ ((q_J S a) 2).toInt ≤ 4294967295) := (g_8 hG ma ra).2.2.1
theorem g_8_I3 (hG : q_G ρ L m S0 S) (ma : a ∈ L) (ra : ρ a = 8) : (0 ≤ ((q_I S a) 3).toInt ∧ ((q_I S a) 3).toInt ≤ 1600) := (g_8 hG ma ra).2.2.2.1
theorem g_8_I4 (hG : q_G ρ L m S0 S) (ma : a ∈ L) (ra : ρ a = 8) : (0 ≤ ((q_I S a) 4).toInt ∧ ((q_I S a) 4).toInt ≤ 1600) := (g_8 hG ma ra).2.2.2.2
theorem u_8_J1 {x : Int64} (hG : q_G ρ L m S0 S) (ma : a ∈ L) (ra : ρ a = 8) (hm : m.contains (q_ar 8 1) = true) (hx : (-1 ≤ x.toInt ∧ x.toInt ≤ 4294967295)) : q_G ρ L m S0 (q_sJ S a 1 x) := q_G_sJ hG ma ra hm (⟨(g_8 hG ma ra).1, by show (-1 ≤ ((va_up (q_J S a) 1 x) 1).toInt ∧ ((va_up (q_J S a) 1 x) 1).toInt ≤ 4294967295); rw [q_up_same]; exact hx, (g_8 hG ma ra).2.2.1, (g_8 hG ma ra).2.2.2.1, (g_8 hG ma ra).2.2.2.2⟩)
theorem u_8_J2 {x : Int64} (hG : q_G ρ L m S0 S) (ma : a ∈ L) (ra : ρ a = 8) (hm : m.contains (q_ar 8 2) = true) (hx : (-1 ≤ x.toInt ∧ x.toInt ≤ 4294967295)) : q_G ρ L m S0 (q_sJ S a 2 x) := q_G_sJ hG ma ra hm (⟨(g_8 hG ma ra).1, (g_8 hG ma ra).2.1, by show (-1 ≤ ((va_up (q_J S a) 2 x) 2).toInt ∧ ((va_up (q_J S a) 2 x) 2).toInt ≤ 4294967295); rw [q_up_same]; exact hx, (g_8 hG ma ra).2.2.2.1, (g_8 hG ma ra).2.2.2.2⟩)
theorem u_8_I3 {x : Int32} (hG : q_G ρ L m S0 S) (ma : a ∈ L) (ra : ρ a = 8) (hm : m.contains (q_ar 8 3) = true) (hx : (0 ≤ x.toInt ∧ x.toInt ≤ 1600)) : q_G ρ L m S0 (q_sI S a 3 x) := q_G_sI hG ma ra hm (q_E1_sI hG ra rfl rfl) (⟨(g_8 hG ma ra).1, (g_8 hG ma ra).2.1, (g_8 hG ma ra).2.2.1, by show (0 ≤ ((va_up (q_I S a) 3 x) 3).toInt ∧ ((va_up (q_I S a) 3 x) 3).toInt ≤ 1600); rw [q_up_same]; exact hx, (g_8 hG ma ra).2.2.2.2⟩)
theorem u_8_I4 {x : Int32} (hG : q_G ρ L m S0 S) (ma : a ∈ L) (ra : ρ a = 8) (hm : m.contains (q_ar 8 4) = true) (hx : (0 ≤ x.toInt ∧ x.toInt ≤ 1600)) : q_G ρ L m S0 (q_sI S a 4 x) := q_G_sI hG ma ra hm (q_E1_sI hG ra rfl rfl) (⟨(g_8 hG ma ra).1, (g_8 hG ma ra).2.1, (g_8 hG ma ra).2.2.1, (g_8 hG ma ra).2.2.2.1, by show (0 ≤ ((va_up (q_I S a) 4 x) 4).toInt ∧ ((va_up (q_I S a) 4 x) 4).toInt ≤ 1600); rw [q_up_same]; exact hx⟩)
theorem g_9 (hG : q_G ρ L m S0 S) (ma : a ∈ L) (ra : ρ a = 9) : q_tr ρ L ((q_R S a) 0) 6 ∧ q_tr ρ L ((q_R S a) 1) 12 ∧ q_tr ρ L ((q_R S a) 2) 10 ∧ q_tr ρ L ((q_R S a) 3) 11 ∧ (0 ≤ ((q_I S a) 4).toInt ∧ ((q_I S a) 4).toInt ≤ 200) ∧ (0 ≤ ((q_I S a) 5).toInt ∧ ((q_I S a) 5).toInt ≤ 200) ∧ (0 ≤ ((q_I S a) 6).toInt ∧ ((q_I S a) 6).toInt ≤ 1) ∧ (0 ≤ ((q_I S a) 7).toInt ∧ ((q_I S a) 7).toInt ≤ 1) ∧ q_tr ρ L ((q_R S a) 8) 8 ∧ q_tr ρ L ((q_R S a) 9) 8 := by
  have h := (hG.1.2.1 a ma).2
  rw [ra] at h
  exact h
theorem g_9_R0 (hG : q_G ρ L m S0 S) (ma : a ∈ L) (ra : ρ a = 9) : q_tr ρ L ((q_R S a) 0) 6 := (g_9 hG ma ra).1
theorem g_9_R1 (hG : q_G ρ L m S0 S) (ma : a ∈ L) (ra : ρ a = 9) : q_tr ρ L ((q_R S a) 1) 12 := (g_9 hG ma ra).2.1
theorem g_9_R2 (hG : q_G ρ L m S0 S) (ma : a ∈ L) (ra : ρ a = 9) : q_tr ρ L ((q_R S a) 2) 10 := (g_9 hG ma ra).2.2.1
theorem g_9_R3 (hG : q_G ρ L m S0 S) (ma : a ∈ L) (ra : ρ a = 9) : q_tr ρ L ((q_R S a) 3) 11 := (g_9 hG ma ra).2.2.2.1
theorem g_9_I4 (hG : q_G ρ L m S0 S) (ma : a ∈ L) (ra : ρ a = 9) : (0 ≤ ((q_I S a) 4).toInt ∧ ((q_I S a) 4).toInt ≤ 200) := (g_9 hG ma ra).2.2.2.2.1
theorem g_9_I5 (hG : q_G ρ L m S0 S) (ma : a ∈ L) (ra : ρ a = 9) : (0 ≤ ((q_I S a) 5).toInt ∧ ((q_I S a) 5).toInt ≤ 200) := (g_9 hG ma ra).2.2.2.2.2.1
theorem g_9_I6 (hG : q_G ρ L m S0 S) (ma : a ∈ L) (ra : ρ a = 9) : (0 ≤ ((q_I S a) 6).toInt ∧ ((q_I S a) 6).toInt ≤ 1) := (g_9 hG ma ra).2.2.2.2.2.2.1
theorem g_9_I7 (hG : q_G ρ L m S0 S) (ma : a ∈ L) (ra : ρ a = 9) : (0 ≤ ((q_I S a) 7).toInt ∧ ((q_I S a) 7).toInt ≤ 1) := (g_9 hG ma ra).2.2.2.2.2.2.2.1
theorem g_9_R8 (hG : q_G ρ L m S0 S) (ma : a ∈ L) (ra : ρ a = 9) : q_tr ρ L ((q_R S a) 8) 8 := (g_9 hG ma ra).2.2.2.2.2.2.2.2.1
theorem g_9_R9 (hG : q_G ρ L m S0 S) (ma : a ∈ L) (ra : ρ a = 9) : q_tr ρ L ((q_R S a) 9) 8 := (g_9 hG ma ra).2.2.2.2.2.2.2.2.2
theorem u_9_I4 {x : Int32} (hG : q_G ρ L m S0 S) (ma : a ∈ L) (ra : ρ a = 9) (hm : m.contains (q_ar 9 4) = true) (hx : (0 ≤ x.toInt ∧ x.toInt ≤ 200)) : q_G ρ L m S0 (q_sI S a 4 x) := q_G_sI hG ma ra hm (q_E1_sI hG ra rfl rfl) (⟨(g_9 hG ma ra).1, (g_9 hG ma ra).2.1, (g_9 hG ma ra).2.2.1, (g_9 hG ma ra).2.2.2.1, by show (0 ≤ ((va_up (q_I S a) 4 x) 4).toInt ∧ ((va_up (q_I S a) 4 x) 4).toInt ≤ 200); rw [q_up_same]; exact hx, (g_9 hG ma ra).2.2.2.2.2.1, (g_9 hG ma ra).2.2.2.2.2.2.1, (g_9 hG ma ra).2.2.2.2.2.2.2.1, (g_9 hG ma ra).2.2.2.2.2.2.2.2.1, (g_9 hG ma ra).2.2.2.2.2.2.2.2.2⟩)
theorem u_9_I5 {x : Int32} (hG : q_G ρ L m S0 S) (ma : a ∈ L) (ra : ρ a = 9) (hm : m.contains (q_ar 9 5) = true) (hx : (0 ≤ x.toInt ∧ x.toInt ≤ 200)) : q_G ρ L m S0 (q_sI S a 5 x) := q_G_sI hG ma ra hm (q_E1_sI hG ra rfl rfl) (⟨(g_9 hG ma ra).1, (g_9 hG ma ra).2.1, (g_9 hG ma ra).2.2.1, (g_9 hG ma ra).2.2.2.1, (g_9 hG ma ra).2.2.2.2.1, by show (0 ≤ ((va_up (q_I S a) 5 x) 5).toInt ∧ ((va_up (q_I S a) 5 x) 5).toInt ≤ 200); rw [q_up_same]; exact hx, (g_9 hG ma ra).2.2.2.2.2.2.1, (g_9 hG ma ra).2.2.2.2.2.2.2.1, (g_9 hG ma ra).2.2.2.2.2.2.2.2.1, (g_9 hG ma ra).2.2.2.2.2.2.2.2.2⟩)
theorem u_9_I6 {x : Int32} (hG : q_G ρ L m S0 S) (ma : a ∈ L) (ra : ρ a = 9) (hm : m.contains (q_ar 9 6) = true) (hx : (0 ≤ x.toInt ∧ x.toInt ≤ 1)) : q_G ρ L m S0 (q_sI S a 6 x) := q_G_sI hG ma ra hm (q_E1_sI hG ra rfl rfl) (⟨(g_9 hG ma ra).1, (g_9 hG ma ra).2.1, (g_9 hG ma ra).2.2.1, (g_9 hG ma ra).2.2.2.1, (g_9 hG ma ra).2.2.2.2.1, (g_9 hG ma ra).2.2.2.2.2.1, by show (0 ≤ ((va_up (q_I S a) 6 x) 6).toInt ∧ ((va_up (q_I S a) 6 x) 6).toInt ≤ 1); rw [q_up_same]; exact hx, (g_9 hG ma ra).2.2.2.2.2.2.2.1, (g_9 hG ma ra).2.2.2.2.2.2.2.2.1, (g_9 hG ma ra).2.2.2.2.2.2.2.2.2⟩)
theorem u_9_I7 {x : Int32} (hG : q_G ρ L m S0 S) (ma : a ∈ L) (ra : ρ a = 9) (hm : m.contains (q_ar 9 7) = true) (hx : (0 ≤ x.toInt ∧ x.toInt ≤ 1)) : q_G ρ L m S0 (q_sI S a 7 x) := q_G_sI hG ma ra hm (q_E1_sI hG ra rfl rfl) (⟨(g_9 hG ma ra).1, (g_9 hG ma ra).2.1, (g_9 hG ma ra).2.2.1, (g_9 hG ma ra).2.2.2.1, (g_9 hG ma ra).2.2.2.2.1, (g_9 hG ma ra).2.2.2.2.2.1, (g_9 hG ma ra).2.2.2.2.2.2.1, by show (0 ≤ ((va_up (q_I S a) 7 x) 7).toInt ∧ ((va_up (q_I S a) 7 x) 7).toInt ≤ 1); rw [q_up_same]; exact hx, (g_9 hG ma ra).2.2.2.2.2.2.2.2.1, (g_9 hG ma ra).2.2.2.2.2.2.2.2.2⟩)
theorem u_9_R8 {x : Option Nat} (hG : q_G ρ L m S0 S) (ma : a ∈ L) (ra : ρ a = 9) (hm : m.contains (q_ar 9 8) = true) (hx : q_tr ρ L x 8) : q_G ρ L m S0 (q_sR S a 8 x) := q_G_sR hG ma ra hm (⟨(g_9 hG ma ra).1, (g_9 hG ma ra).2.1, (g_9 hG ma ra).2.2.1, (g_9 hG ma ra).2.2.2.1, (g_9 hG ma ra).2.2.2.2.1, (g_9 hG ma ra).2.2.2.2.2.1, (g_9 hG ma ra).2.2.2.2.2.2.1, (g_9 hG ma ra).2.2.2.2.2.2.2.1, by show q_tr ρ L ((va_up (q_R S a) 8 x) 8) 8; rw [q_up_same]; exact hx, (g_9 hG ma ra).2.2.2.2.2.2.2.2.2⟩)
theorem u_9_R9 {x : Option Nat} (hG : q_G ρ L m S0 S) (ma : a ∈ L) (ra : ρ a = 9) (hm : m.contains (q_ar 9 9) = true) (hx : q_tr ρ L x 8) : q_G ρ L m S0 (q_sR S a 9 x) := q_G_sR hG ma ra hm (⟨(g_9 hG ma ra).1, (g_9 hG ma ra).2.1, (g_9 hG ma ra).2.2.1, (g_9 hG ma ra).2.2.2.1, (g_9 hG ma ra).2.2.2.2.1, (g_9 hG ma ra).2.2.2.2.2.1, (g_9 hG ma ra).2.2.2.2.2.2.1, (g_9 hG ma ra).2.2.2.2.2.2.2.1, (g_9 hG ma ra).2.2.2.2.2.2.2.2.1, by show q_tr ρ L ((va_up (q_R S a) 9 x) 9) 8; rw [q_up_same]; exact hx⟩)
theorem g_10 (hG : q_G ρ L m S0 S) (ma : a ∈ L) (ra : ρ a = 10) : (q_N S a) = 200 ∧ (∀ k, (0 ≤ ((q_I S a) k).toInt ∧ ((q_I S a) k).toInt ≤ 1)) := by
  have h := (hG.1.2.1 a ma).2
  rw [ra] at h
  exact h
theorem g_10_N (hG : q_G ρ L m S0 S) (ma : a ∈ L) (ra : ρ a = 10) : (q_N S a) = 200 := (g_10 hG ma ra).1
theorem g_10_E (hG : q_G ρ L m S0 S) (ma : a ∈ L) (ra : ρ a = 10) {k : Nat} : (0 ≤ ((q_I S a) k).toInt ∧ ((q_I S a) k).toInt ≤ 1) := (g_10 hG ma ra).2 k
theorem u_10_E {k : Nat} {x : Int32} (hG : q_G ρ L m S0 S) (ma : a ∈ L) (ra : ρ a = 10) (hm : m.contains (q_ar 10 0) = true) (hx : (0 ≤ x.toInt ∧ x.toInt ≤ 1)) : q_G ρ L m S0 (q_sI S a k x) := q_G_sI hG ma ra hm (q_E1_sI hG ra rfl rfl) (⟨(g_10 hG ma ra).1, fun k9 => by
    by_cases e : k9 = k
    · subst e; rw [q_up_same]; exact hx
    · rw [q_up_ne _ _ e]; exact (g_10 hG ma ra).2 k9⟩)
theorem g_11 (hG : q_G ρ L m S0 S) (ma : a ∈ L) (ra : ρ a = 11) : (q_N S a) = 200 ∧ (∀ k, (0 ≤ ((q_I S a) k).toInt ∧ ((q_I S a) k).toInt ≤ 199)) := by
  have h := (hG.1.2.1 a ma).2
  rw [ra] at h
  exact h
theorem g_11_N (hG : q_G ρ L m S0 S) (ma : a ∈ L) (ra : ρ a = 11) : (q_N S a) = 200 := (g_11 hG ma ra).1
theorem g_11_E (hG : q_G ρ L m S0 S) (ma : a ∈ L) (ra : ρ a = 11) {k : Nat} : (0 ≤ ((q_I S a) k).toInt ∧ ((q_I S a) k).toInt ≤ 199) := (g_11 hG ma ra).2 k
theorem u_11_E {k : Nat} {x : Int32} (hG : q_G ρ L m S0 S) (ma : a ∈ L) (ra : ρ a = 11) (hm : m.contains (q_ar 11 0) = true) (hx : (0 ≤ x.toInt ∧ x.toInt ≤ 199)) : q_G ρ L m S0 (q_sI S a k x) := q_G_sI hG ma ra hm (q_E1_sI hG ra rfl rfl) (⟨(g_11 hG ma ra).1, fun k9 => by
    by_cases e : k9 = k
    · subst e; rw [q_up_same]; exact hx
    · rw [q_up_ne _ _ e]; exact (g_11 hG ma ra).2 k9⟩)
theorem g_12 (hG : q_G ρ L m S0 S) (ma : a ∈ L) (ra : ρ a = 12) : q_tr ρ L ((q_R S a) 0) 1 ∧ (0 ≤ ((q_I S a) 1).toInt ∧ ((q_I S a) 1).toInt ≤ 1) ∧ (0 ≤ ((q_I S a) 2).toInt ∧ ((q_I S a) 2).toInt ≤ 1) ∧ (-281474976710656 ≤ ((q_J S a) 3).toInt ∧ ((q_J S a) 3).toInt ≤ 281474976710656) ∧ (0 ≤ ((q_J S a) 4).toInt ∧ ((q_J S a) 4).toInt ≤ 65535) ∧ (-32768 ≤ ((q_I S a) 5).toInt ∧ ((q_I S a) 5).toInt ≤ 32767) ∧ (0 ≤ ((q_I S a) 6).toInt ∧ ((q_I S a) 6).toInt ≤ 65535) ∧ (0 ≤ ((q_I S a) 7).toInt ∧ ((q_I S a) 7).toInt ≤ 65535) ∧ (-32768 ≤ ((q_I S a) 8).toInt ∧ ((q_I S a) 8).toInt ≤ 65535) ∧ (-32768 ≤ ((q_I S a) 9).toInt ∧ ((q_I S a) 9).toInt ≤ 65535) ∧ (-32768 ≤ ((q_I S a) 10).toInt ∧ ((q_I S a) 10).toInt ≤ 32767) ∧ (-32768 ≤ ((q_I S a) 11).toInt ∧ ((q_I S a) 11).toInt ≤ 32767) ∧ (-32768 ≤ ((q_I S a) 12).toInt ∧ ((q_I S a) 12).toInt ≤ 32767) ∧ (-32768 ≤ ((q_I S a) 13).toInt ∧ ((q_I S a) 13).toInt ≤ 32767) := by
  have h := (hG.1.2.1 a ma).2
  rw [ra] at h
  exact h
theorem g_12_R0 (hG : q_G ρ L m S0 S) (ma : a ∈ L) (ra : ρ a = 12) : q_tr ρ L ((q_R S a) 0) 1 := (g_12 hG ma ra).1
theorem g_12_I1 (hG : q_G ρ L m S0 S) (ma : a ∈ L) (ra : ρ a = 12) : (0 ≤ ((q_I S a) 1).toInt ∧ ((q_I S a) 1).toInt ≤ 1) := (g_12 hG ma ra).2.1
theorem g_12_I2 (hG : q_G ρ L m S0 S) (ma : a ∈ L) (ra : ρ a = 12) : (0 ≤ ((q_I S a) 2).toInt ∧ ((q_I S a) 2).toInt ≤ 1) := (g_12 hG ma ra).2.2.1
theorem g_12_J3 (hG : q_G ρ L m S0 S) (ma : a ∈ L) (ra : ρ a = 12) : (-281474976710656 ≤ ((q_J S a) 3).toInt ∧ ((q_J S a) 3).toInt ≤ 281474976710656) := (g_12 hG ma ra).2.2.2.1
theorem g_12_J4 (hG : q_G ρ L m S0 S) (ma : a ∈ L) (ra : ρ a = 12) : (0 ≤ ((q_J S a) 4).toInt ∧ ((q_J S a) 4).toInt ≤ 65535) := (g_12 hG ma ra).2.2.2.2.1
theorem g_12_I5 (hG : q_G ρ L m S0 S) (ma : a ∈ L) (ra : ρ a = 12) : (-32768 ≤ ((q_I S a) 5).toInt ∧ ((q_I S a) 5).toInt ≤ 32767) := (g_12 hG ma ra).2.2.2.2.2.1
theorem g_12_I6 (hG : q_G ρ L m S0 S) (ma : a ∈ L) (ra : ρ a = 12) : (0 ≤ ((q_I S a) 6).toInt ∧ ((q_I S a) 6).toInt ≤ 65535) := (g_12 hG ma ra).2.2.2.2.2.2.1
theorem g_12_I7 (hG : q_G ρ L m S0 S) (ma : a ∈ L) (ra : ρ a = 12) : (0 ≤ ((q_I S a) 7).toInt ∧ ((q_I S a) 7).toInt ≤ 65535) := (g_12 hG ma ra).2.2.2.2.2.2.2.1
theorem g_12_I8 (hG : q_G ρ L m S0 S) (ma : a ∈ L) (ra : ρ a = 12) : (-32768 ≤ ((q_I S a) 8).toInt ∧ ((q_I S a) 8).toInt ≤ 65535) := (g_12 hG ma ra).2.2.2.2.2.2.2.2.1
theorem g_12_I9 (hG : q_G ρ L m S0 S) (ma : a ∈ L) (ra : ρ a = 12) : (-32768 ≤ ((q_I S a) 9).toInt ∧ ((q_I S a) 9).toInt ≤ 65535) := (g_12 hG ma ra).2.2.2.2.2.2.2.2.2.1
theorem g_12_I10 (hG : q_G ρ L m S0 S) (ma : a ∈ L) (ra : ρ a = 12) : (-32768 ≤ ((q_I S a) 10).toInt ∧ ((q_I S a) 10).toInt ≤ 32767) := (g_12 hG ma ra).2.2.2.2.2.2.2.2.2.2.1
theorem g_12_I11 (hG : q_G ρ L m S0 S) (ma : a ∈ L) (ra : ρ a = 12) : (-32768 ≤ ((q_I S a) 11).toInt ∧ ((q_I S a) 11).toInt ≤ 32767) := (g_12 hG ma ra).2.2.2.2.2.2.2.2.2.2.2.1
theorem g_12_I12 (hG : q_G ρ L m S0 S) (ma : a ∈ L) (ra : ρ a = 12) : (-32768 ≤ ((q_I S a) 12).toInt ∧ ((q_I S a) 12).toInt ≤ 32767) := (g_12 hG ma ra).2.2.2.2.2.2.2.2.2.2.2.2.1
theorem g_12_I13 (hG : q_G ρ L m S0 S) (ma : a ∈ L) (ra : ρ a = 12) : (-32768 ≤ ((q_I S a) 13).toInt ∧ ((q_I S a) 13).toInt ≤ 32767) := (g_12 hG ma ra).2.2.2.2.2.2.2.2.2.2.2.2.2
theorem u_12_I1 {x : Int32} (hG : q_G ρ L m S0 S) (ma : a ∈ L) (ra : ρ a = 12) (hm : m.contains (q_ar 12 1) = true) (hx : (0 ≤ x.toInt ∧ x.toInt ≤ 1)) : q_G ρ L m S0 (q_sI S a 1 x) := q_G_sI hG ma ra hm (q_E1_sI hG ra rfl rfl) (⟨(g_12 hG ma ra).1, by show (0 ≤ ((va_up (q_I S a) 1 x) 1).toInt ∧ ((va_up (q_I S a) 1 x) 1).toInt ≤ 1); rw [q_up_same]; exact hx, (g_12 hG ma ra).2.2.1, (g_12 hG ma ra).2.2.2.1, (g_12 hG ma ra).2.2.2.2.1, (g_12 hG ma ra).2.2.2.2.2.1, (g_12 hG ma ra).2.2.2.2.2.2.1, (g_12 hG ma ra).2.2.2.2.2.2.2.1, (g_12 hG ma ra).2.2.2.2.2.2.2.2.1, (g_12 hG ma ra).2.2.2.2.2.2.2.2.2.1, (g_12 hG ma ra).2.2.2.2.2.2.2.2.2.2.1, (g_12 hG ma ra).2.2.2.2.2.2.2.2.2.2.2.1, (g_12 hG ma ra).2.2.2.2.2.2.2.2.2.2.2.2.1, (g_12 hG ma ra).2.2.2.2.2.2.2.2.2.2.2.2.2⟩)
theorem u_12_I2 {x : Int32} (hG : q_G ρ L m S0 S) (ma : a ∈ L) (ra : ρ a = 12) (hm : m.contains (q_ar 12 2) = true) (hx : (0 ≤ x.toInt ∧ x.toInt ≤ 1)) : q_G ρ L m S0 (q_sI S a 2 x) := q_G_sI hG ma ra hm (q_E1_sI hG ra rfl rfl) (⟨(g_12 hG ma ra).1, (g_12 hG ma ra).2.1, by show (0 ≤ ((va_up (q_I S a) 2 x) 2).toInt ∧ ((va_up (q_I S a) 2 x) 2).toInt ≤ 1); rw [q_up_same]; exact hx, (g_12 hG ma ra).2.2.2.1, (g_12 hG ma ra).2.2.2.2.1, (g_12 hG ma ra).2.2.2.2.2.1, (g_12 hG ma ra).2.2.2.2.2.2.1, (g_12 hG ma ra).2.2.2.2.2.2.2.1, (g_12 hG ma ra).2.2.2.2.2.2.2.2.1, (g_12 hG ma ra).2.2.2.2.2.2.2.2.2.1, (g_12 hG ma ra).2.2.2.2.2.2.2.2.2.2.1, (g_12 hG ma ra).2.2.2.2.2.2.2.2.2.2.2.1, (g_12 hG ma ra).2.2.2.2.2.2.2.2.2.2.2.2.1, (g_12 hG ma ra).2.2.2.2.2.2.2.2.2.2.2.2.2⟩)
theorem u_12_J3 {x : Int64} (hG : q_G ρ L m S0 S) (ma : a ∈ L) (ra : ρ a = 12) (hm : m.contains (q_ar 12 3) = true) (hx : (-281474976710656 ≤ x.toInt ∧ x.toInt ≤ 281474976710656)) : q_G ρ L m S0 (q_sJ S a 3 x) := q_G_sJ hG ma ra hm (⟨(g_12 hG ma ra).1, (g_12 hG ma ra).2.1, (g_12 hG ma ra).2.2.1, by show (-281474976710656 ≤ ((va_up (q_J S a) 3 x) 3).toInt ∧ ((va_up (q_J S a) 3 x) 3).toInt ≤ 281474976710656); rw [q_up_same]; exact hx, (g_12 hG ma ra).2.2.2.2.1, (g_12 hG ma ra).2.2.2.2.2.1, (g_12 hG ma ra).2.2.2.2.2.2.1, (g_12 hG ma ra).2.2.2.2.2.2.2.1, (g_12 hG ma ra).2.2.2.2.2.2.2.2.1, (g_12 hG ma ra).2.2.2.2.2.2.2.2.2.1, (g_12 hG ma ra).2.2.2.2.2.2.2.2.2.2.1, (g_12 hG ma ra).2.2.2.2.2.2.2.2.2.2.2.1, (g_12 hG ma ra).2.2.2.2.2.2.2.2.2.2.2.2.1, (g_12 hG ma ra).2.2.2.2.2.2.2.2.2.2.2.2.2⟩)
theorem u_12_J4 {x : Int64} (hG : q_G ρ L m S0 S) (ma : a ∈ L) (ra : ρ a = 12) (hm : m.contains (q_ar 12 4) = true) (hx : (0 ≤ x.toInt ∧ x.toInt ≤ 65535)) : q_G ρ L m S0 (q_sJ S a 4 x) := q_G_sJ hG ma ra hm (⟨(g_12 hG ma ra).1, (g_12 hG ma ra).2.1, (g_12 hG ma ra).2.2.1, (g_12 hG ma ra).2.2.2.1, by show (0 ≤ ((va_up (q_J S a) 4 x) 4).toInt ∧ ((va_up (q_J S a) 4 x) 4).toInt ≤ 65535); rw [q_up_same]; exact hx, (g_12 hG ma ra).2.2.2.2.2.1, (g_12 hG ma ra).2.2.2.2.2.2.1, (g_12 hG ma ra).2.2.2.2.2.2.2.1, (g_12 hG ma ra).2.2.2.2.2.2.2.2.1, (g_12 hG ma ra).2.2.2.2.2.2.2.2.2.1, (g_12 hG ma ra).2.2.2.2.2.2.2.2.2.2.1, (g_12 hG ma ra).2.2.2.2.2.2.2.2.2.2.2.1, (g_12 hG ma ra).2.2.2.2.2.2.2.2.2.2.2.2.1, (g_12 hG ma ra).2.2.2.2.2.2.2.2.2.2.2.2.2⟩)
theorem u_12_I5 {x : Int32} (hG : q_G ρ L m S0 S) (ma : a ∈ L) (ra : ρ a = 12) (hm : m.contains (q_ar 12 5) = true) (hx : (-32768 ≤ x.toInt ∧ x.toInt ≤ 32767)) : q_G ρ L m S0 (q_sI S a 5 x) := q_G_sI hG ma ra hm (q_E1_sI hG ra rfl rfl) (⟨(g_12 hG ma ra).1, (g_12 hG ma ra).2.1, (g_12 hG ma ra).2.2.1, (g_12 hG ma ra).2.2.2.1, (g_12 hG ma ra).2.2.2.2.1, by show (-32768 ≤ ((va_up (q_I S a) 5 x) 5).toInt ∧ ((va_up (q_I S a) 5 x) 5).toInt ≤ 32767); rw [q_up_same]; exact hx, (g_12 hG ma ra).2.2.2.2.2.2.1, (g_12 hG ma ra).2.2.2.2.2.2.2.1, (g_12 hG ma ra).2.2.2.2.2.2.2.2.1, (g_12 hG ma ra).2.2.2.2.2.2.2.2.2.1, (g_12 hG ma ra).2.2.2.2.2.2.2.2.2.2.1, (g_12 hG ma ra).2.2.2.2.2.2.2.2.2.2.2.1, (g_12 hG ma ra).2.2.2.2.2.2.2.2.2.2.2.2.1, (g_12 hG ma ra).2.2.2.2.2.2.2.2.2.2.2.2.2⟩)
theorem u_12_I6 {x : Int32} (hG : q_G ρ L m S0 S) (ma : a ∈ L) (ra : ρ a = 12) (hm : m.contains (q_ar 12 6) = true) (hx : (0 ≤ x.toInt ∧ x.toInt ≤ 65535)) : q_G ρ L m S0 (q_sI S a 6 x) := q_G_sI hG ma ra hm (q_E1_sI hG ra rfl rfl) (⟨(g_12 hG ma ra).1, (g_12 hG ma ra).2.1, (g_12 hG ma ra).2.2.1, (g_12 hG ma ra).2.2.2.1, (g_12 hG ma ra).2.2.2.2.1, (g_12 hG ma ra).2.2.2.2.2.1, by show (0 ≤ ((va_up (q_I S a) 6 x) 6).toInt ∧ ((va_up (q_I S a) 6 x) 6).toInt ≤ 65535); rw [q_up_same]; exact hx, (g_12 hG ma ra).2.2.2.2.2.2.2.1, (g_12 hG ma ra).2.2.2.2.2.2.2.2.1, (g_12 hG ma ra).2.2.2.2.2.2.2.2.2.1, (g_12 hG ma ra).2.2.2.2.2.2.2.2.2.2.1, (g_12 hG ma ra).2.2.2.2.2.2.2.2.2.2.2.1, (g_12 hG ma ra).2.2.2.2.2.2.2.2.2.2.2.2.1, (g_12 hG ma ra).2.2.2.2.2.2.2.2.2.2.2.2.2⟩)
theorem u_12_I7 {x : Int32} (hG : q_G ρ L m S0 S) (ma : a ∈ L) (ra : ρ a = 12) (hm : m.contains (q_ar 12 7) = true) (hx : (0 ≤ x.toInt ∧ x.toInt ≤ 65535)) : q_G ρ L m S0 (q_sI S a 7 x) := q_G_sI hG ma ra hm (q_E1_sI hG ra rfl rfl) (⟨(g_12 hG ma ra).1, (g_12 hG ma ra).2.1, (g_12 hG ma ra).2.2.1, (g_12 hG ma ra).2.2.2.1, (g_12 hG ma ra).2.2.2.2.1, (g_12 hG ma ra).2.2.2.2.2.1, (g_12 hG ma ra).2.2.2.2.2.2.1, by show (0 ≤ ((va_up (q_I S a) 7 x) 7).toInt ∧ ((va_up (q_I S a) 7 x) 7).toInt ≤ 65535); rw [q_up_same]; exact hx, (g_12 hG ma ra).2.2.2.2.2.2.2.2.1, (g_12 hG ma ra).2.2.2.2.2.2.2.2.2.1, (g_12 hG ma ra).2.2.2.2.2.2.2.2.2.2.1, (g_12 hG ma ra).2.2.2.2.2.2.2.2.2.2.2.1, (g_12 hG ma ra).2.2.2.2.2.2.2.2.2.2.2.2.1, (g_12 hG ma ra).2.2.2.2.2.2.2.2.2.2.2.2.2⟩)
theorem u_12_I8 {x : Int32} (hG : q_G ρ L m S0 S) (ma : a ∈ L) (ra : ρ a = 12) (hm : m.contains (q_ar 12 8) = true) (hx : (-32768 ≤ x.toInt ∧ x.toInt ≤ 65535)) : q_G ρ L m S0 (q_sI S a 8 x) := q_G_sI hG ma ra hm (q_E1_sI hG ra rfl rfl) (⟨(g_12 hG ma ra).1, (g_12 hG ma ra).2.1, (g_12 hG ma ra).2.2.1, (g_12 hG ma ra).2.2.2.1, (g_12 hG ma ra).2.2.2.2.1, (g_12 hG ma ra).2.2.2.2.2.1, (g_12 hG ma ra).2.2.2.2.2.2.1, (g_12 hG ma ra).2.2.2.2.2.2.2.1, by show (-32768 ≤ ((va_up (q_I S a) 8 x) 8).toInt ∧ ((va_up (q_I S a) 8 x) 8).toInt ≤ 65535); rw [q_up_same]; exact hx, (g_12 hG ma ra).2.2.2.2.2.2.2.2.2.1, (g_12 hG ma ra).2.2.2.2.2.2.2.2.2.2.1, (g_12 hG ma ra).2.2.2.2.2.2.2.2.2.2.2.1, (g_12 hG ma ra).2.2.2.2.2.2.2.2.2.2.2.2.1, (g_12 hG ma ra).2.2.2.2.2.2.2.2.2.2.2.2.2⟩)
theorem u_12_I9 {x : Int32} (hG : q_G ρ L m S0 S) (ma : a ∈ L) (ra : ρ a = 12) (hm : m.contains (q_ar 12 9) = true) (hx : (-32768 ≤ x.toInt ∧ x.toInt ≤ 65535)) : q_G ρ L m S0 (q_sI S a 9 x) := q_G_sI hG ma ra hm (q_E1_sI hG ra rfl rfl) (⟨(g_12 hG ma ra).1, (g_12 hG ma ra).2.1, (g_12 hG ma ra).2.2.1, (g_12 hG ma ra).2.2.2.1, (g_12 hG ma ra).2.2.2.2.1, (g_12 hG ma ra).2.2.2.2.2.1, (g_12 hG ma ra).2.2.2.2.2.2.1, (g_12 hG ma ra).2.2.2.2.2.2.2.1, (g_12 hG ma ra).2.2.2.2.2.2.2.2.1, by show (-32768 ≤ ((va_up (q_I S a) 9 x) 9).toInt ∧ ((va_up (q_I S a) 9 x) 9).toInt ≤ 65535); rw [q_up_same]; exact hx, (g_12 hG ma ra).2.2.2.2.2.2.2.2.2.2.1, (g_12 hG ma ra).2.2.2.2.2.2.2.2.2.2.2.1, (g_12 hG ma ra).2.2.2.2.2.2.2.2.2.2.2.2.1, (g_12 hG ma ra).2.2.2.2.2.2.2.2.2.2.2.2.2⟩)
theorem u_12_I10 {x : Int32} (hG : q_G ρ L m S0 S) (ma : a ∈ L) (ra : ρ a = 12) (hm : m.contains (q_ar 12 10) = true) (hx : (-32768 ≤ x.toInt ∧ x.toInt ≤ 32767)) : q_G ρ L m S0 (q_sI S a 10 x) := q_G_sI hG ma ra hm (q_E1_sI hG ra rfl rfl) (⟨(g_12 hG ma ra).1, (g_12 hG ma ra).2.1, (g_12 hG ma ra).2.2.1, (g_12 hG ma ra).2.2.2.1, (g_12 hG ma ra).2.2.2.2.1, (g_12 hG ma ra).2.2.2.2.2.1, (g_12 hG ma ra).2.2.2.2.2.2.1, (g_12 hG ma ra).2.2.2.2.2.2.2.1, (g_12 hG ma ra).2.2.2.2.2.2.2.2.1, (g_12 hG ma ra).2.2.2.2.2.2.2.2.2.1, by show (-32768 ≤ ((va_up (q_I S a) 10 x) 10).toInt ∧ ((va_up (q_I S a) 10 x) 10).toInt ≤ 32767); rw [q_up_same]; exact hx, (g_12 hG ma ra).2.2.2.2.2.2.2.2.2.2.2.1, (g_12 hG ma ra).2.2.2.2.2.2.2.2.2.2.2.2.1, (g_12 hG ma ra).2.2.2.2.2.2.2.2.2.2.2.2.2⟩)
theorem u_12_I11 {x : Int32} (hG : q_G ρ L m S0 S) (ma : a ∈ L) (ra : ρ a = 12) (hm : m.contains (q_ar 12 11) = true) (hx : (-32768 ≤ x.toInt ∧ x.toInt ≤ 32767)) : q_G ρ L m S0 (q_sI S a 11 x) := q_G_sI hG ma ra hm (q_E1_sI hG ra rfl rfl) (⟨(g_12 hG ma ra).1, (g_12 hG ma ra).2.1, (g_12 hG ma ra).2.2.1, (g_12 hG ma ra).2.2.2.1, (g_12 hG ma ra).2.2.2.2.1, (g_12 hG ma ra).2.2.2.2.2.1, (g_12 hG ma ra).2.2.2.2.2.2.1, (g_12 hG ma ra).2.2.2.2.2.2.2.1, (g_12 hG ma ra).2.2.2.2.2.2.2.2.1, (g_12 hG ma ra).2.2.2.2.2.2.2.2.2.1, (g_12 hG ma ra).2.2.2.2.2.2.2.2.2.2.1, by show (-32768 ≤ ((va_up (q_I S a) 11 x) 11).toInt ∧ ((va_up (q_I S a) 11 x) 11).toInt ≤ 32767); rw [q_up_same]; exact hx, (g_12 hG ma ra).2.2.2.2.2.2.2.2.2.2.2.2.1, (g_12 hG ma ra).2.2.2.2.2.2.2.2.2.2.2.2.2⟩)
theorem u_12_I12 {x : Int32} (hG : q_G ρ L m S0 S) (ma : a ∈ L) (ra : ρ a = 12) (hm : m.contains (q_ar 12 12) = true) (hx : (-32768 ≤ x.toInt ∧ x.toInt ≤ 32767)) : q_G ρ L m S0 (q_sI S a 12 x) := q_G_sI hG ma ra hm (q_E1_sI hG ra rfl rfl) (⟨(g_12 hG ma ra).1, (g_12 hG ma ra).2.1, (g_12 hG ma ra).2.2.1, (g_12 hG ma ra).2.2.2.1, (g_12 hG ma ra).2.2.2.2.1, (g_12 hG ma ra).2.2.2.2.2.1, (g_12 hG ma ra).2.2.2.2.2.2.1, (g_12 hG ma ra).2.2.2.2.2.2.2.1, (g_12 hG ma ra).2.2.2.2.2.2.2.2.1, (g_12 hG ma ra).2.2.2.2.2.2.2.2.2.1, (g_12 hG ma ra).2.2.2.2.2.2.2.2.2.2.1, (g_12 hG ma ra).2.2.2.2.2.2.2.2.2.2.2.1, by show (-32768 ≤ ((va_up (q_I S a) 12 x) 12).toInt ∧ ((va_up (q_I S a) 12 x) 12).toInt ≤ 32767); rw [q_up_same]; exact hx, (g_12 hG ma ra).2.2.2.2.2.2.2.2.2.2.2.2.2⟩)
theorem u_12_I13 {x : Int32} (hG : q_G ρ L m S0 S) (ma : a ∈ L) (ra : ρ a = 12) (hm : m.contains (q_ar 12 13) = true) (hx : (-32768 ≤ x.toInt ∧ x.toInt ≤ 32767)) : q_G ρ L m S0 (q_sI S a 13 x) := q_G_sI hG ma ra hm (q_E1_sI hG ra rfl rfl) (⟨(g_12 hG ma ra).1, (g_12 hG ma ra).2.1, (g_12 hG ma ra).2.2.1, (g_12 hG ma ra).2.2.2.1, (g_12 hG ma ra).2.2.2.2.1, (g_12 hG ma ra).2.2.2.2.2.1, (g_12 hG ma ra).2.2.2.2.2.2.1, (g_12 hG ma ra).2.2.2.2.2.2.2.1, (g_12 hG ma ra).2.2.2.2.2.2.2.2.1, (g_12 hG ma ra).2.2.2.2.2.2.2.2.2.1, (g_12 hG ma ra).2.2.2.2.2.2.2.2.2.2.1, (g_12 hG ma ra).2.2.2.2.2.2.2.2.2.2.2.1, (g_12 hG ma ra).2.2.2.2.2.2.2.2.2.2.2.2.1, by show (-32768 ≤ ((va_up (q_I S a) 13 x) 13).toInt ∧ ((va_up (q_I S a) 13 x) 13).toInt ≤ 32767); rw [q_up_same]; exact hx⟩)
theorem g_13 (hG : q_G ρ L m S0 S) (ma : a ∈ L) (ra : ρ a = 13) : q_tr ρ L ((q_R S a) 0) 6 ∧ q_tr ρ L ((q_R S a) 1) 8 ∧ (-1 ≤ ((q_J S a) 2).toInt ∧ ((q_J S a) 2).toInt ≤ 4294967295) := by
  have h := (hG.1.2.1 a ma).2
  rw [ra] at h
  exact h
theorem g_13_R0 (hG : q_G ρ L m S0 S) (ma : a ∈ L) (ra : ρ a = 13) : q_tr ρ L ((q_R S a) 0) 6 := (g_13 hG ma ra).1
theorem g_13_R1 (hG : q_G ρ L m S0 S) (ma : a ∈ L) (ra : ρ a = 13) : q_tr ρ L ((q_R S a) 1) 8 := (g_13 hG ma ra).2.1
theorem g_13_J2 (hG : q_G ρ L m S0 S) (ma : a ∈ L) (ra : ρ a = 13) : (-1 ≤ ((q_J S a) 2).toInt ∧ ((q_J S a) 2).toInt ≤ 4294967295) := (g_13 hG ma ra).2.2
theorem u_13_R1 {x : Option Nat} (hG : q_G ρ L m S0 S) (ma : a ∈ L) (ra : ρ a = 13) (hm : m.contains (q_ar 13 1) = true) (hx : q_tr ρ L x 8) : q_G ρ L m S0 (q_sR S a 1 x) := q_G_sR hG ma ra hm (⟨(g_13 hG ma ra).1, by show q_tr ρ L ((va_up (q_R S a) 1 x) 1) 8; rw [q_up_same]; exact hx, (g_13 hG ma ra).2.2⟩)
theorem u_13_J2 {x : Int64} (hG : q_G ρ L m S0 S) (ma : a ∈ L) (ra : ρ a = 13) (hm : m.contains (q_ar 13 2) = true) (hx : (-1 ≤ x.toInt ∧ x.toInt ≤ 4294967295)) : q_G ρ L m S0 (q_sJ S a 2 x) := q_G_sJ hG ma ra hm (⟨(g_13 hG ma ra).1, (g_13 hG ma ra).2.1, by show (-1 ≤ ((va_up (q_J S a) 2 x) 2).toInt ∧ ((va_up (q_J S a) 2 x) 2).toInt ≤ 4294967295); rw [q_up_same]; exact hx⟩)
theorem g_14 (hG : q_G ρ L m S0 S) (ma : a ∈ L) (ra : ρ a = 14) : q_tr ρ L ((q_R S a) 0) 9 ∧ q_tr ρ L ((q_R S a) 1) 3 ∧ q_tr ρ L ((q_R S a) 2) 15 ∧ q_tr ρ L ((q_R S a) 3) 20 ∧ q_tr ρ L ((q_R S a) 4) 25 ∧ q_tr ρ L ((q_R S a) 5) 26 ∧ q_tr ρ L ((q_R S a) 6) 27 ∧ q_tr ρ L ((q_R S a) 7) 28 ∧ q_tr ρ L ((q_R S a) 8) 29 := by
  have h := (hG.1.2.1 a ma).2
  rw [ra] at h
  exact h
theorem g_14_R0 (hG : q_G ρ L m S0 S) (ma : a ∈ L) (ra : ρ a = 14) : q_tr ρ L ((q_R S a) 0) 9 := (g_14 hG ma ra).1
theorem g_14_R1 (hG : q_G ρ L m S0 S) (ma : a ∈ L) (ra : ρ a = 14) : q_tr ρ L ((q_R S a) 1) 3 := (g_14 hG ma ra).2.1
theorem g_14_R2 (hG : q_G ρ L m S0 S) (ma : a ∈ L) (ra : ρ a = 14) : q_tr ρ L ((q_R S a) 2) 15 := (g_14 hG ma ra).2.2.1
theorem g_14_R3 (hG : q_G ρ L m S0 S) (ma : a ∈ L) (ra : ρ a = 14) : q_tr ρ L ((q_R S a) 3) 20 := (g_14 hG ma ra).2.2.2.1
theorem g_14_R4 (hG : q_G ρ L m S0 S) (ma : a ∈ L) (ra : ρ a = 14) : q_tr ρ L ((q_R S a) 4) 25 := (g_14 hG ma ra).2.2.2.2.1
theorem g_14_R5 (hG : q_G ρ L m S0 S) (ma : a ∈ L) (ra : ρ a = 14) : q_tr ρ L ((q_R S a) 5) 26 := (g_14 hG ma ra).2.2.2.2.2.1
theorem g_14_R6 (hG : q_G ρ L m S0 S) (ma : a ∈ L) (ra : ρ a = 14) : q_tr ρ L ((q_R S a) 6) 27 := (g_14 hG ma ra).2.2.2.2.2.2.1
theorem g_14_R7 (hG : q_G ρ L m S0 S) (ma : a ∈ L) (ra : ρ a = 14) : q_tr ρ L ((q_R S a) 7) 28 := (g_14 hG ma ra).2.2.2.2.2.2.2.1
theorem g_14_R8 (hG : q_G ρ L m S0 S) (ma : a ∈ L) (ra : ρ a = 14) : q_tr ρ L ((q_R S a) 8) 29 := (g_14 hG ma ra).2.2.2.2.2.2.2.2
theorem u_14_I9 {x : Int32} (hG : q_G ρ L m S0 S) (ma : a ∈ L) (ra : ρ a = 14) (hm : m.contains (q_ar 14 9) = true) : q_G ρ L m S0 (q_sI S a 9 x) := q_G_sI hG ma ra hm (q_E1_sI hG ra rfl rfl) (⟨(g_14 hG ma ra).1, (g_14 hG ma ra).2.1, (g_14 hG ma ra).2.2.1, (g_14 hG ma ra).2.2.2.1, (g_14 hG ma ra).2.2.2.2.1, (g_14 hG ma ra).2.2.2.2.2.1, (g_14 hG ma ra).2.2.2.2.2.2.1, (g_14 hG ma ra).2.2.2.2.2.2.2.1, (g_14 hG ma ra).2.2.2.2.2.2.2.2⟩)
theorem g_15 (hG : q_G ρ L m S0 S) (ma : a ∈ L) (ra : ρ a = 15) : q_tr ρ L ((q_R S a) 0) 16 ∧ q_tr ρ L ((q_R S a) 1) 17 ∧ q_tr ρ L ((q_R S a) 2) 18 ∧ q_tr ρ L ((q_R S a) 3) 19 ∧ (0 ≤ ((q_I S a) 4).toInt ∧ ((q_I S a) 4).toInt ≤ 120) ∧ (0 ≤ ((q_I S a) 5).toInt ∧ ((q_I S a) 5).toInt ≤ 120) := by
  have h := (hG.1.2.1 a ma).2
  rw [ra] at h
  exact h
theorem g_15_R0 (hG : q_G ρ L m S0 S) (ma : a ∈ L) (ra : ρ a = 15) : q_tr ρ L ((q_R S a) 0) 16 := (g_15 hG ma ra).1
theorem g_15_R1 (hG : q_G ρ L m S0 S) (ma : a ∈ L) (ra : ρ a = 15) : q_tr ρ L ((q_R S a) 1) 17 := (g_15 hG ma ra).2.1
theorem g_15_R2 (hG : q_G ρ L m S0 S) (ma : a ∈ L) (ra : ρ a = 15) : q_tr ρ L ((q_R S a) 2) 18 := (g_15 hG ma ra).2.2.1
theorem g_15_R3 (hG : q_G ρ L m S0 S) (ma : a ∈ L) (ra : ρ a = 15) : q_tr ρ L ((q_R S a) 3) 19 := (g_15 hG ma ra).2.2.2.1
theorem g_15_I4 (hG : q_G ρ L m S0 S) (ma : a ∈ L) (ra : ρ a = 15) : (0 ≤ ((q_I S a) 4).toInt ∧ ((q_I S a) 4).toInt ≤ 120) := (g_15 hG ma ra).2.2.2.2.1
theorem g_15_I5 (hG : q_G ρ L m S0 S) (ma : a ∈ L) (ra : ρ a = 15) : (0 ≤ ((q_I S a) 5).toInt ∧ ((q_I S a) 5).toInt ≤ 120) := (g_15 hG ma ra).2.2.2.2.2
theorem u_15_I4 {x : Int32} (hG : q_G ρ L m S0 S) (ma : a ∈ L) (ra : ρ a = 15) (hm : m.contains (q_ar 15 4) = true) (hx : (0 ≤ x.toInt ∧ x.toInt ≤ 120)) : q_G ρ L m S0 (q_sI S a 4 x) := q_G_sI hG ma ra hm (q_E1_sI hG ra rfl rfl) (⟨(g_15 hG ma ra).1, (g_15 hG ma ra).2.1, (g_15 hG ma ra).2.2.1, (g_15 hG ma ra).2.2.2.1, by show (0 ≤ ((va_up (q_I S a) 4 x) 4).toInt ∧ ((va_up (q_I S a) 4 x) 4).toInt ≤ 120); rw [q_up_same]; exact hx, (g_15 hG ma ra).2.2.2.2.2⟩)
theorem u_15_I5 {x : Int32} (hG : q_G ρ L m S0 S) (ma : a ∈ L) (ra : ρ a = 15) (hm : m.contains (q_ar 15 5) = true) (hx : (0 ≤ x.toInt ∧ x.toInt ≤ 120)) : q_G ρ L m S0 (q_sI S a 5 x) := q_G_sI hG ma ra hm (q_E1_sI hG ra rfl rfl) (⟨(g_15 hG ma ra).1, (g_15 hG ma ra).2.1, (g_15 hG ma ra).2.2.1, (g_15 hG ma ra).2.2.2.1, (g_15 hG ma ra).2.2.2.2.1, by show (0 ≤ ((va_up (q_I S a) 5 x) 5).toInt ∧ ((va_up (q_I S a) 5 x) 5).toInt ≤ 120); rw [q_up_same]; exact hx⟩)
theorem g_16 (hG : q_G ρ L m S0 S) (ma : a ∈ L) (ra : ρ a = 16) : (q_N S a) = 120 := by
  have h := (hG.1.2.1 a ma).2
  rw [ra] at h
  exact h
theorem g_16_N (hG : q_G ρ L m S0 S) (ma : a ∈ L) (ra : ρ a = 16) : (q_N S a) = 120 := (g_16 hG ma ra)
theorem u_16_E {k : Nat} {x : Int32} (hG : q_G ρ L m S0 S) (ma : a ∈ L) (ra : ρ a = 16) (hm : m.contains (q_ar 16 0) = true) : q_G ρ L m S0 (q_sI S a k x) := q_G_sI hG ma ra hm (q_E1_sI hG ra rfl rfl) ((g_16 hG ma ra))
theorem g_17 (hG : q_G ρ L m S0 S) (ma : a ∈ L) (ra : ρ a = 17) : (q_N S a) = 120 := by
  have h := (hG.1.2.1 a ma).2
  rw [ra] at h
  exact h
theorem g_17_N (hG : q_G ρ L m S0 S) (ma : a ∈ L) (ra : ρ a = 17) : (q_N S a) = 120 := (g_17 hG ma ra)
theorem u_17_E {k : Nat} {x : Int32} (hG : q_G ρ L m S0 S) (ma : a ∈ L) (ra : ρ a = 17) (hm : m.contains (q_ar 17 0) = true) : q_G ρ L m S0 (q_sI S a k x) := q_G_sI hG ma ra hm (q_E1_sI hG ra rfl rfl) ((g_17 hG ma ra))
theorem g_18 (hG : q_G ρ L m S0 S) (ma : a ∈ L) (ra : ρ a = 18) : (q_N S a) = 120 ∧ (∀ k, (0 ≤ ((q_I S a) k).toInt ∧ ((q_I S a) k).toInt ≤ 65535)) := by
  have h := (hG.1.2.1 a ma).2
  rw [ra] at h
  exact h
theorem g_18_N (hG : q_G ρ L m S0 S) (ma : a ∈ L) (ra : ρ a = 18) : (q_N S a) = 120 := (g_18 hG ma ra).1
theorem g_18_E (hG : q_G ρ L m S0 S) (ma : a ∈ L) (ra : ρ a = 18) {k : Nat} : (0 ≤ ((q_I S a) k).toInt ∧ ((q_I S a) k).toInt ≤ 65535) := (g_18 hG ma ra).2 k
theorem u_18_E {k : Nat} {x : Int32} (hG : q_G ρ L m S0 S) (ma : a ∈ L) (ra : ρ a = 18) (hm : m.contains (q_ar 18 0) = true) (hx : (0 ≤ x.toInt ∧ x.toInt ≤ 65535)) : q_G ρ L m S0 (q_sI S a k x) := q_G_sI hG ma ra hm (q_E1_sI hG ra rfl rfl) (⟨(g_18 hG ma ra).1, fun k9 => by
    by_cases e : k9 = k
    · subst e; rw [q_up_same]; exact hx
    · rw [q_up_ne _ _ e]; exact (g_18 hG ma ra).2 k9⟩)
theorem g_19 (hG : q_G ρ L m S0 S) (ma : a ∈ L) (ra : ρ a = 19) : (q_N S a) = 120 ∧ (∀ k, (0 ≤ ((q_I S a) k).toInt ∧ ((q_I S a) k).toInt ≤ 119)) := by
  have h := (hG.1.2.1 a ma).2
  rw [ra] at h
  exact h
theorem g_19_N (hG : q_G ρ L m S0 S) (ma : a ∈ L) (ra : ρ a = 19) : (q_N S a) = 120 := (g_19 hG ma ra).1
theorem g_19_E (hG : q_G ρ L m S0 S) (ma : a ∈ L) (ra : ρ a = 19) {k : Nat} : (0 ≤ ((q_I S a) k).toInt ∧ ((q_I S a) k).toInt ≤ 119) := (g_19 hG ma ra).2 k
theorem u_19_E {k : Nat} {x : Int32} (hG : q_G ρ L m S0 S) (ma : a ∈ L) (ra : ρ a = 19) (hm : m.contains (q_ar 19 0) = true) (hx : (0 ≤ x.toInt ∧ x.toInt ≤ 119)) : q_G ρ L m S0 (q_sI S a k x) := q_G_sI hG ma ra hm (q_E1_sI hG ra rfl rfl) (⟨(g_19 hG ma ra).1, fun k9 => by
    by_cases e : k9 = k
    · subst e; rw [q_up_same]; exact hx
    · rw [q_up_ne _ _ e]; exact (g_19 hG ma ra).2 k9⟩)
theorem g_20 (hG : q_G ρ L m S0 S) (ma : a ∈ L) (ra : ρ a = 20) : q_tr ρ L ((q_R S a) 0) 21 ∧ q_tr ρ L ((q_R S a) 1) 22 ∧ q_tr ρ L ((q_R S a) 2) 23 ∧ q_tr ρ L ((q_R S a) 3) 24 ∧ (0 ≤ ((q_I S a) 4).toInt ∧ ((q_I S a) 4).toInt ≤ 120) ∧ (0 ≤ ((q_I S a) 5).toInt ∧ ((q_I S a) 5).toInt ≤ 120) := by
  have h := (hG.1.2.1 a ma).2
  rw [ra] at h
  exact h
theorem g_20_R0 (hG : q_G ρ L m S0 S) (ma : a ∈ L) (ra : ρ a = 20) : q_tr ρ L ((q_R S a) 0) 21 := (g_20 hG ma ra).1
theorem g_20_R1 (hG : q_G ρ L m S0 S) (ma : a ∈ L) (ra : ρ a = 20) : q_tr ρ L ((q_R S a) 1) 22 := (g_20 hG ma ra).2.1
theorem g_20_R2 (hG : q_G ρ L m S0 S) (ma : a ∈ L) (ra : ρ a = 20) : q_tr ρ L ((q_R S a) 2) 23 := (g_20 hG ma ra).2.2.1
theorem g_20_R3 (hG : q_G ρ L m S0 S) (ma : a ∈ L) (ra : ρ a = 20) : q_tr ρ L ((q_R S a) 3) 24 := (g_20 hG ma ra).2.2.2.1
theorem g_20_I4 (hG : q_G ρ L m S0 S) (ma : a ∈ L) (ra : ρ a = 20) : (0 ≤ ((q_I S a) 4).toInt ∧ ((q_I S a) 4).toInt ≤ 120) := (g_20 hG ma ra).2.2.2.2.1
theorem g_20_I5 (hG : q_G ρ L m S0 S) (ma : a ∈ L) (ra : ρ a = 20) : (0 ≤ ((q_I S a) 5).toInt ∧ ((q_I S a) 5).toInt ≤ 120) := (g_20 hG ma ra).2.2.2.2.2
theorem u_20_I4 {x : Int32} (hG : q_G ρ L m S0 S) (ma : a ∈ L) (ra : ρ a = 20) (hm : m.contains (q_ar 20 4) = true) (hx : (0 ≤ x.toInt ∧ x.toInt ≤ 120)) : q_G ρ L m S0 (q_sI S a 4 x) := q_G_sI hG ma ra hm (q_E1_sI hG ra rfl rfl) (⟨(g_20 hG ma ra).1, (g_20 hG ma ra).2.1, (g_20 hG ma ra).2.2.1, (g_20 hG ma ra).2.2.2.1, by show (0 ≤ ((va_up (q_I S a) 4 x) 4).toInt ∧ ((va_up (q_I S a) 4 x) 4).toInt ≤ 120); rw [q_up_same]; exact hx, (g_20 hG ma ra).2.2.2.2.2⟩)
theorem u_20_I5 {x : Int32} (hG : q_G ρ L m S0 S) (ma : a ∈ L) (ra : ρ a = 20) (hm : m.contains (q_ar 20 5) = true) (hx : (0 ≤ x.toInt ∧ x.toInt ≤ 120)) : q_G ρ L m S0 (q_sI S a 5 x) := q_G_sI hG ma ra hm (q_E1_sI hG ra rfl rfl) (⟨(g_20 hG ma ra).1, (g_20 hG ma ra).2.1, (g_20 hG ma ra).2.2.1, (g_20 hG ma ra).2.2.2.1, (g_20 hG ma ra).2.2.2.2.1, by show (0 ≤ ((va_up (q_I S a) 5 x) 5).toInt ∧ ((va_up (q_I S a) 5 x) 5).toInt ≤ 120); rw [q_up_same]; exact hx⟩)
theorem g_21 (hG : q_G ρ L m S0 S) (ma : a ∈ L) (ra : ρ a = 21) : (q_N S a) = 120 := by
  have h := (hG.1.2.1 a ma).2
  rw [ra] at h
  exact h
theorem g_21_N (hG : q_G ρ L m S0 S) (ma : a ∈ L) (ra : ρ a = 21) : (q_N S a) = 120 := (g_21 hG ma ra)
theorem u_21_E {k : Nat} {x : Int32} (hG : q_G ρ L m S0 S) (ma : a ∈ L) (ra : ρ a = 21) (hm : m.contains (q_ar 21 0) = true) : q_G ρ L m S0 (q_sI S a k x) := q_G_sI hG ma ra hm (q_E1_sI hG ra rfl rfl) ((g_21 hG ma ra))
theorem g_22 (hG : q_G ρ L m S0 S) (ma : a ∈ L) (ra : ρ a = 22) : (q_N S a) = 120 := by
  have h := (hG.1.2.1 a ma).2
  rw [ra] at h
  exact h
theorem g_22_N (hG : q_G ρ L m S0 S) (ma : a ∈ L) (ra : ρ a = 22) : (q_N S a) = 120 := (g_22 hG ma ra)
theorem u_22_E {k : Nat} {x : Int32} (hG : q_G ρ L m S0 S) (ma : a ∈ L) (ra : ρ a = 22) (hm : m.contains (q_ar 22 0) = true) : q_G ρ L m S0 (q_sI S a k x) := q_G_sI hG ma ra hm (q_E1_sI hG ra rfl rfl) ((g_22 hG ma ra))
theorem g_23 (hG : q_G ρ L m S0 S) (ma : a ∈ L) (ra : ρ a = 23) : (q_N S a) = 120 ∧ (∀ k, (0 ≤ ((q_I S a) k).toInt ∧ ((q_I S a) k).toInt ≤ 65535)) := by
  have h := (hG.1.2.1 a ma).2
  rw [ra] at h
  exact h
theorem g_23_N (hG : q_G ρ L m S0 S) (ma : a ∈ L) (ra : ρ a = 23) : (q_N S a) = 120 := (g_23 hG ma ra).1
theorem g_23_E (hG : q_G ρ L m S0 S) (ma : a ∈ L) (ra : ρ a = 23) {k : Nat} : (0 ≤ ((q_I S a) k).toInt ∧ ((q_I S a) k).toInt ≤ 65535) := (g_23 hG ma ra).2 k
theorem u_23_E {k : Nat} {x : Int32} (hG : q_G ρ L m S0 S) (ma : a ∈ L) (ra : ρ a = 23) (hm : m.contains (q_ar 23 0) = true) (hx : (0 ≤ x.toInt ∧ x.toInt ≤ 65535)) : q_G ρ L m S0 (q_sI S a k x) := q_G_sI hG ma ra hm (q_E1_sI hG ra rfl rfl) (⟨(g_23 hG ma ra).1, fun k9 => by
    by_cases e : k9 = k
    · subst e; rw [q_up_same]; exact hx
    · rw [q_up_ne _ _ e]; exact (g_23 hG ma ra).2 k9⟩)
theorem g_24 (hG : q_G ρ L m S0 S) (ma : a ∈ L) (ra : ρ a = 24) : (q_N S a) = 120 ∧ (∀ k, (0 ≤ ((q_I S a) k).toInt ∧ ((q_I S a) k).toInt ≤ 119)) := by
  have h := (hG.1.2.1 a ma).2
  rw [ra] at h
  exact h
theorem g_24_N (hG : q_G ρ L m S0 S) (ma : a ∈ L) (ra : ρ a = 24) : (q_N S a) = 120 := (g_24 hG ma ra).1
theorem g_24_E (hG : q_G ρ L m S0 S) (ma : a ∈ L) (ra : ρ a = 24) {k : Nat} : (0 ≤ ((q_I S a) k).toInt ∧ ((q_I S a) k).toInt ≤ 119) := (g_24 hG ma ra).2 k
theorem u_24_E {k : Nat} {x : Int32} (hG : q_G ρ L m S0 S) (ma : a ∈ L) (ra : ρ a = 24) (hm : m.contains (q_ar 24 0) = true) (hx : (0 ≤ x.toInt ∧ x.toInt ≤ 119)) : q_G ρ L m S0 (q_sI S a k x) := q_G_sI hG ma ra hm (q_E1_sI hG ra rfl rfl) (⟨(g_24 hG ma ra).1, fun k9 => by
    by_cases e : k9 = k
    · subst e; rw [q_up_same]; exact hx
    · rw [q_up_ne _ _ e]; exact (g_24 hG ma ra).2 k9⟩)
theorem g_25 (hG : q_G ρ L m S0 S) (ma : a ∈ L) (ra : ρ a = 25) : (q_N S a) = 6 ∧ q_tr ρ L ((q_R S a) 0) 30 ∧ q_tr ρ L ((q_R S a) 1) 31 ∧ q_tr ρ L ((q_R S a) 2) 32 ∧ q_tr ρ L ((q_R S a) 3) 33 ∧ q_tr ρ L ((q_R S a) 4) 34 ∧ q_tr ρ L ((q_R S a) 5) 35 := by
  have h := (hG.1.2.1 a ma).2
  rw [ra] at h
  exact h
theorem g_25_N (hG : q_G ρ L m S0 S) (ma : a ∈ L) (ra : ρ a = 25) : (q_N S a) = 6 := (g_25 hG ma ra).1
theorem g_25_RK0 (hG : q_G ρ L m S0 S) (ma : a ∈ L) (ra : ρ a = 25) {k : Nat} (hk : k = 0) : q_tr ρ L (q_R S a k) 30 := by subst hk; exact (g_25 hG ma ra).2.1
theorem g_25_RK1 (hG : q_G ρ L m S0 S) (ma : a ∈ L) (ra : ρ a = 25) {k : Nat} (hk : k = 1) : q_tr ρ L (q_R S a k) 31 := by subst hk; exact (g_25 hG ma ra).2.2.1
theorem g_25_RK2 (hG : q_G ρ L m S0 S) (ma : a ∈ L) (ra : ρ a = 25) {k : Nat} (hk : k = 2) : q_tr ρ L (q_R S a k) 32 := by subst hk; exact (g_25 hG ma ra).2.2.2.1
theorem g_25_RK3 (hG : q_G ρ L m S0 S) (ma : a ∈ L) (ra : ρ a = 25) {k : Nat} (hk : k = 3) : q_tr ρ L (q_R S a k) 33 := by subst hk; exact (g_25 hG ma ra).2.2.2.2.1
theorem g_25_RK4 (hG : q_G ρ L m S0 S) (ma : a ∈ L) (ra : ρ a = 25) {k : Nat} (hk : k = 4) : q_tr ρ L (q_R S a k) 34 := by subst hk; exact (g_25 hG ma ra).2.2.2.2.2.1
theorem g_25_RK5 (hG : q_G ρ L m S0 S) (ma : a ∈ L) (ra : ρ a = 25) {k : Nat} (hk : k = 5) : q_tr ρ L (q_R S a k) 35 := by subst hk; exact (g_25 hG ma ra).2.2.2.2.2.2
theorem g_26 (hG : q_G ρ L m S0 S) (ma : a ∈ L) (ra : ρ a = 26) : (q_N S a) = 6 ∧ (∀ k, (0 ≤ ((q_I S a) k).toInt ∧ ((q_I S a) k).toInt ≤ 199)) := by
  have h := (hG.1.2.1 a ma).2
  rw [ra] at h
  exact h
theorem g_26_N (hG : q_G ρ L m S0 S) (ma : a ∈ L) (ra : ρ a = 26) : (q_N S a) = 6 := (g_26 hG ma ra).1
theorem g_26_E (hG : q_G ρ L m S0 S) (ma : a ∈ L) (ra : ρ a = 26) {k : Nat} : (0 ≤ ((q_I S a) k).toInt ∧ ((q_I S a) k).toInt ≤ 199) := (g_26 hG ma ra).2 k
theorem u_26_E {k : Nat} {x : Int32} (hG : q_G ρ L m S0 S) (ma : a ∈ L) (ra : ρ a = 26) (hm : m.contains (q_ar 26 0) = true) (hx : (0 ≤ x.toInt ∧ x.toInt ≤ 199)) : q_G ρ L m S0 (q_sI S a k x) := q_G_sI hG ma ra hm (q_E1_sI hG ra rfl rfl) (⟨(g_26 hG ma ra).1, fun k9 => by
    by_cases e : k9 = k
    · subst e; rw [q_up_same]; exact hx
    · rw [q_up_ne _ _ e]; exact (g_26 hG ma ra).2 k9⟩)
theorem g_27 (hG : q_G ρ L m S0 S) (ma : a ∈ L) (ra : ρ a = 27) : (q_N S a) = 6 := by
  have h := (hG.1.2.1 a ma).2
  rw [ra] at h
  exact h
theorem g_27_N (hG : q_G ρ L m S0 S) (ma : a ∈ L) (ra : ρ a = 27) : (q_N S a) = 6 := (g_27 hG ma ra)
theorem u_27_E {k : Nat} {x : Int32} (hG : q_G ρ L m S0 S) (ma : a ∈ L) (ra : ρ a = 27) (hm : m.contains (q_ar 27 0) = true) : q_G ρ L m S0 (q_sI S a k x) := q_G_sI hG ma ra hm (q_E1_sI hG ra rfl rfl) ((g_27 hG ma ra))
theorem g_28 (hG : q_G ρ L m S0 S) (ma : a ∈ L) (ra : ρ a = 28) : (q_N S a) = 1200 ∧ (∀ k, (0 ≤ ((q_I S a) k).toInt ∧ ((q_I S a) k).toInt ≤ 2000)) := by
  have h := (hG.1.2.1 a ma).2
  rw [ra] at h
  exact h
theorem g_28_N (hG : q_G ρ L m S0 S) (ma : a ∈ L) (ra : ρ a = 28) : (q_N S a) = 1200 := (g_28 hG ma ra).1
theorem g_28_E (hG : q_G ρ L m S0 S) (ma : a ∈ L) (ra : ρ a = 28) {k : Nat} : (0 ≤ ((q_I S a) k).toInt ∧ ((q_I S a) k).toInt ≤ 2000) := (g_28 hG ma ra).2 k
theorem u_28_E {k : Nat} {x : Int32} (hG : q_G ρ L m S0 S) (ma : a ∈ L) (ra : ρ a = 28) (hm : m.contains (q_ar 28 0) = true) (hx : (0 ≤ x.toInt ∧ x.toInt ≤ 2000)) : q_G ρ L m S0 (q_sI S a k x) := q_G_sI hG ma ra hm (q_E1_sI hG ra rfl rfl) (⟨(g_28 hG ma ra).1, fun k9 => by
    by_cases e : k9 = k
    · subst e; rw [q_up_same]; exact hx
    · rw [q_up_ne _ _ e]; exact (g_28 hG ma ra).2 k9⟩)
theorem g_29 (hG : q_G ρ L m S0 S) (ma : a ∈ L) (ra : ρ a = 29) : (q_N S a) = 1200 := by
  have h := (hG.1.2.1 a ma).2
  rw [ra] at h
  exact h
theorem g_29_N (hG : q_G ρ L m S0 S) (ma : a ∈ L) (ra : ρ a = 29) : (q_N S a) = 1200 := (g_29 hG ma ra)
theorem u_29_E {k : Nat} {x : Int32} (hG : q_G ρ L m S0 S) (ma : a ∈ L) (ra : ρ a = 29) (hm : m.contains (q_ar 29 0) = true) : q_G ρ L m S0 (q_sI S a k x) := q_G_sI hG ma ra hm (q_E1_sI hG ra rfl rfl) ((g_29 hG ma ra))
theorem g_30 (hG : q_G ρ L m S0 S) (ma : a ∈ L) (ra : ρ a = 30) : q_tr ρ L ((q_R S a) 0) 1 ∧ (0 ≤ ((q_I S a) 1).toInt ∧ ((q_I S a) 1).toInt ≤ 1) ∧ (0 ≤ ((q_I S a) 2).toInt ∧ ((q_I S a) 2).toInt ≤ 1) ∧ (-281474976710656 ≤ ((q_J S a) 3).toInt ∧ ((q_J S a) 3).toInt ≤ 281474976710656) ∧ (0 ≤ ((q_J S a) 4).toInt ∧ ((q_J S a) 4).toInt ≤ 65535) ∧ (-32768 ≤ ((q_I S a) 5).toInt ∧ ((q_I S a) 5).toInt ≤ 32767) ∧ (0 ≤ ((q_I S a) 6).toInt ∧ ((q_I S a) 6).toInt ≤ 65535) ∧ (0 ≤ ((q_I S a) 7).toInt ∧ ((q_I S a) 7).toInt ≤ 65535) ∧ (-32768 ≤ ((q_I S a) 8).toInt ∧ ((q_I S a) 8).toInt ≤ 65535) ∧ (-32768 ≤ ((q_I S a) 9).toInt ∧ ((q_I S a) 9).toInt ≤ 65535) ∧ (-32768 ≤ ((q_I S a) 10).toInt ∧ ((q_I S a) 10).toInt ≤ 32767) ∧ (-32768 ≤ ((q_I S a) 11).toInt ∧ ((q_I S a) 11).toInt ≤ 32767) ∧ (-32768 ≤ ((q_I S a) 12).toInt ∧ ((q_I S a) 12).toInt ≤ 32767) ∧ (-32768 ≤ ((q_I S a) 13).toInt ∧ ((q_I S a) 13).toInt ≤ 32767) := by
  have h := (hG.1.2.1 a ma).2
  rw [ra] at h
  exact h
theorem g_30_R0 (hG : q_G ρ L m S0 S) (ma : a ∈ L) (ra : ρ a = 30) : q_tr ρ L ((q_R S a) 0) 1 := (g_30 hG ma ra).1
theorem g_30_I1 (hG : q_G ρ L m S0 S) (ma : a ∈ L) (ra : ρ a = 30) : (0 ≤ ((q_I S a) 1).toInt ∧ ((q_I S a) 1).toInt ≤ 1) := (g_30 hG ma ra).2.1
theorem g_30_I2 (hG : q_G ρ L m S0 S) (ma : a ∈ L) (ra : ρ a = 30) : (0 ≤ ((q_I S a) 2).toInt ∧ ((q_I S a) 2).toInt ≤ 1) := (g_30 hG ma ra).2.2.1
theorem g_30_J3 (hG : q_G ρ L m S0 S) (ma : a ∈ L) (ra : ρ a = 30) : (-281474976710656 ≤ ((q_J S a) 3).toInt ∧ ((q_J S a) 3).toInt ≤ 281474976710656) := (g_30 hG ma ra).2.2.2.1
theorem g_30_J4 (hG : q_G ρ L m S0 S) (ma : a ∈ L) (ra : ρ a = 30) : (0 ≤ ((q_J S a) 4).toInt ∧ ((q_J S a) 4).toInt ≤ 65535) := (g_30 hG ma ra).2.2.2.2.1
theorem g_30_I5 (hG : q_G ρ L m S0 S) (ma : a ∈ L) (ra : ρ a = 30) : (-32768 ≤ ((q_I S a) 5).toInt ∧ ((q_I S a) 5).toInt ≤ 32767) := (g_30 hG ma ra).2.2.2.2.2.1
theorem g_30_I6 (hG : q_G ρ L m S0 S) (ma : a ∈ L) (ra : ρ a = 30) : (0 ≤ ((q_I S a) 6).toInt ∧ ((q_I S a) 6).toInt ≤ 65535) := (g_30 hG ma ra).2.2.2.2.2.2.1
theorem g_30_I7 (hG : q_G ρ L m S0 S) (ma : a ∈ L) (ra : ρ a = 30) : (0 ≤ ((q_I S a) 7).toInt ∧ ((q_I S a) 7).toInt ≤ 65535) := (g_30 hG ma ra).2.2.2.2.2.2.2.1
theorem g_30_I8 (hG : q_G ρ L m S0 S) (ma : a ∈ L) (ra : ρ a = 30) : (-32768 ≤ ((q_I S a) 8).toInt ∧ ((q_I S a) 8).toInt ≤ 65535) := (g_30 hG ma ra).2.2.2.2.2.2.2.2.1
theorem g_30_I9 (hG : q_G ρ L m S0 S) (ma : a ∈ L) (ra : ρ a = 30) : (-32768 ≤ ((q_I S a) 9).toInt ∧ ((q_I S a) 9).toInt ≤ 65535) := (g_30 hG ma ra).2.2.2.2.2.2.2.2.2.1
theorem g_30_I10 (hG : q_G ρ L m S0 S) (ma : a ∈ L) (ra : ρ a = 30) : (-32768 ≤ ((q_I S a) 10).toInt ∧ ((q_I S a) 10).toInt ≤ 32767) := (g_30 hG ma ra).2.2.2.2.2.2.2.2.2.2.1
theorem g_30_I11 (hG : q_G ρ L m S0 S) (ma : a ∈ L) (ra : ρ a = 30) : (-32768 ≤ ((q_I S a) 11).toInt ∧ ((q_I S a) 11).toInt ≤ 32767) := (g_30 hG ma ra).2.2.2.2.2.2.2.2.2.2.2.1
theorem g_30_I12 (hG : q_G ρ L m S0 S) (ma : a ∈ L) (ra : ρ a = 30) : (-32768 ≤ ((q_I S a) 12).toInt ∧ ((q_I S a) 12).toInt ≤ 32767) := (g_30 hG ma ra).2.2.2.2.2.2.2.2.2.2.2.2.1
theorem g_30_I13 (hG : q_G ρ L m S0 S) (ma : a ∈ L) (ra : ρ a = 30) : (-32768 ≤ ((q_I S a) 13).toInt ∧ ((q_I S a) 13).toInt ≤ 32767) := (g_30 hG ma ra).2.2.2.2.2.2.2.2.2.2.2.2.2
theorem u_30_I1 {x : Int32} (hG : q_G ρ L m S0 S) (ma : a ∈ L) (ra : ρ a = 30) (hm : m.contains (q_ar 30 1) = true) (hx : (0 ≤ x.toInt ∧ x.toInt ≤ 1)) : q_G ρ L m S0 (q_sI S a 1 x) := q_G_sI hG ma ra hm (q_E1_sI hG ra rfl rfl) (⟨(g_30 hG ma ra).1, by show (0 ≤ ((va_up (q_I S a) 1 x) 1).toInt ∧ ((va_up (q_I S a) 1 x) 1).toInt ≤ 1); rw [q_up_same]; exact hx, (g_30 hG ma ra).2.2.1, (g_30 hG ma ra).2.2.2.1, (g_30 hG ma ra).2.2.2.2.1, (g_30 hG ma ra).2.2.2.2.2.1, (g_30 hG ma ra).2.2.2.2.2.2.1, (g_30 hG ma ra).2.2.2.2.2.2.2.1, (g_30 hG ma ra).2.2.2.2.2.2.2.2.1, (g_30 hG ma ra).2.2.2.2.2.2.2.2.2.1, (g_30 hG ma ra).2.2.2.2.2.2.2.2.2.2.1, (g_30 hG ma ra).2.2.2.2.2.2.2.2.2.2.2.1, (g_30 hG ma ra).2.2.2.2.2.2.2.2.2.2.2.2.1, (g_30 hG ma ra).2.2.2.2.2.2.2.2.2.2.2.2.2⟩)
theorem u_30_I2 {x : Int32} (hG : q_G ρ L m S0 S) (ma : a ∈ L) (ra : ρ a = 30) (hm : m.contains (q_ar 30 2) = true) (hx : (0 ≤ x.toInt ∧ x.toInt ≤ 1)) : q_G ρ L m S0 (q_sI S a 2 x) := q_G_sI hG ma ra hm (q_E1_sI hG ra rfl rfl) (⟨(g_30 hG ma ra).1, (g_30 hG ma ra).2.1, by show (0 ≤ ((va_up (q_I S a) 2 x) 2).toInt ∧ ((va_up (q_I S a) 2 x) 2).toInt ≤ 1); rw [q_up_same]; exact hx, (g_30 hG ma ra).2.2.2.1, (g_30 hG ma ra).2.2.2.2.1, (g_30 hG ma ra).2.2.2.2.2.1, (g_30 hG ma ra).2.2.2.2.2.2.1, (g_30 hG ma ra).2.2.2.2.2.2.2.1, (g_30 hG ma ra).2.2.2.2.2.2.2.2.1, (g_30 hG ma ra).2.2.2.2.2.2.2.2.2.1, (g_30 hG ma ra).2.2.2.2.2.2.2.2.2.2.1, (g_30 hG ma ra).2.2.2.2.2.2.2.2.2.2.2.1, (g_30 hG ma ra).2.2.2.2.2.2.2.2.2.2.2.2.1, (g_30 hG ma ra).2.2.2.2.2.2.2.2.2.2.2.2.2⟩)
theorem u_30_J3 {x : Int64} (hG : q_G ρ L m S0 S) (ma : a ∈ L) (ra : ρ a = 30) (hm : m.contains (q_ar 30 3) = true) (hx : (-281474976710656 ≤ x.toInt ∧ x.toInt ≤ 281474976710656)) : q_G ρ L m S0 (q_sJ S a 3 x) := q_G_sJ hG ma ra hm (⟨(g_30 hG ma ra).1, (g_30 hG ma ra).2.1, (g_30 hG ma ra).2.2.1, by show (-281474976710656 ≤ ((va_up (q_J S a) 3 x) 3).toInt ∧ ((va_up (q_J S a) 3 x) 3).toInt ≤ 281474976710656); rw [q_up_same]; exact hx, (g_30 hG ma ra).2.2.2.2.1, (g_30 hG ma ra).2.2.2.2.2.1, (g_30 hG ma ra).2.2.2.2.2.2.1, (g_30 hG ma ra).2.2.2.2.2.2.2.1, (g_30 hG ma ra).2.2.2.2.2.2.2.2.1, (g_30 hG ma ra).2.2.2.2.2.2.2.2.2.1, (g_30 hG ma ra).2.2.2.2.2.2.2.2.2.2.1, (g_30 hG ma ra).2.2.2.2.2.2.2.2.2.2.2.1, (g_30 hG ma ra).2.2.2.2.2.2.2.2.2.2.2.2.1, (g_30 hG ma ra).2.2.2.2.2.2.2.2.2.2.2.2.2⟩)
theorem u_30_J4 {x : Int64} (hG : q_G ρ L m S0 S) (ma : a ∈ L) (ra : ρ a = 30) (hm : m.contains (q_ar 30 4) = true) (hx : (0 ≤ x.toInt ∧ x.toInt ≤ 65535)) : q_G ρ L m S0 (q_sJ S a 4 x) := q_G_sJ hG ma ra hm (⟨(g_30 hG ma ra).1, (g_30 hG ma ra).2.1, (g_30 hG ma ra).2.2.1, (g_30 hG ma ra).2.2.2.1, by show (0 ≤ ((va_up (q_J S a) 4 x) 4).toInt ∧ ((va_up (q_J S a) 4 x) 4).toInt ≤ 65535); rw [q_up_same]; exact hx, (g_30 hG ma ra).2.2.2.2.2.1, (g_30 hG ma ra).2.2.2.2.2.2.1, (g_30 hG ma ra).2.2.2.2.2.2.2.1, (g_30 hG ma ra).2.2.2.2.2.2.2.2.1, (g_30 hG ma ra).2.2.2.2.2.2.2.2.2.1, (g_30 hG ma ra).2.2.2.2.2.2.2.2.2.2.1, (g_30 hG ma ra).2.2.2.2.2.2.2.2.2.2.2.1, (g_30 hG ma ra).2.2.2.2.2.2.2.2.2.2.2.2.1, (g_30 hG ma ra).2.2.2.2.2.2.2.2.2.2.2.2.2⟩)
theorem u_30_I5 {x : Int32} (hG : q_G ρ L m S0 S) (ma : a ∈ L) (ra : ρ a = 30) (hm : m.contains (q_ar 30 5) = true) (hx : (-32768 ≤ x.toInt ∧ x.toInt ≤ 32767)) : q_G ρ L m S0 (q_sI S a 5 x) := q_G_sI hG ma ra hm (q_E1_sI hG ra rfl rfl) (⟨(g_30 hG ma ra).1, (g_30 hG ma ra).2.1, (g_30 hG ma ra).2.2.1, (g_30 hG ma ra).2.2.2.1, (g_30 hG ma ra).2.2.2.2.1, by show (-32768 ≤ ((va_up (q_I S a) 5 x) 5).toInt ∧ ((va_up (q_I S a) 5 x) 5).toInt ≤ 32767); rw [q_up_same]; exact hx, (g_30 hG ma ra).2.2.2.2.2.2.1, (g_30 hG ma ra).2.2.2.2.2.2.2.1, (g_30 hG ma ra).2.2.2.2.2.2.2.2.1, (g_30 hG ma ra).2.2.2.2.2.2.2.2.2.1, (g_30 hG ma ra).2.2.2.2.2.2.2.2.2.2.1, (g_30 hG ma ra).2.2.2.2.2.2.2.2.2.2.2.1, (g_30 hG ma ra).2.2.2.2.2.2.2.2.2.2.2.2.1, (g_30 hG ma ra).2.2.2.2.2.2.2.2.2.2.2.2.2⟩)
theorem u_30_I6 {x : Int32} (hG : q_G ρ L m S0 S) (ma : a ∈ L) (ra : ρ a = 30) (hm : m.contains (q_ar 30 6) = true) (hx : (0 ≤ x.toInt ∧ x.toInt ≤ 65535)) : q_G ρ L m S0 (q_sI S a 6 x) := q_G_sI hG ma ra hm (q_E1_sI hG ra rfl rfl) (⟨(g_30 hG ma ra).1, (g_30 hG ma ra).2.1, (g_30 hG ma ra).2.2.1, (g_30 hG ma ra).2.2.2.1, (g_30 hG ma ra).2.2.2.2.1, (g_30 hG ma ra).2.2.2.2.2.1, by show (0 ≤ ((va_up (q_I S a) 6 x) 6).toInt ∧ ((va_up (q_I S a) 6 x) 6).toInt ≤ 65535); rw [q_up_same]; exact hx, (g_30 hG ma ra).2.2.2.2.2.2.2.1, (g_30 hG ma ra).2.2.2.2.2.2.2.2.1, (g_30 hG ma ra).2.2.2.2.2.2.2.2.2.1, (g_30 hG ma ra).2.2.2.2.2.2.2.2.2.2.1, (g_30 hG ma ra).2.2.2.2.2.2.2.2.2.2.2.1, (g_30 hG ma ra).2.2.2.2.2.2.2.2.2.2.2.2.1, (g_30 hG ma ra).2.2.2.2.2.2.2.2.2.2.2.2.2⟩)
theorem u_30_I7 {x : Int32} (hG : q_G ρ L m S0 S) (ma : a ∈ L) (ra : ρ a = 30) (hm : m.contains (q_ar 30 7) = true) (hx : (0 ≤ x.toInt ∧ x.toInt ≤ 65535)) : q_G ρ L m S0 (q_sI S a 7 x) := q_G_sI hG ma ra hm (q_E1_sI hG ra rfl rfl) (⟨(g_30 hG ma ra).1, (g_30 hG ma ra).2.1, (g_30 hG ma ra).2.2.1, (g_30 hG ma ra).2.2.2.1, (g_30 hG ma ra).2.2.2.2.1, (g_30 hG ma ra).2.2.2.2.2.1, (g_30 hG ma ra).2.2.2.2.2.2.1, by show (0 ≤ ((va_up (q_I S a) 7 x) 7).toInt ∧ ((va_up (q_I S a) 7 x) 7).toInt ≤ 65535); rw [q_up_same]; exact hx, (g_30 hG ma ra).2.2.2.2.2.2.2.2.1, (g_30 hG ma ra).2.2.2.2.2.2.2.2.2.1, (g_30 hG ma ra).2.2.2.2.2.2.2.2.2.2.1, (g_30 hG ma ra).2.2.2.2.2.2.2.2.2.2.2.1, (g_30 hG ma ra).2.2.2.2.2.2.2.2.2.2.2.2.1, (g_30 hG ma ra).2.2.2.2.2.2.2.2.2.2.2.2.2⟩)
theorem u_30_I8 {x : Int32} (hG : q_G ρ L m S0 S) (ma : a ∈ L) (ra : ρ a = 30) (hm : m.contains (q_ar 30 8) = true) (hx : (-32768 ≤ x.toInt ∧ x.toInt ≤ 65535)) : q_G ρ L m S0 (q_sI S a 8 x) := q_G_sI hG ma ra hm (q_E1_sI hG ra rfl rfl) (⟨(g_30 hG ma ra).1, (g_30 hG ma ra).2.1, (g_30 hG ma ra).2.2.1, (g_30 hG ma ra).2.2.2.1, (g_30 hG ma ra).2.2.2.2.1, (g_30 hG ma ra).2.2.2.2.2.1, (g_30 hG ma ra).2.2.2.2.2.2.1, (g_30 hG ma ra).2.2.2.2.2.2.2.1, by show (-32768 ≤ ((va_up (q_I S a) 8 x) 8).toInt ∧ ((va_up (q_I S a) 8 x) 8).toInt ≤ 65535); rw [q_up_same]; exact hx, (g_30 hG ma ra).2.2.2.2.2.2.2.2.2.1, (g_30 hG ma ra).2.2.2.2.2.2.2.2.2.2.1, (g_30 hG ma ra).2.2.2.2.2.2.2.2.2.2.2.1, (g_30 hG ma ra).2.2.2.2.2.2.2.2.2.2.2.2.1, (g_30 hG ma ra).2.2.2.2.2.2.2.2.2.2.2.2.2⟩)
theorem u_30_I9 {x : Int32} (hG : q_G ρ L m S0 S) (ma : a ∈ L) (ra : ρ a = 30) (hm : m.contains (q_ar 30 9) = true) (hx : (-32768 ≤ x.toInt ∧ x.toInt ≤ 65535)) : q_G ρ L m S0 (q_sI S a 9 x) := q_G_sI hG ma ra hm (q_E1_sI hG ra rfl rfl) (⟨(g_30 hG ma ra).1, (g_30 hG ma ra).2.1, (g_30 hG ma ra).2.2.1, (g_30 hG ma ra).2.2.2.1, (g_30 hG ma ra).2.2.2.2.1, (g_30 hG ma ra).2.2.2.2.2.1, (g_30 hG ma ra).2.2.2.2.2.2.1, (g_30 hG ma ra).2.2.2.2.2.2.2.1, (g_30 hG ma ra).2.2.2.2.2.2.2.2.1, by show (-32768 ≤ ((va_up (q_I S a) 9 x) 9).toInt ∧ ((va_up (q_I S a) 9 x) 9).toInt ≤ 65535); rw [q_up_same]; exact hx, (g_30 hG ma ra).2.2.2.2.2.2.2.2.2.2.1, (g_30 hG ma ra).2.2.2.2.2.2.2.2.2.2.2.1, (g_30 hG ma ra).2.2.2.2.2.2.2.2.2.2.2.2.1, (g_30 hG ma ra).2.2.2.2.2.2.2.2.2.2.2.2.2⟩)
theorem u_30_I10 {x : Int32} (hG : q_G ρ L m S0 S) (ma : a ∈ L) (ra : ρ a = 30) (hm : m.contains (q_ar 30 10) = true) (hx : (-32768 ≤ x.toInt ∧ x.toInt ≤ 32767)) : q_G ρ L m S0 (q_sI S a 10 x) := q_G_sI hG ma ra hm (q_E1_sI hG ra rfl rfl) (⟨(g_30 hG ma ra).1, (g_30 hG ma ra).2.1, (g_30 hG ma ra).2.2.1, (g_30 hG ma ra).2.2.2.1, (g_30 hG ma ra).2.2.2.2.1, (g_30 hG ma ra).2.2.2.2.2.1, (g_30 hG ma ra).2.2.2.2.2.2.1, (g_30 hG ma ra).2.2.2.2.2.2.2.1, (g_30 hG ma ra).2.2.2.2.2.2.2.2.1, (g_30 hG ma ra).2.2.2.2.2.2.2.2.2.1, by show (-32768 ≤ ((va_up (q_I S a) 10 x) 10).toInt ∧ ((va_up (q_I S a) 10 x) 10).toInt ≤ 32767); rw [q_up_same]; exact hx, (g_30 hG ma ra).2.2.2.2.2.2.2.2.2.2.2.1, (g_30 hG ma ra).2.2.2.2.2.2.2.2.2.2.2.2.1, (g_30 hG ma ra).2.2.2.2.2.2.2.2.2.2.2.2.2⟩)
theorem u_30_I11 {x : Int32} (hG : q_G ρ L m S0 S) (ma : a ∈ L) (ra : ρ a = 30) (hm : m.contains (q_ar 30 11) = true) (hx : (-32768 ≤ x.toInt ∧ x.toInt ≤ 32767)) : q_G ρ L m S0 (q_sI S a 11 x) := q_G_sI hG ma ra hm (q_E1_sI hG ra rfl rfl) (⟨(g_30 hG ma ra).1, (g_30 hG ma ra).2.1, (g_30 hG ma ra).2.2.1, (g_30 hG ma ra).2.2.2.1, (g_30 hG ma ra).2.2.2.2.1, (g_30 hG ma ra).2.2.2.2.2.1, (g_30 hG ma ra).2.2.2.2.2.2.1, (g_30 hG ma ra).2.2.2.2.2.2.2.1, (g_30 hG ma ra).2.2.2.2.2.2.2.2.1, (g_30 hG ma ra).2.2.2.2.2.2.2.2.2.1, (g_30 hG ma ra).2.2.2.2.2.2.2.2.2.2.1, by show (-32768 ≤ ((va_up (q_I S a) 11 x) 11).toInt ∧ ((va_up (q_I S a) 11 x) 11).toInt ≤ 32767); rw [q_up_same]; exact hx, (g_30 hG ma ra).2.2.2.2.2.2.2.2.2.2.2.2.1, (g_30 hG ma ra).2.2.2.2.2.2.2.2.2.2.2.2.2⟩)
theorem u_30_I12 {x : Int32} (hG : q_G ρ L m S0 S) (ma : a ∈ L) (ra : ρ a = 30) (hm : m.contains (q_ar 30 12) = true) (hx : (-32768 ≤ x.toInt ∧ x.toInt ≤ 32767)) : q_G ρ L m S0 (q_sI S a 12 x) := q_G_sI hG ma ra hm (q_E1_sI hG ra rfl rfl) (⟨(g_30 hG ma ra).1, (g_30 hG ma ra).2.1, (g_30 hG ma ra).2.2.1, (g_30 hG ma ra).2.2.2.1, (g_30 hG ma ra).2.2.2.2.1, (g_30 hG ma ra).2.2.2.2.2.1, (g_30 hG ma ra).2.2.2.2.2.2.1, (g_30 hG ma ra).2.2.2.2.2.2.2.1, (g_30 hG ma ra).2.2.2.2.2.2.2.2.1, (g_30 hG ma ra).2.2.2.2.2.2.2.2.2.1, (g_30 hG ma ra).2.2.2.2.2.2.2.2.2.2.1, (g_30 hG ma ra).2.2.2.2.2.2.2.2.2.2.2.1, by show (-32768 ≤ ((va_up (q_I S a) 12 x) 12).toInt ∧ ((va_up (q_I S a) 12 x) 12).toInt ≤ 32767); rw [q_up_same]; exact hx, (g_30 hG ma ra).2.2.2.2.2.2.2.2.2.2.2.2.2⟩)
theorem u_30_I13 {x : Int32} (hG : q_G ρ L m S0 S) (ma : a ∈ L) (ra : ρ a = 30) (hm : m.contains (q_ar 30 13) = true) (hx : (-32768 ≤ x.toInt ∧ x.toInt ≤ 32767)) : q_G ρ L m S0 (q_sI S a 13 x) := q_G_sI hG ma ra hm (q_E1_sI hG ra rfl rfl) (⟨(g_30 hG ma ra).1, (g_30 hG ma ra).2.1, (g_30 hG ma ra).2.2.1, (g_30 hG ma ra).2.2.2.1, (g_30 hG ma ra).2.2.2.2.1, (g_30 hG ma ra).2.2.2.2.2.1, (g_30 hG ma ra).2.2.2.2.2.2.1, (g_30 hG ma ra).2.2.2.2.2.2.2.1, (g_30 hG ma ra).2.2.2.2.2.2.2.2.1, (g_30 hG ma ra).2.2.2.2.2.2.2.2.2.1, (g_30 hG ma ra).2.2.2.2.2.2.2.2.2.2.1, (g_30 hG ma ra).2.2.2.2.2.2.2.2.2.2.2.1, (g_30 hG ma ra).2.2.2.2.2.2.2.2.2.2.2.2.1, by show (-32768 ≤ ((va_up (q_I S a) 13 x) 13).toInt ∧ ((va_up (q_I S a) 13 x) 13).toInt ≤ 32767); rw [q_up_same]; exact hx⟩)
theorem g_31 (hG : q_G ρ L m S0 S) (ma : a ∈ L) (ra : ρ a = 31) : q_tr ρ L ((q_R S a) 0) 1 ∧ (0 ≤ ((q_I S a) 1).toInt ∧ ((q_I S a) 1).toInt ≤ 1) ∧ (0 ≤ ((q_I S a) 2).toInt ∧ ((q_I S a) 2).toInt ≤ 1) ∧ (-281474976710656 ≤ ((q_J S a) 3).toInt ∧ ((q_J S a) 3).toInt ≤ 281474976710656) ∧ (0 ≤ ((q_J S a) 4).toInt ∧ ((q_J S a) 4).toInt ≤ 65535) ∧ (-32768 ≤ ((q_I S a) 5).toInt ∧ ((q_I S a) 5).toInt ≤ 32767) ∧ (0 ≤ ((q_I S a) 6).toInt ∧ ((q_I S a) 6).toInt ≤ 65535) ∧ (0 ≤ ((q_I S a) 7).toInt ∧ ((q_I S a) 7).toInt ≤ 65535) ∧ (-32768 ≤ ((q_I S a) 8).toInt ∧ ((q_I S a) 8).toInt ≤ 65535) ∧ (-32768 ≤ ((q_I S a) 9).toInt ∧ ((q_I S a) 9).toInt ≤ 65535) ∧ (-32768 ≤ ((q_I S a) 10).toInt ∧ ((q_I S a) 10).toInt ≤ 32767) ∧ (-32768 ≤ ((q_I S a) 11).toInt ∧ ((q_I S a) 11).toInt ≤ 32767) ∧ (-32768 ≤ ((q_I S a) 12).toInt ∧ ((q_I S a) 12).toInt ≤ 32767) ∧ (-32768 ≤ ((q_I S a) 13).toInt ∧ ((q_I S a) 13).toInt ≤ 32767) := by
  have h := (hG.1.2.1 a ma).2
  rw [ra] at h
  exact h
theorem g_31_R0 (hG : q_G ρ L m S0 S) (ma : a ∈ L) (ra : ρ a = 31) : q_tr ρ L ((q_R S a) 0) 1 := (g_31 hG ma ra).1
theorem g_31_I1 (hG : q_G ρ L m S0 S) (ma : a ∈ L) (ra : ρ a = 31) : (0 ≤ ((q_I S a) 1).toInt ∧ ((q_I S a) 1).toInt ≤ 1) := (g_31 hG ma ra).2.1
theorem g_31_I2 (hG : q_G ρ L m S0 S) (ma : a ∈ L) (ra : ρ a = 31) : (0 ≤ ((q_I S a) 2).toInt ∧ ((q_I S a) 2).toInt ≤ 1) := (g_31 hG ma ra).2.2.1
theorem g_31_J3 (hG : q_G ρ L m S0 S) (ma : a ∈ L) (ra : ρ a = 31) : (-281474976710656 ≤ ((q_J S a) 3).toInt ∧ ((q_J S a) 3).toInt ≤ 281474976710656) := (g_31 hG ma ra).2.2.2.1
theorem g_31_J4 (hG : q_G ρ L m S0 S) (ma : a ∈ L) (ra : ρ a = 31) : (0 ≤ ((q_J S a) 4).toInt ∧ ((q_J S a) 4).toInt ≤ 65535) := (g_31 hG ma ra).2.2.2.2.1
theorem g_31_I5 (hG : q_G ρ L m S0 S) (ma : a ∈ L) (ra : ρ a = 31) : (-32768 ≤ ((q_I S a) 5).toInt ∧ ((q_I S a) 5).toInt ≤ 32767) := (g_31 hG ma ra).2.2.2.2.2.1
theorem g_31_I6 (hG : q_G ρ L m S0 S) (ma : a ∈ L) (ra : ρ a = 31) : (0 ≤ ((q_I S a) 6).toInt ∧ ((q_I S a) 6).toInt ≤ 65535) := (g_31 hG ma ra).2.2.2.2.2.2.1
theorem g_31_I7 (hG : q_G ρ L m S0 S) (ma : a ∈ L) (ra : ρ a = 31) : (0 ≤ ((q_I S a) 7).toInt ∧ ((q_I S a) 7).toInt ≤ 65535) := (g_31 hG ma ra).2.2.2.2.2.2.2.1
theorem g_31_I8 (hG : q_G ρ L m S0 S) (ma : a ∈ L) (ra : ρ a = 31) : (-32768 ≤ ((q_I S a) 8).toInt ∧ ((q_I S a) 8).toInt ≤ 65535) := (g_31 hG ma ra).2.2.2.2.2.2.2.2.1
theorem g_31_I9 (hG : q_G ρ L m S0 S) (ma : a ∈ L) (ra : ρ a = 31) : (-32768 ≤ ((q_I S a) 9).toInt ∧ ((q_I S a) 9).toInt ≤ 65535) := (g_31 hG ma ra).2.2.2.2.2.2.2.2.2.1
theorem g_31_I10 (hG : q_G ρ L m S0 S) (ma : a ∈ L) (ra : ρ a = 31) : (-32768 ≤ ((q_I S a) 10).toInt ∧ ((q_I S a) 10).toInt ≤ 32767) := (g_31 hG ma ra).2.2.2.2.2.2.2.2.2.2.1
theorem g_31_I11 (hG : q_G ρ L m S0 S) (ma : a ∈ L) (ra : ρ a = 31) : (-32768 ≤ ((q_I S a) 11).toInt ∧ ((q_I S a) 11).toInt ≤ 32767) := (g_31 hG ma ra).2.2.2.2.2.2.2.2.2.2.2.1
theorem g_31_I12 (hG : q_G ρ L m S0 S) (ma : a ∈ L) (ra : ρ a = 31) : (-32768 ≤ ((q_I S a) 12).toInt ∧ ((q_I S a) 12).toInt ≤ 32767) := (g_31 hG ma ra).2.2.2.2.2.2.2.2.2.2.2.2.1
theorem g_31_I13 (hG : q_G ρ L m S0 S) (ma : a ∈ L) (ra : ρ a = 31) : (-32768 ≤ ((q_I S a) 13).toInt ∧ ((q_I S a) 13).toInt ≤ 32767) := (g_31 hG ma ra).2.2.2.2.2.2.2.2.2.2.2.2.2
theorem u_31_I1 {x : Int32} (hG : q_G ρ L m S0 S) (ma : a ∈ L) (ra : ρ a = 31) (hm : m.contains (q_ar 31 1) = true) (hx : (0 ≤ x.toInt ∧ x.toInt ≤ 1)) : q_G ρ L m S0 (q_sI S a 1 x) := q_G_sI hG ma ra hm (q_E1_sI hG ra rfl rfl) (⟨(g_31 hG ma ra).1, by show (0 ≤ ((va_up (q_I S a) 1 x) 1).toInt ∧ ((va_up (q_I S a) 1 x) 1).toInt ≤ 1); rw [q_up_same]; exact hx, (g_31 hG ma ra).2.2.1, (g_31 hG ma ra).2.2.2.1, (g_31 hG ma ra).2.2.2.2.1, (g_31 hG ma ra).2.2.2.2.2.1, (g_31 hG ma ra).2.2.2.2.2.2.1, (g_31 hG ma ra).2.2.2.2.2.2.2.1, (g_31 hG ma ra).2.2.2.2.2.2.2.2.1, (g_31 hG ma ra).2.2.2.2.2.2.2.2.2.1, (g_31 hG ma ra).2.2.2.2.2.2.2.2.2.2.1, (g_31 hG ma ra).2.2.2.2.2.2.2.2.2.2.2.1, (g_31 hG ma ra).2.2.2.2.2.2.2.2.2.2.2.2.1, (g_31 hG ma ra).2.2.2.2.2.2.2.2.2.2.2.2.2⟩)
theorem u_31_I2 {x : Int32} (hG : q_G ρ L m S0 S) (ma : a ∈ L) (ra : ρ a = 31) (hm : m.contains (q_ar 31 2) = true) (hx : (0 ≤ x.toInt ∧ x.toInt ≤ 1)) : q_G ρ L m S0 (q_sI S a 2 x) := q_G_sI hG ma ra hm (q_E1_sI hG ra rfl rfl) (⟨(g_31 hG ma ra).1, (g_31 hG ma ra).2.1, by show (0 ≤ ((va_up (q_I S a) 2 x) 2).toInt ∧ ((va_up (q_I S a) 2 x) 2).toInt ≤ 1); rw [q_up_same]; exact hx, (g_31 hG ma ra).2.2.2.1, (g_31 hG ma ra).2.2.2.2.1, (g_31 hG ma ra).2.2.2.2.2.1, (g_31 hG ma ra).2.2.2.2.2.2.1, (g_31 hG ma ra).2.2.2.2.2.2.2.1, (g_31 hG ma ra).2.2.2.2.2.2.2.2.1, (g_31 hG ma ra).2.2.2.2.2.2.2.2.2.1, (g_31 hG ma ra).2.2.2.2.2.2.2.2.2.2.1, (g_31 hG ma ra).2.2.2.2.2.2.2.2.2.2.2.1, (g_31 hG ma ra).2.2.2.2.2.2.2.2.2.2.2.2.1, (g_31 hG ma ra).2.2.2.2.2.2.2.2.2.2.2.2.2⟩)
theorem u_31_J3 {x : Int64} (hG : q_G ρ L m S0 S) (ma : a ∈ L) (ra : ρ a = 31) (hm : m.contains (q_ar 31 3) = true) (hx : (-281474976710656 ≤ x.toInt ∧ x.toInt ≤ 281474976710656)) : q_G ρ L m S0 (q_sJ S a 3 x) := q_G_sJ hG ma ra hm (⟨(g_31 hG ma ra).1, (g_31 hG ma ra).2.1, (g_31 hG ma ra).2.2.1, by show (-281474976710656 ≤ ((va_up (q_J S a) 3 x) 3).toInt ∧ ((va_up (q_J S a) 3 x) 3).toInt ≤ 281474976710656); rw [q_up_same]; exact hx, (g_31 hG ma ra).2.2.2.2.1, (g_31 hG ma ra).2.2.2.2.2.1, (g_31 hG ma ra).2.2.2.2.2.2.1, (g_31 hG ma ra).2.2.2.2.2.2.2.1, (g_31 hG ma ra).2.2.2.2.2.2.2.2.1, (g_31 hG ma ra).2.2.2.2.2.2.2.2.2.1, (g_31 hG ma ra).2.2.2.2.2.2.2.2.2.2.1, (g_31 hG ma ra).2.2.2.2.2.2.2.2.2.2.2.1, (g_31 hG ma ra).2.2.2.2.2.2.2.2.2.2.2.2.1, (g_31 hG ma ra).2.2.2.2.2.2.2.2.2.2.2.2.2⟩)
theorem u_31_J4 {x : Int64} (hG : q_G ρ L m S0 S) (ma : a ∈ L) (ra : ρ a = 31) (hm : m.contains (q_ar 31 4) = true) (hx : (0 ≤ x.toInt ∧ x.toInt ≤ 65535)) : q_G ρ L m S0 (q_sJ S a 4 x) := q_G_sJ hG ma ra hm (⟨(g_31 hG ma ra).1, (g_31 hG ma ra).2.1, (g_31 hG ma ra).2.2.1, (g_31 hG ma ra).2.2.2.1, by show (0 ≤ ((va_up (q_J S a) 4 x) 4).toInt ∧ ((va_up (q_J S a) 4 x) 4).toInt ≤ 65535); rw [q_up_same]; exact hx, (g_31 hG ma ra).2.2.2.2.2.1, (g_31 hG ma ra).2.2.2.2.2.2.1, (g_31 hG ma ra).2.2.2.2.2.2.2.1, (g_31 hG ma ra).2.2.2.2.2.2.2.2.1, (g_31 hG ma ra).2.2.2.2.2.2.2.2.2.1, (g_31 hG ma ra).2.2.2.2.2.2.2.2.2.2.1, (g_31 hG ma ra).2.2.2.2.2.2.2.2.2.2.2.1, (g_31 hG ma ra).2.2.2.2.2.2.2.2.2.2.2.2.1, (g_31 hG ma ra).2.2.2.2.2.2.2.2.2.2.2.2.2⟩)
theorem u_31_I5 {x : Int32} (hG : q_G ρ L m S0 S) (ma : a ∈ L) (ra : ρ a = 31) (hm : m.contains (q_ar 31 5) = true) (hx : (-32768 ≤ x.toInt ∧ x.toInt ≤ 32767)) : q_G ρ L m S0 (q_sI S a 5 x) := q_G_sI hG ma ra hm (q_E1_sI hG ra rfl rfl) (⟨(g_31 hG ma ra).1, (g_31 hG ma ra).2.1, (g_31 hG ma ra).2.2.1, (g_31 hG ma ra).2.2.2.1, (g_31 hG ma ra).2.2.2.2.1, by show (-32768 ≤ ((va_up (q_I S a) 5 x) 5).toInt ∧ ((va_up (q_I S a) 5 x) 5).toInt ≤ 32767); rw [q_up_same]; exact hx, (g_31 hG ma ra).2.2.2.2.2.2.1, (g_31 hG ma ra).2.2.2.2.2.2.2.1, (g_31 hG ma ra).2.2.2.2.2.2.2.2.1, (g_31 hG ma ra).2.2.2.2.2.2.2.2.2.1, (g_31 hG ma ra).2.2.2.2.2.2.2.2.2.2.1, (g_31 hG ma ra).2.2.2.2.2.2.2.2.2.2.2.1, (g_31 hG ma ra).2.2.2.2.2.2.2.2.2.2.2.2.1, (g_31 hG ma ra).2.2.2.2.2.2.2.2.2.2.2.2.2⟩)
theorem u_31_I6 {x : Int32} (hG : q_G ρ L m S0 S) (ma : a ∈ L) (ra : ρ a = 31) (hm : m.contains (q_ar 31 6) = true) (hx : (0 ≤ x.toInt ∧ x.toInt ≤ 65535)) : q_G ρ L m S0 (q_sI S a 6 x) := q_G_sI hG ma ra hm (q_E1_sI hG ra rfl rfl) (⟨(g_31 hG ma ra).1, (g_31 hG ma ra).2.1, (g_31 hG ma ra).2.2.1, (g_31 hG ma ra).2.2.2.1, (g_31 hG ma ra).2.2.2.2.1, (g_31 hG ma ra).2.2.2.2.2.1, by show (0 ≤ ((va_up (q_I S a) 6 x) 6).toInt ∧ ((va_up (q_I S a) 6 x) 6).toInt ≤ 65535); rw [q_up_same]; exact hx, (g_31 hG ma ra).2.2.2.2.2.2.2.1, (g_31 hG ma ra).2.2.2.2.2.2.2.2.1, (g_31 hG ma ra).2.2.2.2.2.2.2.2.2.1, (g_31 hG ma ra).2.2.2.2.2.2.2.2.2.2.1, (g_31 hG ma ra).2.2.2.2.2.2.2.2.2.2.2.1, (g_31 hG ma ra).2.2.2.2.2.2.2.2.2.2.2.2.1, (g_31 hG ma ra).2.2.2.2.2.2.2.2.2.2.2.2.2⟩)
theorem u_31_I7 {x : Int32} (hG : q_G ρ L m S0 S) (ma : a ∈ L) (ra : ρ a = 31) (hm : m.contains (q_ar 31 7) = true) (hx : (0 ≤ x.toInt ∧ x.toInt ≤ 65535)) : q_G ρ L m S0 (q_sI S a 7 x) := q_G_sI hG ma ra hm (q_E1_sI hG ra rfl rfl) (⟨(g_31 hG ma ra).1, (g_31 hG ma ra).2.1, (g_31 hG ma ra).2.2.1, (g_31 hG ma ra).2.2.2.1, (g_31 hG ma ra).2.2.2.2.1, (g_31 hG ma ra).2.2.2.2.2.1, (g_31 hG ma ra).2.2.2.2.2.2.1, by show (0 ≤ ((va_up (q_I S a) 7 x) 7).toInt ∧ ((va_up (q_I S a) 7 x) 7).toInt ≤ 65535); rw [q_up_same]; exact hx, (g_31 hG ma ra).2.2.2.2.2.2.2.2.1, (g_31 hG ma ra).2.2.2.2.2.2.2.2.2.1, (g_31 hG ma ra).2.2.2.2.2.2.2.2.2.2.1, (g_31 hG ma ra).2.2.2.2.2.2.2.2.2.2.2.1, (g_31 hG ma ra).2.2.2.2.2.2.2.2.2.2.2.2.1, (g_31 hG ma ra).2.2.2.2.2.2.2.2.2.2.2.2.2⟩)
theorem u_31_I8 {x : Int32} (hG : q_G ρ L m S0 S) (ma : a ∈ L) (ra : ρ a = 31) (hm : m.contains (q_ar 31 8) = true) (hx : (-32768 ≤ x.toInt ∧ x.toInt ≤ 65535)) : q_G ρ L m S0 (q_sI S a 8 x) := q_G_sI hG ma ra hm (q_E1_sI hG ra rfl rfl) (⟨(g_31 hG ma ra).1, (g_31 hG ma ra).2.1, (g_31 hG ma ra).2.2.1, (g_31 hG ma ra).2.2.2.1, (g_31 hG ma ra).2.2.2.2.1, (g_31 hG ma ra).2.2.2.2.2.1, (g_31 hG ma ra).2.2.2.2.2.2.1, (g_31 hG ma ra).2.2.2.2.2.2.2.1, by show (-32768 ≤ ((va_up (q_I S a) 8 x) 8).toInt ∧ ((va_up (q_I S a) 8 x) 8).toInt ≤ 65535); rw [q_up_same]; exact hx, (g_31 hG ma ra).2.2.2.2.2.2.2.2.2.1, (g_31 hG ma ra).2.2.2.2.2.2.2.2.2.2.1, (g_31 hG ma ra).2.2.2.2.2.2.2.2.2.2.2.1, (g_31 hG ma ra).2.2.2.2.2.2.2.2.2.2.2.2.1, (g_31 hG ma ra).2.2.2.2.2.2.2.2.2.2.2.2.2⟩)
theorem u_31_I9 {x : Int32} (hG : q_G ρ L m S0 S) (ma : a ∈ L) (ra : ρ a = 31) (hm : m.contains (q_ar 31 9) = true) (hx : (-32768 ≤ x.toInt ∧ x.toInt ≤ 65535)) : q_G ρ L m S0 (q_sI S a 9 x) := q_G_sI hG ma ra hm (q_E1_sI hG ra rfl rfl) (⟨(g_31 hG ma ra).1, (g_31 hG ma ra).2.1, (g_31 hG ma ra).2.2.1, (g_31 hG ma ra).2.2.2.1, (g_31 hG ma ra).2.2.2.2.1, (g_31 hG ma ra).2.2.2.2.2.1, (g_31 hG ma ra).2.2.2.2.2.2.1, (g_31 hG ma ra).2.2.2.2.2.2.2.1, (g_31 hG ma ra).2.2.2.2.2.2.2.2.1, by show (-32768 ≤ ((va_up (q_I S a) 9 x) 9).toInt ∧ ((va_up (q_I S a) 9 x) 9).toInt ≤ 65535); rw [q_up_same]; exact hx, (g_31 hG ma ra).2.2.2.2.2.2.2.2.2.2.1, (g_31 hG ma ra).2.2.2.2.2.2.2.2.2.2.2.1, (g_31 hG ma ra).2.2.2.2.2.2.2.2.2.2.2.2.1, (g_31 hG ma ra).2.2.2.2.2.2.2.2.2.2.2.2.2⟩)
theorem u_31_I10 {x : Int32} (hG : q_G ρ L m S0 S) (ma : a ∈ L) (ra : ρ a = 31) (hm : m.contains (q_ar 31 10) = true) (hx : (-32768 ≤ x.toInt ∧ x.toInt ≤ 32767)) : q_G ρ L m S0 (q_sI S a 10 x) := q_G_sI hG ma ra hm (q_E1_sI hG ra rfl rfl) (⟨(g_31 hG ma ra).1, (g_31 hG ma ra).2.1, (g_31 hG ma ra).2.2.1, (g_31 hG ma ra).2.2.2.1, (g_31 hG ma ra).2.2.2.2.1, (g_31 hG ma ra).2.2.2.2.2.1, (g_31 hG ma ra).2.2.2.2.2.2.1, (g_31 hG ma ra).2.2.2.2.2.2.2.1, (g_31 hG ma ra).2.2.2.2.2.2.2.2.1, (g_31 hG ma ra).2.2.2.2.2.2.2.2.2.1, by show (-32768 ≤ ((va_up (q_I S a) 10 x) 10).toInt ∧ ((va_up (q_I S a) 10 x) 10).toInt ≤ 32767); rw [q_up_same]; exact hx, (g_31 hG ma ra).2.2.2.2.2.2.2.2.2.2.2.1, (g_31 hG ma ra).2.2.2.2.2.2.2.2.2.2.2.2.1, (g_31 hG ma ra).2.2.2.2.2.2.2.2.2.2.2.2.2⟩)
theorem u_31_I11 {x : Int32} (hG : q_G ρ L m S0 S) (ma : a ∈ L) (ra : ρ a = 31) (hm : m.contains (q_ar 31 11) = true) (hx : (-32768 ≤ x.toInt ∧ x.toInt ≤ 32767)) : q_G ρ L m S0 (q_sI S a 11 x) := q_G_sI hG ma ra hm (q_E1_sI hG ra rfl rfl) (⟨(g_31 hG ma ra).1, (g_31 hG ma ra).2.1, (g_31 hG ma ra).2.2.1, (g_31 hG ma ra).2.2.2.1, (g_31 hG ma ra).2.2.2.2.1, (g_31 hG ma ra).2.2.2.2.2.1, (g_31 hG ma ra).2.2.2.2.2.2.1, (g_31 hG ma ra).2.2.2.2.2.2.2.1, (g_31 hG ma ra).2.2.2.2.2.2.2.2.1, (g_31 hG ma ra).2.2.2.2.2.2.2.2.2.1, (g_31 hG ma ra).2.2.2.2.2.2.2.2.2.2.1, by show (-32768 ≤ ((va_up (q_I S a) 11 x) 11).toInt ∧ ((va_up (q_I S a) 11 x) 11).toInt ≤ 32767); rw [q_up_same]; exact hx, (g_31 hG ma ra).2.2.2.2.2.2.2.2.2.2.2.2.1, (g_31 hG ma ra).2.2.2.2.2.2.2.2.2.2.2.2.2⟩)
theorem u_31_I12 {x : Int32} (hG : q_G ρ L m S0 S) (ma : a ∈ L) (ra : ρ a = 31) (hm : m.contains (q_ar 31 12) = true) (hx : (-32768 ≤ x.toInt ∧ x.toInt ≤ 32767)) : q_G ρ L m S0 (q_sI S a 12 x) := q_G_sI hG ma ra hm (q_E1_sI hG ra rfl rfl) (⟨(g_31 hG ma ra).1, (g_31 hG ma ra).2.1, (g_31 hG ma ra).2.2.1, (g_31 hG ma ra).2.2.2.1, (g_31 hG ma ra).2.2.2.2.1, (g_31 hG ma ra).2.2.2.2.2.1, (g_31 hG ma ra).2.2.2.2.2.2.1, (g_31 hG ma ra).2.2.2.2.2.2.2.1, (g_31 hG ma ra).2.2.2.2.2.2.2.2.1, (g_31 hG ma ra).2.2.2.2.2.2.2.2.2.1, (g_31 hG ma ra).2.2.2.2.2.2.2.2.2.2.1, (g_31 hG ma ra).2.2.2.2.2.2.2.2.2.2.2.1, by show (-32768 ≤ ((va_up (q_I S a) 12 x) 12).toInt ∧ ((va_up (q_I S a) 12 x) 12).toInt ≤ 32767); rw [q_up_same]; exact hx, (g_31 hG ma ra).2.2.2.2.2.2.2.2.2.2.2.2.2⟩)
theorem u_31_I13 {x : Int32} (hG : q_G ρ L m S0 S) (ma : a ∈ L) (ra : ρ a = 31) (hm : m.contains (q_ar 31 13) = true) (hx : (-32768 ≤ x.toInt ∧ x.toInt ≤ 32767)) : q_G ρ L m S0 (q_sI S a 13 x) := q_G_sI hG ma ra hm (q_E1_sI hG ra rfl rfl) (⟨(g_31 hG ma ra).1, (g_31 hG ma ra).2.1, (g_31 hG ma ra).2.2.1, (g_31 hG ma ra).2.2.2.1, (g_31 hG ma ra).2.2.2.2.1, (g_31 hG ma ra).2.2.2.2.2.1, (g_31 hG ma ra).2.2.2.2.2.2.1, (g_31 hG ma ra).2.2.2.2.2.2.2.1, (g_31 hG ma ra).2.2.2.2.2.2.2.2.1, (g_31 hG ma ra).2.2.2.2.2.2.2.2.2.1, (g_31 hG ma ra).2.2.2.2.2.2.2.2.2.2.1, (g_31 hG ma ra).2.2.2.2.2.2.2.2.2.2.2.1, (g_31 hG ma ra).2.2.2.2.2.2.2.2.2.2.2.2.1, by show (-32768 ≤ ((va_up (q_I S a) 13 x) 13).toInt ∧ ((va_up (q_I S a) 13 x) 13).toInt ≤ 32767); rw [q_up_same]; exact hx⟩)
theorem g_32 (hG : q_G ρ L m S0 S) (ma : a ∈ L) (ra : ρ a = 32) : q_tr ρ L ((q_R S a) 0) 1 ∧ (0 ≤ ((q_I S a) 1).toInt ∧ ((q_I S a) 1).toInt ≤ 1) ∧ (0 ≤ ((q_I S a) 2).toInt ∧ ((q_I S a) 2).toInt ≤ 1) ∧ (-281474976710656 ≤ ((q_J S a) 3).toInt ∧ ((q_J S a) 3).toInt ≤ 281474976710656) ∧ (0 ≤ ((q_J S a) 4).toInt ∧ ((q_J S a) 4).toInt ≤ 65535) ∧ (-32768 ≤ ((q_I S a) 5).toInt ∧ ((q_I S a) 5).toInt ≤ 32767) ∧ (0 ≤ ((q_I S a) 6).toInt ∧ ((q_I S a) 6).toInt ≤ 65535) ∧ (0 ≤ ((q_I S a) 7).toInt ∧ ((q_I S a) 7).toInt ≤ 65535) ∧ (-32768 ≤ ((q_I S a) 8).toInt ∧ ((q_I S a) 8).toInt ≤ 65535) ∧ (-32768 ≤ ((q_I S a) 9).toInt ∧ ((q_I S a) 9).toInt ≤ 65535) ∧ (-32768 ≤ ((q_I S a) 10).toInt ∧ ((q_I S a) 10).toInt ≤ 32767) ∧ (-32768 ≤ ((q_I S a) 11).toInt ∧ ((q_I S a) 11).toInt ≤ 32767) ∧ (-32768 ≤ ((q_I S a) 12).toInt ∧ ((q_I S a) 12).toInt ≤ 32767) ∧ (-32768 ≤ ((q_I S a) 13).toInt ∧ ((q_I S a) 13).toInt ≤ 32767) := by
  have h := (hG.1.2.1 a ma).2
  rw [ra] at h
  exact h
theorem g_32_R0 (hG : q_G ρ L m S0 S) (ma : a ∈ L) (ra : ρ a = 32) : q_tr ρ L ((q_R S a) 0) 1 := (g_32 hG ma ra).1
theorem g_32_I1 (hG : q_G ρ L m S0 S) (ma : a ∈ L) (ra : ρ a = 32) : (0 ≤ ((q_I S a) 1).toInt ∧ ((q_I S a) 1).toInt ≤ 1) := (g_32 hG ma ra).2.1
theorem g_32_I2 (hG : q_G ρ L m S0 S) (ma : a ∈ L) (ra : ρ a = 32) : (0 ≤ ((q_I S a) 2).toInt ∧ ((q_I S a) 2).toInt ≤ 1) := (g_32 hG ma ra).2.2.1
theorem g_32_J3 (hG : q_G ρ L m S0 S) (ma : a ∈ L) (ra : ρ a = 32) : (-281474976710656 ≤ ((q_J S a) 3).toInt ∧ ((q_J S a) 3).toInt ≤ 281474976710656) := (g_32 hG ma ra).2.2.2.1
theorem g_32_J4 (hG : q_G ρ L m S0 S) (ma : a ∈ L) (ra : ρ a = 32) : (0 ≤ ((q_J S a) 4).toInt ∧ ((q_J S a) 4).toInt ≤ 65535) := (g_32 hG ma ra).2.2.2.2.1
theorem g_32_I5 (hG : q_G ρ L m S0 S) (ma : a ∈ L) (ra : ρ a = 32) : (-32768 ≤ ((q_I S a) 5).toInt ∧ ((q_I S a) 5).toInt ≤ 32767) := (g_32 hG ma ra).2.2.2.2.2.1
theorem g_32_I6 (hG : q_G ρ L m S0 S) (ma : a ∈ L) (ra : ρ a = 32) : (0 ≤ ((q_I S a) 6).toInt ∧ ((q_I S a) 6).toInt ≤ 65535) := (g_32 hG ma ra).2.2.2.2.2.2.1
theorem g_32_I7 (hG : q_G ρ L m S0 S) (ma : a ∈ L) (ra : ρ a = 32) : (0 ≤ ((q_I S a) 7).toInt ∧ ((q_I S a) 7).toInt ≤ 65535) := (g_32 hG ma ra).2.2.2.2.2.2.2.1
theorem g_32_I8 (hG : q_G ρ L m S0 S) (ma : a ∈ L) (ra : ρ a = 32) : (-32768 ≤ ((q_I S a) 8).toInt ∧ ((q_I S a) 8).toInt ≤ 65535) := (g_32 hG ma ra).2.2.2.2.2.2.2.2.1
theorem g_32_I9 (hG : q_G ρ L m S0 S) (ma : a ∈ L) (ra : ρ a = 32) : (-32768 ≤ ((q_I S a) 9).toInt ∧ ((q_I S a) 9).toInt ≤ 65535) := (g_32 hG ma ra).2.2.2.2.2.2.2.2.2.1
theorem g_32_I10 (hG : q_G ρ L m S0 S) (ma : a ∈ L) (ra : ρ a = 32) : (-32768 ≤ ((q_I S a) 10).toInt ∧ ((q_I S a) 10).toInt ≤ 32767) := (g_32 hG ma ra).2.2.2.2.2.2.2.2.2.2.1
theorem g_32_I11 (hG : q_G ρ L m S0 S) (ma : a ∈ L) (ra : ρ a = 32) : (-32768 ≤ ((q_I S a) 11).toInt ∧ ((q_I S a) 11).toInt ≤ 32767) := (g_32 hG ma ra).2.2.2.2.2.2.2.2.2.2.2.1
theorem g_32_I12 (hG : q_G ρ L m S0 S) (ma : a ∈ L) (ra : ρ a = 32) : (-32768 ≤ ((q_I S a) 12).toInt ∧ ((q_I S a) 12).toInt ≤ 32767) := (g_32 hG ma ra).2.2.2.2.2.2.2.2.2.2.2.2.1
theorem g_32_I13 (hG : q_G ρ L m S0 S) (ma : a ∈ L) (ra : ρ a = 32) : (-32768 ≤ ((q_I S a) 13).toInt ∧ ((q_I S a) 13).toInt ≤ 32767) := (g_32 hG ma ra).2.2.2.2.2.2.2.2.2.2.2.2.2
theorem u_32_I1 {x : Int32} (hG : q_G ρ L m S0 S) (ma : a ∈ L) (ra : ρ a = 32) (hm : m.contains (q_ar 32 1) = true) (hx : (0 ≤ x.toInt ∧ x.toInt ≤ 1)) : q_G ρ L m S0 (q_sI S a 1 x) := q_G_sI hG ma ra hm (q_E1_sI hG ra rfl rfl) (⟨(g_32 hG ma ra).1, by show (0 ≤ ((va_up (q_I S a) 1 x) 1).toInt ∧ ((va_up (q_I S a) 1 x) 1).toInt ≤ 1); rw [q_up_same]; exact hx, (g_32 hG ma ra).2.2.1, (g_32 hG ma ra).2.2.2.1, (g_32 hG ma ra).2.2.2.2.1, (g_32 hG ma ra).2.2.2.2.2.1, (g_32 hG ma ra).2.2.2.2.2.2.1, (g_32 hG ma ra).2.2.2.2.2.2.2.1, (g_32 hG ma ra).2.2.2.2.2.2.2.2.1, (g_32 hG ma ra).2.2.2.2.2.2.2.2.2.1, (g_32 hG ma ra).2.2.2.2.2.2.2.2.2.2.1, (g_32 hG ma ra).2.2.2.2.2.2.2.2.2.2.2.1, (g_32 hG ma ra).2.2.2.2.2.2.2.2.2.2.2.2.1, (g_32 hG ma ra).2.2.2.2.2.2.2.2.2.2.2.2.2⟩)
theorem u_32_I2 {x : Int32} (hG : q_G ρ L m S0 S) (ma : a ∈ L) (ra : ρ a = 32) (hm : m.contains (q_ar 32 2) = true) (hx : (0 ≤ x.toInt ∧ x.toInt ≤ 1)) : q_G ρ L m S0 (q_sI S a 2 x) := q_G_sI hG ma ra hm (q_E1_sI hG ra rfl rfl) (⟨(g_32 hG ma ra).1, (g_32 hG ma ra).2.1, by show (0 ≤ ((va_up (q_I S a) 2 x) 2).toInt ∧ ((va_up (q_I S a) 2 x) 2).toInt ≤ 1); rw [q_up_same]; exact hx, (g_32 hG ma ra).2.2.2.1, (g_32 hG ma ra).2.2.2.2.1, (g_32 hG ma ra).2.2.2.2.2.1, (g_32 hG ma ra).2.2.2.2.2.2.1, (g_32 hG ma ra).2.2.2.2.2.2.2.1, (g_32 hG ma ra).2.2.2.2.2.2.2.2.1, (g_32 hG ma ra).2.2.2.2.2.2.2.2.2.1, (g_32 hG ma ra).2.2.2.2.2.2.2.2.2.2.1, (g_32 hG ma ra).2.2.2.2.2.2.2.2.2.2.2.1, (g_32 hG ma ra).2.2.2.2.2.2.2.2.2.2.2.2.1, (g_32 hG ma ra).2.2.2.2.2.2.2.2.2.2.2.2.2⟩)
theorem u_32_J3 {x : Int64} (hG : q_G ρ L m S0 S) (ma : a ∈ L) (ra : ρ a = 32) (hm : m.contains (q_ar 32 3) = true) (hx : (-281474976710656 ≤ x.toInt ∧ x.toInt ≤ 281474976710656)) : q_G ρ L m S0 (q_sJ S a 3 x) := q_G_sJ hG ma ra hm (⟨(g_32 hG ma ra).1, (g_32 hG ma ra).2.1, (g_32 hG ma ra).2.2.1, by show (-281474976710656 ≤ ((va_up (q_J S a) 3 x) 3).toInt ∧ ((va_up (q_J S a) 3 x) 3).toInt ≤ 281474976710656); rw [q_up_same]; exact hx, (g_32 hG ma ra).2.2.2.2.1, (g_32 hG ma ra).2.2.2.2.2.1, (g_32 hG ma ra).2.2.2.2.2.2.1, (g_32 hG ma ra).2.2.2.2.2.2.2.1, (g_32 hG ma ra).2.2.2.2.2.2.2.2.1, (g_32 hG ma ra).2.2.2.2.2.2.2.2.2.1, (g_32 hG ma ra).2.2.2.2.2.2.2.2.2.2.1, (g_32 hG ma ra).2.2.2.2.2.2.2.2.2.2.2.1, (g_32 hG ma ra).2.2.2.2.2.2.2.2.2.2.2.2.1, (g_32 hG ma ra).2.2.2.2.2.2.2.2.2.2.2.2.2⟩)
theorem u_32_J4 {x : Int64} (hG : q_G ρ L m S0 S) (ma : a ∈ L) (ra : ρ a = 32) (hm : m.contains (q_ar 32 4) = true) (hx : (0 ≤ x.toInt ∧ x.toInt ≤ 65535)) : q_G ρ L m S0 (q_sJ S a 4 x) := q_G_sJ hG ma ra hm (⟨(g_32 hG ma ra).1, (g_32 hG ma ra).2.1, (g_32 hG ma ra).2.2.1, (g_32 hG ma ra).2.2.2.1, by show (0 ≤ ((va_up (q_J S a) 4 x) 4).toInt ∧ ((va_up (q_J S a) 4 x) 4).toInt ≤ 65535); rw [q_up_same]; exact hx, (g_32 hG ma ra).2.2.2.2.2.1, (g_32 hG ma ra).2.2.2.2.2.2.1, (g_32 hG ma ra).2.2.2.2.2.2.2.1, (g_32 hG ma ra).2.2.2.2.2.2.2.2.1, (g_32 hG ma ra).2.2.2.2.2.2.2.2.2.1, (g_32 hG ma ra).2.2.2.2.2.2.2.2.2.2.1, (g_32 hG ma ra).2.2.2.2.2.2.2.2.2.2.2.1, (g_32 hG ma ra).2.2.2.2.2.2.2.2.2.2.2.2.1, (g_32 hG ma ra).2.2.2.2.2.2.2.2.2.2.2.2.2⟩)
theorem u_32_I5 {x : Int32} (hG : q_G ρ L m S0 S) (ma : a ∈ L) (ra : ρ a = 32) (hm : m.contains (q_ar 32 5) = true) (hx : (-32768 ≤ x.toInt ∧ x.toInt ≤ 32767)) : q_G ρ L m S0 (q_sI S a 5 x) := q_G_sI hG ma ra hm (q_E1_sI hG ra rfl rfl) (⟨(g_32 hG ma ra).1, (g_32 hG ma ra).2.1, (g_32 hG ma ra).2.2.1, (g_32 hG ma ra).2.2.2.1, (g_32 hG ma ra).2.2.2.2.1, by show (-32768 ≤ ((va_up (q_I S a) 5 x) 5).toInt ∧ ((va_up (q_I S a) 5 x) 5).toInt ≤ 32767); rw [q_up_same]; exact hx, (g_32 hG ma ra).2.2.2.2.2.2.1, (g_32 hG ma ra).2.2.2.2.2.2.2.1, (g_32 hG ma ra).2.2.2.2.2.2.2.2.1, (g_32 hG ma ra).2.2.2.2.2.2.2.2.2.1, (g_32 hG ma ra).2.2.2.2.2.2.2.2.2.2.1, (g_32 hG ma ra).2.2.2.2.2.2.2.2.2.2.2.1, (g_32 hG ma ra).2.2.2.2.2.2.2.2.2.2.2.2.1, (g_32 hG ma ra).2.2.2.2.2.2.2.2.2.2.2.2.2⟩)
theorem u_32_I6 {x : Int32} (hG : q_G ρ L m S0 S) (ma : a ∈ L) (ra : ρ a = 32) (hm : m.contains (q_ar 32 6) = true) (hx : (0 ≤ x.toInt ∧ x.toInt ≤ 65535)) : q_G ρ L m S0 (q_sI S a 6 x) := q_G_sI hG ma ra hm (q_E1_sI hG ra rfl rfl) (⟨(g_32 hG ma ra).1, (g_32 hG ma ra).2.1, (g_32 hG ma ra).2.2.1, (g_32 hG ma ra).2.2.2.1, (g_32 hG ma ra).2.2.2.2.1, (g_32 hG ma ra).2.2.2.2.2.1, by show (0 ≤ ((va_up (q_I S a) 6 x) 6).toInt ∧ ((va_up (q_I S a) 6 x) 6).toInt ≤ 65535); rw [q_up_same]; exact hx, (g_32 hG ma ra).2.2.2.2.2.2.2.1, (g_32 hG ma ra).2.2.2.2.2.2.2.2.1, (g_32 hG ma ra).2.2.2.2.2.2.2.2.2.1, (g_32 hG ma ra).2.2.2.2.2.2.2.2.2.2.1, (g_32 hG ma ra).2.2.2.2.2.2.2.2.2.2.2.1, (g_32 hG ma ra).2.2.2.2.2.2.2.2.2.2.2.2.1, (g_32 hG ma ra).2.2.2.2.2.2.2.2.2.2.2.2.2⟩)
theorem u_32_I7 {x : Int32} (hG : q_G ρ L m S0 S) (ma : a ∈ L) (ra : ρ a = 32) (hm : m.contains (q_ar 32 7) = true) (hx : (0 ≤ x.toInt ∧ x.toInt ≤ 65535)) : q_G ρ L m S0 (q_sI S a 7 x) := q_G_sI hG ma ra hm (q_E1_sI hG ra rfl rfl) (⟨(g_32 hG ma ra).1, (g_32 hG ma ra).2.1, (g_32 hG ma ra).2.2.1, (g_32 hG ma ra).2.2.2.1, (g_32 hG ma ra).2.2.2.2.1, (g_32 hG ma ra).2.2.2.2.2.1, (g_32 hG ma ra).2.2.2.2.2.2.1, by show (0 ≤ ((va_up (q_I S a) 7 x) 7).toInt ∧ ((va_up (q_I S a) 7 x) 7).toInt ≤ 65535); rw [q_up_same]; exact hx, (g_32 hG ma ra).2.2.2.2.2.2.2.2.1, (g_32 hG ma ra).2.2.2.2.2.2.2.2.2.1, (g_32 hG ma ra).2.2.2.2.2.2.2.2.2.2.1, (g_32 hG ma ra).2.2.2.2.2.2.2.2.2.2.2.1, (g_32 hG ma ra).2.2.2.2.2.2.2.2.2.2.2.2.1, (g_32 hG ma ra).2.2.2.2.2.2.2.2.2.2.2.2.2⟩)
theorem u_32_I8 {x : Int32} (hG : q_G ρ L m S0 S) (ma : a ∈ L) (ra : ρ a = 32) (hm : m.contains (q_ar 32 8) = true) (hx : (-32768 ≤ x.toInt ∧ x.toInt ≤ 65535)) : q_G ρ L m S0 (q_sI S a 8 x) := q_G_sI hG ma ra hm (q_E1_sI hG ra rfl rfl) (⟨(g_32 hG ma ra).1, (g_32 hG ma ra).2.1, (g_32 hG ma ra).2.2.1, (g_32 hG ma ra).2.2.2.1, (g_32 hG ma ra).2.2.2.2.1, (g_32 hG ma ra).2.2.2.2.2.1, (g_32 hG ma ra).2.2.2.2.2.2.1, (g_32 hG ma ra).2.2.2.2.2.2.2.1, by show (-32768 ≤ ((va_up (q_I S a) 8 x) 8).toInt ∧ ((va_up (q_I S a) 8 x) 8).toInt ≤ 65535); rw [q_up_same]; exact hx, (g_32 hG ma ra).2.2.2.2.2.2.2.2.2.1, (g_32 hG ma ra).2.2.2.2.2.2.2.2.2.2.1, (g_32 hG ma ra).2.2.2.2.2.2.2.2.2.2.2.1, (g_32 hG ma ra).2.2.2.2.2.2.2.2.2.2.2.2.1, (g_32 hG ma ra).2.2.2.2.2.2.2.2.2.2.2.2.2⟩)
theorem u_32_I9 {x : Int32} (hG : q_G ρ L m S0 S) (ma : a ∈ L) (ra : ρ a = 32) (hm : m.contains (q_ar 32 9) = true) (hx : (-32768 ≤ x.toInt ∧ x.toInt ≤ 65535)) : q_G ρ L m S0 (q_sI S a 9 x) := q_G_sI hG ma ra hm (q_E1_sI hG ra rfl rfl) (⟨(g_32 hG ma ra).1, (g_32 hG ma ra).2.1, (g_32 hG ma ra).2.2.1, (g_32 hG ma ra).2.2.2.1, (g_32 hG ma ra).2.2.2.2.1, (g_32 hG ma ra).2.2.2.2.2.1, (g_32 hG ma ra).2.2.2.2.2.2.1, (g_32 hG ma ra).2.2.2.2.2.2.2.1, (g_32 hG ma ra).2.2.2.2.2.2.2.2.1, by show (-32768 ≤ ((va_up (q_I S a) 9 x) 9).toInt ∧ ((va_up (q_I S a) 9 x) 9).toInt ≤ 65535); rw [q_up_same]; exact hx, (g_32 hG ma ra).2.2.2.2.2.2.2.2.2.2.1, (g_32 hG ma ra).2.2.2.2.2.2.2.2.2.2.2.1, (g_32 hG ma ra).2.2.2.2.2.2.2.2.2.2.2.2.1, (g_32 hG ma ra).2.2.2.2.2.2.2.2.2.2.2.2.2⟩)
theorem u_32_I10 {x : Int32} (hG : q_G ρ L m S0 S) (ma : a ∈ L) (ra : ρ a = 32) (hm : m.contains (q_ar 32 10) = true) (hx : (-32768 ≤ x.toInt ∧ x.toInt ≤ 32767)) : q_G ρ L m S0 (q_sI S a 10 x) := q_G_sI hG ma ra hm (q_E1_sI hG ra rfl rfl) (⟨(g_32 hG ma ra).1, (g_32 hG ma ra).2.1, (g_32 hG ma ra).2.2.1, (g_32 hG ma ra).2.2.2.1, (g_32 hG ma ra).2.2.2.2.1, (g_32 hG ma ra).2.2.2.2.2.1, (g_32 hG ma ra).2.2.2.2.2.2.1, (g_32 hG ma ra).2.2.2.2.2.2.2.1, (g_32 hG ma ra).2.2.2.2.2.2.2.2.1, (g_32 hG ma ra).2.2.2.2.2.2.2.2.2.1, by show (-32768 ≤ ((va_up (q_I S a) 10 x) 10).toInt ∧ ((va_up (q_I S a) 10 x) 10).toInt ≤ 32767); rw [q_up_same]; exact hx, (g_32 hG ma ra).2.2.2.2.2.2.2.2.2.2.2.1, (g_32 hG ma ra).2.2.2.2.2.2.2.2.2.2.2.2.1, (g_32 hG ma ra).2.2.2.2.2.2.2.2.2.2.2.2.2⟩)
theorem u_32_I11 {x : Int32} (hG : q_G ρ L m S0 S) (ma : a ∈ L) (ra : ρ a = 32) (hm : m.contains (q_ar 32 11) = true) (hx : (-32768 ≤ x.toInt ∧ x.toInt ≤ 32767)) : q_G ρ L m S0 (q_sI S a 11 x) := q_G_sI hG ma ra hm (q_E1_sI hG ra rfl rfl) (⟨(g_32 hG ma ra).1, (g_32 hG ma ra).2.1, (g_32 hG ma ra).2.2.1, (g_32 hG ma ra).2.2.2.1, (g_32 hG ma ra).2.2.2.2.1, (g_32 hG ma ra).2.2.2.2.2.1, (g_32 hG ma ra).2.2.2.2.2.2.1, (g_32 hG ma ra).2.2.2.2.2.2.2.1, (g_32 hG ma ra).2.2.2.2.2.2.2.2.1, (g_32 hG ma ra).2.2.2.2.2.2.2.2.2.1, (g_32 hG ma ra).2.2.2.2.2.2.2.2.2.2.1, by show (-32768 ≤ ((va_up (q_I S a) 11 x) 11).toInt ∧ ((va_up (q_I S a) 11 x) 11).toInt ≤ 32767); rw [q_up_same]; exact hx, (g_32 hG ma ra).2.2.2.2.2.2.2.2.2.2.2.2.1, (g_32 hG ma ra).2.2.2.2.2.2.2.2.2.2.2.2.2⟩)
theorem u_32_I12 {x : Int32} (hG : q_G ρ L m S0 S) (ma : a ∈ L) (ra : ρ a = 32) (hm : m.contains (q_ar 32 12) = true) (hx : (-32768 ≤ x.toInt ∧ x.toInt ≤ 32767)) : q_G ρ L m S0 (q_sI S a 12 x) := q_G_sI hG ma ra hm (q_E1_sI hG ra rfl rfl) (⟨(g_32 hG ma ra).1, (g_32 hG ma ra).2.1, (g_32 hG ma ra).2.2.1, (g_32 hG ma ra).2.2.2.1, (g_32 hG ma ra).2.2.2.2.1, (g_32 hG ma ra).2.2.2.2.2.1, (g_32 hG ma ra).2.2.2.2.2.2.1, (g_32 hG ma ra).2.2.2.2.2.2.2.1, (g_32 hG ma ra).2.2.2.2.2.2.2.2.1, (g_32 hG ma ra).2.2.2.2.2.2.2.2.2.1, (g_32 hG ma ra).2.2.2.2.2.2.2.2.2.2.1, (g_32 hG ma ra).2.2.2.2.2.2.2.2.2.2.2.1, by show (-32768 ≤ ((va_up (q_I S a) 12 x) 12).toInt ∧ ((va_up (q_I S a) 12 x) 12).toInt ≤ 32767); rw [q_up_same]; exact hx, (g_32 hG ma ra).2.2.2.2.2.2.2.2.2.2.2.2.2⟩)
theorem u_32_I13 {x : Int32} (hG : q_G ρ L m S0 S) (ma : a ∈ L) (ra : ρ a = 32) (hm : m.contains (q_ar 32 13) = true) (hx : (-32768 ≤ x.toInt ∧ x.toInt ≤ 32767)) : q_G ρ L m S0 (q_sI S a 13 x) := q_G_sI hG ma ra hm (q_E1_sI hG ra rfl rfl) (⟨(g_32 hG ma ra).1, (g_32 hG ma ra).2.1, (g_32 hG ma ra).2.2.1, (g_32 hG ma ra).2.2.2.1, (g_32 hG ma ra).2.2.2.2.1, (g_32 hG ma ra).2.2.2.2.2.1, (g_32 hG ma ra).2.2.2.2.2.2.1, (g_32 hG ma ra).2.2.2.2.2.2.2.1, (g_32 hG ma ra).2.2.2.2.2.2.2.2.1, (g_32 hG ma ra).2.2.2.2.2.2.2.2.2.1, (g_32 hG ma ra).2.2.2.2.2.2.2.2.2.2.1, (g_32 hG ma ra).2.2.2.2.2.2.2.2.2.2.2.1, (g_32 hG ma ra).2.2.2.2.2.2.2.2.2.2.2.2.1, by show (-32768 ≤ ((va_up (q_I S a) 13 x) 13).toInt ∧ ((va_up (q_I S a) 13 x) 13).toInt ≤ 32767); rw [q_up_same]; exact hx⟩)
theorem g_33 (hG : q_G ρ L m S0 S) (ma : a ∈ L) (ra : ρ a = 33) : q_tr ρ L ((q_R S a) 0) 1 ∧ (0 ≤ ((q_I S a) 1).toInt ∧ ((q_I S a) 1).toInt ≤ 1) ∧ (0 ≤ ((q_I S a) 2).toInt ∧ ((q_I S a) 2).toInt ≤ 1) ∧ (-281474976710656 ≤ ((q_J S a) 3).toInt ∧ ((q_J S a) 3).toInt ≤ 281474976710656) ∧ (0 ≤ ((q_J S a) 4).toInt ∧ ((q_J S a) 4).toInt ≤ 65535) ∧ (-32768 ≤ ((q_I S a) 5).toInt ∧ ((q_I S a) 5).toInt ≤ 32767) ∧ (0 ≤ ((q_I S a) 6).toInt ∧ ((q_I S a) 6).toInt ≤ 65535) ∧ (0 ≤ ((q_I S a) 7).toInt ∧ ((q_I S a) 7).toInt ≤ 65535) ∧ (-32768 ≤ ((q_I S a) 8).toInt ∧ ((q_I S a) 8).toInt ≤ 65535) ∧ (-32768 ≤ ((q_I S a) 9).toInt ∧ ((q_I S a) 9).toInt ≤ 65535) ∧ (-32768 ≤ ((q_I S a) 10).toInt ∧ ((q_I S a) 10).toInt ≤ 32767) ∧ (-32768 ≤ ((q_I S a) 11).toInt ∧ ((q_I S a) 11).toInt ≤ 32767) ∧ (-32768 ≤ ((q_I S a) 12).toInt ∧ ((q_I S a) 12).toInt ≤ 32767) ∧ (-32768 ≤ ((q_I S a) 13).toInt ∧ ((q_I S a) 13).toInt ≤ 32767) := by
  have h := (hG.1.2.1 a ma).2
  rw [ra] at h
  exact h
theorem g_33_R0 (hG : q_G ρ L m S0 S) (ma : a ∈ L) (ra : ρ a = 33) : q_tr ρ L ((q_R S a) 0) 1 := (g_33 hG ma ra).1
theorem g_33_I1 (hG : q_G ρ L m S0 S) (ma : a ∈ L) (ra : ρ a = 33) : (0 ≤ ((q_I S a) 1).toInt ∧ ((q_I S a) 1).toInt ≤ 1) := (g_33 hG ma ra).2.1
theorem g_33_I2 (hG : q_G ρ L m S0 S) (ma : a ∈ L) (ra : ρ a = 33) : (0 ≤ ((q_I S a) 2).toInt ∧ ((q_I S a) 2).toInt ≤ 1) := (g_33 hG ma ra).2.2.1
theorem g_33_J3 (hG : q_G ρ L m S0 S) (ma : a ∈ L) (ra : ρ a = 33) : (-281474976710656 ≤ ((q_J S a) 3).toInt ∧ ((q_J S a) 3).toInt ≤ 281474976710656) := (g_33 hG ma ra).2.2.2.1
theorem g_33_J4 (hG : q_G ρ L m S0 S) (ma : a ∈ L) (ra : ρ a = 33) : (0 ≤ ((q_J S a) 4).toInt ∧ ((q_J S a) 4).toInt ≤ 65535) := (g_33 hG ma ra).2.2.2.2.1
theorem g_33_I5 (hG : q_G ρ L m S0 S) (ma : a ∈ L) (ra : ρ a = 33) : (-32768 ≤ ((q_I S a) 5).toInt ∧ ((q_I S a) 5).toInt ≤ 32767) := (g_33 hG ma ra).2.2.2.2.2.1
theorem g_33_I6 (hG : q_G ρ L m S0 S) (ma : a ∈ L) (ra : ρ a = 33) : (0 ≤ ((q_I S a) 6).toInt ∧ ((q_I S a) 6).toInt ≤ 65535) := (g_33 hG ma ra).2.2.2.2.2.2.1
theorem g_33_I7 (hG : q_G ρ L m S0 S) (ma : a ∈ L) (ra : ρ a = 33) : (0 ≤ ((q_I S a) 7).toInt ∧ ((q_I S a) 7).toInt ≤ 65535) := (g_33 hG ma ra).2.2.2.2.2.2.2.1
theorem g_33_I8 (hG : q_G ρ L m S0 S) (ma : a ∈ L) (ra : ρ a = 33) : (-32768 ≤ ((q_I S a) 8).toInt ∧ ((q_I S a) 8).toInt ≤ 65535) := (g_33 hG ma ra).2.2.2.2.2.2.2.2.1
theorem g_33_I9 (hG : q_G ρ L m S0 S) (ma : a ∈ L) (ra : ρ a = 33) : (-32768 ≤ ((q_I S a) 9).toInt ∧ ((q_I S a) 9).toInt ≤ 65535) := (g_33 hG ma ra).2.2.2.2.2.2.2.2.2.1
theorem g_33_I10 (hG : q_G ρ L m S0 S) (ma : a ∈ L) (ra : ρ a = 33) : (-32768 ≤ ((q_I S a) 10).toInt ∧ ((q_I S a) 10).toInt ≤ 32767) := (g_33 hG ma ra).2.2.2.2.2.2.2.2.2.2.1
theorem g_33_I11 (hG : q_G ρ L m S0 S) (ma : a ∈ L) (ra : ρ a = 33) : (-32768 ≤ ((q_I S a) 11).toInt ∧ ((q_I S a) 11).toInt ≤ 32767) := (g_33 hG ma ra).2.2.2.2.2.2.2.2.2.2.2.1
theorem g_33_I12 (hG : q_G ρ L m S0 S) (ma : a ∈ L) (ra : ρ a = 33) : (-32768 ≤ ((q_I S a) 12).toInt ∧ ((q_I S a) 12).toInt ≤ 32767) := (g_33 hG ma ra).2.2.2.2.2.2.2.2.2.2.2.2.1
theorem g_33_I13 (hG : q_G ρ L m S0 S) (ma : a ∈ L) (ra : ρ a = 33) : (-32768 ≤ ((q_I S a) 13).toInt ∧ ((q_I S a) 13).toInt ≤ 32767) := (g_33 hG ma ra).2.2.2.2.2.2.2.2.2.2.2.2.2
theorem u_33_I1 {x : Int32} (hG : q_G ρ L m S0 S) (ma : a ∈ L) (ra : ρ a = 33) (hm : m.contains (q_ar 33 1) = true) (hx : (0 ≤ x.toInt ∧ x.toInt ≤ 1)) : q_G ρ L m S0 (q_sI S a 1 x) := q_G_sI hG ma ra hm (q_E1_sI hG ra rfl rfl) (⟨(g_33 hG ma ra).1, by show (0 ≤ ((va_up (q_I S a) 1 x) 1).toInt ∧ ((va_up (q_I S a) 1 x) 1).toInt ≤ 1); rw [q_up_same]; exact hx, (g_33 hG ma ra).2.2.1, (g_33 hG ma ra).2.2.2.1, (g_33 hG ma ra).2.2.2.2.1, (g_33 hG ma ra).2.2.2.2.2.1, (g_33 hG ma ra).2.2.2.2.2.2.1, (g_33 hG ma ra).2.2.2.2.2.2.2.1, (g_33 hG ma ra).2.2.2.2.2.2.2.2.1, (g_33 hG ma ra).2.2.2.2.2.2.2.2.2.1, (g_33 hG ma ra).2.2.2.2.2.2.2.2.2.2.1, (g_33 hG ma ra).2.2.2.2.2.2.2.2.2.2.2.1, (g_33 hG ma ra).2.2.2.2.2.2.2.2.2.2.2.2.1, (g_33 hG ma ra).2.2.2.2.2.2.2.2.2.2.2.2.2⟩)
theorem u_33_I2 {x : Int32} (hG : q_G ρ L m S0 S) (ma : a ∈ L) (ra : ρ a = 33) (hm : m.contains (q_ar 33 2) = true) (hx : (0 ≤ x.toInt ∧ x.toInt ≤ 1)) : q_G ρ L m S0 (q_sI S a 2 x) := q_G_sI hG ma ra hm (q_E1_sI hG ra rfl rfl) (⟨(g_33 hG ma ra).1, (g_33 hG ma ra).2.1, by show (0 ≤ ((va_up (q_I S a) 2 x) 2).toInt ∧ ((va_up (q_I S a) 2 x) 2).toInt ≤ 1); rw [q_up_same]; exact hx, (g_33 hG ma ra).2.2.2.1, (g_33 hG ma ra).2.2.2.2.1, (g_33 hG ma ra).2.2.2.2.2.1, (g_33 hG ma ra).2.2.2.2.2.2.1, (g_33 hG ma ra).2.2.2.2.2.2.2.1, (g_33 hG ma ra).2.2.2.2.2.2.2.2.1, (g_33 hG ma ra).2.2.2.2.2.2.2.2.2.1, (g_33 hG ma ra).2.2.2.2.2.2.2.2.2.2.1, (g_33 hG ma ra).2.2.2.2.2.2.2.2.2.2.2.1, (g_33 hG ma ra).2.2.2.2.2.2.2.2.2.2.2.2.1, (g_33 hG ma ra).2.2.2.2.2.2.2.2.2.2.2.2.2⟩)
theorem u_33_J3 {x : Int64} (hG : q_G ρ L m S0 S) (ma : a ∈ L) (ra : ρ a = 33) (hm : m.contains (q_ar 33 3) = true) (hx : (-281474976710656 ≤ x.toInt ∧ x.toInt ≤ 281474976710656)) : q_G ρ L m S0 (q_sJ S a 3 x) := q_G_sJ hG ma ra hm (⟨(g_33 hG ma ra).1, (g_33 hG ma ra).2.1, (g_33 hG ma ra).2.2.1, by show (-281474976710656 ≤ ((va_up (q_J S a) 3 x) 3).toInt ∧ ((va_up (q_J S a) 3 x) 3).toInt ≤ 281474976710656); rw [q_up_same]; exact hx, (g_33 hG ma ra).2.2.2.2.1, (g_33 hG ma ra).2.2.2.2.2.1, (g_33 hG ma ra).2.2.2.2.2.2.1, (g_33 hG ma ra).2.2.2.2.2.2.2.1, (g_33 hG ma ra).2.2.2.2.2.2.2.2.1, (g_33 hG ma ra).2.2.2.2.2.2.2.2.2.1, (g_33 hG ma ra).2.2.2.2.2.2.2.2.2.2.1, (g_33 hG ma ra).2.2.2.2.2.2.2.2.2.2.2.1, (g_33 hG ma ra).2.2.2.2.2.2.2.2.2.2.2.2.1, (g_33 hG ma ra).2.2.2.2.2.2.2.2.2.2.2.2.2⟩)
theorem u_33_J4 {x : Int64} (hG : q_G ρ L m S0 S) (ma : a ∈ L) (ra : ρ a = 33) (hm : m.contains (q_ar 33 4) = true) (hx : (0 ≤ x.toInt ∧ x.toInt ≤ 65535)) : q_G ρ L m S0 (q_sJ S a 4 x) := q_G_sJ hG ma ra hm (⟨(g_33 hG ma ra).1, (g_33 hG ma ra).2.1, (g_33 hG ma ra).2.2.1, (g_33 hG ma ra).2.2.2.1, by show (0 ≤ ((va_up (q_J S a) 4 x) 4).toInt ∧ ((va_up (q_J S a) 4 x) 4).toInt ≤ 65535); rw [q_up_same]; exact hx, (g_33 hG ma ra).2.2.2.2.2.1, (g_33 hG ma ra).2.2.2.2.2.2.1, (g_33 hG ma ra).2.2.2.2.2.2.2.1, (g_33 hG ma ra).2.2.2.2.2.2.2.2.1, (g_33 hG ma ra).2.2.2.2.2.2.2.2.2.1, (g_33 hG ma ra).2.2.2.2.2.2.2.2.2.2.1, (g_33 hG ma ra).2.2.2.2.2.2.2.2.2.2.2.1, (g_33 hG ma ra).2.2.2.2.2.2.2.2.2.2.2.2.1, (g_33 hG ma ra).2.2.2.2.2.2.2.2.2.2.2.2.2⟩)
theorem u_33_I5 {x : Int32} (hG : q_G ρ L m S0 S) (ma : a ∈ L) (ra : ρ a = 33) (hm : m.contains (q_ar 33 5) = true) (hx : (-32768 ≤ x.toInt ∧ x.toInt ≤ 32767)) : q_G ρ L m S0 (q_sI S a 5 x) := q_G_sI hG ma ra hm (q_E1_sI hG ra rfl rfl) (⟨(g_33 hG ma ra).1, (g_33 hG ma ra).2.1, (g_33 hG ma ra).2.2.1, (g_33 hG ma ra).2.2.2.1, (g_33 hG ma ra).2.2.2.2.1, by show (-32768 ≤ ((va_up (q_I S a) 5 x) 5).toInt ∧ ((va_up (q_I S a) 5 x) 5).toInt ≤ 32767); rw [q_up_same]; exact hx, (g_33 hG ma ra).2.2.2.2.2.2.1, (g_33 hG ma ra).2.2.2.2.2.2.2.1, (g_33 hG ma ra).2.2.2.2.2.2.2.2.1, (g_33 hG ma ra).2.2.2.2.2.2.2.2.2.1, (g_33 hG ma ra).2.2.2.2.2.2.2.2.2.2.1, (g_33 hG ma ra).2.2.2.2.2.2.2.2.2.2.2.1, (g_33 hG ma ra).2.2.2.2.2.2.2.2.2.2.2.2.1, (g_33 hG ma ra).2.2.2.2.2.2.2.2.2.2.2.2.2⟩)
theorem u_33_I6 {x : Int32} (hG : q_G ρ L m S0 S) (ma : a ∈ L) (ra : ρ a = 33) (hm : m.contains (q_ar 33 6) = true) (hx : (0 ≤ x.toInt ∧ x.toInt ≤ 65535)) : q_G ρ L m S0 (q_sI S a 6 x) := q_G_sI hG ma ra hm (q_E1_sI hG ra rfl rfl) (⟨(g_33 hG ma ra).1, (g_33 hG ma ra).2.1, (g_33 hG ma ra).2.2.1, (g_33 hG ma ra).2.2.2.1, (g_33 hG ma ra).2.2.2.2.1, (g_33 hG ma ra).2.2.2.2.2.1, by show (0 ≤ ((va_up (q_I S a) 6 x) 6).toInt ∧ ((va_up (q_I S a) 6 x) 6).toInt ≤ 65535); rw [q_up_same]; exact hx, (g_33 hG ma ra).2.2.2.2.2.2.2.1, (g_33 hG ma ra).2.2.2.2.2.2.2.2.1, (g_33 hG ma ra).2.2.2.2.2.2.2.2.2.1, (g_33 hG ma ra).2.2.2.2.2.2.2.2.2.2.1, (g_33 hG ma ra).2.2.2.2.2.2.2.2.2.2.2.1, (g_33 hG ma ra).2.2.2.2.2.2.2.2.2.2.2.2.1, (g_33 hG ma ra).2.2.2.2.2.2.2.2.2.2.2.2.2⟩)
theorem u_33_I7 {x : Int32} (hG : q_G ρ L m S0 S) (ma : a ∈ L) (ra : ρ a = 33) (hm : m.contains (q_ar 33 7) = true) (hx : (0 ≤ x.toInt ∧ x.toInt ≤ 65535)) : q_G ρ L m S0 (q_sI S a 7 x) := q_G_sI hG ma ra hm (q_E1_sI hG ra rfl rfl) (⟨(g_33 hG ma ra).1, (g_33 hG ma ra).2.1, (g_33 hG ma ra).2.2.1, (g_33 hG ma ra).2.2.2.1, (g_33 hG ma ra).2.2.2.2.1, (g_33 hG ma ra).2.2.2.2.2.1, (g_33 hG ma ra).2.2.2.2.2.2.1, by show (0 ≤ ((va_up (q_I S a) 7 x) 7).toInt ∧ ((va_up (q_I S a) 7 x) 7).toInt ≤ 65535); rw [q_up_same]; exact hx, (g_33 hG ma ra).2.2.2.2.2.2.2.2.1, (g_33 hG ma ra).2.2.2.2.2.2.2.2.2.1, (g_33 hG ma ra).2.2.2.2.2.2.2.2.2.2.1, (g_33 hG ma ra).2.2.2.2.2.2.2.2.2.2.2.1, (g_33 hG ma ra).2.2.2.2.2.2.2.2.2.2.2.2.1, (g_33 hG ma ra).2.2.2.2.2.2.2.2.2.2.2.2.2⟩)
theorem u_33_I8 {x : Int32} (hG : q_G ρ L m S0 S) (ma : a ∈ L) (ra : ρ a = 33) (hm : m.contains (q_ar 33 8) = true) (hx : (-32768 ≤ x.toInt ∧ x.toInt ≤ 65535)) : q_G ρ L m S0 (q_sI S a 8 x) := q_G_sI hG ma ra hm (q_E1_sI hG ra rfl rfl) (⟨(g_33 hG ma ra).1, (g_33 hG ma ra).2.1, (g_33 hG ma ra).2.2.1, (g_33 hG ma ra).2.2.2.1, (g_33 hG ma ra).2.2.2.2.1, (g_33 hG ma ra).2.2.2.2.2.1, (g_33 hG ma ra).2.2.2.2.2.2.1, (g_33 hG ma ra).2.2.2.2.2.2.2.1, by show (-32768 ≤ ((va_up (q_I S a) 8 x) 8).toInt ∧ ((va_up (q_I S a) 8 x) 8).toInt ≤ 65535); rw [q_up_same]; exact hx, (g_33 hG ma ra).2.2.2.2.2.2.2.2.2.1, (g_33 hG ma ra).2.2.2.2.2.2.2.2.2.2.1, (g_33 hG ma ra).2.2.2.2.2.2.2.2.2.2.2.1, (g_33 hG ma ra).2.2.2.2.2.2.2.2.2.2.2.2.1, (g_33 hG ma ra).2.2.2.2.2.2.2.2.2.2.2.2.2⟩)
theorem u_33_I9 {x : Int32} (hG : q_G ρ L m S0 S) (ma : a ∈ L) (ra : ρ a = 33) (hm : m.contains (q_ar 33 9) = true) (hx : (-32768 ≤ x.toInt ∧ x.toInt ≤ 65535)) : q_G ρ L m S0 (q_sI S a 9 x) := q_G_sI hG ma ra hm (q_E1_sI hG ra rfl rfl) (⟨(g_33 hG ma ra).1, (g_33 hG ma ra).2.1, (g_33 hG ma ra).2.2.1, (g_33 hG ma ra).2.2.2.1, (g_33 hG ma ra).2.2.2.2.1, (g_33 hG ma ra).2.2.2.2.2.1, (g_33 hG ma ra).2.2.2.2.2.2.1, (g_33 hG ma ra).2.2.2.2.2.2.2.1, (g_33 hG ma ra).2.2.2.2.2.2.2.2.1, by show (-32768 ≤ ((va_up (q_I S a) 9 x) 9).toInt ∧ ((va_up (q_I S a) 9 x) 9).toInt ≤ 65535); rw [q_up_same]; exact hx, (g_33 hG ma ra).2.2.2.2.2.2.2.2.2.2.1, (g_33 hG ma ra).2.2.2.2.2.2.2.2.2.2.2.1, (g_33 hG ma ra).2.2.2.2.2.2.2.2.2.2.2.2.1, (g_33 hG ma ra).2.2.2.2.2.2.2.2.2.2.2.2.2⟩)
theorem u_33_I10 {x : Int32} (hG : q_G ρ L m S0 S) (ma : a ∈ L) (ra : ρ a = 33) (hm : m.contains (q_ar 33 10) = true) (hx : (-32768 ≤ x.toInt ∧ x.toInt ≤ 32767)) : q_G ρ L m S0 (q_sI S a 10 x) := q_G_sI hG ma ra hm (q_E1_sI hG ra rfl rfl) (⟨(g_33 hG ma ra).1, (g_33 hG ma ra).2.1, (g_33 hG ma ra).2.2.1, (g_33 hG ma ra).2.2.2.1, (g_33 hG ma ra).2.2.2.2.1, (g_33 hG ma ra).2.2.2.2.2.1, (g_33 hG ma ra).2.2.2.2.2.2.1, (g_33 hG ma ra).2.2.2.2.2.2.2.1, (g_33 hG ma ra).2.2.2.2.2.2.2.2.1, (g_33 hG ma ra).2.2.2.2.2.2.2.2.2.1, by show (-32768 ≤ ((va_up (q_I S a) 10 x) 10).toInt ∧ ((va_up (q_I S a) 10 x) 10).toInt ≤ 32767); rw [q_up_same]; exact hx, (g_33 hG ma ra).2.2.2.2.2.2.2.2.2.2.2.1, (g_33 hG ma ra).2.2.2.2.2.2.2.2.2.2.2.2.1, (g_33 hG ma ra).2.2.2.2.2.2.2.2.2.2.2.2.2⟩)
theorem u_33_I11 {x : Int32} (hG : q_G ρ L m S0 S) (ma : a ∈ L) (ra : ρ a = 33) (hm : m.contains (q_ar 33 11) = true) (hx : (-32768 ≤ x.toInt ∧ x.toInt ≤ 32767)) : q_G ρ L m S0 (q_sI S a 11 x) := q_G_sI hG ma ra hm (q_E1_sI hG ra rfl rfl) (⟨(g_33 hG ma ra).1, (g_33 hG ma ra).2.1, (g_33 hG ma ra).2.2.1, (g_33 hG ma ra).2.2.2.1, (g_33 hG ma ra).2.2.2.2.1, (g_33 hG ma ra).2.2.2.2.2.1, (g_33 hG ma ra).2.2.2.2.2.2.1, (g_33 hG ma ra).2.2.2.2.2.2.2.1, (g_33 hG ma ra).2.2.2.2.2.2.2.2.1, (g_33 hG ma ra).2.2.2.2.2.2.2.2.2.1, (g_33 hG ma ra).2.2.2.2.2.2.2.2.2.2.1, by show (-32768 ≤ ((va_up (q_I S a) 11 x) 11).toInt ∧ ((va_up (q_I S a) 11 x) 11).toInt ≤ 32767); rw [q_up_same]; exact hx, (g_33 hG ma ra).2.2.2.2.2.2.2.2.2.2.2.2.1, (g_33 hG ma ra).2.2.2.2.2.2.2.2.2.2.2.2.2⟩)
theorem u_33_I12 {x : Int32} (hG : q_G ρ L m S0 S) (ma : a ∈ L) (ra : ρ a = 33) (hm : m.contains (q_ar 33 12) = true) (hx : (-32768 ≤ x.toInt ∧ x.toInt ≤ 32767)) : q_G ρ L m S0 (q_sI S a 12 x) := q_G_sI hG ma ra hm (q_E1_sI hG ra rfl rfl) (⟨(g_33 hG ma ra).1, (g_33 hG ma ra).2.1, (g_33 hG ma ra).2.2.1, (g_33 hG ma ra).2.2.2.1, (g_33 hG ma ra).2.2.2.2.1, (g_33 hG ma ra).2.2.2.2.2.1, (g_33 hG ma ra).2.2.2.2.2.2.1, (g_33 hG ma ra).2.2.2.2.2.2.2.1, (g_33 hG ma ra).2.2.2.2.2.2.2.2.1, (g_33 hG ma ra).2.2.2.2.2.2.2.2.2.1, (g_33 hG ma ra).2.2.2.2.2.2.2.2.2.2.1, (g_33 hG ma ra).2.2.2.2.2.2.2.2.2.2.2.1, by show (-32768 ≤ ((va_up (q_I S a) 12 x) 12).toInt ∧ ((va_up (q_I S a) 12 x) 12).toInt ≤ 32767); rw [q_up_same]; exact hx, (g_33 hG ma ra).2.2.2.2.2.2.2.2.2.2.2.2.2⟩)
theorem u_33_I13 {x : Int32} (hG : q_G ρ L m S0 S) (ma : a ∈ L) (ra : ρ a = 33) (hm : m.contains (q_ar 33 13) = true) (hx : (-32768 ≤ x.toInt ∧ x.toInt ≤ 32767)) : q_G ρ L m S0 (q_sI S a 13 x) := q_G_sI hG ma ra hm (q_E1_sI hG ra rfl rfl) (⟨(g_33 hG ma ra).1, (g_33 hG ma ra).2.1, (g_33 hG ma ra).2.2.1, (g_33 hG ma ra).2.2.2.1, (g_33 hG ma ra).2.2.2.2.1, (g_33 hG ma ra).2.2.2.2.2.1, (g_33 hG ma ra).2.2.2.2.2.2.1, (g_33 hG ma ra).2.2.2.2.2.2.2.1, (g_33 hG ma ra).2.2.2.2.2.2.2.2.1, (g_33 hG ma ra).2.2.2.2.2.2.2.2.2.1, (g_33 hG ma ra).2.2.2.2.2.2.2.2.2.2.1, (g_33 hG ma ra).2.2.2.2.2.2.2.2.2.2.2.1, (g_33 hG ma ra).2.2.2.2.2.2.2.2.2.2.2.2.1, by show (-32768 ≤ ((va_up (q_I S a) 13 x) 13).toInt ∧ ((va_up (q_I S a) 13 x) 13).toInt ≤ 32767); rw [q_up_same]; exact hx⟩)
theorem g_34 (hG : q_G ρ L m S0 S) (ma : a ∈ L) (ra : ρ a = 34) : q_tr ρ L ((q_R S a) 0) 1 ∧ (0 ≤ ((q_I S a) 1).toInt ∧ ((q_I S a) 1).toInt ≤ 1) ∧ (0 ≤ ((q_I S a) 2).toInt ∧ ((q_I S a) 2).toInt ≤ 1) ∧ (-281474976710656 ≤ ((q_J S a) 3).toInt ∧ ((q_J S a) 3).toInt ≤ 281474976710656) ∧ (0 ≤ ((q_J S a) 4).toInt ∧ ((q_J S a) 4).toInt ≤ 65535) ∧ (-32768 ≤ ((q_I S a) 5).toInt ∧ ((q_I S a) 5).toInt ≤ 32767) ∧ (0 ≤ ((q_I S a) 6).toInt ∧ ((q_I S a) 6).toInt ≤ 65535) ∧ (0 ≤ ((q_I S a) 7).toInt ∧ ((q_I S a) 7).toInt ≤ 65535) ∧ (-32768 ≤ ((q_I S a) 8).toInt ∧ ((q_I S a) 8).toInt ≤ 65535) ∧ (-32768 ≤ ((q_I S a) 9).toInt ∧ ((q_I S a) 9).toInt ≤ 65535) ∧ (-32768 ≤ ((q_I S a) 10).toInt ∧ ((q_I S a) 10).toInt ≤ 32767) ∧ (-32768 ≤ ((q_I S a) 11).toInt ∧ ((q_I S a) 11).toInt ≤ 32767) ∧ (-32768 ≤ ((q_I S a) 12).toInt ∧ ((q_I S a) 12).toInt ≤ 32767) ∧ (-32768 ≤ ((q_I S a) 13).toInt ∧ ((q_I S a) 13).toInt ≤ 32767) := by
  have h := (hG.1.2.1 a ma).2
  rw [ra] at h
  exact h
theorem g_34_R0 (hG : q_G ρ L m S0 S) (ma : a ∈ L) (ra : ρ a = 34) : q_tr ρ L ((q_R S a) 0) 1 := (g_34 hG ma ra).1
theorem g_34_I1 (hG : q_G ρ L m S0 S) (ma : a ∈ L) (ra : ρ a = 34) : (0 ≤ ((q_I S a) 1).toInt ∧ ((q_I S a) 1).toInt ≤ 1) := (g_34 hG ma ra).2.1
theorem g_34_I2 (hG : q_G ρ L m S0 S) (ma : a ∈ L) (ra : ρ a = 34) : (0 ≤ ((q_I S a) 2).toInt ∧ ((q_I S a) 2).toInt ≤ 1) := (g_34 hG ma ra).2.2.1
theorem g_34_J3 (hG : q_G ρ L m S0 S) (ma : a ∈ L) (ra : ρ a = 34) : (-281474976710656 ≤ ((q_J S a) 3).toInt ∧ ((q_J S a) 3).toInt ≤ 281474976710656) := (g_34 hG ma ra).2.2.2.1
theorem g_34_J4 (hG : q_G ρ L m S0 S) (ma : a ∈ L) (ra : ρ a = 34) : (0 ≤ ((q_J S a) 4).toInt ∧ ((q_J S a) 4).toInt ≤ 65535) := (g_34 hG ma ra).2.2.2.2.1
theorem g_34_I5 (hG : q_G ρ L m S0 S) (ma : a ∈ L) (ra : ρ a = 34) : (-32768 ≤ ((q_I S a) 5).toInt ∧ ((q_I S a) 5).toInt ≤ 32767) := (g_34 hG ma ra).2.2.2.2.2.1
theorem g_34_I6 (hG : q_G ρ L m S0 S) (ma : a ∈ L) (ra : ρ a = 34) : (0 ≤ ((q_I S a) 6).toInt ∧ ((q_I S a) 6).toInt ≤ 65535) := (g_34 hG ma ra).2.2.2.2.2.2.1
theorem g_34_I7 (hG : q_G ρ L m S0 S) (ma : a ∈ L) (ra : ρ a = 34) : (0 ≤ ((q_I S a) 7).toInt ∧ ((q_I S a) 7).toInt ≤ 65535) := (g_34 hG ma ra).2.2.2.2.2.2.2.1
theorem g_34_I8 (hG : q_G ρ L m S0 S) (ma : a ∈ L) (ra : ρ a = 34) : (-32768 ≤ ((q_I S a) 8).toInt ∧ ((q_I S a) 8).toInt ≤ 65535) := (g_34 hG ma ra).2.2.2.2.2.2.2.2.1
theorem g_34_I9 (hG : q_G ρ L m S0 S) (ma : a ∈ L) (ra : ρ a = 34) : (-32768 ≤ ((q_I S a) 9).toInt ∧ ((q_I S a) 9).toInt ≤ 65535) := (g_34 hG ma ra).2.2.2.2.2.2.2.2.2.1
theorem g_34_I10 (hG : q_G ρ L m S0 S) (ma : a ∈ L) (ra : ρ a = 34) : (-32768 ≤ ((q_I S a) 10).toInt ∧ ((q_I S a) 10).toInt ≤ 32767) := (g_34 hG ma ra).2.2.2.2.2.2.2.2.2.2.1
theorem g_34_I11 (hG : q_G ρ L m S0 S) (ma : a ∈ L) (ra : ρ a = 34) : (-32768 ≤ ((q_I S a) 11).toInt ∧ ((q_I S a) 11).toInt ≤ 32767) := (g_34 hG ma ra).2.2.2.2.2.2.2.2.2.2.2.1
theorem g_34_I12 (hG : q_G ρ L m S0 S) (ma : a ∈ L) (ra : ρ a = 34) : (-32768 ≤ ((q_I S a) 12).toInt ∧ ((q_I S a) 12).toInt ≤ 32767) := (g_34 hG ma ra).2.2.2.2.2.2.2.2.2.2.2.2.1
theorem g_34_I13 (hG : q_G ρ L m S0 S) (ma : a ∈ L) (ra : ρ a = 34) : (-32768 ≤ ((q_I S a) 13).toInt ∧ ((q_I S a) 13).toInt ≤ 32767) := (g_34 hG ma ra).2.2.2.2.2.2.2.2.2.2.2.2.2
theorem u_34_I1 {x : Int32} (hG : q_G ρ L m S0 S) (ma : a ∈ L) (ra : ρ a = 34) (hm : m.contains (q_ar 34 1) = true) (hx : (0 ≤ x.toInt ∧ x.toInt ≤ 1)) : q_G ρ L m S0 (q_sI S a 1 x) := q_G_sI hG ma ra hm (q_E1_sI hG ra rfl rfl) (⟨(g_34 hG ma ra).1, by show (0 ≤ ((va_up (q_I S a) 1 x) 1).toInt ∧ ((va_up (q_I S a) 1 x) 1).toInt ≤ 1); rw [q_up_same]; exact hx, (g_34 hG ma ra).2.2.1, (g_34 hG ma ra).2.2.2.1, (g_34 hG ma ra).2.2.2.2.1, (g_34 hG ma ra).2.2.2.2.2.1, (g_34 hG ma ra).2.2.2.2.2.2.1, (g_34 hG ma ra).2.2.2.2.2.2.2.1, (g_34 hG ma ra).2.2.2.2.2.2.2.2.1, (g_34 hG ma ra).2.2.2.2.2.2.2.2.2.1, (g_34 hG ma ra).2.2.2.2.2.2.2.2.2.2.1, (g_34 hG ma ra).2.2.2.2.2.2.2.2.2.2.2.1, (g_34 hG ma ra).2.2.2.2.2.2.2.2.2.2.2.2.1, (g_34 hG ma ra).2.2.2.2.2.2.2.2.2.2.2.2.2⟩)
theorem u_34_I2 {x : Int32} (hG : q_G ρ L m S0 S) (ma : a ∈ L) (ra : ρ a = 34) (hm : m.contains (q_ar 34 2) = true) (hx : (0 ≤ x.toInt ∧ x.toInt ≤ 1)) : q_G ρ L m S0 (q_sI S a 2 x) := q_G_sI hG ma ra hm (q_E1_sI hG ra rfl rfl) (⟨(g_34 hG ma ra).1, (g_34 hG ma ra).2.1, by show (0 ≤ ((va_up (q_I S a) 2 x) 2).toInt ∧ ((va_up (q_I S a) 2 x) 2).toInt ≤ 1); rw [q_up_same]; exact hx, (g_34 hG ma ra).2.2.2.1, (g_34 hG ma ra).2.2.2.2.1, (g_34 hG ma ra).2.2.2.2.2.1, (g_34 hG ma ra).2.2.2.2.2.2.1, (g_34 hG ma ra).2.2.2.2.2.2.2.1, (g_34 hG ma ra).2.2.2.2.2.2.2.2.1, (g_34 hG ma ra).2.2.2.2.2.2.2.2.2.1, (g_34 hG ma ra).2.2.2.2.2.2.2.2.2.2.1, (g_34 hG ma ra).2.2.2.2.2.2.2.2.2.2.2.1, (g_34 hG ma ra).2.2.2.2.2.2.2.2.2.2.2.2.1, (g_34 hG ma ra).2.2.2.2.2.2.2.2.2.2.2.2.2⟩)
theorem u_34_J3 {x : Int64} (hG : q_G ρ L m S0 S) (ma : a ∈ L) (ra : ρ a = 34) (hm : m.contains (q_ar 34 3) = true) (hx : (-281474976710656 ≤ x.toInt ∧ x.toInt ≤ 281474976710656)) : q_G ρ L m S0 (q_sJ S a 3 x) := q_G_sJ hG ma ra hm (⟨(g_34 hG ma ra).1, (g_34 hG ma ra).2.1, (g_34 hG ma ra).2.2.1, by show (-281474976710656 ≤ ((va_up (q_J S a) 3 x) 3).toInt ∧ ((va_up (q_J S a) 3 x) 3).toInt ≤ 281474976710656); rw [q_up_same]; exact hx, (g_34 hG ma ra).2.2.2.2.1, (g_34 hG ma ra).2.2.2.2.2.1, (g_34 hG ma ra).2.2.2.2.2.2.1, (g_34 hG ma ra).2.2.2.2.2.2.2.1, (g_34 hG ma ra).2.2.2.2.2.2.2.2.1, (g_34 hG ma ra).2.2.2.2.2.2.2.2.2.1, (g_34 hG ma ra).2.2.2.2.2.2.2.2.2.2.1, (g_34 hG ma ra).2.2.2.2.2.2.2.2.2.2.2.1, (g_34 hG ma ra).2.2.2.2.2.2.2.2.2.2.2.2.1, (g_34 hG ma ra).2.2.2.2.2.2.2.2.2.2.2.2.2⟩)
theorem u_34_J4 {x : Int64} (hG : q_G ρ L m S0 S) (ma : a ∈ L) (ra : ρ a = 34) (hm : m.contains (q_ar 34 4) = true) (hx : (0 ≤ x.toInt ∧ x.toInt ≤ 65535)) : q_G ρ L m S0 (q_sJ S a 4 x) := q_G_sJ hG ma ra hm (⟨(g_34 hG ma ra).1, (g_34 hG ma ra).2.1, (g_34 hG ma ra).2.2.1, (g_34 hG ma ra).2.2.2.1, by show (0 ≤ ((va_up (q_J S a) 4 x) 4).toInt ∧ ((va_up (q_J S a) 4 x) 4).toInt ≤ 65535); rw [q_up_same]; exact hx, (g_34 hG ma ra).2.2.2.2.2.1, (g_34 hG ma ra).2.2.2.2.2.2.1, (g_34 hG ma ra).2.2.2.2.2.2.2.1, (g_34 hG ma ra).2.2.2.2.2.2.2.2.1, (g_34 hG ma ra).2.2.2.2.2.2.2.2.2.1, (g_34 hG ma ra).2.2.2.2.2.2.2.2.2.2.1, (g_34 hG ma ra).2.2.2.2.2.2.2.2.2.2.2.1, (g_34 hG ma ra).2.2.2.2.2.2.2.2.2.2.2.2.1, (g_34 hG ma ra).2.2.2.2.2.2.2.2.2.2.2.2.2⟩)
theorem u_34_I5 {x : Int32} (hG : q_G ρ L m S0 S) (ma : a ∈ L) (ra : ρ a = 34) (hm : m.contains (q_ar 34 5) = true) (hx : (-32768 ≤ x.toInt ∧ x.toInt ≤ 32767)) : q_G ρ L m S0 (q_sI S a 5 x) := q_G_sI hG ma ra hm (q_E1_sI hG ra rfl rfl) (⟨(g_34 hG ma ra).1, (g_34 hG ma ra).2.1, (g_34 hG ma ra).2.2.1, (g_34 hG ma ra).2.2.2.1, (g_34 hG ma ra).2.2.2.2.1, by show (-32768 ≤ ((va_up (q_I S a) 5 x) 5).toInt ∧ ((va_up (q_I S a) 5 x) 5).toInt ≤ 32767); rw [q_up_same]; exact hx, (g_34 hG ma ra).2.2.2.2.2.2.1, (g_34 hG ma ra).2.2.2.2.2.2.2.1, (g_34 hG ma ra).2.2.2.2.2.2.2.2.1, (g_34 hG ma ra).2.2.2.2.2.2.2.2.2.1, (g_34 hG ma ra).2.2.2.2.2.2.2.2.2.2.1, (g_34 hG ma ra).2.2.2.2.2.2.2.2.2.2.2.1, (g_34 hG ma ra).2.2.2.2.2.2.2.2.2.2.2.2.1, (g_34 hG ma ra).2.2.2.2.2.2.2.2.2.2.2.2.2⟩)
theorem u_34_I6 {x : Int32} (hG : q_G ρ L m S0 S) (ma : a ∈ L) (ra : ρ a = 34) (hm : m.contains (q_ar 34 6) = true) (hx : (0 ≤ x.toInt ∧ x.toInt ≤ 65535)) : q_G ρ L m S0 (q_sI S a 6 x) := q_G_sI hG ma ra hm (q_E1_sI hG ra rfl rfl) (⟨(g_34 hG ma ra).1, (g_34 hG ma ra).2.1, (g_34 hG ma ra).2.2.1, (g_34 hG ma ra).2.2.2.1, (g_34 hG ma ra).2.2.2.2.1, (g_34 hG ma ra).2.2.2.2.2.1, by show (0 ≤ ((va_up (q_I S a) 6 x) 6).toInt ∧ ((va_up (q_I S a) 6 x) 6).toInt ≤ 65535); rw [q_up_same]; exact hx, (g_34 hG ma ra).2.2.2.2.2.2.2.1, (g_34 hG ma ra).2.2.2.2.2.2.2.2.1, (g_34 hG ma ra).2.2.2.2.2.2.2.2.2.1, (g_34 hG ma ra).2.2.2.2.2.2.2.2.2.2.1, (g_34 hG ma ra).2.2.2.2.2.2.2.2.2.2.2.1, (g_34 hG ma ra).2.2.2.2.2.2.2.2.2.2.2.2.1, (g_34 hG ma ra).2.2.2.2.2.2.2.2.2.2.2.2.2⟩)
theorem u_34_I7 {x : Int32} (hG : q_G ρ L m S0 S) (ma : a ∈ L) (ra : ρ a = 34) (hm : m.contains (q_ar 34 7) = true) (hx : (0 ≤ x.toInt ∧ x.toInt ≤ 65535)) : q_G ρ L m S0 (q_sI S a 7 x) := q_G_sI hG ma ra hm (q_E1_sI hG ra rfl rfl) (⟨(g_34 hG ma ra).1, (g_34 hG ma ra).2.1, (g_34 hG ma ra).2.2.1, (g_34 hG ma ra).2.2.2.1, (g_34 hG ma ra).2.2.2.2.1, (g_34 hG ma ra).2.2.2.2.2.1, (g_34 hG ma ra).2.2.2.2.2.2.1, by show (0 ≤ ((va_up (q_I S a) 7 x) 7).toInt ∧ ((va_up (q_I S a) 7 x) 7).toInt ≤ 65535); rw [q_up_same]; exact hx, (g_34 hG ma ra).2.2.2.2.2.2.2.2.1, (g_34 hG ma ra).2.2.2.2.2.2.2.2.2.1, (g_34 hG ma ra).2.2.2.2.2.2.2.2.2.2.1, (g_34 hG ma ra).2.2.2.2.2.2.2.2.2.2.2.1, (g_34 hG ma ra).2.2.2.2.2.2.2.2.2.2.2.2.1, (g_34 hG ma ra).2.2.2.2.2.2.2.2.2.2.2.2.2⟩)
theorem u_34_I8 {x : Int32} (hG : q_G ρ L m S0 S) (ma : a ∈ L) (ra : ρ a = 34) (hm : m.contains (q_ar 34 8) = true) (hx : (-32768 ≤ x.toInt ∧ x.toInt ≤ 65535)) : q_G ρ L m S0 (q_sI S a 8 x) := q_G_sI hG ma ra hm (q_E1_sI hG ra rfl rfl) (⟨(g_34 hG ma ra).1, (g_34 hG ma ra).2.1, (g_34 hG ma ra).2.2.1, (g_34 hG ma ra).2.2.2.1, (g_34 hG ma ra).2.2.2.2.1, (g_34 hG ma ra).2.2.2.2.2.1, (g_34 hG ma ra).2.2.2.2.2.2.1, (g_34 hG ma ra).2.2.2.2.2.2.2.1, by show (-32768 ≤ ((va_up (q_I S a) 8 x) 8).toInt ∧ ((va_up (q_I S a) 8 x) 8).toInt ≤ 65535); rw [q_up_same]; exact hx, (g_34 hG ma ra).2.2.2.2.2.2.2.2.2.1, (g_34 hG ma ra).2.2.2.2.2.2.2.2.2.2.1, (g_34 hG ma ra).2.2.2.2.2.2.2.2.2.2.2.1, (g_34 hG ma ra).2.2.2.2.2.2.2.2.2.2.2.2.1, (g_34 hG ma ra).2.2.2.2.2.2.2.2.2.2.2.2.2⟩)
theorem u_34_I9 {x : Int32} (hG : q_G ρ L m S0 S) (ma : a ∈ L) (ra : ρ a = 34) (hm : m.contains (q_ar 34 9) = true) (hx : (-32768 ≤ x.toInt ∧ x.toInt ≤ 65535)) : q_G ρ L m S0 (q_sI S a 9 x) := q_G_sI hG ma ra hm (q_E1_sI hG ra rfl rfl) (⟨(g_34 hG ma ra).1, (g_34 hG ma ra).2.1, (g_34 hG ma ra).2.2.1, (g_34 hG ma ra).2.2.2.1, (g_34 hG ma ra).2.2.2.2.1, (g_34 hG ma ra).2.2.2.2.2.1, (g_34 hG ma ra).2.2.2.2.2.2.1, (g_34 hG ma ra).2.2.2.2.2.2.2.1, (g_34 hG ma ra).2.2.2.2.2.2.2.2.1, by show (-32768 ≤ ((va_up (q_I S a) 9 x) 9).toInt ∧ ((va_up (q_I S a) 9 x) 9).toInt ≤ 65535); rw [q_up_same]; exact hx, (g_34 hG ma ra).2.2.2.2.2.2.2.2.2.2.1, (g_34 hG ma ra).2.2.2.2.2.2.2.2.2.2.2.1, (g_34 hG ma ra).2.2.2.2.2.2.2.2.2.2.2.2.1, (g_34 hG ma ra).2.2.2.2.2.2.2.2.2.2.2.2.2⟩)
theorem u_34_I10 {x : Int32} (hG : q_G ρ L m S0 S) (ma : a ∈ L) (ra : ρ a = 34) (hm : m.contains (q_ar 34 10) = true) (hx : (-32768 ≤ x.toInt ∧ x.toInt ≤ 32767)) : q_G ρ L m S0 (q_sI S a 10 x) := q_G_sI hG ma ra hm (q_E1_sI hG ra rfl rfl) (⟨(g_34 hG ma ra).1, (g_34 hG ma ra).2.1, (g_34 hG ma ra).2.2.1, (g_34 hG ma ra).2.2.2.1, (g_34 hG ma ra).2.2.2.2.1, (g_34 hG ma ra).2.2.2.2.2.1, (g_34 hG ma ra).2.2.2.2.2.2.1, (g_34 hG ma ra).2.2.2.2.2.2.2.1, (g_34 hG ma ra).2.2.2.2.2.2.2.2.1, (g_34 hG ma ra).2.2.2.2.2.2.2.2.2.1, by show (-32768 ≤ ((va_up (q_I S a) 10 x) 10).toInt ∧ ((va_up (q_I S a) 10 x) 10).toInt ≤ 32767); rw [q_up_same]; exact hx, (g_34 hG ma ra).2.2.2.2.2.2.2.2.2.2.2.1, (g_34 hG ma ra).2.2.2.2.2.2.2.2.2.2.2.2.1, (g_34 hG ma ra).2.2.2.2.2.2.2.2.2.2.2.2.2⟩)
theorem u_34_I11 {x : Int32} (hG : q_G ρ L m S0 S) (ma : a ∈ L) (ra : ρ a = 34) (hm : m.contains (q_ar 34 11) = true) (hx : (-32768 ≤ x.toInt ∧ x.toInt ≤ 32767)) : q_G ρ L m S0 (q_sI S a 11 x) := q_G_sI hG ma ra hm (q_E1_sI hG ra rfl rfl) (⟨(g_34 hG ma ra).1, (g_34 hG ma ra).2.1, (g_34 hG ma ra).2.2.1, (g_34 hG ma ra).2.2.2.1, (g_34 hG ma ra).2.2.2.2.1, (g_34 hG ma ra).2.2.2.2.2.1, (g_34 hG ma ra).2.2.2.2.2.2.1, (g_34 hG ma ra).2.2.2.2.2.2.2.1, (g_34 hG ma ra).2.2.2.2.2.2.2.2.1, (g_34 hG ma ra).2.2.2.2.2.2.2.2.2.1, (g_34 hG ma ra).2.2.2.2.2.2.2.2.2.2.1, by show (-32768 ≤ ((va_up (q_I S a) 11 x) 11).toInt ∧ ((va_up (q_I S a) 11 x) 11).toInt ≤ 32767); rw [q_up_same]; exact hx, (g_34 hG ma ra).2.2.2.2.2.2.2.2.2.2.2.2.1, (g_34 hG ma ra).2.2.2.2.2.2.2.2.2.2.2.2.2⟩)
theorem u_34_I12 {x : Int32} (hG : q_G ρ L m S0 S) (ma : a ∈ L) (ra : ρ a = 34) (hm : m.contains (q_ar 34 12) = true) (hx : (-32768 ≤ x.toInt ∧ x.toInt ≤ 32767)) : q_G ρ L m S0 (q_sI S a 12 x) := q_G_sI hG ma ra hm (q_E1_sI hG ra rfl rfl) (⟨(g_34 hG ma ra).1, (g_34 hG ma ra).2.1, (g_34 hG ma ra).2.2.1, (g_34 hG ma ra).2.2.2.1, (g_34 hG ma ra).2.2.2.2.1, (g_34 hG ma ra).2.2.2.2.2.1, (g_34 hG ma ra).2.2.2.2.2.2.1, (g_34 hG ma ra).2.2.2.2.2.2.2.1, (g_34 hG ma ra).2.2.2.2.2.2.2.2.1, (g_34 hG ma ra).2.2.2.2.2.2.2.2.2.1, (g_34 hG ma ra).2.2.2.2.2.2.2.2.2.2.1, (g_34 hG ma ra).2.2.2.2.2.2.2.2.2.2.2.1, by show (-32768 ≤ ((va_up (q_I S a) 12 x) 12).toInt ∧ ((va_up (q_I S a) 12 x) 12).toInt ≤ 32767); rw [q_up_same]; exact hx, (g_34 hG ma ra).2.2.2.2.2.2.2.2.2.2.2.2.2⟩)
theorem u_34_I13 {x : Int32} (hG : q_G ρ L m S0 S) (ma : a ∈ L) (ra : ρ a = 34) (hm : m.contains (q_ar 34 13) = true) (hx : (-32768 ≤ x.toInt ∧ x.toInt ≤ 32767)) : q_G ρ L m S0 (q_sI S a 13 x) := q_G_sI hG ma ra hm (q_E1_sI hG ra rfl rfl) (⟨(g_34 hG ma ra).1, (g_34 hG ma ra).2.1, (g_34 hG ma ra).2.2.1, (g_34 hG ma ra).2.2.2.1, (g_34 hG ma ra).2.2.2.2.1, (g_34 hG ma ra).2.2.2.2.2.1, (g_34 hG ma ra).2.2.2.2.2.2.1, (g_34 hG ma ra).2.2.2.2.2.2.2.1, (g_34 hG ma ra).2.2.2.2.2.2.2.2.1, (g_34 hG ma ra).2.2.2.2.2.2.2.2.2.1, (g_34 hG ma ra).2.2.2.2.2.2.2.2.2.2.1, (g_34 hG ma ra).2.2.2.2.2.2.2.2.2.2.2.1, (g_34 hG ma ra).2.2.2.2.2.2.2.2.2.2.2.2.1, by show (-32768 ≤ ((va_up (q_I S a) 13 x) 13).toInt ∧ ((va_up (q_I S a) 13 x) 13).toInt ≤ 32767); rw [q_up_same]; exact hx⟩)
theorem g_35 (hG : q_G ρ L m S0 S) (ma : a ∈ L) (ra : ρ a = 35) : q_tr ρ L ((q_R S a) 0) 1 ∧ (0 ≤ ((q_I S a) 1).toInt ∧ ((q_I S a) 1).toInt ≤ 1) ∧ (0 ≤ ((q_I S a) 2).toInt ∧ ((q_I S a) 2).toInt ≤ 1) ∧ (-281474976710656 ≤ ((q_J S a) 3).toInt ∧ ((q_J S a) 3).toInt ≤ 281474976710656) ∧ (0 ≤ ((q_J S a) 4).toInt ∧ ((q_J S a) 4).toInt ≤ 65535) ∧ (-32768 ≤ ((q_I S a) 5).toInt ∧ ((q_I S a) 5).toInt ≤ 32767) ∧ (0 ≤ ((q_I S a) 6).toInt ∧ ((q_I S a) 6).toInt ≤ 65535) ∧ (0 ≤ ((q_I S a) 7).toInt ∧ ((q_I S a) 7).toInt ≤ 65535) ∧ (-32768 ≤ ((q_I S a) 8).toInt ∧ ((q_I S a) 8).toInt ≤ 65535) ∧ (-32768 ≤ ((q_I S a) 9).toInt ∧ ((q_I S a) 9).toInt ≤ 65535) ∧ (-32768 ≤ ((q_I S a) 10).toInt ∧ ((q_I S a) 10).toInt ≤ 32767) ∧ (-32768 ≤ ((q_I S a) 11).toInt ∧ ((q_I S a) 11).toInt ≤ 32767) ∧ (-32768 ≤ ((q_I S a) 12).toInt ∧ ((q_I S a) 12).toInt ≤ 32767) ∧ (-32768 ≤ ((q_I S a) 13).toInt ∧ ((q_I S a) 13).toInt ≤ 32767) := by
  have h := (hG.1.2.1 a ma).2
  rw [ra] at h
  exact h
theorem g_35_R0 (hG : q_G ρ L m S0 S) (ma : a ∈ L) (ra : ρ a = 35) : q_tr ρ L ((q_R S a) 0) 1 := (g_35 hG ma ra).1
theorem g_35_I1 (hG : q_G ρ L m S0 S) (ma : a ∈ L) (ra : ρ a = 35) : (0 ≤ ((q_I S a) 1).toInt ∧ ((q_I S a) 1).toInt ≤ 1) := (g_35 hG ma ra).2.1
theorem g_35_I2 (hG : q_G ρ L m S0 S) (ma : a ∈ L) (ra : ρ a = 35) : (0 ≤ ((q_I S a) 2).toInt ∧ ((q_I S a) 2).toInt ≤ 1) := (g_35 hG ma ra).2.2.1
theorem g_35_J3 (hG : q_G ρ L m S0 S) (ma : a ∈ L) (ra : ρ a = 35) : (-281474976710656 ≤ ((q_J S a) 3).toInt ∧ ((q_J S a) 3).toInt ≤ 281474976710656) := (g_35 hG ma ra).2.2.2.1
theorem g_35_J4 (hG : q_G ρ L m S0 S) (ma : a ∈ L) (ra : ρ a = 35) : (0 ≤ ((q_J S a) 4).toInt ∧ ((q_J S a) 4).toInt ≤ 65535) := (g_35 hG ma ra).2.2.2.2.1
theorem g_35_I5 (hG : q_G ρ L m S0 S) (ma : a ∈ L) (ra : ρ a = 35) : (-32768 ≤ ((q_I S a) 5).toInt ∧ ((q_I S a) 5).toInt ≤ 32767) := (g_35 hG ma ra).2.2.2.2.2.1
theorem g_35_I6 (hG : q_G ρ L m S0 S) (ma : a ∈ L) (ra : ρ a = 35) : (0 ≤ ((q_I S a) 6).toInt ∧ ((q_I S a) 6).toInt ≤ 65535) := (g_35 hG ma ra).2.2.2.2.2.2.1
theorem g_35_I7 (hG : q_G ρ L m S0 S) (ma : a ∈ L) (ra : ρ a = 35) : (0 ≤ ((q_I S a) 7).toInt ∧ ((q_I S a) 7).toInt ≤ 65535) := (g_35 hG ma ra).2.2.2.2.2.2.2.1
theorem g_35_I8 (hG : q_G ρ L m S0 S) (ma : a ∈ L) (ra : ρ a = 35) : (-32768 ≤ ((q_I S a) 8).toInt ∧ ((q_I S a) 8).toInt ≤ 65535) := (g_35 hG ma ra).2.2.2.2.2.2.2.2.1
theorem g_35_I9 (hG : q_G ρ L m S0 S) (ma : a ∈ L) (ra : ρ a = 35) : (-32768 ≤ ((q_I S a) 9).toInt ∧ ((q_I S a) 9).toInt ≤ 65535) := (g_35 hG ma ra).2.2.2.2.2.2.2.2.2.1
theorem g_35_I10 (hG : q_G ρ L m S0 S) (ma : a ∈ L) (ra : ρ a = 35) : (-32768 ≤ ((q_I S a) 10).toInt ∧ ((q_I S a) 10).toInt ≤ 32767) := (g_35 hG ma ra).2.2.2.2.2.2.2.2.2.2.1
theorem g_35_I11 (hG : q_G ρ L m S0 S) (ma : a ∈ L) (ra : ρ a = 35) : (-32768 ≤ ((q_I S a) 11).toInt ∧ ((q_I S a) 11).toInt ≤ 32767) := (g_35 hG ma ra).2.2.2.2.2.2.2.2.2.2.2.1
theorem g_35_I12 (hG : q_G ρ L m S0 S) (ma : a ∈ L) (ra : ρ a = 35) : (-32768 ≤ ((q_I S a) 12).toInt ∧ ((q_I S a) 12).toInt ≤ 32767) := (g_35 hG ma ra).2.2.2.2.2.2.2.2.2.2.2.2.1
theorem g_35_I13 (hG : q_G ρ L m S0 S) (ma : a ∈ L) (ra : ρ a = 35) : (-32768 ≤ ((q_I S a) 13).toInt ∧ ((q_I S a) 13).toInt ≤ 32767) := (g_35 hG ma ra).2.2.2.2.2.2.2.2.2.2.2.2.2
theorem u_35_I1 {x : Int32} (hG : q_G ρ L m S0 S) (ma : a ∈ L) (ra : ρ a = 35) (hm : m.contains (q_ar 35 1) = true) (hx : (0 ≤ x.toInt ∧ x.toInt ≤ 1)) : q_G ρ L m S0 (q_sI S a 1 x) := q_G_sI hG ma ra hm (q_E1_sI hG ra rfl rfl) (⟨(g_35 hG ma ra).1, by show (0 ≤ ((va_up (q_I S a) 1 x) 1).toInt ∧ ((va_up (q_I S a) 1 x) 1).toInt ≤ 1); rw [q_up_same]; exact hx, (g_35 hG ma ra).2.2.1, (g_35 hG ma ra).2.2.2.1, (g_35 hG ma ra).2.2.2.2.1, (g_35 hG ma ra).2.2.2.2.2.1, (g_35 hG ma ra).2.2.2.2.2.2.1, (g_35 hG ma ra).2.2.2.2.2.2.2.1, (g_35 hG ma ra).2.2.2.2.2.2.2.2.1, (g_35 hG ma ra).2.2.2.2.2.2.2.2.2.1, (g_35 hG ma ra).2.2.2.2.2.2.2.2.2.2.1, (g_35 hG ma ra).2.2.2.2.2.2.2.2.2.2.2.1, (g_35 hG ma ra).2.2.2.2.2.2.2.2.2.2.2.2.1, (g_35 hG ma ra).2.2.2.2.2.2.2.2.2.2.2.2.2⟩)
theorem u_35_I2 {x : Int32} (hG : q_G ρ L m S0 S) (ma : a ∈ L) (ra : ρ a = 35) (hm : m.contains (q_ar 35 2) = true) (hx : (0 ≤ x.toInt ∧ x.toInt ≤ 1)) : q_G ρ L m S0 (q_sI S a 2 x) := q_G_sI hG ma ra hm (q_E1_sI hG ra rfl rfl) (⟨(g_35 hG ma ra).1, (g_35 hG ma ra).2.1, by show (0 ≤ ((va_up (q_I S a) 2 x) 2).toInt ∧ ((va_up (q_I S a) 2 x) 2).toInt ≤ 1); rw [q_up_same]; exact hx, (g_35 hG ma ra).2.2.2.1, (g_35 hG ma ra).2.2.2.2.1, (g_35 hG ma ra).2.2.2.2.2.1, (g_35 hG ma ra).2.2.2.2.2.2.1, (g_35 hG ma ra).2.2.2.2.2.2.2.1, (g_35 hG ma ra).2.2.2.2.2.2.2.2.1, (g_35 hG ma ra).2.2.2.2.2.2.2.2.2.1, (g_35 hG ma ra).2.2.2.2.2.2.2.2.2.2.1, (g_35 hG ma ra).2.2.2.2.2.2.2.2.2.2.2.1, (g_35 hG ma ra).2.2.2.2.2.2.2.2.2.2.2.2.1, (g_35 hG ma ra).2.2.2.2.2.2.2.2.2.2.2.2.2⟩)
theorem u_35_J3 {x : Int64} (hG : q_G ρ L m S0 S) (ma : a ∈ L) (ra : ρ a = 35) (hm : m.contains (q_ar 35 3) = true) (hx : (-281474976710656 ≤ x.toInt ∧ x.toInt ≤ 281474976710656)) : q_G ρ L m S0 (q_sJ S a 3 x) := q_G_sJ hG ma ra hm (⟨(g_35 hG ma ra).1, (g_35 hG ma ra).2.1, (g_35 hG ma ra).2.2.1, by show (-281474976710656 ≤ ((va_up (q_J S a) 3 x) 3).toInt ∧ ((va_up (q_J S a) 3 x) 3).toInt ≤ 281474976710656); rw [q_up_same]; exact hx, (g_35 hG ma ra).2.2.2.2.1, (g_35 hG ma ra).2.2.2.2.2.1, (g_35 hG ma ra).2.2.2.2.2.2.1, (g_35 hG ma ra).2.2.2.2.2.2.2.1, (g_35 hG ma ra).2.2.2.2.2.2.2.2.1, (g_35 hG ma ra).2.2.2.2.2.2.2.2.2.1, (g_35 hG ma ra).2.2.2.2.2.2.2.2.2.2.1, (g_35 hG ma ra).2.2.2.2.2.2.2.2.2.2.2.1, (g_35 hG ma ra).2.2.2.2.2.2.2.2.2.2.2.2.1, (g_35 hG ma ra).2.2.2.2.2.2.2.2.2.2.2.2.2⟩)
theorem u_35_J4 {x : Int64} (hG : q_G ρ L m S0 S) (ma : a ∈ L) (ra : ρ a = 35) (hm : m.contains (q_ar 35 4) = true) (hx : (0 ≤ x.toInt ∧ x.toInt ≤ 65535)) : q_G ρ L m S0 (q_sJ S a 4 x) := q_G_sJ hG ma ra hm (⟨(g_35 hG ma ra).1, (g_35 hG ma ra).2.1, (g_35 hG ma ra).2.2.1, (g_35 hG ma ra).2.2.2.1, by show (0 ≤ ((va_up (q_J S a) 4 x) 4).toInt ∧ ((va_up (q_J S a) 4 x) 4).toInt ≤ 65535); rw [q_up_same]; exact hx, (g_35 hG ma ra).2.2.2.2.2.1, (g_35 hG ma ra).2.2.2.2.2.2.1, (g_35 hG ma ra).2.2.2.2.2.2.2.1, (g_35 hG ma ra).2.2.2.2.2.2.2.2.1, (g_35 hG ma ra).2.2.2.2.2.2.2.2.2.1, (g_35 hG ma ra).2.2.2.2.2.2.2.2.2.2.1, (g_35 hG ma ra).2.2.2.2.2.2.2.2.2.2.2.1, (g_35 hG ma ra).2.2.2.2.2.2.2.2.2.2.2.2.1, (g_35 hG ma ra).2.2.2.2.2.2.2.2.2.2.2.2.2⟩)
theorem u_35_I5 {x : Int32} (hG : q_G ρ L m S0 S) (ma : a ∈ L) (ra : ρ a = 35) (hm : m.contains (q_ar 35 5) = true) (hx : (-32768 ≤ x.toInt ∧ x.toInt ≤ 32767)) : q_G ρ L m S0 (q_sI S a 5 x) := q_G_sI hG ma ra hm (q_E1_sI hG ra rfl rfl) (⟨(g_35 hG ma ra).1, (g_35 hG ma ra).2.1, (g_35 hG ma ra).2.2.1, (g_35 hG ma ra).2.2.2.1, (g_35 hG ma ra).2.2.2.2.1, by show (-32768 ≤ ((va_up (q_I S a) 5 x) 5).toInt ∧ ((va_up (q_I S a) 5 x) 5).toInt ≤ 32767); rw [q_up_same]; exact hx, (g_35 hG ma ra).2.2.2.2.2.2.1, (g_35 hG ma ra).2.2.2.2.2.2.2.1, (g_35 hG ma ra).2.2.2.2.2.2.2.2.1, (g_35 hG ma ra).2.2.2.2.2.2.2.2.2.1, (g_35 hG ma ra).2.2.2.2.2.2.2.2.2.2.1, (g_35 hG ma ra).2.2.2.2.2.2.2.2.2.2.2.1, (g_35 hG ma ra).2.2.2.2.2.2.2.2.2.2.2.2.1, (g_35 hG ma ra).2.2.2.2.2.2.2.2.2.2.2.2.2⟩)
theorem u_35_I6 {x : Int32} (hG : q_G ρ L m S0 S) (ma : a ∈ L) (ra : ρ a = 35) (hm : m.contains (q_ar 35 6) = true) (hx : (0 ≤ x.toInt ∧ x.toInt ≤ 65535)) : q_G ρ L m S0 (q_sI S a 6 x) := q_G_sI hG ma ra hm (q_E1_sI hG ra rfl rfl) (⟨(g_35 hG ma ra).1, (g_35 hG ma ra).2.1, (g_35 hG ma ra).2.2.1, (g_35 hG ma ra).2.2.2.1, (g_35 hG ma ra).2.2.2.2.1, (g_35 hG ma ra).2.2.2.2.2.1, by show (0 ≤ ((va_up (q_I S a) 6 x) 6).toInt ∧ ((va_up (q_I S a) 6 x) 6).toInt ≤ 65535); rw [q_up_same]; exact hx, (g_35 hG ma ra).2.2.2.2.2.2.2.1, (g_35 hG ma ra).2.2.2.2.2.2.2.2.1, (g_35 hG ma ra).2.2.2.2.2.2.2.2.2.1, (g_35 hG ma ra).2.2.2.2.2.2.2.2.2.2.1, (g_35 hG ma ra).2.2.2.2.2.2.2.2.2.2.2.1, (g_35 hG ma ra).2.2.2.2.2.2.2.2.2.2.2.2.1, (g_35 hG ma ra).2.2.2.2.2.2.2.2.2.2.2.2.2⟩)
theorem u_35_I7 {x : Int32} (hG : q_G ρ L m S0 S) (ma : a ∈ L) (ra : ρ a = 35) (hm : m.contains (q_ar 35 7) = true) (hx : (0 ≤ x.toInt ∧ x.toInt ≤ 65535)) : q_G ρ L m S0 (q_sI S a 7 x) := q_G_sI hG ma ra hm (q_E1_sI hG ra rfl rfl) (⟨(g_35 hG ma ra).1, (g_35 hG ma ra).2.1, (g_35 hG ma ra).2.2.1, (g_35 hG ma ra).2.2.2.1, (g_35 hG ma ra).2.2.2.2.1, (g_35 hG ma ra).2.2.2.2.2.1, (g_35 hG ma ra).2.2.2.2.2.2.1, by show (0 ≤ ((va_up (q_I S a) 7 x) 7).toInt ∧ ((va_up (q_I S a) 7 x) 7).toInt ≤ 65535); rw [q_up_same]; exact hx, (g_35 hG ma ra).2.2.2.2.2.2.2.2.1, (g_35 hG ma ra).2.2.2.2.2.2.2.2.2.1, (g_35 hG ma ra).2.2.2.2.2.2.2.2.2.2.1, (g_35 hG ma ra).2.2.2.2.2.2.2.2.2.2.2.1, (g_35 hG ma ra).2.2.2.2.2.2.2.2.2.2.2.2.1, (g_35 hG ma ra).2.2.2.2.2.2.2.2.2.2.2.2.2⟩)
theorem u_35_I8 {x : Int32} (hG : q_G ρ L m S0 S) (ma : a ∈ L) (ra : ρ a = 35) (hm : m.contains (q_ar 35 8) = true) (hx : (-32768 ≤ x.toInt ∧ x.toInt ≤ 65535)) : q_G ρ L m S0 (q_sI S a 8 x) := q_G_sI hG ma ra hm (q_E1_sI hG ra rfl rfl) (⟨(g_35 hG ma ra).1, (g_35 hG ma ra).2.1, (g_35 hG ma ra).2.2.1, (g_35 hG ma ra).2.2.2.1, (g_35 hG ma ra).2.2.2.2.1, (g_35 hG ma ra).2.2.2.2.2.1, (g_35 hG ma ra).2.2.2.2.2.2.1, (g_35 hG ma ra).2.2.2.2.2.2.2.1, by show (-32768 ≤ ((va_up (q_I S a) 8 x) 8).toInt ∧ ((va_up (q_I S a) 8 x) 8).toInt ≤ 65535); rw [q_up_same]; exact hx, (g_35 hG ma ra).2.2.2.2.2.2.2.2.2.1, (g_35 hG ma ra).2.2.2.2.2.2.2.2.2.2.1, (g_35 hG ma ra).2.2.2.2.2.2.2.2.2.2.2.1, (g_35 hG ma ra).2.2.2.2.2.2.2.2.2.2.2.2.1, (g_35 hG ma ra).2.2.2.2.2.2.2.2.2.2.2.2.2⟩)
theorem u_35_I9 {x : Int32} (hG : q_G ρ L m S0 S) (ma : a ∈ L) (ra : ρ a = 35) (hm : m.contains (q_ar 35 9) = true) (hx : (-32768 ≤ x.toInt ∧ x.toInt ≤ 65535)) : q_G ρ L m S0 (q_sI S a 9 x) := q_G_sI hG ma ra hm (q_E1_sI hG ra rfl rfl) (⟨(g_35 hG ma ra).1, (g_35 hG ma ra).2.1, (g_35 hG ma ra).2.2.1, (g_35 hG ma ra).2.2.2.1, (g_35 hG ma ra).2.2.2.2.1, (g_35 hG ma ra).2.2.2.2.2.1, (g_35 hG ma ra).2.2.2.2.2.2.1, (g_35 hG ma ra).2.2.2.2.2.2.2.1, (g_35 hG ma ra).2.2.2.2.2.2.2.2.1, by show (-32768 ≤ ((va_up (q_I S a) 9 x) 9).toInt ∧ ((va_up (q_I S a) 9 x) 9).toInt ≤ 65535); rw [q_up_same]; exact hx, (g_35 hG ma ra).2.2.2.2.2.2.2.2.2.2.1, (g_35 hG ma ra).2.2.2.2.2.2.2.2.2.2.2.1, (g_35 hG ma ra).2.2.2.2.2.2.2.2.2.2.2.2.1, (g_35 hG ma ra).2.2.2.2.2.2.2.2.2.2.2.2.2⟩)
theorem u_35_I10 {x : Int32} (hG : q_G ρ L m S0 S) (ma : a ∈ L) (ra : ρ a = 35) (hm : m.contains (q_ar 35 10) = true) (hx : (-32768 ≤ x.toInt ∧ x.toInt ≤ 32767)) : q_G ρ L m S0 (q_sI S a 10 x) := q_G_sI hG ma ra hm (q_E1_sI hG ra rfl rfl) (⟨(g_35 hG ma ra).1, (g_35 hG ma ra).2.1, (g_35 hG ma ra).2.2.1, (g_35 hG ma ra).2.2.2.1, (g_35 hG ma ra).2.2.2.2.1, (g_35 hG ma ra).2.2.2.2.2.1, (g_35 hG ma ra).2.2.2.2.2.2.1, (g_35 hG ma ra).2.2.2.2.2.2.2.1, (g_35 hG ma ra).2.2.2.2.2.2.2.2.1, (g_35 hG ma ra).2.2.2.2.2.2.2.2.2.1, by show (-32768 ≤ ((va_up (q_I S a) 10 x) 10).toInt ∧ ((va_up (q_I S a) 10 x) 10).toInt ≤ 32767); rw [q_up_same]; exact hx, (g_35 hG ma ra).2.2.2.2.2.2.2.2.2.2.2.1, (g_35 hG ma ra).2.2.2.2.2.2.2.2.2.2.2.2.1, (g_35 hG ma ra).2.2.2.2.2.2.2.2.2.2.2.2.2⟩)
theorem u_35_I11 {x : Int32} (hG : q_G ρ L m S0 S) (ma : a ∈ L) (ra : ρ a = 35) (hm : m.contains (q_ar 35 11) = true) (hx : (-32768 ≤ x.toInt ∧ x.toInt ≤ 32767)) : q_G ρ L m S0 (q_sI S a 11 x) := q_G_sI hG ma ra hm (q_E1_sI hG ra rfl rfl) (⟨(g_35 hG ma ra).1, (g_35 hG ma ra).2.1, (g_35 hG ma ra).2.2.1, (g_35 hG ma ra).2.2.2.1, (g_35 hG ma ra).2.2.2.2.1, (g_35 hG ma ra).2.2.2.2.2.1, (g_35 hG ma ra).2.2.2.2.2.2.1, (g_35 hG ma ra).2.2.2.2.2.2.2.1, (g_35 hG ma ra).2.2.2.2.2.2.2.2.1, (g_35 hG ma ra).2.2.2.2.2.2.2.2.2.1, (g_35 hG ma ra).2.2.2.2.2.2.2.2.2.2.1, by show (-32768 ≤ ((va_up (q_I S a) 11 x) 11).toInt ∧ ((va_up (q_I S a) 11 x) 11).toInt ≤ 32767); rw [q_up_same]; exact hx, (g_35 hG ma ra).2.2.2.2.2.2.2.2.2.2.2.2.1, (g_35 hG ma ra).2.2.2.2.2.2.2.2.2.2.2.2.2⟩)
theorem u_35_I12 {x : Int32} (hG : q_G ρ L m S0 S) (ma : a ∈ L) (ra : ρ a = 35) (hm : m.contains (q_ar 35 12) = true) (hx : (-32768 ≤ x.toInt ∧ x.toInt ≤ 32767)) : q_G ρ L m S0 (q_sI S a 12 x) := q_G_sI hG ma ra hm (q_E1_sI hG ra rfl rfl) (⟨(g_35 hG ma ra).1, (g_35 hG ma ra).2.1, (g_35 hG ma ra).2.2.1, (g_35 hG ma ra).2.2.2.1, (g_35 hG ma ra).2.2.2.2.1, (g_35 hG ma ra).2.2.2.2.2.1, (g_35 hG ma ra).2.2.2.2.2.2.1, (g_35 hG ma ra).2.2.2.2.2.2.2.1, (g_35 hG ma ra).2.2.2.2.2.2.2.2.1, (g_35 hG ma ra).2.2.2.2.2.2.2.2.2.1, (g_35 hG ma ra).2.2.2.2.2.2.2.2.2.2.1, (g_35 hG ma ra).2.2.2.2.2.2.2.2.2.2.2.1, by show (-32768 ≤ ((va_up (q_I S a) 12 x) 12).toInt ∧ ((va_up (q_I S a) 12 x) 12).toInt ≤ 32767); rw [q_up_same]; exact hx, (g_35 hG ma ra).2.2.2.2.2.2.2.2.2.2.2.2.2⟩)
theorem u_35_I13 {x : Int32} (hG : q_G ρ L m S0 S) (ma : a ∈ L) (ra : ρ a = 35) (hm : m.contains (q_ar 35 13) = true) (hx : (-32768 ≤ x.toInt ∧ x.toInt ≤ 32767)) : q_G ρ L m S0 (q_sI S a 13 x) := q_G_sI hG ma ra hm (q_E1_sI hG ra rfl rfl) (⟨(g_35 hG ma ra).1, (g_35 hG ma ra).2.1, (g_35 hG ma ra).2.2.1, (g_35 hG ma ra).2.2.2.1, (g_35 hG ma ra).2.2.2.2.1, (g_35 hG ma ra).2.2.2.2.2.1, (g_35 hG ma ra).2.2.2.2.2.2.1, (g_35 hG ma ra).2.2.2.2.2.2.2.1, (g_35 hG ma ra).2.2.2.2.2.2.2.2.1, (g_35 hG ma ra).2.2.2.2.2.2.2.2.2.1, (g_35 hG ma ra).2.2.2.2.2.2.2.2.2.2.1, (g_35 hG ma ra).2.2.2.2.2.2.2.2.2.2.2.1, (g_35 hG ma ra).2.2.2.2.2.2.2.2.2.2.2.2.1, by show (-32768 ≤ ((va_up (q_I S a) 13 x) 13).toInt ∧ ((va_up (q_I S a) 13 x) 13).toInt ≤ 32767); rw [q_up_same]; exact hx⟩)
theorem g_36 (hG : q_G ρ L m S0 S) (ma : a ∈ L) (ra : ρ a = 36) : q_tr ρ L ((q_R S a) 0) 37 ∧ (0 ≤ ((q_I S a) 1).toInt ∧ ((q_I S a) 1).toInt ≤ 120) := by
  have h := (hG.1.2.1 a ma).2
  rw [ra] at h
  exact h
theorem g_36_R0 (hG : q_G ρ L m S0 S) (ma : a ∈ L) (ra : ρ a = 36) : q_tr ρ L ((q_R S a) 0) 37 := (g_36 hG ma ra).1
theorem g_36_I1 (hG : q_G ρ L m S0 S) (ma : a ∈ L) (ra : ρ a = 36) : (0 ≤ ((q_I S a) 1).toInt ∧ ((q_I S a) 1).toInt ≤ 120) := (g_36 hG ma ra).2
theorem u_36_I1 {x : Int32} (hG : q_G ρ L m S0 S) (ma : a ∈ L) (ra : ρ a = 36) (hm : m.contains (q_ar 36 1) = true) (hx : (0 ≤ x.toInt ∧ x.toInt ≤ 120)) : q_G ρ L m S0 (q_sI S a 1 x) := q_G_sI hG ma ra hm (q_E1_sI hG ra rfl rfl) (⟨(g_36 hG ma ra).1, by show (0 ≤ ((va_up (q_I S a) 1 x) 1).toInt ∧ ((va_up (q_I S a) 1 x) 1).toInt ≤ 120); rw [q_up_same]; exact hx⟩)
theorem u_36_I2 {x : Int32} (hG : q_G ρ L m S0 S) (ma : a ∈ L) (ra : ρ a = 36) (hm : m.contains (q_ar 36 2) = true) : q_G ρ L m S0 (q_sI S a 2 x) := q_G_sI hG ma ra hm (q_E1_sI hG ra rfl rfl) (⟨(g_36 hG ma ra).1, (g_36 hG ma ra).2⟩)
theorem u_36_I3 {x : Int32} (hG : q_G ρ L m S0 S) (ma : a ∈ L) (ra : ρ a = 36) (hm : m.contains (q_ar 36 3) = true) : q_G ρ L m S0 (q_sI S a 3 x) := q_G_sI hG ma ra hm (q_E1_sI hG ra rfl rfl) (⟨(g_36 hG ma ra).1, (g_36 hG ma ra).2⟩)
theorem g_37 (hG : q_G ρ L m S0 S) (ma : a ∈ L) (ra : ρ a = 37) : (q_N S a) = 960 := by
  have h := (hG.1.2.1 a ma).2
  rw [ra] at h
  exact h
theorem g_37_N (hG : q_G ρ L m S0 S) (ma : a ∈ L) (ra : ρ a = 37) : (q_N S a) = 960 := (g_37 hG ma ra)
theorem u_37_E {k : Nat} {x : Int32} (hG : q_G ρ L m S0 S) (ma : a ∈ L) (ra : ρ a = 37) (hm : m.contains (q_ar 37 0) = true) : q_G ρ L m S0 (q_sI S a k x) := q_G_sI hG ma ra hm (q_E1_sI hG ra rfl rfl) ((g_37 hG ma ra))
theorem g_38 (hG : q_G ρ L m S0 S) (ma : a ∈ L) (ra : ρ a = 38) : q_tr ρ L ((q_R S a) 0) 1 ∧ q_tr ρ L ((q_R S a) 1) 6 ∧ q_tr ρ L ((q_R S a) 2) 9 ∧ q_tr ρ L ((q_R S a) 3) 39 ∧ q_tr ρ L ((q_R S a) 4) 44 ∧ q_tr ρ L ((q_R S a) 5) 41 ∧ q_tr ρ L ((q_R S a) 6) 42 ∧ q_tr ρ L ((q_R S a) 7) 43 ∧ (0 ≤ ((q_I S a) 8).toInt ∧ ((q_I S a) 8).toInt ≤ 2400) := by
  have h := (hG.1.2.1 a ma).2
  rw [ra] at h
  exact h
theorem g_38_R0 (hG : q_G ρ L m S0 S) (ma : a ∈ L) (ra : ρ a = 38) : q_tr ρ L ((q_R S a) 0) 1 := (g_38 hG ma ra).1
theorem g_38_R1 (hG : q_G ρ L m S0 S) (ma : a ∈ L) (ra : ρ a = 38) : q_tr ρ L ((q_R S a) 1) 6 := (g_38 hG ma ra).2.1
theorem g_38_R2 (hG : q_G ρ L m S0 S) (ma : a ∈ L) (ra : ρ a = 38) : q_tr ρ L ((q_R S a) 2) 9 := (g_38 hG ma ra).2.2.1
theorem g_38_R3 (hG : q_G ρ L m S0 S) (ma : a ∈ L) (ra : ρ a = 38) : q_tr ρ L ((q_R S a) 3) 39 := (g_38 hG ma ra).2.2.2.1
theorem g_38_R4 (hG : q_G ρ L m S0 S) (ma : a ∈ L) (ra : ρ a = 38) : q_tr ρ L ((q_R S a) 4) 44 := (g_38 hG ma ra).2.2.2.2.1
theorem g_38_R5 (hG : q_G ρ L m S0 S) (ma : a ∈ L) (ra : ρ a = 38) : q_tr ρ L ((q_R S a) 5) 41 := (g_38 hG ma ra).2.2.2.2.2.1
theorem g_38_R6 (hG : q_G ρ L m S0 S) (ma : a ∈ L) (ra : ρ a = 38) : q_tr ρ L ((q_R S a) 6) 42 := (g_38 hG ma ra).2.2.2.2.2.2.1
theorem g_38_R7 (hG : q_G ρ L m S0 S) (ma : a ∈ L) (ra : ρ a = 38) : q_tr ρ L ((q_R S a) 7) 43 := (g_38 hG ma ra).2.2.2.2.2.2.2.1
theorem g_38_I8 (hG : q_G ρ L m S0 S) (ma : a ∈ L) (ra : ρ a = 38) : (0 ≤ ((q_I S a) 8).toInt ∧ ((q_I S a) 8).toInt ≤ 2400) := (g_38 hG ma ra).2.2.2.2.2.2.2.2
theorem u_38_I8 {x : Int32} (hG : q_G ρ L m S0 S) (ma : a ∈ L) (ra : ρ a = 38) (hm : m.contains (q_ar 38 8) = true) (hx : (0 ≤ x.toInt ∧ x.toInt ≤ 2400)) : q_G ρ L m S0 (q_sI S a 8 x) := q_G_sI hG ma ra hm (q_E1_sI hG ra rfl rfl) (⟨(g_38 hG ma ra).1, (g_38 hG ma ra).2.1, (g_38 hG ma ra).2.2.1, (g_38 hG ma ra).2.2.2.1, (g_38 hG ma ra).2.2.2.2.1, (g_38 hG ma ra).2.2.2.2.2.1, (g_38 hG ma ra).2.2.2.2.2.2.1, (g_38 hG ma ra).2.2.2.2.2.2.2.1, by show (0 ≤ ((va_up (q_I S a) 8 x) 8).toInt ∧ ((va_up (q_I S a) 8 x) 8).toInt ≤ 2400); rw [q_up_same]; exact hx⟩)
theorem g_39 (hG : q_G ρ L m S0 S) (ma : a ∈ L) (ra : ρ a = 39) : q_tr ρ L ((q_R S a) 0) 40 ∧ (0 ≤ ((q_I S a) 1).toInt ∧ ((q_I S a) 1).toInt ≤ 2400) := by
  have h := (hG.1.2.1 a ma).2
  rw [ra] at h
  exact h
theorem g_39_R0 (hG : q_G ρ L m S0 S) (ma : a ∈ L) (ra : ρ a = 39) : q_tr ρ L ((q_R S a) 0) 40 := (g_39 hG ma ra).1
theorem g_39_I1 (hG : q_G ρ L m S0 S) (ma : a ∈ L) (ra : ρ a = 39) : (0 ≤ ((q_I S a) 1).toInt ∧ ((q_I S a) 1).toInt ≤ 2400) := (g_39 hG ma ra).2
theorem u_39_I1 {x : Int32} (hG : q_G ρ L m S0 S) (ma : a ∈ L) (ra : ρ a = 39) (hm : m.contains (q_ar 39 1) = true) (hx : (0 ≤ x.toInt ∧ x.toInt ≤ 2400)) : q_G ρ L m S0 (q_sI S a 1 x) := q_G_sI hG ma ra hm (q_E1_sI hG ra rfl rfl) (⟨(g_39 hG ma ra).1, by show (0 ≤ ((va_up (q_I S a) 1 x) 1).toInt ∧ ((va_up (q_I S a) 1 x) 1).toInt ≤ 2400); rw [q_up_same]; exact hx⟩)
theorem g_40 (hG : q_G ρ L m S0 S) (ma : a ∈ L) (ra : ρ a = 40) : (q_N S a) = 2400 ∧ (∀ k, (0 ≤ ((q_I S a) k).toInt ∧ ((q_I S a) k).toInt ≤ 255)) := by
  have h := (hG.1.2.1 a ma).2
  rw [ra] at h
  exact h
theorem g_40_N (hG : q_G ρ L m S0 S) (ma : a ∈ L) (ra : ρ a = 40) : (q_N S a) = 2400 := (g_40 hG ma ra).1
theorem g_40_E (hG : q_G ρ L m S0 S) (ma : a ∈ L) (ra : ρ a = 40) {k : Nat} : (0 ≤ ((q_I S a) k).toInt ∧ ((q_I S a) k).toInt ≤ 255) := (g_40 hG ma ra).2 k
theorem u_40_E {k : Nat} {x : Int32} (hG : q_G ρ L m S0 S) (ma : a ∈ L) (ra : ρ a = 40) (hm : m.contains (q_ar 40 0) = true) (hx : (0 ≤ x.toInt ∧ x.toInt ≤ 255)) : q_G ρ L m S0 (q_sI S a k x) := q_G_sI hG ma ra hm (q_E1_sI hG ra rfl rfl) (⟨(g_40 hG ma ra).1, fun k9 => by
    by_cases e : k9 = k
    · subst e; rw [q_up_same]; exact hx
    · rw [q_up_ne _ _ e]; exact (g_40 hG ma ra).2 k9⟩)
theorem g_41 (hG : q_G ρ L m S0 S) (ma : a ∈ L) (ra : ρ a = 41) : (q_N S a) = 24 ∧ (∀ k, (0 ≤ ((q_I S a) k).toInt ∧ ((q_I S a) k).toInt ≤ 23)) := by
  have h := (hG.1.2.1 a ma).2
  rw [ra] at h
  exact h
theorem g_41_N (hG : q_G ρ L m S0 S) (ma : a ∈ L) (ra : ρ a = 41) : (q_N S a) = 24 := (g_41 hG ma ra).1
theorem g_41_E (hG : q_G ρ L m S0 S) (ma : a ∈ L) (ra : ρ a = 41) {k : Nat} : (0 ≤ ((q_I S a) k).toInt ∧ ((q_I S a) k).toInt ≤ 23) := (g_41 hG ma ra).2 k
theorem u_41_E {k : Nat} {x : Int32} (hG : q_G ρ L m S0 S) (ma : a ∈ L) (ra : ρ a = 41) (hm : m.contains (q_ar 41 0) = true) (hx : (0 ≤ x.toInt ∧ x.toInt ≤ 23)) : q_G ρ L m S0 (q_sI S a k x) := q_G_sI hG ma ra hm (q_E1_sI hG ra rfl rfl) (⟨(g_41 hG ma ra).1, fun k9 => by
    by_cases e : k9 = k
    · subst e; rw [q_up_same]; exact hx
    · rw [q_up_ne _ _ e]; exact (g_41 hG ma ra).2 k9⟩)
theorem g_42 (hG : q_G ρ L m S0 S) (ma : a ∈ L) (ra : ρ a = 42) : (q_N S a) = 200 := by
  have h := (hG.1.2.1 a ma).2
  rw [ra] at h
  exact h
theorem g_42_N (hG : q_G ρ L m S0 S) (ma : a ∈ L) (ra : ρ a = 42) : (q_N S a) = 200 := (g_42 hG ma ra)
theorem u_42_E {k : Nat} {x : Int32} (hG : q_G ρ L m S0 S) (ma : a ∈ L) (ra : ρ a = 42) (hm : m.contains (q_ar 42 0) = true) : q_G ρ L m S0 (q_sI S a k x) := q_G_sI hG ma ra hm (q_E1_sI hG ra rfl rfl) ((g_42 hG ma ra))
theorem g_43 (hG : q_G ρ L m S0 S) (ma : a ∈ L) (ra : ρ a = 43) : (q_N S a) = 201 := by
  have h := (hG.1.2.1 a ma).2
  rw [ra] at h
  exact h
theorem g_43_N (hG : q_G ρ L m S0 S) (ma : a ∈ L) (ra : ρ a = 43) : (q_N S a) = 201 := (g_43 hG ma ra)
theorem u_43_E {k : Nat} {x : Int32} (hG : q_G ρ L m S0 S) (ma : a ∈ L) (ra : ρ a = 43) (hm : m.contains (q_ar 43 0) = true) : q_G ρ L m S0 (q_sI S a k x) := q_G_sI hG ma ra hm (q_E1_sI hG ra rfl rfl) ((g_43 hG ma ra))
theorem g_44 (hG : q_G ρ L m S0 S) (ma : a ∈ L) (ra : ρ a = 44) : q_tr ρ L ((q_R S a) 0) 39 ∧ (-1 ≤ ((q_J S a) 1).toInt ∧ ((q_J S a) 1).toInt ≤ 4294967295) ∧ (0 ≤ ((q_J S a) 2).toInt ∧ ((q_J S a) 2).toInt ≤ 0) ∧ (0 ≤ ((q_I S a) 3).toInt ∧ ((q_I S a) 3).toInt ≤ 2400) ∧ (-2147483648 ≤ ((q_I S a) 4).toInt ∧ ((q_I S a) 4).toInt ≤ 2400) := by
  have h := (hG.1.2.1 a ma).2
  rw [ra] at h
  exact h
theorem g_44_R0 (hG : q_G ρ L m S0 S) (ma : a ∈ L) (ra : ρ a = 44) : q_tr ρ L ((q_R S a) 0) 39 := (g_44 hG ma ra).1
theorem g_44_J1 (hG : q_G ρ L m S0 S) (ma : a ∈ L) (ra : ρ a = 44) : (-1 ≤ ((q_J S a) 1).toInt ∧ ((q_J S a) 1).toInt ≤ 4294967295) := (g_44 hG ma ra).2.1
theorem g_44_J2 (hG : q_G ρ L m S0 S) (ma : a ∈ L) (ra : ρ a = 44) : (0 ≤ ((q_J S a) 2).toInt ∧ ((q_J S a) 2).toInt ≤ 0) := (g_44 hG ma ra).2.2.1
theorem g_44_I3 (hG : q_G ρ L m S0 S) (ma : a ∈ L) (ra : ρ a = 44) : (0 ≤ ((q_I S a) 3).toInt ∧ ((q_I S a) 3).toInt ≤ 2400) := (g_44 hG ma ra).2.2.2.1
theorem g_44_I4 (hG : q_G ρ L m S0 S) (ma : a ∈ L) (ra : ρ a = 44) : (-2147483648 ≤ ((q_I S a) 4).toInt ∧ ((q_I S a) 4).toInt ≤ 2400) := (g_44 hG ma ra).2.2.2.2
theorem u_44_J1 {x : Int64} (hG : q_G ρ L m S0 S) (ma : a ∈ L) (ra : ρ a = 44) (hm : m.contains (q_ar 44 1) = true) (hx : (-1 ≤ x.toInt ∧ x.toInt ≤ 4294967295)) : q_G ρ L m S0 (q_sJ S a 1 x) := q_G_sJ hG ma ra hm (⟨(g_44 hG ma ra).1, by show (-1 ≤ ((va_up (q_J S a) 1 x) 1).toInt ∧ ((va_up (q_J S a) 1 x) 1).toInt ≤ 4294967295); rw [q_up_same]; exact hx, (g_44 hG ma ra).2.2.1, (g_44 hG ma ra).2.2.2.1, (g_44 hG ma ra).2.2.2.2⟩)
theorem u_44_J2 {x : Int64} (hG : q_G ρ L m S0 S) (ma : a ∈ L) (ra : ρ a = 44) (hm : m.contains (q_ar 44 2) = true) (hx : (0 ≤ x.toInt ∧ x.toInt ≤ 0)) : q_G ρ L m S0 (q_sJ S a 2 x) := q_G_sJ hG ma ra hm (⟨(g_44 hG ma ra).1, (g_44 hG ma ra).2.1, by show (0 ≤ ((va_up (q_J S a) 2 x) 2).toInt ∧ ((va_up (q_J S a) 2 x) 2).toInt ≤ 0); rw [q_up_same]; exact hx, (g_44 hG ma ra).2.2.2.1, (g_44 hG ma ra).2.2.2.2⟩)
theorem u_44_I3 {x : Int32} (hG : q_G ρ L m S0 S) (ma : a ∈ L) (ra : ρ a = 44) (hm : m.contains (q_ar 44 3) = true) (hx : (0 ≤ x.toInt ∧ x.toInt ≤ 2400)) : q_G ρ L m S0 (q_sI S a 3 x) := q_G_sI hG ma ra hm (q_E1_sI hG ra rfl rfl) (⟨(g_44 hG ma ra).1, (g_44 hG ma ra).2.1, (g_44 hG ma ra).2.2.1, by show (0 ≤ ((va_up (q_I S a) 3 x) 3).toInt ∧ ((va_up (q_I S a) 3 x) 3).toInt ≤ 2400); rw [q_up_same]; exact hx, (g_44 hG ma ra).2.2.2.2⟩)
theorem u_44_I4 {x : Int32} (hG : q_G ρ L m S0 S) (ma : a ∈ L) (ra : ρ a = 44) (hm : m.contains (q_ar 44 4) = true) (hx : (-2147483648 ≤ x.toInt ∧ x.toInt ≤ 2400)) : q_G ρ L m S0 (q_sI S a 4 x) := q_G_sI hG ma ra hm (q_E1_sI hG ra rfl rfl) (⟨(g_44 hG ma ra).1, (g_44 hG ma ra).2.1, (g_44 hG ma ra).2.2.1, (g_44 hG ma ra).2.2.2.1, by show (-2147483648 ≤ ((va_up (q_I S a) 4 x) 4).toInt ∧ ((va_up (q_I S a) 4 x) 4).toInt ≤ 2400); rw [q_up_same]; exact hx⟩)
theorem g_45 (hG : q_G ρ L m S0 S) (ma : a ∈ L) (ra : ρ a = 45) : (0 ≤ ((q_I S a) 0).toInt ∧ ((q_I S a) 0).toInt ≤ 1) ∧ q_tr ρ L ((q_R S a) 1) 46 ∧ (0 ≤ ((q_I S a) 2).toInt ∧ ((q_I S a) 2).toInt ≤ 1600) ∧ (0 ≤ ((q_I S a) 3).toInt ∧ ((q_I S a) 3).toInt ≤ 24) ∧ q_tr ρ L ((q_R S a) 4) 47 ∧ q_tr ρ L ((q_R S a) 5) 48 ∧ q_tr ρ L ((q_R S a) 6) 49 ∧ q_tr ρ L ((q_R S a) 7) 50 ∧ (0 ≤ ((q_I S a) 8).toInt ∧ ((q_I S a) 8).toInt ≤ 1) ∧ q_tr ρ L ((q_R S a) 9) 51 ∧ q_tr ρ L ((q_R S a) 10) 52 ∧ (0 ≤ ((q_I S a) 11).toInt ∧ ((q_I S a) 11).toInt ≤ 100) ∧ q_tr ρ L ((q_R S a) 12) 53 ∧ q_tr ρ L ((q_R S a) 13) 54 ∧ (0 ≤ ((q_I S a) 14).toInt ∧ ((q_I S a) 14).toInt ≤ 120) ∧ q_tr ρ L ((q_R S a) 15) 55 ∧ q_tr ρ L ((q_R S a) 16) 56 ∧ q_tr ρ L ((q_R S a) 17) 57 ∧ (0 ≤ ((q_I S a) 18).toInt ∧ ((q_I S a) 18).toInt ≤ 120) ∧ q_tr ρ L ((q_R S a) 19) 58 ∧ q_tr ρ L ((q_R S a) 20) 59 ∧ (0 ≤ ((q_I S a) 21).toInt ∧ ((q_I S a) 21).toInt ≤ 1601) ∧ (0 ≤ ((q_I S a) 22).toInt ∧ ((q_I S a) 22).toInt ≤ 1601) ∧ (0 ≤ ((q_I S a) 23).toInt ∧ ((q_I S a) 23).toInt ≤ 1) ∧ (0 ≤ ((q_I S a) 24).toInt ∧ ((q_I S a) 24).toInt ≤ 6) ∧ q_tr ρ L ((q_R S a) 25) 60 ∧ q_tr ρ L ((q_R S a) 26) 61 ∧ q_tr ρ L ((q_R S a) 27) 62 ∧ q_tr ρ L ((q_R S a) 28) 63 ∧ q_tr ρ L ((q_R S a) 29) 64 ∧ q_tr ρ L ((q_R S a) 30) 65 ∧ q_tr ρ L ((q_R S a) 31) 66 ∧ q_tr ρ L ((q_R S a) 32) 67 ∧ q_tr ρ L ((q_R S a) 33) 68 ∧ q_tr ρ L ((q_R S a) 34) 69 ∧ q_tr ρ L ((q_R S a) 35) 70 ∧ (0 ≤ ((q_I S a) 36).toInt ∧ ((q_I S a) 36).toInt ≤ 120) ∧ q_tr ρ L ((q_R S a) 37) 71 ∧ (0 ≤ ((q_I S a) 38).toInt ∧ ((q_I S a) 38).toInt ≤ 2400) ∧ q_tr ρ L ((q_R S a) 39) 72 ∧ q_tr ρ L ((q_R S a) 40) 73 ∧ (0 ≤ ((q_I S a) 41).toInt ∧ ((q_I S a) 41).toInt ≤ 1) := by
  have h := (hG.1.2.1 a ma).2
  rw [ra] at h
  exact h
theorem g_45_I0 (hG : q_G ρ L m S0 S) (ma : a ∈ L) (ra : ρ a = 45) : (0 ≤ ((q_I S a) 0).toInt ∧ ((q_I S a) 0).toInt ≤ 1) := (g_45 hG ma ra).1
theorem g_45_R1 (hG : q_G ρ L m S0 S) (ma : a ∈ L) (ra : ρ a = 45) : q_tr ρ L ((q_R S a) 1) 46 := (g_45 hG ma ra).2.1
theorem g_45_I2 (hG : q_G ρ L m S0 S) (ma : a ∈ L) (ra : ρ a = 45) : (0 ≤ ((q_I S a) 2).toInt ∧ ((q_I S a) 2).toInt ≤ 1600) := (g_45 hG ma ra).2.2.1
theorem g_45_I3 (hG : q_G ρ L m S0 S) (ma : a ∈ L) (ra : ρ a = 45) : (0 ≤ ((q_I S a) 3).toInt ∧ ((q_I S a) 3).toInt ≤ 24) := (g_45 hG ma ra).2.2.2.1
theorem g_45_R4 (hG : q_G ρ L m S0 S) (ma : a ∈ L) (ra : ρ a = 45) : q_tr ρ L ((q_R S a) 4) 47 := (g_45 hG ma ra).2.2.2.2.1
theorem g_45_R5 (hG : q_G ρ L m S0 S) (ma : a ∈ L) (ra : ρ a = 45) : q_tr ρ L ((q_R S a) 5) 48 := (g_45 hG ma ra).2.2.2.2.2.1
theorem g_45_R6 (hG : q_G ρ L m S0 S) (ma : a ∈ L) (ra : ρ a = 45) : q_tr ρ L ((q_R S a) 6) 49 := (g_45 hG ma ra).2.2.2.2.2.2.1
theorem g_45_R7 (hG : q_G ρ L m S0 S) (ma : a ∈ L) (ra : ρ a = 45) : q_tr ρ L ((q_R S a) 7) 50 := (g_45 hG ma ra).2.2.2.2.2.2.2.1
theorem g_45_I8 (hG : q_G ρ L m S0 S) (ma : a ∈ L) (ra : ρ a = 45) : (0 ≤ ((q_I S a) 8).toInt ∧ ((q_I S a) 8).toInt ≤ 1) := (g_45 hG ma ra).2.2.2.2.2.2.2.2.1
theorem g_45_R9 (hG : q_G ρ L m S0 S) (ma : a ∈ L) (ra : ρ a = 45) : q_tr ρ L ((q_R S a) 9) 51 := (g_45 hG ma ra).2.2.2.2.2.2.2.2.2.1
theorem g_45_R10 (hG : q_G ρ L m S0 S) (ma : a ∈ L) (ra : ρ a = 45) : q_tr ρ L ((q_R S a) 10) 52 := (g_45 hG ma ra).2.2.2.2.2.2.2.2.2.2.1
theorem g_45_I11 (hG : q_G ρ L m S0 S) (ma : a ∈ L) (ra : ρ a = 45) : (0 ≤ ((q_I S a) 11).toInt ∧ ((q_I S a) 11).toInt ≤ 100) := (g_45 hG ma ra).2.2.2.2.2.2.2.2.2.2.2.1
theorem g_45_R12 (hG : q_G ρ L m S0 S) (ma : a ∈ L) (ra : ρ a = 45) : q_tr ρ L ((q_R S a) 12) 53 := (g_45 hG ma ra).2.2.2.2.2.2.2.2.2.2.2.2.1
theorem g_45_R13 (hG : q_G ρ L m S0 S) (ma : a ∈ L) (ra : ρ a = 45) : q_tr ρ L ((q_R S a) 13) 54 := (g_45 hG ma ra).2.2.2.2.2.2.2.2.2.2.2.2.2.1
theorem g_45_I14 (hG : q_G ρ L m S0 S) (ma : a ∈ L) (ra : ρ a = 45) : (0 ≤ ((q_I S a) 14).toInt ∧ ((q_I S a) 14).toInt ≤ 120) := (g_45 hG ma ra).2.2.2.2.2.2.2.2.2.2.2.2.2.2.1
theorem g_45_R15 (hG : q_G ρ L m S0 S) (ma : a ∈ L) (ra : ρ a = 45) : q_tr ρ L ((q_R S a) 15) 55 := (g_45 hG ma ra).2.2.2.2.2.2.2.2.2.2.2.2.2.2.2.1
theorem g_45_R16 (hG : q_G ρ L m S0 S) (ma : a ∈ L) (ra : ρ a = 45) : q_tr ρ L ((q_R S a) 16) 56 := (g_45 hG ma ra).2.2.2.2.2.2.2.2.2.2.2.2.2.2.2.2.1
theorem g_45_R17 (hG : q_G ρ L m S0 S) (ma : a ∈ L) (ra : ρ a = 45) : q_tr ρ L ((q_R S a) 17) 57 := (g_45 hG ma ra).2.2.2.2.2.2.2.2.2.2.2.2.2.2.2.2.2.1
theorem g_45_I18 (hG : q_G ρ L m S0 S) (ma : a ∈ L) (ra : ρ a = 45) : (0 ≤ ((q_I S a) 18).toInt ∧ ((q_I S a) 18).toInt ≤ 120) := (g_45 hG ma ra).2.2.2.2.2.2.2.2.2.2.2.2.2.2.2.2.2.2.1
theorem g_45_R19 (hG : q_G ρ L m S0 S) (ma : a ∈ L) (ra : ρ a = 45) : q_tr ρ L ((q_R S a) 19) 58 := (g_45 hG ma ra).2.2.2.2.2.2.2.2.2.2.2.2.2.2.2.2.2.2.2.1
theorem g_45_R20 (hG : q_G ρ L m S0 S) (ma : a ∈ L) (ra : ρ a = 45) : q_tr ρ L ((q_R S a) 20) 59 := (g_45 hG ma ra).2.2.2.2.2.2.2.2.2.2.2.2.2.2.2.2.2.2.2.2.1
theorem g_45_I21 (hG : q_G ρ L m S0 S) (ma : a ∈ L) (ra : ρ a = 45) : (0 ≤ ((q_I S a) 21).toInt ∧ ((q_I S a) 21).toInt ≤ 1601) := (g_45 hG ma ra).2.2.2.2.2.2.2.2.2.2.2.2.2.2.2.2.2.2.2.2.2.1
theorem g_45_I22 (hG : q_G ρ L m S0 S) (ma : a ∈ L) (ra : ρ a = 45) : (0 ≤ ((q_I S a) 22).toInt ∧ ((q_I S a) 22).toInt ≤ 1601) := (g_45 hG ma ra).2.2.2.2.2.2.2.2.2.2.2.2.2.2.2.2.2.2.2.2.2.2.1
theorem g_45_I23 (hG : q_G ρ L m S0 S) (ma : a ∈ L) (ra : ρ a = 45) : (0 ≤ ((q_I S a) 23).toInt ∧ ((q_I S a) 23).toInt ≤ 1) := (g_45 hG ma ra).2.2.2.2.2.2.2.2.2.2.2.2.2.2.2.2.2.2.2.2.2.2.2.1
theorem g_45_I24 (hG : q_G ρ L m S0 S) (ma : a ∈ L) (ra : ρ a = 45) : (0 ≤ ((q_I S a) 24).toInt ∧ ((q_I S a) 24).toInt ≤ 6) := (g_45 hG ma ra).2.2.2.2.2.2.2.2.2.2.2.2.2.2.2.2.2.2.2.2.2.2.2.2.1
theorem g_45_R25 (hG : q_G ρ L m S0 S) (ma : a ∈ L) (ra : ρ a = 45) : q_tr ρ L ((q_R S a) 25) 60 := (g_45 hG ma ra).2.2.2.2.2.2.2.2.2.2.2.2.2.2.2.2.2.2.2.2.2.2.2.2.2.1
theorem g_45_R26 (hG : q_G ρ L m S0 S) (ma : a ∈ L) (ra : ρ a = 45) : q_tr ρ L ((q_R S a) 26) 61 := (g_45 hG ma ra).2.2.2.2.2.2.2.2.2.2.2.2.2.2.2.2.2.2.2.2.2.2.2.2.2.2.1
theorem g_45_R27 (hG : q_G ρ L m S0 S) (ma : a ∈ L) (ra : ρ a = 45) : q_tr ρ L ((q_R S a) 27) 62 := (g_45 hG ma ra).2.2.2.2.2.2.2.2.2.2.2.2.2.2.2.2.2.2.2.2.2.2.2.2.2.2.2.1
theorem g_45_R28 (hG : q_G ρ L m S0 S) (ma : a ∈ L) (ra : ρ a = 45) : q_tr ρ L ((q_R S a) 28) 63 := (g_45 hG ma ra).2.2.2.2.2.2.2.2.2.2.2.2.2.2.2.2.2.2.2.2.2.2.2.2.2.2.2.2.1
theorem g_45_R29 (hG : q_G ρ L m S0 S) (ma : a ∈ L) (ra : ρ a = 45) : q_tr ρ L ((q_R S a) 29) 64 := (g_45 hG ma ra).2.2.2.2.2.2.2.2.2.2.2.2.2.2.2.2.2.2.2.2.2.2.2.2.2.2.2.2.2.1
theorem g_45_R30 (hG : q_G ρ L m S0 S) (ma : a ∈ L) (ra : ρ a = 45) : q_tr ρ L ((q_R S a) 30) 65 := (g_45 hG ma ra).2.2.2.2.2.2.2.2.2.2.2.2.2.2.2.2.2.2.2.2.2.2.2.2.2.2.2.2.2.2.1
theorem g_45_R31 (hG : q_G ρ L m S0 S) (ma : a ∈ L) (ra : ρ a = 45) : q_tr ρ L ((q_R S a) 31) 66 := (g_45 hG ma ra).2.2.2.2.2.2.2.2.2.2.2.2.2.2.2.2.2.2.2.2.2.2.2.2.2.2.2.2.2.2.2.1
theorem g_45_R32 (hG : q_G ρ L m S0 S) (ma : a ∈ L) (ra : ρ a = 45) : q_tr ρ L ((q_R S a) 32) 67 := (g_45 hG ma ra).2.2.2.2.2.2.2.2.2.2.2.2.2.2.2.2.2.2.2.2.2.2.2.2.2.2.2.2.2.2.2.2.1
theorem g_45_R33 (hG : q_G ρ L m S0 S) (ma : a ∈ L) (ra : ρ a = 45) : q_tr ρ L ((q_R S a) 33) 68 := (g_45 hG ma ra).2.2.2.2.2.2.2.2.2.2.2.2.2.2.2.2.2.2.2.2.2.2.2.2.2.2.2.2.2.2.2.2.2.1
theorem g_45_R34 (hG : q_G ρ L m S0 S) (ma : a ∈ L) (ra : ρ a = 45) : q_tr ρ L ((q_R S a) 34) 69 := (g_45 hG ma ra).2.2.2.2.2.2.2.2.2.2.2.2.2.2.2.2.2.2.2.2.2.2.2.2.2.2.2.2.2.2.2.2.2.2.1
theorem g_45_R35 (hG : q_G ρ L m S0 S) (ma : a ∈ L) (ra : ρ a = 45) : q_tr ρ L ((q_R S a) 35) 70 := (g_45 hG ma ra).2.2.2.2.2.2.2.2.2.2.2.2.2.2.2.2.2.2.2.2.2.2.2.2.2.2.2.2.2.2.2.2.2.2.2.1
theorem g_45_I36 (hG : q_G ρ L m S0 S) (ma : a ∈ L) (ra : ρ a = 45) : (0 ≤ ((q_I S a) 36).toInt ∧ ((q_I S a) 36).toInt ≤ 120) := (g_45 hG ma ra).2.2.2.2.2.2.2.2.2.2.2.2.2.2.2.2.2.2.2.2.2.2.2.2.2.2.2.2.2.2.2.2.2.2.2.2.1
theorem g_45_R37 (hG : q_G ρ L m S0 S) (ma : a ∈ L) (ra : ρ a = 45) : q_tr ρ L ((q_R S a) 37) 71 := (g_45 hG ma ra).2.2.2.2.2.2.2.2.2.2.2.2.2.2.2.2.2.2.2.2.2.2.2.2.2.2.2.2.2.2.2.2.2.2.2.2.2.1
theorem g_45_I38 (hG : q_G ρ L m S0 S) (ma : a ∈ L) (ra : ρ a = 45) : (0 ≤ ((q_I S a) 38).toInt ∧ ((q_I S a) 38).toInt ≤ 2400) := (g_45 hG ma ra).2.2.2.2.2.2.2.2.2.2.2.2.2.2.2.2.2.2.2.2.2.2.2.2.2.2.2.2.2.2.2.2.2.2.2.2.2.2.1
theorem g_45_R39 (hG : q_G ρ L m S0 S) (ma : a ∈ L) (ra : ρ a = 45) : q_tr ρ L ((q_R S a) 39) 72 := (g_45 hG ma ra).2.2.2.2.2.2.2.2.2.2.2.2.2.2.2.2.2.2.2.2.2.2.2.2.2.2.2.2.2.2.2.2.2.2.2.2.2.2.2.1
theorem g_45_R40 (hG : q_G ρ L m S0 S) (ma : a ∈ L) (ra : ρ a = 45) : q_tr ρ L ((q_R S a) 40) 73 := (g_45 hG ma ra).2.2.2.2.2.2.2.2.2.2.2.2.2.2.2.2.2.2.2.2.2.2.2.2.2.2.2.2.2.2.2.2.2.2.2.2.2.2.2.2.1
theorem g_45_I41 (hG : q_G ρ L m S0 S) (ma : a ∈ L) (ra : ρ a = 45) : (0 ≤ ((q_I S a) 41).toInt ∧ ((q_I S a) 41).toInt ≤ 1) := (g_45 hG ma ra).2.2.2.2.2.2.2.2.2.2.2.2.2.2.2.2.2.2.2.2.2.2.2.2.2.2.2.2.2.2.2.2.2.2.2.2.2.2.2.2.2
theorem u_45_I0 {x : Int32} (hG : q_G ρ L m S0 S) (ma : a ∈ L) (ra : ρ a = 45) (hm : m.contains (q_ar 45 0) = true) (hx : (0 ≤ x.toInt ∧ x.toInt ≤ 1)) : q_G ρ L m S0 (q_sI S a 0 x) := q_G_sI hG ma ra hm (q_E1_sI hG ra rfl rfl) (⟨by show (0 ≤ ((va_up (q_I S a) 0 x) 0).toInt ∧ ((va_up (q_I S a) 0 x) 0).toInt ≤ 1); rw [q_up_same]; exact hx, (g_45 hG ma ra).2.1, (g_45 hG ma ra).2.2.1, (g_45 hG ma ra).2.2.2.1, (g_45 hG ma ra).2.2.2.2.1, (g_45 hG ma ra).2.2.2.2.2.1, (g_45 hG ma ra).2.2.2.2.2.2.1, (g_45 hG ma ra).2.2.2.2.2.2.2.1, (g_45 hG ma ra).2.2.2.2.2.2.2.2.1, (g_45 hG ma ra).2.2.2.2.2.2.2.2.2.1, (g_45 hG ma ra).2.2.2.2.2.2.2.2.2.2.1, (g_45 hG ma ra).2.2.2.2.2.2.2.2.2.2.2.1, (g_45 hG ma ra).2.2.2.2.2.2.2.2.2.2.2.2.1, (g_45 hG ma ra).2.2.2.2.2.2.2.2.2.2.2.2.2.1, (g_45 hG ma ra).2.2.2.2.2.2.2.2.2.2.2.2.2.2.1, (g_45 hG ma ra).2.2.2.2.2.2.2.2.2.2.2.2.2.2.2.1, (g_45 hG ma ra).2.2.2.2.2.2.2.2.2.2.2.2.2.2.2.2.1, (g_45 hG ma ra).2.2.2.2.2.2.2.2.2.2.2.2.2.2.2.2.2.1, (g_45 hG ma ra).2.2.2.2.2.2.2.2.2.2.2.2.2.2.2.2.2.2.1, (g_45 hG ma ra).2.2.2.2.2.2.2.2.2.2.2.2.2.2.2.2.2.2.2.1, (g_45 hG ma ra).2.2.2.2.2.2.2.2.2.2.2.2.2.2.2.2.2.2.2.2.1, (g_45 hG ma ra).2.2.2.2.2.2.2.2.2.2.2.2.2.2.2.2.2.2.2.2.2.1, (g_45 hG ma ra).2.2.2.2.2.2.2.2.2.2.2.2.2.2.2.2.2.2.2.2.2.2.1, (g_45 hG ma ra).2.2.2.2.2.2.2.2.2.2.2.2.2.2.2.2.2.2.2.2.2.2.2.1, (g_45 hG ma ra).2.2.2.2.2.2.2.2.2.2.2.2.2.2.2.2.2.2.2.2.2.2.2.2.1, (g_45 hG ma ra).2.2.2.2.2.2.2.2.2.2.2.2.2.2.2.2.2.2.2.2.2.2.2.2.2.1, (g_45 hG ma ra).2.2.2.2.2.2.2.2.2.2.2.2.2.2.2.2.2.2.2.2.2.2.2.2.2.2.1, (g_45 hG ma ra).2.2.2.2.2.2.2.2.2.2.2.2.2.2.2.2.2.2.2.2.2.2.2.2.2.2.2.1, (g_45 hG ma ra).2.2.2.2.2.2.2.2.2.2.2.2.2.2.2.2.2.2.2.2.2.2.2.2.2.2.2.2.1, (g_45 hG ma ra).2.2.2.2.2.2.2.2.2.2.2.2.2.2.2.2.2.2.2.2.2.2.2.2.2.2.2.2.2.1, (g_45 hG ma ra).2.2.2.2.2.2.2.2.2.2.2.2.2.2.2.2.2.2.2.2.2.2.2.2.2.2.2.2.2.2.1, (g_45 hG ma ra).2.2.2.2.2.2.2.2.2.2.2.2.2.2.2.2.2.2.2.2.2.2.2.2.2.2.2.2.2.2.2.1, (g_45 hG ma ra).2.2.2.2.2.2.2.2.2.2.2.2.2.2.2.2.2.2.2.2.2.2.2.2.2.2.2.2.2.2.2.2.1, (g_45 hG ma ra).2.2.2.2.2.2.2.2.2.2.2.2.2.2.2.2.2.2.2.2.2.2.2.2.2.2.2.2.2.2.2.2.2.1, (g_45 hG ma ra).2.2.2.2.2.2.2.2.2.2.2.2.2.2.2.2.2.2.2.2.2.2.2.2.2.2.2.2.2.2.2.2.2.2.1, (g_45 hG ma ra).2.2.2.2.2.2.2.2.2.2.2.2.2.2.2.2.2.2.2.2.2.2.2.2.2.2.2.2.2.2.2.2.2.2.2.1, (g_45 hG ma ra).2.2.2.2.2.2.2.2.2.2.2.2.2.2.2.2.2.2.2.2.2.2.2.2.2.2.2.2.2.2.2.2.2.2.2.2.1, (g_45 hG ma ra).2.2.2.2.2.2.2.2.2.2.2.2.2.2.2.2.2.2.2.2.2.2.2.2.2.2.2.2.2.2.2.2.2.2.2.2.2.1, (g_45 hG ma ra).2.2.2.2.2.2.2.2.2.2.2.2.2.2.2.2.2.2.2.2.2.2.2.2.2.2.2.2.2.2.2.2.2.2.2.2.2.2.1, (g_45 hG ma ra).2.2.2.2.2.2.2.2.2.2.2.2.2.2.2.2.2.2.2.2.2.2.2.2.2.2.2.2.2.2.2.2.2.2.2.2.2.2.2.1, (g_45 hG ma ra).2.2.2.2.2.2.2.2.2.2.2.2.2.2.2.2.2.2.2.2.2.2.2.2.2.2.2.2.2.2.2.2.2.2.2.2.2.2.2.2.1, (g_45 hG ma ra).2.2.2.2.2.2.2.2.2.2.2.2.2.2.2.2.2.2.2.2.2.2.2.2.2.2.2.2.2.2.2.2.2.2.2.2.2.2.2.2.2⟩)
theorem u_45_I2 {x : Int32} (hG : q_G ρ L m S0 S) (ma : a ∈ L) (ra : ρ a = 45) (hm : m.contains (q_ar 45 2) = true) (hx : (0 ≤ x.toInt ∧ x.toInt ≤ 1600)) : q_G ρ L m S0 (q_sI S a 2 x) := q_G_sI hG ma ra hm (q_E1_sI hG ra rfl rfl) (⟨(g_45 hG ma ra).1, (g_45 hG ma ra).2.1, by show (0 ≤ ((va_up (q_I S a) 2 x) 2).toInt ∧ ((va_up (q_I S a) 2 x) 2).toInt ≤ 1600); rw [q_up_same]; exact hx, (g_45 hG ma ra).2.2.2.1, (g_45 hG ma ra).2.2.2.2.1, (g_45 hG ma ra).2.2.2.2.2.1, (g_45 hG ma ra).2.2.2.2.2.2.1, (g_45 hG ma ra).2.2.2.2.2.2.2.1, (g_45 hG ma ra).2.2.2.2.2.2.2.2.1, (g_45 hG ma ra).2.2.2.2.2.2.2.2.2.1, (g_45 hG ma ra).2.2.2.2.2.2.2.2.2.2.1, (g_45 hG ma ra).2.2.2.2.2.2.2.2.2.2.2.1, (g_45 hG ma ra).2.2.2.2.2.2.2.2.2.2.2.2.1, (g_45 hG ma ra).2.2.2.2.2.2.2.2.2.2.2.2.2.1, (g_45 hG ma ra).2.2.2.2.2.2.2.2.2.2.2.2.2.2.1, (g_45 hG ma ra).2.2.2.2.2.2.2.2.2.2.2.2.2.2.2.1, (g_45 hG ma ra).2.2.2.2.2.2.2.2.2.2.2.2.2.2.2.2.1, (g_45 hG ma ra).2.2.2.2.2.2.2.2.2.2.2.2.2.2.2.2.2.1, (g_45 hG ma ra).2.2.2.2.2.2.2.2.2.2.2.2.2.2.2.2.2.2.1, (g_45 hG ma ra).2.2.2.2.2.2.2.2.2.2.2.2.2.2.2.2.2.2.2.1, (g_45 hG ma ra).2.2.2.2.2.2.2.2.2.2.2.2.2.2.2.2.2.2.2.2.1, (g_45 hG ma ra).2.2.2.2.2.2.2.2.2.2.2.2.2.2.2.2.2.2.2.2.2.1, (g_45 hG ma ra).2.2.2.2.2.2.2.2.2.2.2.2.2.2.2.2.2.2.2.2.2.2.1, (g_45 hG ma ra).2.2.2.2.2.2.2.2.2.2.2.2.2.2.2.2.2.2.2.2.2.2.2.1, (g_45 hG ma ra).2.2.2.2.2.2.2.2.2.2.2.2.2.2.2.2.2.2.2.2.2.2.2.2.1, (g_45 hG ma ra).2.2.2.2.2.2.2.2.2.2.2.2.2.2.2.2.2.2.2.2.2.2.2.2.2.1, (g_45 hG ma ra).2.2.2.2.2.2.2.2.2.2.2.2.2.2.2.2.2.2.2.2.2.2.2.2.2.2.1, (g_45 hG ma ra).2.2.2.2.2.2.2.2.2.2.2.2.2.2.2.2.2.2.2.2.2.2.2.2.2.2.2.1, (g_45 hG ma ra).2.2.2.2.2.2.2.2.2.2.2.2.2.2.2.2.2.2.2.2.2.2.2.2.2.2.2.2.1, (g_45 hG ma ra).2.2.2.2.2.2.2.2.2.2.2.2.2.2.2.2.2.2.2.2.2.2.2.2.2.2.2.2.2.1, (g_45 hG ma ra).2.2.2.2.2.2.2.2.2.2.2.2.2.2.2.2.2.2.2.2.2.2.2.2.2.2.2.2.2.2.1, (g_45 hG ma ra).2.2.2.2.2.2.2.2.2.2.2.2.2.2.2.2.2.2.2.2.2.2.2.2.2.2.2.2.2.2.2.1, (g_45 hG ma ra).2.2.2.2.2.2.2.2.2.2.2.2.2.2.2.2.2.2.2.2.2.2.2.2.2.2.2.2.2.2.2.2.1, (g_45 hG ma ra).2.2.2.2.2.2.2.2.2.2.2.2.2.2.2.2.2.2.2.2.2.2.2.2.2.2.2.2.2.2.2.2.2.1, (g_45 hG ma ra).2.2.2.2.2.2.2.2.2.2.2.2.2.2.2.2.2.2.2.2.2.2.2.2.2.2.2.2.2.2.2.2.2.2.1, (g_45 hG ma ra).2.2.2.2.2.2.2.2.2.2.2.2.2.2.2.2.2.2.2.2.2.2.2.2.2.2.2.2.2.2.2.2.2.2.2.1, (g_45 hG ma ra).2.2.2.2.2.2.2.2.2.2.2.2.2.2.2.2.2.2.2.2.2.2.2.2.2.2.2.2.2.2.2.2.2.2.2.2.1, (g_45 hG ma ra).2.2.2.2.2.2.2.2.2.2.2.2.2.2.2.2.2.2.2.2.2.2.2.2.2.2.2.2.2.2.2.2.2.2.2.2.2.1, (g_45 hG ma ra).2.2.2.2.2.2.2.2.2.2.2.2.2.2.2.2.2.2.2.2.2.2.2.2.2.2.2.2.2.2.2.2.2.2.2.2.2.2.1, (g_45 hG ma ra).2.2.2.2.2.2.2.2.2.2.2.2.2.2.2.2.2.2.2.2.2.2.2.2.2.2.2.2.2.2.2.2.2.2.2.2.2.2.2.1, (g_45 hG ma ra).2.2.2.2.2.2.2.2.2.2.2.2.2.2.2.2.2.2.2.2.2.2.2.2.2.2.2.2.2.2.2.2.2.2.2.2.2.2.2.2.1, (g_45 hG ma ra).2.2.2.2.2.2.2.2.2.2.2.2.2.2.2.2.2.2.2.2.2.2.2.2.2.2.2.2.2.2.2.2.2.2.2.2.2.2.2.2.2⟩)
theorem u_45_I3 {x : Int32} (hG : q_G ρ L m S0 S) (ma : a ∈ L) (ra : ρ a = 45) (hm : m.contains (q_ar 45 3) = true) (hx : (0 ≤ x.toInt ∧ x.toInt ≤ 24)) : q_G ρ L m S0 (q_sI S a 3 x) := q_G_sI hG ma ra hm (q_E1_sI hG ra rfl rfl) (⟨(g_45 hG ma ra).1, (g_45 hG ma ra).2.1, (g_45 hG ma ra).2.2.1, by show (0 ≤ ((va_up (q_I S a) 3 x) 3).toInt ∧ ((va_up (q_I S a) 3 x) 3).toInt ≤ 24); rw [q_up_same]; exact hx, (g_45 hG ma ra).2.2.2.2.1, (g_45 hG ma ra).2.2.2.2.2.1, (g_45 hG ma ra).2.2.2.2.2.2.1, (g_45 hG ma ra).2.2.2.2.2.2.2.1, (g_45 hG ma ra).2.2.2.2.2.2.2.2.1, (g_45 hG ma ra).2.2.2.2.2.2.2.2.2.1, (g_45 hG ma ra).2.2.2.2.2.2.2.2.2.2.1, (g_45 hG ma ra).2.2.2.2.2.2.2.2.2.2.2.1, (g_45 hG ma ra).2.2.2.2.2.2.2.2.2.2.2.2.1, (g_45 hG ma ra).2.2.2.2.2.2.2.2.2.2.2.2.2.1, (g_45 hG ma ra).2.2.2.2.2.2.2.2.2.2.2.2.2.2.1, (g_45 hG ma ra).2.2.2.2.2.2.2.2.2.2.2.2.2.2.2.1, (g_45 hG ma ra).2.2.2.2.2.2.2.2.2.2.2.2.2.2.2.2.1, (g_45 hG ma ra).2.2.2.2.2.2.2.2.2.2.2.2.2.2.2.2.2.1, (g_45 hG ma ra).2.2.2.2.2.2.2.2.2.2.2.2.2.2.2.2.2.2.1, (g_45 hG ma ra).2.2.2.2.2.2.2.2.2.2.2.2.2.2.2.2.2.2.2.1, (g_45 hG ma ra).2.2.2.2.2.2.2.2.2.2.2.2.2.2.2.2.2.2.2.2.1, (g_45 hG ma ra).2.2.2.2.2.2.2.2.2.2.2.2.2.2.2.2.2.2.2.2.2.1, (g_45 hG ma ra).2.2.2.2.2.2.2.2.2.2.2.2.2.2.2.2.2.2.2.2.2.2.1, (g_45 hG ma ra).2.2.2.2.2.2.2.2.2.2.2.2.2.2.2.2.2.2.2.2.2.2.2.1, (g_45 hG ma ra).2.2.2.2.2.2.2.2.2.2.2.2.2.2.2.2.2.2.2.2.2.2.2.2.1, (g_45 hG ma ra).2.2.2.2.2.2.2.2.2.2.2.2.2.2.2.2.2.2.2.2.2.2.2.2.2.1, (g_45 hG ma ra).2.2.2.2.2.2.2.2.2.2.2.2.2.2.2.2.2.2.2.2.2.2.2.2.2.2.1, (g_45 hG ma ra).2.2.2.2.2.2.2.2.2.2.2.2.2.2.2.2.2.2.2.2.2.2.2.2.2.2.2.1, (g_45 hG ma ra).2.2.2.2.2.2.2.2.2.2.2.2.2.2.2.2.2.2.2.2.2.2.2.2.2.2.2.2.1, (g_45 hG ma ra).2.2.2.2.2.2.2.2.2.2.2.2.2.2.2.2.2.2.2.2.2.2.2.2.2.2.2.2.2.1, (g_45 hG ma ra).2.2.2.2.2.2.2.2.2.2.2.2.2.2.2.2.2.2.2.2.2.2.2.2.2.2.2.2.2.2.1, (g_45 hG ma ra).2.2.2.2.2.2.2.2.2.2.2.2.2.2.2.2.2.2.2.2.2.2.2.2.2.2.2.2.2.2.2.1, (g_45 hG ma ra).2.2.2.2.2.2.2.2.2.2.2.2.2.2.2.2.2.2.2.2.2.2.2.2.2.2.2.2.2.2.2.2.1, (g_45 hG ma ra).2.2.2.2.2.2.2.2.2.2.2.2.2.2.2.2.2.2.2.2.2.2.2.2.2.2.2.2.2.2.2.2.2.1, (g_45 hG ma ra).2.2.2.2.2.2.2.2.2.2.2.2.2.2.2.2.2.2.2.2.2.2.2.2.2.2.2.2.2.2.2.2.2.2.1, (g_45 hG ma ra).2.2.2.2.2.2.2.2.2.2.2.2.2.2.2.2.2.2.2.2.2.2.2.2.2.2.2.2.2.2.2.2.2.2.2.1, (g_45 hG ma ra).2.2.2.2.2.2.2.2.2.2.2.2.2.2.2.2.2.2.2.2.2.2.2.2.2.2.2.2.2.2.2.2.2.2.2.2.1, (g_45 hG ma ra).2.2.2.2.2.2.2.2.2.2.2.2.2.2.2.2.2.2.2.2.2.2.2.2.2.2.2.2.2.2.2.2.2.2.2.2.2.1, (g_45 hG ma ra).2.2.2.2.2.2.2.2.2.2.2.2.2.2.2.2.2.2.2.2.2.2.2.2.2.2.2.2.2.2.2.2.2.2.2.2.2.2.1, (g_45 hG ma ra).2.2.2.2.2.2.2.2.2.2.2.2.2.2.2.2.2.2.2.2.2.2.2.2.2.2.2.2.2.2.2.2.2.2.2.2.2.2.2.1, (g_45 hG ma ra).2.2.2.2.2.2.2.2.2.2.2.2.2.2.2.2.2.2.2.2.2.2.2.2.2.2.2.2.2.2.2.2.2.2.2.2.2.2.2.2.1, (g_45 hG ma ra).2.2.2.2.2.2.2.2.2.2.2.2.2.2.2.2.2.2.2.2.2.2.2.2.2.2.2.2.2.2.2.2.2.2.2.2.2.2.2.2.2⟩)
theorem u_45_I8 {x : Int32} (hG : q_G ρ L m S0 S) (ma : a ∈ L) (ra : ρ a = 45) (hm : m.contains (q_ar 45 8) = true) (hx : (0 ≤ x.toInt ∧ x.toInt ≤ 1)) : q_G ρ L m S0 (q_sI S a 8 x) := q_G_sI hG ma ra hm (q_E1_sI hG ra rfl rfl) (⟨(g_45 hG ma ra).1, (g_45 hG ma ra).2.1, (g_45 hG ma ra).2.2.1, (g_45 hG ma ra).2.2.2.1, (g_45 hG ma ra).2.2.2.2.1, (g_45 hG ma ra).2.2.2.2.2.1, (g_45 hG ma ra).2.2.2.2.2.2.1, (g_45 hG ma ra).2.2.2.2.2.2.2.1, by show (0 ≤ ((va_up (q_I S a) 8 x) 8).toInt ∧ ((va_up (q_I S a) 8 x) 8).toInt ≤ 1); rw [q_up_same]; exact hx, (g_45 hG ma ra).2.2.2.2.2.2.2.2.2.1, (g_45 hG ma ra).2.2.2.2.2.2.2.2.2.2.1, (g_45 hG ma ra).2.2.2.2.2.2.2.2.2.2.2.1, (g_45 hG ma ra).2.2.2.2.2.2.2.2.2.2.2.2.1, (g_45 hG ma ra).2.2.2.2.2.2.2.2.2.2.2.2.2.1, (g_45 hG ma ra).2.2.2.2.2.2.2.2.2.2.2.2.2.2.1, (g_45 hG ma ra).2.2.2.2.2.2.2.2.2.2.2.2.2.2.2.1, (g_45 hG ma ra).2.2.2.2.2.2.2.2.2.2.2.2.2.2.2.2.1, (g_45 hG ma ra).2.2.2.2.2.2.2.2.2.2.2.2.2.2.2.2.2.1, (g_45 hG ma ra).2.2.2.2.2.2.2.2.2.2.2.2.2.2.2.2.2.2.1, (g_45 hG ma ra).2.2.2.2.2.2.2.2.2.2.2.2.2.2.2.2.2.2.2.1, (g_45 hG ma ra).2.2.2.2.2.2.2.2.2.2.2.2.2.2.2.2.2.2.2.2.1, (g_45 hG ma ra).2.2.2.2.2.2.2.2.2.2.2.2.2.2.2.2.2.2.2.2.2.1, (g_45 hG ma ra).2.2.2.2.2.2.2.2.2.2.2.2.2.2.2.2.2.2.2.2.2.2.1, (g_45 hG ma ra).2.2.2.2.2.2.2.2.2.2.2.2.2.2.2.2.2.2.2.2.2.2.2.1, (g_45 hG ma ra).2.2.2.2.2.2.2.2.2.2.2.2.2.2.2.2.2.2.2.2.2.2.2.2.1, (g_45 hG ma ra).2.2.2.2.2.2.2.2.2.2.2.2.2.2.2.2.2.2.2.2.2.2.2.2.2.1, (g_45 hG ma ra).2.2.2.2.2.2.2.2.2.2.2.2.2.2.2.2.2.2.2.2.2.2.2.2.2.2.1, (g_45 hG ma ra).2.2.2.2.2.2.2.2.2.2.2.2.2.2.2.2.2.2.2.2.2.2.2.2.2.2.2.1, (g_45 hG ma ra).2.2.2.2.2.2.2.2.2.2.2.2.2.2.2.2.2.2.2.2.2.2.2.2.2.2.2.2.1, (g_45 hG ma ra).2.2.2.2.2.2.2.2.2.2.2.2.2.2.2.2.2.2.2.2.2.2.2.2.2.2.2.2.2.1, (g_45 hG ma ra).2.2.2.2.2.2.2.2.2.2.2.2.2.2.2.2.2.2.2.2.2.2.2.2.2.2.2.2.2.2.1, (g_45 hG ma ra).2.2.2.2.2.2.2.2.2.2.2.2.2.2.2.2.2.2.2.2.2.2.2.2.2.2.2.2.2.2.2.1, (g_45 hG ma ra).2.2.2.2.2.2.2.2.2.2.2.2.2.2.2.2.2.2.2.2.2.2.2.2.2.2.2.2.2.2.2.2.1, (g_45 hG ma ra).2.2.2.2.2.2.2.2.2.2.2.2.2.2.2.2.2.2.2.2.2.2.2.2.2.2.2.2.2.2.2.2.2.1, (g_45 hG ma ra).2.2.2.2.2.2.2.2.2.2.2.2.2.2.2.2.2.2.2.2.2.2.2.2.2.2.2.2.2.2.2.2.2.2.1, (g_45 hG ma ra).2.2.2.2.2.2.2.2.2.2.2.2.2.2.2.2.2.2.2.2.2.2.2.2.2.2.2.2.2.2.2.2.2.2.2.1, (g_45 hG ma ra).2.2.2.2.2.2.2.2.2.2.2.2.2.2.2.2.2.2.2.2.2.2.2.2.2.2.2.2.2.2.2.2.2.2.2.2.1, (g_45 hG ma ra).2.2.2.2.2.2.2.2.2.2.2.2.2.2.2.2.2.2.2.2.2.2.2.2.2.2.2.2.2.2.2.2.2.2.2.2.2.1, (g_45 hG ma ra).2.2.2.2.2.2.2.2.2.2.2.2.2.2.2.2.2.2.2.2.2.2.2.2.2.2.2.2.2.2.2.2.2.2.2.2.2.2.1, (g_45 hG ma ra).2.2.2.2.2.2.2.2.2.2.2.2.2.2.2.2.2.2.2.2.2.2.2.2.2.2.2.2.2.2.2.2.2.2.2.2.2.2.2.1, (g_45 hG ma ra).2.2.2.2.2.2.2.2.2.2.2.2.2.2.2.2.2.2.2.2.2.2.2.2.2.2.2.2.2.2.2.2.2.2.2.2.2.2.2.2.1, (g_45 hG ma ra).2.2.2.2.2.2.2.2.2.2.2.2.2.2.2.2.2.2.2.2.2.2.2.2.2.2.2.2.2.2.2.2.2.2.2.2.2.2.2.2.2⟩)
theorem u_45_I11 {x : Int32} (hG : q_G ρ L m S0 S) (ma : a ∈ L) (ra : ρ a = 45) (hm : m.contains (q_ar 45 11) = true) (hx : (0 ≤ x.toInt ∧ x.toInt ≤ 100)) : q_G ρ L m S0 (q_sI S a 11 x) := q_G_sI hG ma ra hm (q_E1_sI hG ra rfl rfl) (⟨(g_45 hG ma ra).1, (g_45 hG ma ra).2.1, (g_45 hG ma ra).2.2.1, (g_45 hG ma ra).2.2.2.1, (g_45 hG ma ra).2.2.2.2.1, (g_45 hG ma ra).2.2.2.2.2.1, (g_45 hG ma ra).2.2.2.2.2.2.1, (g_45 hG ma ra).2.2.2.2.2.2.2.1, (g_45 hG ma ra).2.2.2.2.2.2.2.2.1, (g_45 hG ma ra).2.2.2.2.2.2.2.2.2.1, (g_45 hG ma ra).2.2.2.2.2.2.2.2.2.2.1, by show (0 ≤ ((va_up (q_I S a) 11 x) 11).toInt ∧ ((va_up (q_I S a) 11 x) 11).toInt ≤ 100); rw [q_up_same]; exact hx, (g_45 hG ma ra).2.2.2.2.2.2.2.2.2.2.2.2.1, (g_45 hG ma ra).2.2.2.2.2.2.2.2.2.2.2.2.2.1, (g_45 hG ma ra).2.2.2.2.2.2.2.2.2.2.2.2.2.2.1, (g_45 hG ma ra).2.2.2.2.2.2.2.2.2.2.2.2.2.2.2.1, (g_45 hG ma ra).2.2.2.2.2.2.2.2.2.2.2.2.2.2.2.2.1, (g_45 hG ma ra).2.2.2.2.2.2.2.2.2.2.2.2.2.2.2.2.2.1, (g_45 hG ma ra).2.2.2.2.2.2.2.2.2.2.2.2.2.2.2.2.2.2.1, (g_45 hG ma ra).2.2.2.2.2.2.2.2.2.2.2.2.2.2.2.2.2.2.2.1, (g_45 hG ma ra).2.2.2.2.2.2.2.2.2.2.2.2.2.2.2.2.2.2.2.2.1, (g_45 hG ma ra).2.2.2.2.2.2.2.2.2.2.2.2.2.2.2.2.2.2.2.2.2.1, (g_45 hG ma ra).2.2.2.2.2.2.2.2.2.2.2.2.2.2.2.2.2.2.2.2.2.2.1, (g_45 hG ma ra).2.2.2.2.2.2.2.2.2.2.2.2.2.2.2.2.2.2.2.2.2.2.2.1, (g_45 hG ma ra).2.2.2.2.2.2.2.2.2.2.2.2.2.2.2.2.2.2.2.2.2.2.2.2.1, (g_45 hG ma ra).2.2.2.2.2.2.2.2.2.2.2.2.2.2.2.2.2.2.2.2.2.2.2.2.2.1, (g_45 hG ma ra).2.2.2.2.2.2.2.2.2.2.2.2.2.2.2.2.2.2.2.2.2.2.2.2.2.2.1, (g_45 hG ma ra).2.2.2.2.2.2.2.2.2.2.2.2.2.2.2.2.2.2.2.2.2.2.2.2.2.2.2.1, (g_45 hG ma ra).2.2.2.2.2.2.2.2.2.2.2.2.2.2.2.2.2.2.2.2.2.2.2.2.2.2.2.2.1, (g_45 hG ma ra).2.2.2.2.2.2.2.2.2.2.2.2.2.2.2.2.2.2.2.2.2.2.2.2.2.2.2.2.2.1, (g_45 hG ma ra).2.2.2.2.2.2.2.2.2.2.2.2.2.2.2.2.2.2.2.2.2.2.2.2.2.2.2.2.2.2.1, (g_45 hG ma ra).2.2.2.2.2.2.2.2.2.2.2.2.2.2.2.2.2.2.2.2.2.2.2.2.2.2.2.2.2.2.2.1, (g_45 hG ma ra).2.2.2.2.2.2.2.2.2.2.2.2.2.2.2.2.2.2.2.2.2.2.2.2.2.2.2.2.2.2.2.2.1, (g_45 hG ma ra).2.2.2.2.2.2.2.2.2.2.2.2.2.2.2.2.2.2.2.2.2.2.2.2.2.2.2.2.2.2.2.2.2.1, (g_45 hG ma ra).2.2.2.2.2.2.2.2.2.2.2.2.2.2.2.2.2.2.2.2.2.2.2.2.2.2.2.2.2.2.2.2.2.2.1, (g_45 hG ma ra).2.2.2.2.2.2.2.2.2.2.2.2.2.2.2.2.2.2.2.2.2.2.2.2.2.2.2.2.2.2.2.2.2.2.2.1, (g_45 hG ma ra).2.2.2.2.2.2.2.2.2.2.2.2.2.2.2.2.2.2.2.2.2.2.2.2.2.2.2.2.2.2.2.2.2.2.2.2.1, (g_45 hG ma ra).2.2.2.2.2.2.2.2.2.2.2.2.2.2.2.2.2.2.2.2.2.2.2.2.2.2.2.2.2.2.2.2.2.2.2.2.2.1, (g_45 hG ma ra).2.2.2.2.2.2.2.2.2.2.2.2.2.2.2.2.2.2.2.2.2.2.2.2.2.2.2.2.2.2.2.2.2.2.2.2.2.2.1, (g_45 hG ma ra).2.2.2.2.2.2.2.2.2.2.2.2.2.2.2.2.2.2.2.2.2.2.2.2.2.2.2.2.2.2.2.2.2.2.2.2.2.2.2.1, (g_45 hG ma ra).2.2.2.2.2.2.2.2.2.2.2.2.2.2.2.2.2.2.2.2.2.2.2.2.2.2.2.2.2.2.2.2.2.2.2.2.2.2.2.2.1, (g_45 hG ma ra).2.2.2.2.2.2.2.2.2.2.2.2.2.2.2.2.2.2.2.2.2.2.2.2.2.2.2.2.2.2.2.2.2.2.2.2.2.2.2.2.2⟩)
theorem u_45_I14 {x : Int32} (hG : q_G ρ L m S0 S) (ma : a ∈ L) (ra : ρ a = 45) (hm : m.contains (q_ar 45 14) = true) (hx : (0 ≤ x.toInt ∧ x.toInt ≤ 120)) : q_G ρ L m S0 (q_sI S a 14 x) := q_G_sI hG ma ra hm (q_E1_sI hG ra rfl rfl) (⟨(g_45 hG ma ra).1, (g_45 hG ma ra).2.1, (g_45 hG ma ra).2.2.1, (g_45 hG ma ra).2.2.2.1, (g_45 hG ma ra).2.2.2.2.1, (g_45 hG ma ra).2.2.2.2.2.1, (g_45 hG ma ra).2.2.2.2.2.2.1, (g_45 hG ma ra).2.2.2.2.2.2.2.1, (g_45 hG ma ra).2.2.2.2.2.2.2.2.1, (g_45 hG ma ra).2.2.2.2.2.2.2.2.2.1, (g_45 hG ma ra).2.2.2.2.2.2.2.2.2.2.1, (g_45 hG ma ra).2.2.2.2.2.2.2.2.2.2.2.1, (g_45 hG ma ra).2.2.2.2.2.2.2.2.2.2.2.2.1, (g_45 hG ma ra).2.2.2.2.2.2.2.2.2.2.2.2.2.1, by show (0 ≤ ((va_up (q_I S a) 14 x) 14).toInt ∧ ((va_up (q_I S a) 14 x) 14).toInt ≤ 120); rw [q_up_same]; exact hx, (g_45 hG ma ra).2.2.2.2.2.2.2.2.2.2.2.2.2.2.2.1, (g_45 hG ma ra).2.2.2.2.2.2.2.2.2.2.2.2.2.2.2.2.1, (g_45 hG ma ra).2.2.2.2.2.2.2.2.2.2.2.2.2.2.2.2.2.1, (g_45 hG ma ra).2.2.2.2.2.2.2.2.2.2.2.2.2.2.2.2.2.2.1, (g_45 hG ma ra).2.2.2.2.2.2.2.2.2.2.2.2.2.2.2.2.2.2.2.1, (g_45 hG ma ra).2.2.2.2.2.2.2.2.2.2.2.2.2.2.2.2.2.2.2.2.1, (g_45 hG ma ra).2.2.2.2.2.2.2.2.2.2.2.2.2.2.2.2.2.2.2.2.2.1, (g_45 hG ma ra).2.2.2.2.2.2.2.2.2.2.2.2.2.2.2.2.2.2.2.2.2.2.1, (g_45 hG ma ra).2.2.2.2.2.2.2.2.2.2.2.2.2.2.2.2.2.2.2.2.2.2.2.1, (g_45 hG ma ra).2.2.2.2.2.2.2.2.2.2.2.2.2.2.2.2.2.2.2.2.2.2.2.2.1, (g_45 hG ma ra).2.2.2.2.2.2.2.2.2.2.2.2.2.2.2.2.2.2.2.2.2.2.2.2.2.1, (g_45 hG ma ra).2.2.2.2.2.2.2.2.2.2.2.2.2.2.2.2.2.2.2.2.2.2.2.2.2.2.1, (g_45 hG ma ra).2.2.2.2.2.2.2.2.2.2.2.2.2.2.2.2.2.2.2.2.2.2.2.2.2.2.2.1, (g_45 hG ma ra).2.2.2.2.2.2.2.2.2.2.2.2.2.2.2.2.2.2.2.2.2.2.2.2.2.2.2.2.1, (g_45 hG ma ra).2.2.2.2.2.2.2.2.2.2.2.2.2.2.2.2.2.2.2.2.2.2.2.2.2.2.2.2.2.1, (g_45 hG ma ra).2.2.2.2.2.2.2.2.2.2.2.2.2.2.2.2.2.2.2.2.2.2.2.2.2.2.2.2.2.2.1, (g_45 hG ma ra).2.2.2.2.2.2.2.2.2.2.2.2.2.2.2.2.2.2.2.2.2.2.2.2.2.2.2.2.2.2.2.1, (g_45 hG ma ra).2.2.2.2.2.2.2.2.2.2.2.2.2.2.2.2.2.2.2.2.2.2.2.2.2.2.2.2.2.2.2.2.1, (g_45 hG ma ra).2.2.2.2.2.2.2.2.2.2.2.2.2.2.2.2.2.2.2.2.2.2.2.2.2.2.2.2.2.2.2.2.2.1, (g_45 hG ma ra).2.2.2.2.2.2.2.2.2.2.2.2.2.2.2.2.2.2.2.2.2.2.2.2.2.2.2.2.2.2.2.2.2.2.1, (g_45 hG ma ra).2.2.2.2.2.2.2.2.2.2.2.2.2.2.2.2.2.2.2.2.2.2.2.2.2.2.2.2.2.2.2.2.2.2.2.1, (g_45 hG ma ra).2.2.2.2.2.2.2.2.2.2.2.2.2.2.2.2.2.2.2.2.2.2.2.2.2.2.2.2.2.2.2.2.2.2.2.2.1, (g_45 hG ma ra).2.2.2.2.2.2.2.2.2.2.2.2.2.2.2.2.2.2.2.2.2.2.2.2.2.2.2.2.2.2.2.2.2.2.2.2.2.1, (g_45 hG ma ra).2.2.2.2.2.2.2.2.2.2.2.2.2.2.2.2.2.2.2.2.2.2.2.2.2.2.2.2.2.2.2.2.2.2.2.2.2.2.1, (g_45 hG ma ra).2.2.2.2.2.2.2.2.2.2.2.2.2.2.2.2.2.2.2.2.2.2.2.2.2.2.2.2.2.2.2.2.2.2.2.2.2.2.2.1, (g_45 hG ma ra).2.2.2.2.2.2.2.2.2.2.2.2.2.2.2.2.2.2.2.2.2.2.2.2.2.2.2.2.2.2.2.2.2.2.2.2.2.2.2.2.1, (g_45 hG ma ra).2.2.2.2.2.2.2.2.2.2.2.2.2.2.2.2.2.2.2.2.2.2.2.2.2.2.2.2.2.2.2.2.2.2.2.2.2.2.2.2.2⟩)
theorem u_45_I18 {x : Int32} (hG : q_G ρ L m S0 S) (ma : a ∈ L) (ra : ρ a = 45) (hm : m.contains (q_ar 45 18) = true) (hx : (0 ≤ x.toInt ∧ x.toInt ≤ 120)) : q_G ρ L m S0 (q_sI S a 18 x) := q_G_sI hG ma ra hm (q_E1_sI hG ra rfl rfl) (⟨(g_45 hG ma ra).1, (g_45 hG ma ra).2.1, (g_45 hG ma ra).2.2.1, (g_45 hG ma ra).2.2.2.1, (g_45 hG ma ra).2.2.2.2.1, (g_45 hG ma ra).2.2.2.2.2.1, (g_45 hG ma ra).2.2.2.2.2.2.1, (g_45 hG ma ra).2.2.2.2.2.2.2.1, (g_45 hG ma ra).2.2.2.2.2.2.2.2.1, (g_45 hG ma ra).2.2.2.2.2.2.2.2.2.1, (g_45 hG ma ra).2.2.2.2.2.2.2.2.2.2.1, (g_45 hG ma ra).2.2.2.2.2.2.2.2.2.2.2.1, (g_45 hG ma ra).2.2.2.2.2.2.2.2.2.2.2.2.1, (g_45 hG ma ra).2.2.2.2.2.2.2.2.2.2.2.2.2.1, (g_45 hG ma ra).2.2.2.2.2.2.2.2.2.2.2.2.2.2.1, (g_45 hG ma ra).2.2.2.2.2.2.2.2.2.2.2.2.2.2.2.1, (g_45 hG ma ra).2.2.2.2.2.2.2.2.2.2.2.2.2.2.2.2.1, (g_45 hG ma ra).2.2.2.2.2.2.2.2.2.2.2.2.2.2.2.2.2.1, by show (0 ≤ ((va_up (q_I S a) 18 x) 18).toInt ∧ ((va_up (q_I S a) 18 x) 18).toInt ≤ 120); rw [q_up_same]; exact hx, (g_45 hG ma ra).2.2.2.2.2.2.2.2.2.2.2.2.2.2.2.2.2.2.2.1, (g_45 hG ma ra).2.2.2.2.2.2.2.2.2.2.2.2.2.2.2.2.2.2.2.2.1, (g_45 hG ma ra).2.2.2.2.2.2.2.2.2.2.2.2.2.2.2.2.2.2.2.2.2.1, (g_45 hG ma ra).2.2.2.2.2.2.2.2.2.2.2.2.2.2.2.2.2.2.2.2.2.2.1, (g_45 hG ma ra).2.2.2.2.2.2.2.2.2.2.2.2.2.2.2.2.2.2.2.2.2.2.2.1, (g_45 hG ma ra).2.2.2.2.2.2.2.2.2.2.2.2.2.2.2.2.2.2.2.2.2.2.2.2.1, (g_45 hG ma ra).2.2.2.2.2.2.2.2.2.2.2.2.2.2.2.2.2.2.2.2.2.2.2.2.2.1, (g_45 hG ma ra).2.2.2.2.2.2.2.2.2.2.2.2.2.2.2.2.2.2.2.2.2.2.2.2.2.2.1, (g_45 hG ma ra).2.2.2.2.2.2.2.2.2.2.2.2.2.2.2.2.2.2.2.2.2.2.2.2.2.2.2.1, (g_45 hG ma ra).2.2.2.2.2.2.2.2.2.2.2.2.2.2.2.2.2.2.2.2.2.2.2.2.2.2.2.2.1, (g_45 hG ma ra).2.2.2.2.2.2.2.2.2.2.2.2.2.2.2.2.2.2.2.2.2.2.2.2.2.2.2.2.2.1, (g_45 hG ma ra).2.2.2.2.2.2.2.2.2.2.2.2.2.2.2.2.2.2.2.2.2.2.2.2.2.2.2.2.2.2.1, (g_45 hG ma ra).2.2.2.2.2.2.2.2.2.2.2.2.2.2.2.2.2.2.2.2.2.2.2.2.2.2.2.2.2.2.2.1, (g_45 hG ma ra).2.2.2.2.2.2.2.2.2.2.2.2.2.2.2.2.2.2.2.2.2.2.2.2.2.2.2.2.2.2.2.2.1, (g_45 hG ma ra).2.2.2.2.2.2.2.2.2.2.2.2.2.2.2.2.2.2.2.2.2.2.2.2.2.2.2.2.2.2.2.2.2.1, (g_45 hG ma ra).2.2.2.2.2.2.2.2.2.2.2.2.2.2.2.2.2.2.2.2.2.2.2.2.2.2.2.2.2.2.2.2.2.2.1, (g_45 hG ma ra).2.2.2.2.2.2.2.2.2.2.2.2.2.2.2.2.2.2.2.2.2.2.2.2.2.2.2.2.2.2.2.2.2.2.2.1, (g_45 hG ma ra).2.2.2.2.2.2.2.2.2.2.2.2.2.2.2.2.2.2.2.2.2.2.2.2.2.2.2.2.2.2.2.2.2.2.2.2.1, (g_45 hG ma ra).2.2.2.2.2.2.2.2.2.2.2.2.2.2.2.2.2.2.2.2.2.2.2.2.2.2.2.2.2.2.2.2.2.2.2.2.2.1, (g_45 hG ma ra).2.2.2.2.2.2.2.2.2.2.2.2.2.2.2.2.2.2.2.2.2.2.2.2.2.2.2.2.2.2.2.2.2.2.2.2.2.2.1, (g_45 hG ma ra).2.2.2.2.2.2.2.2.2.2.2.2.2.2.2.2.2.2.2.2.2.2.2.2.2.2.2.2.2.2.2.2.2.2.2.2.2.2.2.1, (g_45 hG ma ra).2.2.2.2.2.2.2.2.2.2.2.2.2.2.2.2.2.2.2.2.2.2.2.2.2.2.2.2.2.2.2.2.2.2.2.2.2.2.2.2.1, (g_45 hG ma ra).2.2.2.2.2.2.2.2.2.2.2.2.2.2.2.2.2.2.2.2.2.2.2.2.2.2.2.2.2.2.2.2.2.2.2.2.2.2.2.2.2⟩)
theorem u_45_I21 {x : Int32} (hG : q_G ρ L m S0 S) (ma : a ∈ L) (ra : ρ a = 45) (hm : m.contains (q_ar 45 21) = true) (hx : (0 ≤ x.toInt ∧ x.toInt ≤ 1601)) : q_G ρ L m S0 (q_sI S a 21 x) := q_G_sI hG ma ra hm (q_E1_sI hG ra rfl rfl) (⟨(g_45 hG ma ra).1, (g_45 hG ma ra).2.1, (g_45 hG ma ra).2.2.1, (g_45 hG ma ra).2.2.2.1, (g_45 hG ma ra).2.2.2.2.1, (g_45 hG ma ra).2.2.2.2.2.1, (g_45 hG ma ra).2.2.2.2.2.2.1, (g_45 hG ma ra).2.2.2.2.2.2.2.1, (g_45 hG ma ra).2.2.2.2.2.2.2.2.1, (g_45 hG ma ra).2.2.2.2.2.2.2.2.2.1, (g_45 hG ma ra).2.2.2.2.2.2.2.2.2.2.1, (g_45 hG ma ra).2.2.2.2.2.2.2.2.2.2.2.1, (g_45 hG ma ra).2.2.2.2.2.2.2.2.2.2.2.2.1, (g_45 hG ma ra).2.2.2.2.2.2.2.2.2.2.2.2.2.1, (g_45 hG ma ra).2.2.2.2.2.2.2.2.2.2.2.2.2.2.1, (g_45 hG ma ra).2.2.2.2.2.2.2.2.2.2.2.2.2.2.2.1, (g_45 hG ma ra).2.2.2.2.2.2.2.2.2.2.2.2.2.2.2.2.1, (g_45 hG ma ra).2.2.2.2.2.2.2.2.2.2.2.2.2.2.2.2.2.1, (g_45 hG ma ra).2.2.2.2.2.2.2.2.2.2.2.2.2.2.2.2.2.2.1, (g_45 hG ma ra).2.2.2.2.2.2.2.2.2.2.2.2.2.2.2.2.2.2.2.1, (g_45 hG ma ra).2.2.2.2.2.2.2.2.2.2.2.2.2.2.2.2.2.2.2.2.1, by show (0 ≤ ((va_up (q_I S a) 21 x) 21).toInt ∧ ((va_up (q_I S a) 21 x) 21).toInt ≤ 1601); rw [q_up_same]; exact hx, (g_45 hG ma ra).2.2.2.2.2.2.2.2.2.2.2.2.2.2.2.2.2.2.2.2.2.2.1, (g_45 hG ma ra).2.2.2.2.2.2.2.2.2.2.2.2.2.2.2.2.2.2.2.2.2.2.2.1, (g_45 hG ma ra).2.2.2.2.2.2.2.2.2.2.2.2.2.2.2.2.2.2.2.2.2.2.2.2.1, (g_45 hG ma ra).2.2.2.2.2.2.2.2.2.2.2.2.2.2.2.2.2.2.2.2.2.2.2.2.2.1, (g_45 hG ma ra).2.2.2.2.2.2.2.2.2.2.2.2.2.2.2.2.2.2.2.2.2.2.2.2.2.2.1, (g_45 hG ma ra).2.2.2.2.2.2.2.2.2.2.2.2.2.2.2.2.2.2.2.2.2.2.2.2.2.2.2.1, (g_45 hG ma ra).2.2.2.2.2.2.2.2.2.2.2.2.2.2.2.2.2.2.2.2.2.2.2.2.2.2.2.2.1, (g_45 hG ma ra).2.2.2.2.2.2.2.2.2.2.2.2.2.2.2.2.2.2.2.2.2.2.2.2.2.2.2.2.2.1, (g_45 hG ma ra).2.2.2.2.2.2.2.2.2.2.2.2.2.2.2.2.2.2.2.2.2.2.2.2.2.2.2.2.2.2.1, (g_45 hG ma ra).2.2.2.2.2.2.2.2.2.2.2.2.2.2.2.2.2.2.2.2.2.2.2.2.2.2.2.2.2.2.2.1, (g_45 hG ma ra).2.2.2.2.2.2.2.2.2.2.2.2.2.2.2.2.2.2.2.2.2.2.2.2.2.2.2.2.2.2.2.2.1, (g_45 hG ma ra).2.2.2.2.2.2.2.2.2.2.2.2.2.2.2.2.2.2.2.2.2.2.2.2.2.2.2.2.2.2.2.2.2.1, (g_45 hG ma ra).2.2.2.2.2.2.2.2.2.2.2.2.2.2.2.2.2.2.2.2.2.2.2.2.2.2.2.2.2.2.2.2.2.2.1, (g_45 hG ma ra).2.2.2.2.2.2.2.2.2.2.2.2.2.2.2.2.2.2.2.2.2.2.2.2.2.2.2.2.2.2.2.2.2.2.2.1, (g_45 hG ma ra).2.2.2.2.2.2.2.2.2.2.2.2.2.2.2.2.2.2.2.2.2.2.2.2.2.2.2.2.2.2.2.2.2.2.2.2.1, (g_45 hG ma ra).2.2.2.2.2.2.2.2.2.2.2.2.2.2.2.2.2.2.2.2.2.2.2.2.2.2.2.2.2.2.2.2.2.2.2.2.2.1, (g_45 hG ma ra).2.2.2.2.2.2.2.2.2.2.2.2.2.2.2.2.2.2.2.2.2.2.2.2.2.2.2.2.2.2.2.2.2.2.2.2.2.2.1, (g_45 hG ma ra).2.2.2.2.2.2.2.2.2.2.2.2.2.2.2.2.2.2.2.2.2.2.2.2.2.2.2.2.2.2.2.2.2.2.2.2.2.2.2.1, (g_45 hG ma ra).2.2.2.2.2.2.2.2.2.2.2.2.2.2.2.2.2.2.2.2.2.2.2.2.2.2.2.2.2.2.2.2.2.2.2.2.2.2.2.2.1, (g_45 hG ma ra).2.2.2.2.2.2.2.2.2.2.2.2.2.2.2.2.2.2.2.2.2.2.2.2.2.2.2.2.2.2.2.2.2.2.2.2.2.2.2.2.2⟩)
theorem u_45_I22 {x : Int32} (hG : q_G ρ L m S0 S) (ma : a ∈ L) (ra : ρ a = 45) (hm : m.contains (q_ar 45 22) = true) (hx : (0 ≤ x.toInt ∧ x.toInt ≤ 1601)) : q_G ρ L m S0 (q_sI S a 22 x) := q_G_sI hG ma ra hm (q_E1_sI hG ra rfl rfl) (⟨(g_45 hG ma ra).1, (g_45 hG ma ra).2.1, (g_45 hG ma ra).2.2.1, (g_45 hG ma ra).2.2.2.1, (g_45 hG ma ra).2.2.2.2.1, (g_45 hG ma ra).2.2.2.2.2.1, (g_45 hG ma ra).2.2.2.2.2.2.1, (g_45 hG ma ra).2.2.2.2.2.2.2.1, (g_45 hG ma ra).2.2.2.2.2.2.2.2.1, (g_45 hG ma ra).2.2.2.2.2.2.2.2.2.1, (g_45 hG ma ra).2.2.2.2.2.2.2.2.2.2.1, (g_45 hG ma ra).2.2.2.2.2.2.2.2.2.2.2.1, (g_45 hG ma ra).2.2.2.2.2.2.2.2.2.2.2.2.1, (g_45 hG ma ra).2.2.2.2.2.2.2.2.2.2.2.2.2.1, (g_45 hG ma ra).2.2.2.2.2.2.2.2.2.2.2.2.2.2.1, (g_45 hG ma ra).2.2.2.2.2.2.2.2.2.2.2.2.2.2.2.1, (g_45 hG ma ra).2.2.2.2.2.2.2.2.2.2.2.2.2.2.2.2.1, (g_45 hG ma ra).2.2.2.2.2.2.2.2.2.2.2.2.2.2.2.2.2.1, (g_45 hG ma ra).2.2.2.2.2.2.2.2.2.2.2.2.2.2.2.2.2.2.1, (g_45 hG ma ra).2.2.2.2.2.2.2.2.2.2.2.2.2.2.2.2.2.2.2.1, (g_45 hG ma ra).2.2.2.2.2.2.2.2.2.2.2.2.2.2.2.2.2.2.2.2.1, (g_45 hG ma ra).2.2.2.2.2.2.2.2.2.2.2.2.2.2.2.2.2.2.2.2.2.1, by show (0 ≤ ((va_up (q_I S a) 22 x) 22).toInt ∧ ((va_up (q_I S a) 22 x) 22).toInt ≤ 1601); rw [q_up_same]; exact hx, (g_45 hG ma ra).2.2.2.2.2.2.2.2.2.2.2.2.2.2.2.2.2.2.2.2.2.2.2.1, (g_45 hG ma ra).2.2.2.2.2.2.2.2.2.2.2.2.2.2.2.2.2.2.2.2.2.2.2.2.1, (g_45 hG ma ra).2.2.2.2.2.2.2.2.2.2.2.2.2.2.2.2.2.2.2.2.2.2.2.2.2.1, (g_45 hG ma ra).2.2.2.2.2.2.2.2.2.2.2.2.2.2.2.2.2.2.2.2.2.2.2.2.2.2.1, (g_45 hG ma ra).2.2.2.2.2.2.2.2.2.2.2.2.2.2.2.2.2.2.2.2.2.2.2.2.2.2.2.1, (g_45 hG ma ra).2.2.2.2.2.2.2.2.2.2.2.2.2.2.2.2.2.2.2.2.2.2.2.2.2.2.2.2.1, (g_45 hG ma ra).2.2.2.2.2.2.2.2.2.2.2.2.2.2.2.2.2.2.2.2.2.2.2.2.2.2.2.2.2.1, (g_45 hG ma ra).2.2.2.2.2.2.2.2.2.2.2.2.2.2.2.2.2.2.2.2.2.2.2.2.2.2.2.2.2.2.1, (g_45 hG ma ra).2.2.2.2.2.2.2.2.2.2.2.2.2.2.2.2.2.2.2.2.2.2.2.2.2.2.2.2.2.2.2.1, (g_45 hG ma ra).2.2.2.2.2.2.2.2.2.2.2.2.2.2.2.2.2.2.2.2.2.2.2.2.2.2.2.2.2.2.2.2.1, (g_45 hG ma ra).2.2.2.2.2.2.2.2.2.2.2.2.2.2.2.2.2.2.2.2.2.2.2.2.2.2.2.2.2.2.2.2.2.1, (g_45 hG ma ra).2.2.2.2.2.2.2.2.2.2.2.2.2.2.2.2.2.2.2.2.2.2.2.2.2.2.2.2.2.2.2.2.2.2.1, (g_45 hG ma ra).2.2.2.2.2.2.2.2.2.2.2.2.2.2.2.2.2.2.2.2.2.2.2.2.2.2.2.2.2.2.2.2.2.2.2.1, (g_45 hG ma ra).2.2.2.2.2.2.2.2.2.2.2.2.2.2.2.2.2.2.2.2.2.2.2.2.2.2.2.2.2.2.2.2.2.2.2.2.1, (g_45 hG ma ra).2.2.2.2.2.2.2.2.2.2.2.2.2.2.2.2.2.2.2.2.2.2.2.2.2.2.2.2.2.2.2.2.2.2.2.2.2.1, (g_45 hG ma ra).2.2.2.2.2.2.2.2.2.2.2.2.2.2.2.2.2.2.2.2.2.2.2.2.2.2.2.2.2.2.2.2.2.2.2.2.2.2.1, (g_45 hG ma ra).2.2.2.2.2.2.2.2.2.2.2.2.2.2.2.2.2.2.2.2.2.2.2.2.2.2.2.2.2.2.2.2.2.2.2.2.2.2.2.1, (g_45 hG ma ra).2.2.2.2.2.2.2.2.2.2.2.2.2.2.2.2.2.2.2.2.2.2.2.2.2.2.2.2.2.2.2.2.2.2.2.2.2.2.2.2.1, (g_45 hG ma ra).2.2.2.2.2.2.2.2.2.2.2.2.2.2.2.2.2.2.2.2.2.2.2.2.2.2.2.2.2.2.2.2.2.2.2.2.2.2.2.2.2⟩)
theorem u_45_I23 {x : Int32} (hG : q_G ρ L m S0 S) (ma : a ∈ L) (ra : ρ a = 45) (hm : m.contains (q_ar 45 23) = true) (hx : (0 ≤ x.toInt ∧ x.toInt ≤ 1)) : q_G ρ L m S0 (q_sI S a 23 x) := q_G_sI hG ma ra hm (q_E1_sI hG ra rfl rfl) (⟨(g_45 hG ma ra).1, (g_45 hG ma ra).2.1, (g_45 hG ma ra).2.2.1, (g_45 hG ma ra).2.2.2.1, (g_45 hG ma ra).2.2.2.2.1, (g_45 hG ma ra).2.2.2.2.2.1, (g_45 hG ma ra).2.2.2.2.2.2.1, (g_45 hG ma ra).2.2.2.2.2.2.2.1, (g_45 hG ma ra).2.2.2.2.2.2.2.2.1, (g_45 hG ma ra).2.2.2.2.2.2.2.2.2.1, (g_45 hG ma ra).2.2.2.2.2.2.2.2.2.2.1, (g_45 hG ma ra).2.2.2.2.2.2.2.2.2.2.2.1, (g_45 hG ma ra).2.2.2.2.2.2.2.2.2.2.2.2.1, (g_45 hG ma ra).2.2.2.2.2.2.2.2.2.2.2.2.2.1, (g_45 hG ma ra).2.2.2.2.2.2.2.2.2.2.2.2.2.2.1, (g_45 hG ma ra).2.2.2.2.2.2.2.2.2.2.2.2.2.2.2.1, (g_45 hG ma ra).2.2.2.2.2.2.2.2.2.2.2.2.2.2.2.2.1, (g_45 hG ma ra).2.2.2.2.2.2.2.2.2.2.2.2.2.2.2.2.2.1, (g_45 hG ma ra).2.2.2.2.2.2.2.2.2.2.2.2.2.2.2.2.2.2.1, (g_45 hG ma ra).2.2.2.2.2.2.2.2.2.2.2.2.2.2.2.2.2.2.2.1, (g_45 hG ma ra).2.2.2.2.2.2.2.2.2.2.2.2.2.2.2.2.2.2.2.2.1, (g_45 hG ma ra).2.2.2.2.2.2.2.2.2.2.2.2.2.2.2.2.2.2.2.2.2.1, (g_45 hG ma ra).2.2.2.2.2.2.2.2.2.2.2.2.2.2.2.2.2.2.2.2.2.2.1, by show (0 ≤ ((va_up (q_I S a) 23 x) 23).toInt ∧ ((va_up (q_I S a) 23 x) 23).toInt ≤ 1); rw [q_up_same]; exact hx, (g_45 hG ma ra).2.2.2.2.2.2.2.2.2.2.2.2.2.2.2.2.2.2.2.2.2.2.2.2.1, (g_45 hG ma ra).2.2.2.2.2.2.2.2.2.2.2.2.2.2.2.2.2.2.2.2.2.2.2.2.2.1, (g_45 hG ma ra).2.2.2.2.2.2.2.2.2.2.2.2.2.2.2.2.2.2.2.2.2.2.2.2.2.2.1, (g_45 hG ma ra).2.2.2.2.2.2.2.2.2.2.2.2.2.2.2.2.2.2.2.2.2.2.2.2.2.2.2.1, (g_45 hG ma ra).2.2.2.2.2.2.2.2.2.2.2.2.2.2.2.2.2.2.2.2.2.2.2.2.2.2.2.2.1, (g_45 hG ma ra).2.2.2.2.2.2.2.2.2.2.2.2.2.2.2.2.2.2.2.2.2.2.2.2.2.2.2.2.2.1, (g_45 hG ma ra).2.2.2.2.2.2.2.2.2.2.2.2.2.2.2.2.2.2.2.2.2.2.2.2.2.2.2.2.2.2.1, (g_45 hG ma ra).2.2.2.2.2.2.2.2.2.2.2.2.2.2.2.2.2.2.2.2.2.2.2.2.2.2.2.2.2.2.2.1, (g_45 hG ma ra).2.2.2.2.2.2.2.2.2.2.2.2.2.2.2.2.2.2.2.2.2.2.2.2.2.2.2.2.2.2.2.2.1, (g_45 hG ma ra).2.2.2.2.2.2.2.2.2.2.2.2.2.2.2.2.2.2.2.2.2.2.2.2.2.2.2.2.2.2.2.2.2.1, (g_45 hG ma ra).2.2.2.2.2.2.2.2.2.2.2.2.2.2.2.2.2.2.2.2.2.2.2.2.2.2.2.2.2.2.2.2.2.2.1, (g_45 hG ma ra).2.2.2.2.2.2.2.2.2.2.2.2.2.2.2.2.2.2.2.2.2.2.2.2.2.2.2.2.2.2.2.2.2.2.2.1, (g_45 hG ma ra).2.2.2.2.2.2.2.2.2.2.2.2.2.2.2.2.2.2.2.2.2.2.2.2.2.2.2.2.2.2.2.2.2.2.2.2.1, (g_45 hG ma ra).2.2.2.2.2.2.2.2.2.2.2.2.2.2.2.2.2.2.2.2.2.2.2.2.2.2.2.2.2.2.2.2.2.2.2.2.2.1, (g_45 hG ma ra).2.2.2.2.2.2.2.2.2.2.2.2.2.2.2.2.2.2.2.2.2.2.2.2.2.2.2.2.2.2.2.2.2.2.2.2.2.2.1, (g_45 hG ma ra).2.2.2.2.2.2.2.2.2.2.2.2.2.2.2.2.2.2.2.2.2.2.2.2.2.2.2.2.2.2.2.2.2.2.2.2.2.2.2.1, (g_45 hG ma ra).2.2.2.2.2.2.2.2.2.2.2.2.2.2.2.2.2.2.2.2.2.2.2.2.2.2.2.2.2.2.2.2.2.2.2.2.2.2.2.2.1, (g_45 hG ma ra).2.2.2.2.2.2.2.2.2.2.2.2.2.2.2.2.2.2.2.2.2.2.2.2.2.2.2.2.2.2.2.2.2.2.2.2.2.2.2.2.2⟩)
theorem u_45_I24 {x : Int32} (hG : q_G ρ L m S0 S) (ma : a ∈ L) (ra : ρ a = 45) (hm : m.contains (q_ar 45 24) = true) (hx : (0 ≤ x.toInt ∧ x.toInt ≤ 6)) : q_G ρ L m S0 (q_sI S a 24 x) := q_G_sI hG ma ra hm (q_E1_sI hG ra rfl rfl) (⟨(g_45 hG ma ra).1, (g_45 hG ma ra).2.1, (g_45 hG ma ra).2.2.1, (g_45 hG ma ra).2.2.2.1, (g_45 hG ma ra).2.2.2.2.1, (g_45 hG ma ra).2.2.2.2.2.1, (g_45 hG ma ra).2.2.2.2.2.2.1, (g_45 hG ma ra).2.2.2.2.2.2.2.1, (g_45 hG ma ra).2.2.2.2.2.2.2.2.1, (g_45 hG ma ra).2.2.2.2.2.2.2.2.2.1, (g_45 hG ma ra).2.2.2.2.2.2.2.2.2.2.1, (g_45 hG ma ra).2.2.2.2.2.2.2.2.2.2.2.1, (g_45 hG ma ra).2.2.2.2.2.2.2.2.2.2.2.2.1, (g_45 hG ma ra).2.2.2.2.2.2.2.2.2.2.2.2.2.1, (g_45 hG ma ra).2.2.2.2.2.2.2.2.2.2.2.2.2.2.1, (g_45 hG ma ra).2.2.2.2.2.2.2.2.2.2.2.2.2.2.2.1, (g_45 hG ma ra).2.2.2.2.2.2.2.2.2.2.2.2.2.2.2.2.1, (g_45 hG ma ra).2.2.2.2.2.2.2.2.2.2.2.2.2.2.2.2.2.1, (g_45 hG ma ra).2.2.2.2.2.2.2.2.2.2.2.2.2.2.2.2.2.2.1, (g_45 hG ma ra).2.2.2.2.2.2.2.2.2.2.2.2.2.2.2.2.2.2.2.1, (g_45 hG ma ra).2.2.2.2.2.2.2.2.2.2.2.2.2.2.2.2.2.2.2.2.1, (g_45 hG ma ra).2.2.2.2.2.2.2.2.2.2.2.2.2.2.2.2.2.2.2.2.2.1, (g_45 hG ma ra).2.2.2.2.2.2.2.2.2.2.2.2.2.2.2.2.2.2.2.2.2.2.1, (g_45 hG ma ra).2.2.2.2.2.2.2.2.2.2.2.2.2.2.2.2.2.2.2.2.2.2.2.1, by show (0 ≤ ((va_up (q_I S a) 24 x) 24).toInt ∧ ((va_up (q_I S a) 24 x) 24).toInt ≤ 6); rw [q_up_same]; exact hx, (g_45 hG ma ra).2.2.2.2.2.2.2.2.2.2.2.2.2.2.2.2.2.2.2.2.2.2.2.2.2.1, (g_45 hG ma ra).2.2.2.2.2.2.2.2.2.2.2.2.2.2.2.2.2.2.2.2.2.2.2.2.2.2.1, (g_45 hG ma ra).2.2.2.2.2.2.2.2.2.2.2.2.2.2.2.2.2.2.2.2.2.2.2.2.2.2.2.1, (g_45 hG ma ra).2.2.2.2.2.2.2.2.2.2.2.2.2.2.2.2.2.2.2.2.2.2.2.2.2.2.2.2.1, (g_45 hG ma ra).2.2.2.2.2.2.2.2.2.2.2.2.2.2.2.2.2.2.2.2.2.2.2.2.2.2.2.2.2.1, (g_45 hG ma ra).2.2.2.2.2.2.2.2.2.2.2.2.2.2.2.2.2.2.2.2.2.2.2.2.2.2.2.2.2.2.1, (g_45 hG ma ra).2.2.2.2.2.2.2.2.2.2.2.2.2.2.2.2.2.2.2.2.2.2.2.2.2.2.2.2.2.2.2.1, (g_45 hG ma ra).2.2.2.2.2.2.2.2.2.2.2.2.2.2.2.2.2.2.2.2.2.2.2.2.2.2.2.2.2.2.2.2.1, (g_45 hG ma ra).2.2.2.2.2.2.2.2.2.2.2.2.2.2.2.2.2.2.2.2.2.2.2.2.2.2.2.2.2.2.2.2.2.1, (g_45 hG ma ra).2.2.2.2.2.2.2.2.2.2.2.2.2.2.2.2.2.2.2.2.2.2.2.2.2.2.2.2.2.2.2.2.2.2.1, (g_45 hG ma ra).2.2.2.2.2.2.2.2.2.2.2.2.2.2.2.2.2.2.2.2.2.2.2.2.2.2.2.2.2.2.2.2.2.2.2.1, (g_45 hG ma ra).2.2.2.2.2.2.2.2.2.2.2.2.2.2.2.2.2.2.2.2.2.2.2.2.2.2.2.2.2.2.2.2.2.2.2.2.1, (g_45 hG ma ra).2.2.2.2.2.2.2.2.2.2.2.2.2.2.2.2.2.2.2.2.2.2.2.2.2.2.2.2.2.2.2.2.2.2.2.2.2.1, (g_45 hG ma ra).2.2.2.2.2.2.2.2.2.2.2.2.2.2.2.2.2.2.2.2.2.2.2.2.2.2.2.2.2.2.2.2.2.2.2.2.2.2.1, (g_45 hG ma ra).2.2.2.2.2.2.2.2.2.2.2.2.2.2.2.2.2.2.2.2.2.2.2.2.2.2.2.2.2.2.2.2.2.2.2.2.2.2.2.1, (g_45 hG ma ra).2.2.2.2.2.2.2.2.2.2.2.2.2.2.2.2.2.2.2.2.2.2.2.2.2.2.2.2.2.2.2.2.2.2.2.2.2.2.2.2.1, (g_45 hG ma ra).2.2.2.2.2.2.2.2.2.2.2.2.2.2.2.2.2.2.2.2.2.2.2.2.2.2.2.2.2.2.2.2.2.2.2.2.2.2.2.2.2⟩)
theorem u_45_I36 {x : Int32} (hG : q_G ρ L m S0 S) (ma : a ∈ L) (ra : ρ a = 45) (hm : m.contains (q_ar 45 36) = true) (hx : (0 ≤ x.toInt ∧ x.toInt ≤ 120)) : q_G ρ L m S0 (q_sI S a 36 x) := q_G_sI hG ma ra hm (q_E1_sI hG ra rfl rfl) (⟨(g_45 hG ma ra).1, (g_45 hG ma ra).2.1, (g_45 hG ma ra).2.2.1, (g_45 hG ma ra).2.2.2.1, (g_45 hG ma ra).2.2.2.2.1, (g_45 hG ma ra).2.2.2.2.2.1, (g_45 hG ma ra).2.2.2.2.2.2.1, (g_45 hG ma ra).2.2.2.2.2.2.2.1, (g_45 hG ma ra).2.2.2.2.2.2.2.2.1, (g_45 hG ma ra).2.2.2.2.2.2.2.2.2.1, (g_45 hG ma ra).2.2.2.2.2.2.2.2.2.2.1, (g_45 hG ma ra).2.2.2.2.2.2.2.2.2.2.2.1, (g_45 hG ma ra).2.2.2.2.2.2.2.2.2.2.2.2.1, (g_45 hG ma ra).2.2.2.2.2.2.2.2.2.2.2.2.2.1, (g_45 hG ma ra).2.2.2.2.2.2.2.2.2.2.2.2.2.2.1, (g_45 hG ma ra).2.2.2.2.2.2.2.2.2.2.2.2.2.2.2.1, (g_45 hG ma ra).2.2.2.2.2.2.2.2.2.2.2.2.2.2.2.2.1, (g_45 hG ma ra).2.2.2.2.2.2.2.2.2.2.2.2.2.2.2.2.2.1, (g_45 hG ma ra).2.2.2.2.2.2.2.2.2.2.2.2.2.2.2.2.2.2.1, (g_45 hG ma ra).2.2.2.2.2.2.2.2.2.2.2.2.2.2.2.2.2.2.2.1, (g_45 hG ma ra).2.2.2.2.2.2.2.2.2.2.2.2.2.2.2.2.2.2.2.2.1, (g_45 hG ma ra).2.2.2.2.2.2.2.2.2.2.2.2.2.2.2.2.2.2.2.2.2.1, (g_45 hG ma ra).2.2.2.2.2.2.2.2.2.2.2.2.2.2.2.2.2.2.2.2.2.2.1, (g_45 hG ma ra).2.2.2.2.2.2.2.2.2.2.2.2.2.2.2.2.2.2.2.2.2.2.2.1, (g_45 hG ma ra).2.2.2.2.2.2.2.2.2.2.2.2.2.2.2.2.2.2.2.2.2.2.2.2.1, (g_45 hG ma ra).2.2.2.2.2.2.2.2.2.2.2.2.2.2.2.2.2.2.2.2.2.2.2.2.2.1, (g_45 hG ma ra).2.2.2.2.2.2.2.2.2.2.2.2.2.2.2.2.2.2.2.2.2.2.2.2.2.2.1, (g_45 hG ma ra).2.2.2.2.2.2.2.2.2.2.2.2.2.2.2.2.2.2.2.2.2.2.2.2.2.2.2.1, (g_45 hG ma ra).2.2.2.2.2.2.2.2.2.2.2.2.2.2.2.2.2.2.2.2.2.2.2.2.2.2.2.2.1, (g_45 hG ma ra).2.2.2.2.2.2.2.2.2.2.2.2.2.2.2.2.2.2.2.2.2.2.2.2.2.2.2.2.2.1, (g_45 hG ma ra).2.2.2.2.2.2.2.2.2.2.2.2.2.2.2.2.2.2.2.2.2.2.2.2.2.2.2.2.2.2.1, (g_45 hG ma ra).2.2.2.2.2.2.2.2.2.2.2.2.2.2.2.2.2.2.2.2.2.2.2.2.2.2.2.2.2.2.2.1, (g_45 hG ma ra).2.2.2.2.2.2.2.2.2.2.2.2.2.2.2.2.2.2.2.2.2.2.2.2.2.2.2.2.2.2.2.2.1, (g_45 hG ma ra).2.2.2.2.2.2.2.2.2.2.2.2.2.2.2.2.2.2.2.2.2.2.2.2.2.2.2.2.2.2.2.2.2.1, (g_45 hG ma ra).2.2.2.2.2.2.2.2.2.2.2.2.2.2.2.2.2.2.2.2.2.2.2.2.2.2.2.2.2.2.2.2.2.2.1, (g_45 hG ma ra).2.2.2.2.2.2.2.2.2.2.2.2.2.2.2.2.2.2.2.2.2.2.2.2.2.2.2.2.2.2.2.2.2.2.2.1, by show (0 ≤ ((va_up (q_I S a) 36 x) 36).toInt ∧ ((va_up (q_I S a) 36 x) 36).toInt ≤ 120); rw [q_up_same]; exact hx, (g_45 hG ma ra).2.2.2.2.2.2.2.2.2.2.2.2.2.2.2.2.2.2.2.2.2.2.2.2.2.2.2.2.2.2.2.2.2.2.2.2.2.1, (g_45 hG ma ra).2.2.2.2.2.2.2.2.2.2.2.2.2.2.2.2.2.2.2.2.2.2.2.2.2.2.2.2.2.2.2.2.2.2.2.2.2.2.1, (g_45 hG ma ra).2.2.2.2.2.2.2.2.2.2.2.2.2.2.2.2.2.2.2.2.2.2.2.2.2.2.2.2.2.2.2.2.2.2.2.2.2.2.2.1, (g_45 hG ma ra).2.2.2.2.2.2.2.2.2.2.2.2.2.2.2.2.2.2.2.2.2.2.2.2.2.2.2.2.2.2.2.2.2.2.2.2.2.2.2.2.1, (g_45 hG ma ra).2.2.2.2.2.2.2.2.2.2.2.2.2.2.2.2.2.2.2.2.2.2.2.2.2.2.2.2.2.2.2.2.2.2.2.2.2.2.2.2.2⟩)
theorem u_45_I38 {x : Int32} (hG : q_G ρ L m S0 S) (ma : a ∈ L) (ra : ρ a = 45) (hm : m.contains (q_ar 45 38) = true) (hx : (0 ≤ x.toInt ∧ x.toInt ≤ 2400)) : q_G ρ L m S0 (q_sI S a 38 x) := q_G_sI hG ma ra hm (q_E1_sI hG ra rfl rfl) (⟨(g_45 hG ma ra).1, (g_45 hG ma ra).2.1, (g_45 hG ma ra).2.2.1, (g_45 hG ma ra).2.2.2.1, (g_45 hG ma ra).2.2.2.2.1, (g_45 hG ma ra).2.2.2.2.2.1, (g_45 hG ma ra).2.2.2.2.2.2.1, (g_45 hG ma ra).2.2.2.2.2.2.2.1, (g_45 hG ma ra).2.2.2.2.2.2.2.2.1, (g_45 hG ma ra).2.2.2.2.2.2.2.2.2.1, (g_45 hG ma ra).2.2.2.2.2.2.2.2.2.2.1, (g_45 hG ma ra).2.2.2.2.2.2.2.2.2.2.2.1, (g_45 hG ma ra).2.2.2.2.2.2.2.2.2.2.2.2.1, (g_45 hG ma ra).2.2.2.2.2.2.2.2.2.2.2.2.2.1, (g_45 hG ma ra).2.2.2.2.2.2.2.2.2.2.2.2.2.2.1, (g_45 hG ma ra).2.2.2.2.2.2.2.2.2.2.2.2.2.2.2.1, (g_45 hG ma ra).2.2.2.2.2.2.2.2.2.2.2.2.2.2.2.2.1, (g_45 hG ma ra).2.2.2.2.2.2.2.2.2.2.2.2.2.2.2.2.2.1, (g_45 hG ma ra).2.2.2.2.2.2.2.2.2.2.2.2.2.2.2.2.2.2.1, (g_45 hG ma ra).2.2.2.2.2.2.2.2.2.2.2.2.2.2.2.2.2.2.2.1, (g_45 hG ma ra).2.2.2.2.2.2.2.2.2.2.2.2.2.2.2.2.2.2.2.2.1, (g_45 hG ma ra).2.2.2.2.2.2.2.2.2.2.2.2.2.2.2.2.2.2.2.2.2.1, (g_45 hG ma ra).2.2.2.2.2.2.2.2.2.2.2.2.2.2.2.2.2.2.2.2.2.2.1, (g_45 hG ma ra).2.2.2.2.2.2.2.2.2.2.2.2.2.2.2.2.2.2.2.2.2.2.2.1, (g_45 hG ma ra).2.2.2.2.2.2.2.2.2.2.2.2.2.2.2.2.2.2.2.2.2.2.2.2.1, (g_45 hG ma ra).2.2.2.2.2.2.2.2.2.2.2.2.2.2.2.2.2.2.2.2.2.2.2.2.2.1, (g_45 hG ma ra).2.2.2.2.2.2.2.2.2.2.2.2.2.2.2.2.2.2.2.2.2.2.2.2.2.2.1, (g_45 hG ma ra).2.2.2.2.2.2.2.2.2.2.2.2.2.2.2.2.2.2.2.2.2.2.2.2.2.2.2.1, (g_45 hG ma ra).2.2.2.2.2.2.2.2.2.2.2.2.2.2.2.2.2.2.2.2.2.2.2.2.2.2.2.2.1, (g_45 hG ma ra).2.2.2.2.2.2.2.2.2.2.2.2.2.2.2.2.2.2.2.2.2.2.2.2.2.2.2.2.2.1, (g_45 hG ma ra).2.2.2.2.2.2.2.2.2.2.2.2.2.2.2.2.2.2.2.2.2.2.2.2.2.2.2.2.2.2.1, (g_45 hG ma ra).2.2.2.2.2.2.2.2.2.2.2.2.2.2.2.2.2.2.2.2.2.2.2.2.2.2.2.2.2.2.2.1, (g_45 hG ma ra).2.2.2.2.2.2.2.2.2.2.2.2.2.2.2.2.2.2.2.2.2.2.2.2.2.2.2.2.2.2.2.2.1, (g_45 hG ma ra).2.2.2.2.2.2.2.2.2.2.2.2.2.2.2.2.2.2.2.2.2.2.2.2.2.2.2.2.2.2.2.2.2.1, (g_45 hG ma ra).2.2.2.2.2.2.2.2.2.2.2.2.2.2.2.2.2.2.2.2.2.2.2.2.2.2.2.2.2.2.2.2.2.2.1, (g_45 hG ma ra).2.2.2.2.2.2.2.2.2.2.2.2.2.2.2.2.2.2.2.2.2.2.2.2.2.2.2.2.2.2.2.2.2.2.2.1, (g_45 hG ma ra).2.2.2.2.2.2.2.2.2.2.2.2.2.2.2.2.2.2.2.2.2.2.2.2.2.2.2.2.2.2.2.2.2.2.2.2.1, (g_45 hG ma ra).2.2.2.2.2.2.2.2.2.2.2.2.2.2.2.2.2.2.2.2.2.2.2.2.2.2.2.2.2.2.2.2.2.2.2.2.2.1, by show (0 ≤ ((va_up (q_I S a) 38 x) 38).toInt ∧ ((va_up (q_I S a) 38 x) 38).toInt ≤ 2400); rw [q_up_same]; exact hx, (g_45 hG ma ra).2.2.2.2.2.2.2.2.2.2.2.2.2.2.2.2.2.2.2.2.2.2.2.2.2.2.2.2.2.2.2.2.2.2.2.2.2.2.2.1, (g_45 hG ma ra).2.2.2.2.2.2.2.2.2.2.2.2.2.2.2.2.2.2.2.2.2.2.2.2.2.2.2.2.2.2.2.2.2.2.2.2.2.2.2.2.1, (g_45 hG ma ra).2.2.2.2.2.2.2.2.2.2.2.2.2.2.2.2.2.2.2.2.2.2.2.2.2.2.2.2.2.2.2.2.2.2.2.2.2.2.2.2.2⟩)
theorem u_45_I41 {x : Int32} (hG : q_G ρ L m S0 S) (ma : a ∈ L) (ra : ρ a = 45) (hm : m.contains (q_ar 45 41) = true) (hx : (0 ≤ x.toInt ∧ x.toInt ≤ 1)) : q_G ρ L m S0 (q_sI S a 41 x) := q_G_sI hG ma ra hm (q_E1_sI hG ra rfl rfl) (⟨(g_45 hG ma ra).1, (g_45 hG ma ra).2.1, (g_45 hG ma ra).2.2.1, (g_45 hG ma ra).2.2.2.1, (g_45 hG ma ra).2.2.2.2.1, (g_45 hG ma ra).2.2.2.2.2.1, (g_45 hG ma ra).2.2.2.2.2.2.1, (g_45 hG ma ra).2.2.2.2.2.2.2.1, (g_45 hG ma ra).2.2.2.2.2.2.2.2.1, (g_45 hG ma ra).2.2.2.2.2.2.2.2.2.1, (g_45 hG ma ra).2.2.2.2.2.2.2.2.2.2.1, (g_45 hG ma ra).2.2.2.2.2.2.2.2.2.2.2.1, (g_45 hG ma ra).2.2.2.2.2.2.2.2.2.2.2.2.1, (g_45 hG ma ra).2.2.2.2.2.2.2.2.2.2.2.2.2.1, (g_45 hG ma ra).2.2.2.2.2.2.2.2.2.2.2.2.2.2.1, (g_45 hG ma ra).2.2.2.2.2.2.2.2.2.2.2.2.2.2.2.1, (g_45 hG ma ra).2.2.2.2.2.2.2.2.2.2.2.2.2.2.2.2.1, (g_45 hG ma ra).2.2.2.2.2.2.2.2.2.2.2.2.2.2.2.2.2.1, (g_45 hG ma ra).2.2.2.2.2.2.2.2.2.2.2.2.2.2.2.2.2.2.1, (g_45 hG ma ra).2.2.2.2.2.2.2.2.2.2.2.2.2.2.2.2.2.2.2.1, (g_45 hG ma ra).2.2.2.2.2.2.2.2.2.2.2.2.2.2.2.2.2.2.2.2.1, (g_45 hG ma ra).2.2.2.2.2.2.2.2.2.2.2.2.2.2.2.2.2.2.2.2.2.1, (g_45 hG ma ra).2.2.2.2.2.2.2.2.2.2.2.2.2.2.2.2.2.2.2.2.2.2.1, (g_45 hG ma ra).2.2.2.2.2.2.2.2.2.2.2.2.2.2.2.2.2.2.2.2.2.2.2.1, (g_45 hG ma ra).2.2.2.2.2.2.2.2.2.2.2.2.2.2.2.2.2.2.2.2.2.2.2.2.1, (g_45 hG ma ra).2.2.2.2.2.2.2.2.2.2.2.2.2.2.2.2.2.2.2.2.2.2.2.2.2.1, (g_45 hG ma ra).2.2.2.2.2.2.2.2.2.2.2.2.2.2.2.2.2.2.2.2.2.2.2.2.2.2.1, (g_45 hG ma ra).2.2.2.2.2.2.2.2.2.2.2.2.2.2.2.2.2.2.2.2.2.2.2.2.2.2.2.1, (g_45 hG ma ra).2.2.2.2.2.2.2.2.2.2.2.2.2.2.2.2.2.2.2.2.2.2.2.2.2.2.2.2.1, (g_45 hG ma ra).2.2.2.2.2.2.2.2.2.2.2.2.2.2.2.2.2.2.2.2.2.2.2.2.2.2.2.2.2.1, (g_45 hG ma ra).2.2.2.2.2.2.2.2.2.2.2.2.2.2.2.2.2.2.2.2.2.2.2.2.2.2.2.2.2.2.1, (g_45 hG ma ra).2.2.2.2.2.2.2.2.2.2.2.2.2.2.2.2.2.2.2.2.2.2.2.2.2.2.2.2.2.2.2.1, (g_45 hG ma ra).2.2.2.2.2.2.2.2.2.2.2.2.2.2.2.2.2.2.2.2.2.2.2.2.2.2.2.2.2.2.2.2.1, (g_45 hG ma ra).2.2.2.2.2.2.2.2.2.2.2.2.2.2.2.2.2.2.2.2.2.2.2.2.2.2.2.2.2.2.2.2.2.1, (g_45 hG ma ra).2.2.2.2.2.2.2.2.2.2.2.2.2.2.2.2.2.2.2.2.2.2.2.2.2.2.2.2.2.2.2.2.2.2.1, (g_45 hG ma ra).2.2.2.2.2.2.2.2.2.2.2.2.2.2.2.2.2.2.2.2.2.2.2.2.2.2.2.2.2.2.2.2.2.2.2.1, (g_45 hG ma ra).2.2.2.2.2.2.2.2.2.2.2.2.2.2.2.2.2.2.2.2.2.2.2.2.2.2.2.2.2.2.2.2.2.2.2.2.1, (g_45 hG ma ra).2.2.2.2.2.2.2.2.2.2.2.2.2.2.2.2.2.2.2.2.2.2.2.2.2.2.2.2.2.2.2.2.2.2.2.2.2.1, (g_45 hG ma ra).2.2.2.2.2.2.2.2.2.2.2.2.2.2.2.2.2.2.2.2.2.2.2.2.2.2.2.2.2.2.2.2.2.2.2.2.2.2.1, (g_45 hG ma ra).2.2.2.2.2.2.2.2.2.2.2.2.2.2.2.2.2.2.2.2.2.2.2.2.2.2.2.2.2.2.2.2.2.2.2.2.2.2.2.1, (g_45 hG ma ra).2.2.2.2.2.2.2.2.2.2.2.2.2.2.2.2.2.2.2.2.2.2.2.2.2.2.2.2.2.2.2.2.2.2.2.2.2.2.2.2.1, by show (0 ≤ ((va_up (q_I S a) 41 x) 41).toInt ∧ ((va_up (q_I S a) 41 x) 41).toInt ≤ 1); rw [q_up_same]; exact hx⟩)
theorem u_45_I42 {x : Int32} (hG : q_G ρ L m S0 S) (ma : a ∈ L) (ra : ρ a = 45) (hm : m.contains (q_ar 45 42) = true) : q_G ρ L m S0 (q_sI S a 42 x) := q_G_sI hG ma ra hm (q_E1_sI hG ra rfl rfl) (⟨(g_45 hG ma ra).1, (g_45 hG ma ra).2.1, (g_45 hG ma ra).2.2.1, (g_45 hG ma ra).2.2.2.1, (g_45 hG ma ra).2.2.2.2.1, (g_45 hG ma ra).2.2.2.2.2.1, (g_45 hG ma ra).2.2.2.2.2.2.1, (g_45 hG ma ra).2.2.2.2.2.2.2.1, (g_45 hG ma ra).2.2.2.2.2.2.2.2.1, (g_45 hG ma ra).2.2.2.2.2.2.2.2.2.1, (g_45 hG ma ra).2.2.2.2.2.2.2.2.2.2.1, (g_45 hG ma ra).2.2.2.2.2.2.2.2.2.2.2.1, (g_45 hG ma ra).2.2.2.2.2.2.2.2.2.2.2.2.1, (g_45 hG ma ra).2.2.2.2.2.2.2.2.2.2.2.2.2.1, (g_45 hG ma ra).2.2.2.2.2.2.2.2.2.2.2.2.2.2.1, (g_45 hG ma ra).2.2.2.2.2.2.2.2.2.2.2.2.2.2.2.1, (g_45 hG ma ra).2.2.2.2.2.2.2.2.2.2.2.2.2.2.2.2.1, (g_45 hG ma ra).2.2.2.2.2.2.2.2.2.2.2.2.2.2.2.2.2.1, (g_45 hG ma ra).2.2.2.2.2.2.2.2.2.2.2.2.2.2.2.2.2.2.1, (g_45 hG ma ra).2.2.2.2.2.2.2.2.2.2.2.2.2.2.2.2.2.2.2.1, (g_45 hG ma ra).2.2.2.2.2.2.2.2.2.2.2.2.2.2.2.2.2.2.2.2.1, (g_45 hG ma ra).2.2.2.2.2.2.2.2.2.2.2.2.2.2.2.2.2.2.2.2.2.1, (g_45 hG ma ra).2.2.2.2.2.2.2.2.2.2.2.2.2.2.2.2.2.2.2.2.2.2.1, (g_45 hG ma ra).2.2.2.2.2.2.2.2.2.2.2.2.2.2.2.2.2.2.2.2.2.2.2.1, (g_45 hG ma ra).2.2.2.2.2.2.2.2.2.2.2.2.2.2.2.2.2.2.2.2.2.2.2.2.1, (g_45 hG ma ra).2.2.2.2.2.2.2.2.2.2.2.2.2.2.2.2.2.2.2.2.2.2.2.2.2.1, (g_45 hG ma ra).2.2.2.2.2.2.2.2.2.2.2.2.2.2.2.2.2.2.2.2.2.2.2.2.2.2.1, (g_45 hG ma ra).2.2.2.2.2.2.2.2.2.2.2.2.2.2.2.2.2.2.2.2.2.2.2.2.2.2.2.1, (g_45 hG ma ra).2.2.2.2.2.2.2.2.2.2.2.2.2.2.2.2.2.2.2.2.2.2.2.2.2.2.2.2.1, (g_45 hG ma ra).2.2.2.2.2.2.2.2.2.2.2.2.2.2.2.2.2.2.2.2.2.2.2.2.2.2.2.2.2.1, (g_45 hG ma ra).2.2.2.2.2.2.2.2.2.2.2.2.2.2.2.2.2.2.2.2.2.2.2.2.2.2.2.2.2.2.1, (g_45 hG ma ra).2.2.2.2.2.2.2.2.2.2.2.2.2.2.2.2.2.2.2.2.2.2.2.2.2.2.2.2.2.2.2.1, (g_45 hG ma ra).2.2.2.2.2.2.2.2.2.2.2.2.2.2.2.2.2.2.2.2.2.2.2.2.2.2.2.2.2.2.2.2.1, (g_45 hG ma ra).2.2.2.2.2.2.2.2.2.2.2.2.2.2.2.2.2.2.2.2.2.2.2.2.2.2.2.2.2.2.2.2.2.1, (g_45 hG ma ra).2.2.2.2.2.2.2.2.2.2.2.2.2.2.2.2.2.2.2.2.2.2.2.2.2.2.2.2.2.2.2.2.2.2.1, (g_45 hG ma ra).2.2.2.2.2.2.2.2.2.2.2.2.2.2.2.2.2.2.2.2.2.2.2.2.2.2.2.2.2.2.2.2.2.2.2.1, (g_45 hG ma ra).2.2.2.2.2.2.2.2.2.2.2.2.2.2.2.2.2.2.2.2.2.2.2.2.2.2.2.2.2.2.2.2.2.2.2.2.1, (g_45 hG ma ra).2.2.2.2.2.2.2.2.2.2.2.2.2.2.2.2.2.2.2.2.2.2.2.2.2.2.2.2.2.2.2.2.2.2.2.2.2.1, (g_45 hG ma ra).2.2.2.2.2.2.2.2.2.2.2.2.2.2.2.2.2.2.2.2.2.2.2.2.2.2.2.2.2.2.2.2.2.2.2.2.2.2.1, (g_45 hG ma ra).2.2.2.2.2.2.2.2.2.2.2.2.2.2.2.2.2.2.2.2.2.2.2.2.2.2.2.2.2.2.2.2.2.2.2.2.2.2.2.1, (g_45 hG ma ra).2.2.2.2.2.2.2.2.2.2.2.2.2.2.2.2.2.2.2.2.2.2.2.2.2.2.2.2.2.2.2.2.2.2.2.2.2.2.2.2.1, (g_45 hG ma ra).2.2.2.2.2.2.2.2.2.2.2.2.2.2.2.2.2.2.2.2.2.2.2.2.2.2.2.2.2.2.2.2.2.2.2.2.2.2.2.2.2⟩)
theorem g_46 (hG : q_G ρ L m S0 S) (ma : a ∈ L) (ra : ρ a = 46) : (q_N S a) = 1600 ∧ (∀ k, (0 ≤ ((q_I S a) k).toInt ∧ ((q_I S a) k).toInt ≤ 255)) := by
  have h := (hG.1.2.1 a ma).2
  rw [ra] at h
  exact h
theorem g_46_N (hG : q_G ρ L m S0 S) (ma : a ∈ L) (ra : ρ a = 46) : (q_N S a) = 1600 := (g_46 hG ma ra).1
theorem g_46_E (hG : q_G ρ L m S0 S) (ma : a ∈ L) (ra : ρ a = 46) {k : Nat} : (0 ≤ ((q_I S a) k).toInt ∧ ((q_I S a) k).toInt ≤ 255) := (g_46 hG ma ra).2 k
theorem u_46_E {k : Nat} {x : Int32} (hG : q_G ρ L m S0 S) (ma : a ∈ L) (ra : ρ a = 46) (hm : m.contains (q_ar 46 0) = true) (hx : (0 ≤ x.toInt ∧ x.toInt ≤ 255)) : q_G ρ L m S0 (q_sI S a k x) := q_G_sI hG ma ra hm (q_E1_sI hG ra rfl rfl) (⟨(g_46 hG ma ra).1, fun k9 => by
    by_cases e : k9 = k
    · subst e; rw [q_up_same]; exact hx
    · rw [q_up_ne _ _ e]; exact (g_46 hG ma ra).2 k9⟩)
theorem g_47 (hG : q_G ρ L m S0 S) (ma : a ∈ L) (ra : ρ a = 47) : (q_N S a) = 24 ∧ (∀ k, (0 ≤ ((q_J S a) k).toInt ∧ ((q_J S a) k).toInt ≤ 4294967295)) := by
  have h := (hG.1.2.1 a ma).2
  rw [ra] at h
  exact h
theorem g_47_N (hG : q_G ρ L m S0 S) (ma : a ∈ L) (ra : ρ a = 47) : (q_N S a) = 24 := (g_47 hG ma ra).1
theorem g_47_E (hG : q_G ρ L m S0 S) (ma : a ∈ L) (ra : ρ a = 47) {k : Nat} : (0 ≤ ((q_J S a) k).toInt ∧ ((q_J S a) k).toInt ≤ 4294967295) := (g_47 hG ma ra).2 k
theorem u_47_E {k : Nat} {x : Int64} (hG : q_G ρ L m S0 S) (ma : a ∈ L) (ra : ρ a = 47) (hm : m.contains (q_ar 47 0) = true) (hx : (0 ≤ x.toInt ∧ x.toInt ≤ 4294967295)) : q_G ρ L m S0 (q_sJ S a k x) := q_G_sJ hG ma ra hm (⟨(g_47 hG ma ra).1, fun k9 => by
    by_cases e : k9 = k
    · subst e; rw [q_up_same]; exact hx
    · rw [q_up_ne _ _ e]; exact (g_47 hG ma ra).2 k9⟩)
theorem g_48 (hG : q_G ρ L m S0 S) (ma : a ∈ L) (ra : ρ a = 48) : (q_N S a) = 24 ∧ (∀ k, (0 ≤ ((q_J S a) k).toInt ∧ ((q_J S a) k).toInt ≤ 4294967295)) := by
  have h := (hG.1.2.1 a ma).2
  rw [ra] at h
  exact h
theorem g_48_N (hG : q_G ρ L m S0 S) (ma : a ∈ L) (ra : ρ a = 48) : (q_N S a) = 24 := (g_48 hG ma ra).1
theorem g_48_E (hG : q_G ρ L m S0 S) (ma : a ∈ L) (ra : ρ a = 48) {k : Nat} : (0 ≤ ((q_J S a) k).toInt ∧ ((q_J S a) k).toInt ≤ 4294967295) := (g_48 hG ma ra).2 k
theorem u_48_E {k : Nat} {x : Int64} (hG : q_G ρ L m S0 S) (ma : a ∈ L) (ra : ρ a = 48) (hm : m.contains (q_ar 48 0) = true) (hx : (0 ≤ x.toInt ∧ x.toInt ≤ 4294967295)) : q_G ρ L m S0 (q_sJ S a k x) := q_G_sJ hG ma ra hm (⟨(g_48 hG ma ra).1, fun k9 => by
    by_cases e : k9 = k
    · subst e; rw [q_up_same]; exact hx
    · rw [q_up_ne _ _ e]; exact (g_48 hG ma ra).2 k9⟩)
theorem g_49 (hG : q_G ρ L m S0 S) (ma : a ∈ L) (ra : ρ a = 49) : (q_N S a) = 24 ∧ (∀ k, (0 ≤ ((q_I S a) k).toInt ∧ ((q_I S a) k).toInt ≤ 1600)) := by
  have h := (hG.1.2.1 a ma).2
  rw [ra] at h
  exact h
theorem g_49_N (hG : q_G ρ L m S0 S) (ma : a ∈ L) (ra : ρ a = 49) : (q_N S a) = 24 := (g_49 hG ma ra).1
theorem g_49_E (hG : q_G ρ L m S0 S) (ma : a ∈ L) (ra : ρ a = 49) {k : Nat} : (0 ≤ ((q_I S a) k).toInt ∧ ((q_I S a) k).toInt ≤ 1600) := (g_49 hG ma ra).2 k
theorem u_49_E {k : Nat} {x : Int32} (hG : q_G ρ L m S0 S) (ma : a ∈ L) (ra : ρ a = 49) (hm : m.contains (q_ar 49 0) = true) (hx : (0 ≤ x.toInt ∧ x.toInt ≤ 1600)) (hE : q_E1 ρ L (q_sI S a k x)) : q_G ρ L m S0 (q_sI S a k x) := q_G_sI hG ma ra hm hE (⟨(g_49 hG ma ra).1, fun k9 => by
    by_cases e : k9 = k
    · subst e; rw [q_up_same]; exact hx
    · rw [q_up_ne _ _ e]; exact (g_49 hG ma ra).2 k9⟩)
theorem g_50 (hG : q_G ρ L m S0 S) (ma : a ∈ L) (ra : ρ a = 50) : (q_N S a) = 24 ∧ (∀ k, (0 ≤ ((q_I S a) k).toInt ∧ ((q_I S a) k).toInt ≤ 1600)) := by
  have h := (hG.1.2.1 a ma).2
  rw [ra] at h
  exact h
theorem g_50_N (hG : q_G ρ L m S0 S) (ma : a ∈ L) (ra : ρ a = 50) : (q_N S a) = 24 := (g_50 hG ma ra).1
theorem g_50_E (hG : q_G ρ L m S0 S) (ma : a ∈ L) (ra : ρ a = 50) {k : Nat} : (0 ≤ ((q_I S a) k).toInt ∧ ((q_I S a) k).toInt ≤ 1600) := (g_50 hG ma ra).2 k
theorem u_50_E {k : Nat} {x : Int32} (hG : q_G ρ L m S0 S) (ma : a ∈ L) (ra : ρ a = 50) (hm : m.contains (q_ar 50 0) = true) (hx : (0 ≤ x.toInt ∧ x.toInt ≤ 1600)) (hE : q_E1 ρ L (q_sI S a k x)) : q_G ρ L m S0 (q_sI S a k x) := q_G_sI hG ma ra hm hE (⟨(g_50 hG ma ra).1, fun k9 => by
    by_cases e : k9 = k
    · subst e; rw [q_up_same]; exact hx
    · rw [q_up_ne _ _ e]; exact (g_50 hG ma ra).2 k9⟩)
theorem g_51 (hG : q_G ρ L m S0 S) (ma : a ∈ L) (ra : ρ a = 51) : (q_N S a) = 200 ∧ (∀ k, (0 ≤ ((q_I S a) k).toInt ∧ ((q_I S a) k).toInt ≤ 1)) := by
  have h := (hG.1.2.1 a ma).2
  rw [ra] at h
  exact h
theorem g_51_N (hG : q_G ρ L m S0 S) (ma : a ∈ L) (ra : ρ a = 51) : (q_N S a) = 200 := (g_51 hG ma ra).1
theorem g_51_E (hG : q_G ρ L m S0 S) (ma : a ∈ L) (ra : ρ a = 51) {k : Nat} : (0 ≤ ((q_I S a) k).toInt ∧ ((q_I S a) k).toInt ≤ 1) := (g_51 hG ma ra).2 k
theorem u_51_E {k : Nat} {x : Int32} (hG : q_G ρ L m S0 S) (ma : a ∈ L) (ra : ρ a = 51) (hm : m.contains (q_ar 51 0) = true) (hx : (0 ≤ x.toInt ∧ x.toInt ≤ 1)) : q_G ρ L m S0 (q_sI S a k x) := q_G_sI hG ma ra hm (q_E1_sI hG ra rfl rfl) (⟨(g_51 hG ma ra).1, fun k9 => by
    by_cases e : k9 = k
    · subst e; rw [q_up_same]; exact hx
    · rw [q_up_ne _ _ e]; exact (g_51 hG ma ra).2 k9⟩)
theorem g_52 (hG : q_G ρ L m S0 S) (ma : a ∈ L) (ra : ρ a = 52) : (q_N S a) = 200 ∧ (∀ k, (0 ≤ ((q_I S a) k).toInt ∧ ((q_I S a) k).toInt ≤ 0)) := by
  have h := (hG.1.2.1 a ma).2
  rw [ra] at h
  exact h
theorem g_52_N (hG : q_G ρ L m S0 S) (ma : a ∈ L) (ra : ρ a = 52) : (q_N S a) = 200 := (g_52 hG ma ra).1
theorem g_52_E (hG : q_G ρ L m S0 S) (ma : a ∈ L) (ra : ρ a = 52) {k : Nat} : (0 ≤ ((q_I S a) k).toInt ∧ ((q_I S a) k).toInt ≤ 0) := (g_52 hG ma ra).2 k
theorem g_53 (hG : q_G ρ L m S0 S) (ma : a ∈ L) (ra : ρ a = 53) : (q_N S a) = 100 ∧ (∀ k, (0 ≤ ((q_I S a) k).toInt ∧ ((q_I S a) k).toInt ≤ 5)) := by
  have h := (hG.1.2.1 a ma).2
  rw [ra] at h
  exact h
theorem g_53_N (hG : q_G ρ L m S0 S) (ma : a ∈ L) (ra : ρ a = 53) : (q_N S a) = 100 := (g_53 hG ma ra).1
theorem g_53_E (hG : q_G ρ L m S0 S) (ma : a ∈ L) (ra : ρ a = 53) {k : Nat} : (0 ≤ ((q_I S a) k).toInt ∧ ((q_I S a) k).toInt ≤ 5) := (g_53 hG ma ra).2 k
theorem u_53_E {k : Nat} {x : Int32} (hG : q_G ρ L m S0 S) (ma : a ∈ L) (ra : ρ a = 53) (hm : m.contains (q_ar 53 0) = true) (hx : (0 ≤ x.toInt ∧ x.toInt ≤ 5)) : q_G ρ L m S0 (q_sI S a k x) := q_G_sI hG ma ra hm (q_E1_sI hG ra rfl rfl) (⟨(g_53 hG ma ra).1, fun k9 => by
    by_cases e : k9 = k
    · subst e; rw [q_up_same]; exact hx
    · rw [q_up_ne _ _ e]; exact (g_53 hG ma ra).2 k9⟩)
theorem g_54 (hG : q_G ρ L m S0 S) (ma : a ∈ L) (ra : ρ a = 54) : (q_N S a) = 100 ∧ (∀ k, (0 ≤ ((q_I S a) k).toInt ∧ ((q_I S a) k).toInt ≤ 65535)) := by
  have h := (hG.1.2.1 a ma).2
  rw [ra] at h
  exact h
theorem g_54_N (hG : q_G ρ L m S0 S) (ma : a ∈ L) (ra : ρ a = 54) : (q_N S a) = 100 := (g_54 hG ma ra).1
theorem g_54_E (hG : q_G ρ L m S0 S) (ma : a ∈ L) (ra : ρ a = 54) {k : Nat} : (0 ≤ ((q_I S a) k).toInt ∧ ((q_I S a) k).toInt ≤ 65535) := (g_54 hG ma ra).2 k
theorem u_54_E {k : Nat} {x : Int32} (hG : q_G ρ L m S0 S) (ma : a ∈ L) (ra : ρ a = 54) (hm : m.contains (q_ar 54 0) = true) (hx : (0 ≤ x.toInt ∧ x.toInt ≤ 65535)) : q_G ρ L m S0 (q_sI S a k x) := q_G_sI hG ma ra hm (q_E1_sI hG ra rfl rfl) (⟨(g_54 hG ma ra).1, fun k9 => by
    by_cases e : k9 = k
    · subst e; rw [q_up_same]; exact hx
    · rw [q_up_ne _ _ e]; exact (g_54 hG ma ra).2 k9⟩)
theorem g_55 (hG : q_G ρ L m S0 S) (ma : a ∈ L) (ra : ρ a = 55) : (q_N S a) = 120 := by
  have h := (hG.1.2.1 a ma).2
  rw [ra] at h
  exact h
theorem g_55_N (hG : q_G ρ L m S0 S) (ma : a ∈ L) (ra : ρ a = 55) : (q_N S a) = 120 := (g_55 hG ma ra)
theorem u_55_E {k : Nat} {x : Int32} (hG : q_G ρ L m S0 S) (ma : a ∈ L) (ra : ρ a = 55) (hm : m.contains (q_ar 55 0) = true) : q_G ρ L m S0 (q_sI S a k x) := q_G_sI hG ma ra hm (q_E1_sI hG ra rfl rfl) ((g_55 hG ma ra))
theorem g_56 (hG : q_G ρ L m S0 S) (ma : a ∈ L) (ra : ρ a = 56) : (q_N S a) = 120 := by
  have h := (hG.1.2.1 a ma).2
  rw [ra] at h
  exact h
theorem g_56_N (hG : q_G ρ L m S0 S) (ma : a ∈ L) (ra : ρ a = 56) : (q_N S a) = 120 := (g_56 hG ma ra)
theorem u_56_E {k : Nat} {x : Int32} (hG : q_G ρ L m S0 S) (ma : a ∈ L) (ra : ρ a = 56) (hm : m.contains (q_ar 56 0) = true) : q_G ρ L m S0 (q_sI S a k x) := q_G_sI hG ma ra hm (q_E1_sI hG ra rfl rfl) ((g_56 hG ma ra))
theorem g_57 (hG : q_G ρ L m S0 S) (ma : a ∈ L) (ra : ρ a = 57) : (q_N S a) = 120 ∧ (∀ k, (0 ≤ ((q_I S a) k).toInt ∧ ((q_I S a) k).toInt ≤ 1)) := by
  have h := (hG.1.2.1 a ma).2
  rw [ra] at h
  exact h
theorem g_57_N (hG : q_G ρ L m S0 S) (ma : a ∈ L) (ra : ρ a = 57) : (q_N S a) = 120 := (g_57 hG ma ra).1
theorem g_57_E (hG : q_G ρ L m S0 S) (ma : a ∈ L) (ra : ρ a = 57) {k : Nat} : (0 ≤ ((q_I S a) k).toInt ∧ ((q_I S a) k).toInt ≤ 1) := (g_57 hG ma ra).2 k
theorem u_57_E {k : Nat} {x : Int32} (hG : q_G ρ L m S0 S) (ma : a ∈ L) (ra : ρ a = 57) (hm : m.contains (q_ar 57 0) = true) (hx : (0 ≤ x.toInt ∧ x.toInt ≤ 1)) : q_G ρ L m S0 (q_sI S a k x) := q_G_sI hG ma ra hm (q_E1_sI hG ra rfl rfl) (⟨(g_57 hG ma ra).1, fun k9 => by
    by_cases e : k9 = k
    · subst e; rw [q_up_same]; exact hx
    · rw [q_up_ne _ _ e]; exact (g_57 hG ma ra).2 k9⟩)
theorem g_58 (hG : q_G ρ L m S0 S) (ma : a ∈ L) (ra : ρ a = 58) : (q_N S a) = 400 ∧ (∀ k, (0 ≤ ((q_I S a) k).toInt ∧ ((q_I S a) k).toInt ≤ 119)) := by
  have h := (hG.1.2.1 a ma).2
  rw [ra] at h
  exact h
theorem g_58_N (hG : q_G ρ L m S0 S) (ma : a ∈ L) (ra : ρ a = 58) : (q_N S a) = 400 := (g_58 hG ma ra).1
theorem g_58_E (hG : q_G ρ L m S0 S) (ma : a ∈ L) (ra : ρ a = 58) {k : Nat} : (0 ≤ ((q_I S a) k).toInt ∧ ((q_I S a) k).toInt ≤ 119) := (g_58 hG ma ra).2 k
theorem u_58_E {k : Nat} {x : Int32} (hG : q_G ρ L m S0 S) (ma : a ∈ L) (ra : ρ a = 58) (hm : m.contains (q_ar 58 0) = true) (hx : (0 ≤ x.toInt ∧ x.toInt ≤ 119)) : q_G ρ L m S0 (q_sI S a k x) := q_G_sI hG ma ra hm (q_E1_sI hG ra rfl rfl) (⟨(g_58 hG ma ra).1, fun k9 => by
    by_cases e : k9 = k
    · subst e; rw [q_up_same]; exact hx
    · rw [q_up_ne _ _ e]; exact (g_58 hG ma ra).2 k9⟩)
theorem g_59 (hG : q_G ρ L m S0 S) (ma : a ∈ L) (ra : ρ a = 59) : (q_N S a) = 120 ∧ (∀ k, (0 ≤ ((q_I S a) k).toInt ∧ ((q_I S a) k).toInt ≤ 255)) := by
  have h := (hG.1.2.1 a ma).2
  rw [ra] at h
  exact h
theorem g_59_N (hG : q_G ρ L m S0 S) (ma : a ∈ L) (ra : ρ a = 59) : (q_N S a) = 120 := (g_59 hG ma ra).1
theorem g_59_E (hG : q_G ρ L m S0 S) (ma : a ∈ L) (ra : ρ a = 59) {k : Nat} : (0 ≤ ((q_I S a) k).toInt ∧ ((q_I S a) k).toInt ≤ 255) := (g_59 hG ma ra).2 k
theorem u_59_E {k : Nat} {x : Int32} (hG : q_G ρ L m S0 S) (ma : a ∈ L) (ra : ρ a = 59) (hm : m.contains (q_ar 59 0) = true) (hx : (0 ≤ x.toInt ∧ x.toInt ≤ 255)) : q_G ρ L m S0 (q_sI S a k x) := q_G_sI hG ma ra hm (q_E1_sI hG ra rfl rfl) (⟨(g_59 hG ma ra).1, fun k9 => by
    by_cases e : k9 = k
    · subst e; rw [q_up_same]; exact hx
    · rw [q_up_ne _ _ e]; exact (g_59 hG ma ra).2 k9⟩)
theorem g_60 (hG : q_G ρ L m S0 S) (ma : a ∈ L) (ra : ρ a = 60) : (q_N S a) = 8 ∧ (∀ k, (0 ≤ ((q_I S a) k).toInt ∧ ((q_I S a) k).toInt ≤ 199)) := by
  have h := (hG.1.2.1 a ma).2
  rw [ra] at h
  exact h
theorem g_60_N (hG : q_G ρ L m S0 S) (ma : a ∈ L) (ra : ρ a = 60) : (q_N S a) = 8 := (g_60 hG ma ra).1
theorem g_60_E (hG : q_G ρ L m S0 S) (ma : a ∈ L) (ra : ρ a = 60) {k : Nat} : (0 ≤ ((q_I S a) k).toInt ∧ ((q_I S a) k).toInt ≤ 199) := (g_60 hG ma ra).2 k
theorem u_60_E {k : Nat} {x : Int32} (hG : q_G ρ L m S0 S) (ma : a ∈ L) (ra : ρ a = 60) (hm : m.contains (q_ar 60 0) = true) (hx : (0 ≤ x.toInt ∧ x.toInt ≤ 199)) : q_G ρ L m S0 (q_sI S a k x) := q_G_sI hG ma ra hm (q_E1_sI hG ra rfl rfl) (⟨(g_60 hG ma ra).1, fun k9 => by
    by_cases e : k9 = k
    · subst e; rw [q_up_same]; exact hx
    · rw [q_up_ne _ _ e]; exact (g_60 hG ma ra).2 k9⟩)
theorem g_61 (hG : q_G ρ L m S0 S) (ma : a ∈ L) (ra : ρ a = 61) : (q_N S a) = 8 ∧ (∀ k, (0 ≤ ((q_I S a) k).toInt ∧ ((q_I S a) k).toInt ≤ 1700)) := by
  have h := (hG.1.2.1 a ma).2
  rw [ra] at h
  exact h
theorem g_61_N (hG : q_G ρ L m S0 S) (ma : a ∈ L) (ra : ρ a = 61) : (q_N S a) = 8 := (g_61 hG ma ra).1
theorem g_61_E (hG : q_G ρ L m S0 S) (ma : a ∈ L) (ra : ρ a = 61) {k : Nat} : (0 ≤ ((q_I S a) k).toInt ∧ ((q_I S a) k).toInt ≤ 1700) := (g_61 hG ma ra).2 k
theorem u_61_E {k : Nat} {x : Int32} (hG : q_G ρ L m S0 S) (ma : a ∈ L) (ra : ρ a = 61) (hm : m.contains (q_ar 61 0) = true) (hx : (0 ≤ x.toInt ∧ x.toInt ≤ 1700)) : q_G ρ L m S0 (q_sI S a k x) := q_G_sI hG ma ra hm (q_E1_sI hG ra rfl rfl) (⟨(g_61 hG ma ra).1, fun k9 => by
    by_cases e : k9 = k
    · subst e; rw [q_up_same]; exact hx
    · rw [q_up_ne _ _ e]; exact (g_61 hG ma ra).2 k9⟩)
theorem g_62 (hG : q_G ρ L m S0 S) (ma : a ∈ L) (ra : ρ a = 62) : (q_N S a) = 8 ∧ (∀ k, (0 ≤ ((q_I S a) k).toInt ∧ ((q_I S a) k).toInt ≤ 120)) := by
  have h := (hG.1.2.1 a ma).2
  rw [ra] at h
  exact h
theorem g_62_N (hG : q_G ρ L m S0 S) (ma : a ∈ L) (ra : ρ a = 62) : (q_N S a) = 8 := (g_62 hG ma ra).1
theorem g_62_E (hG : q_G ρ L m S0 S) (ma : a ∈ L) (ra : ρ a = 62) {k : Nat} : (0 ≤ ((q_I S a) k).toInt ∧ ((q_I S a) k).toInt ≤ 120) := (g_62 hG ma ra).2 k
theorem u_62_E {k : Nat} {x : Int32} (hG : q_G ρ L m S0 S) (ma : a ∈ L) (ra : ρ a = 62) (hm : m.contains (q_ar 62 0) = true) (hx : (0 ≤ x.toInt ∧ x.toInt ≤ 120)) : q_G ρ L m S0 (q_sI S a k x) := q_G_sI hG ma ra hm (q_E1_sI hG ra rfl rfl) (⟨(g_62 hG ma ra).1, fun k9 => by
    by_cases e : k9 = k
    · subst e; rw [q_up_same]; exact hx
    · rw [q_up_ne _ _ e]; exact (g_62 hG ma ra).2 k9⟩)
theorem g_63 (hG : q_G ρ L m S0 S) (ma : a ∈ L) (ra : ρ a = 63) : (q_N S a) = 8 ∧ (∀ k, (0 ≤ ((q_I S a) k).toInt ∧ ((q_I S a) k).toInt ≤ 120)) := by
  have h := (hG.1.2.1 a ma).2
  rw [ra] at h
  exact h
theorem g_63_N (hG : q_G ρ L m S0 S) (ma : a ∈ L) (ra : ρ a = 63) : (q_N S a) = 8 := (g_63 hG ma ra).1
theorem g_63_E (hG : q_G ρ L m S0 S) (ma : a ∈ L) (ra : ρ a = 63) {k : Nat} : (0 ≤ ((q_I S a) k).toInt ∧ ((q_I S a) k).toInt ≤ 120) := (g_63 hG ma ra).2 k
theorem u_63_E {k : Nat} {x : Int32} (hG : q_G ρ L m S0 S) (ma : a ∈ L) (ra : ρ a = 63) (hm : m.contains (q_ar 63 0) = true) (hx : (0 ≤ x.toInt ∧ x.toInt ≤ 120)) : q_G ρ L m S0 (q_sI S a k x) := q_G_sI hG ma ra hm (q_E1_sI hG ra rfl rfl) (⟨(g_63 hG ma ra).1, fun k9 => by
    by_cases e : k9 = k
    · subst e; rw [q_up_same]; exact hx
    · rw [q_up_ne _ _ e]; exact (g_63 hG ma ra).2 k9⟩)
theorem g_64 (hG : q_G ρ L m S0 S) (ma : a ∈ L) (ra : ρ a = 64) : (q_N S a) = 8 ∧ (∀ k, (0 ≤ ((q_I S a) k).toInt ∧ ((q_I S a) k).toInt ≤ 1)) := by
  have h := (hG.1.2.1 a ma).2
  rw [ra] at h
  exact h
theorem g_64_N (hG : q_G ρ L m S0 S) (ma : a ∈ L) (ra : ρ a = 64) : (q_N S a) = 8 := (g_64 hG ma ra).1
theorem g_64_E (hG : q_G ρ L m S0 S) (ma : a ∈ L) (ra : ρ a = 64) {k : Nat} : (0 ≤ ((q_I S a) k).toInt ∧ ((q_I S a) k).toInt ≤ 1) := (g_64 hG ma ra).2 k
theorem u_64_E {k : Nat} {x : Int32} (hG : q_G ρ L m S0 S) (ma : a ∈ L) (ra : ρ a = 64) (hm : m.contains (q_ar 64 0) = true) (hx : (0 ≤ x.toInt ∧ x.toInt ≤ 1)) : q_G ρ L m S0 (q_sI S a k x) := q_G_sI hG ma ra hm (q_E1_sI hG ra rfl rfl) (⟨(g_64 hG ma ra).1, fun k9 => by
    by_cases e : k9 = k
    · subst e; rw [q_up_same]; exact hx
    · rw [q_up_ne _ _ e]; exact (g_64 hG ma ra).2 k9⟩)
theorem g_65 (hG : q_G ρ L m S0 S) (ma : a ∈ L) (ra : ρ a = 65) : (q_N S a) = 8 ∧ (∀ k, (0 ≤ ((q_I S a) k).toInt ∧ ((q_I S a) k).toInt ≤ 65535)) := by
  have h := (hG.1.2.1 a ma).2
  rw [ra] at h
  exact h
theorem g_65_N (hG : q_G ρ L m S0 S) (ma : a ∈ L) (ra : ρ a = 65) : (q_N S a) = 8 := (g_65 hG ma ra).1
theorem g_65_E (hG : q_G ρ L m S0 S) (ma : a ∈ L) (ra : ρ a = 65) {k : Nat} : (0 ≤ ((q_I S a) k).toInt ∧ ((q_I S a) k).toInt ≤ 65535) := (g_65 hG ma ra).2 k
theorem u_65_E {k : Nat} {x : Int32} (hG : q_G ρ L m S0 S) (ma : a ∈ L) (ra : ρ a = 65) (hm : m.contains (q_ar 65 0) = true) (hx : (0 ≤ x.toInt ∧ x.toInt ≤ 65535)) : q_G ρ L m S0 (q_sI S a k x) := q_G_sI hG ma ra hm (q_E1_sI hG ra rfl rfl) (⟨(g_65 hG ma ra).1, fun k9 => by
    by_cases e : k9 = k
    · subst e; rw [q_up_same]; exact hx
    · rw [q_up_ne _ _ e]; exact (g_65 hG ma ra).2 k9⟩)
theorem g_66 (hG : q_G ρ L m S0 S) (ma : a ∈ L) (ra : ρ a = 66) : (q_N S a) = 8 ∧ (∀ k, (0 ≤ ((q_I S a) k).toInt ∧ ((q_I S a) k).toInt ≤ 120)) := by
  have h := (hG.1.2.1 a ma).2
  rw [ra] at h
  exact h
theorem g_66_N (hG : q_G ρ L m S0 S) (ma : a ∈ L) (ra : ρ a = 66) : (q_N S a) = 8 := (g_66 hG ma ra).1
theorem g_66_E (hG : q_G ρ L m S0 S) (ma : a ∈ L) (ra : ρ a = 66) {k : Nat} : (0 ≤ ((q_I S a) k).toInt ∧ ((q_I S a) k).toInt ≤ 120) := (g_66 hG ma ra).2 k
theorem u_66_E {k : Nat} {x : Int32} (hG : q_G ρ L m S0 S) (ma : a ∈ L) (ra : ρ a = 66) (hm : m.contains (q_ar 66 0) = true) (hx : (0 ≤ x.toInt ∧ x.toInt ≤ 120)) : q_G ρ L m S0 (q_sI S a k x) := q_G_sI hG ma ra hm (q_E1_sI hG ra rfl rfl) (⟨(g_66 hG ma ra).1, fun k9 => by
    by_cases e : k9 = k
    · subst e; rw [q_up_same]; exact hx
    · rw [q_up_ne _ _ e]; exact (g_66 hG ma ra).2 k9⟩)
theorem g_67 (hG : q_G ρ L m S0 S) (ma : a ∈ L) (ra : ρ a = 67) : (q_N S a) = 8 ∧ (∀ k, (0 ≤ ((q_I S a) k).toInt ∧ ((q_I S a) k).toInt ≤ 65535)) := by
  have h := (hG.1.2.1 a ma).2
  rw [ra] at h
  exact h
theorem g_67_N (hG : q_G ρ L m S0 S) (ma : a ∈ L) (ra : ρ a = 67) : (q_N S a) = 8 := (g_67 hG ma ra).1
theorem g_67_E (hG : q_G ρ L m S0 S) (ma : a ∈ L) (ra : ρ a = 67) {k : Nat} : (0 ≤ ((q_I S a) k).toInt ∧ ((q_I S a) k).toInt ≤ 65535) := (g_67 hG ma ra).2 k
theorem u_67_E {k : Nat} {x : Int32} (hG : q_G ρ L m S0 S) (ma : a ∈ L) (ra : ρ a = 67) (hm : m.contains (q_ar 67 0) = true) (hx : (0 ≤ x.toInt ∧ x.toInt ≤ 65535)) : q_G ρ L m S0 (q_sI S a k x) := q_G_sI hG ma ra hm (q_E1_sI hG ra rfl rfl) (⟨(g_67 hG ma ra).1, fun k9 => by
    by_cases e : k9 = k
    · subst e; rw [q_up_same]; exact hx
    · rw [q_up_ne _ _ e]; exact (g_67 hG ma ra).2 k9⟩)
theorem g_68 (hG : q_G ρ L m S0 S) (ma : a ∈ L) (ra : ρ a = 68) : (q_N S a) = 8 ∧ (∀ k, (-32768 ≤ ((q_I S a) k).toInt ∧ ((q_I S a) k).toInt ≤ 65535)) := by
  have h := (hG.1.2.1 a ma).2
  rw [ra] at h
  exact h
theorem g_68_N (hG : q_G ρ L m S0 S) (ma : a ∈ L) (ra : ρ a = 68) : (q_N S a) = 8 := (g_68 hG ma ra).1
theorem g_68_E (hG : q_G ρ L m S0 S) (ma : a ∈ L) (ra : ρ a = 68) {k : Nat} : (-32768 ≤ ((q_I S a) k).toInt ∧ ((q_I S a) k).toInt ≤ 65535) := (g_68 hG ma ra).2 k
theorem u_68_E {k : Nat} {x : Int32} (hG : q_G ρ L m S0 S) (ma : a ∈ L) (ra : ρ a = 68) (hm : m.contains (q_ar 68 0) = true) (hx : (-32768 ≤ x.toInt ∧ x.toInt ≤ 65535)) : q_G ρ L m S0 (q_sI S a k x) := q_G_sI hG ma ra hm (q_E1_sI hG ra rfl rfl) (⟨(g_68 hG ma ra).1, fun k9 => by
    by_cases e : k9 = k
    · subst e; rw [q_up_same]; exact hx
    · rw [q_up_ne _ _ e]; exact (g_68 hG ma ra).2 k9⟩)
theorem g_69 (hG : q_G ρ L m S0 S) (ma : a ∈ L) (ra : ρ a = 69) : (q_N S a) = 8 ∧ (∀ k, (-32768 ≤ ((q_I S a) k).toInt ∧ ((q_I S a) k).toInt ≤ 65535)) := by
  have h := (hG.1.2.1 a ma).2
  rw [ra] at h
  exact h
theorem g_69_N (hG : q_G ρ L m S0 S) (ma : a ∈ L) (ra : ρ a = 69) : (q_N S a) = 8 := (g_69 hG ma ra).1
theorem g_69_E (hG : q_G ρ L m S0 S) (ma : a ∈ L) (ra : ρ a = 69) {k : Nat} : (-32768 ≤ ((q_I S a) k).toInt ∧ ((q_I S a) k).toInt ≤ 65535) := (g_69 hG ma ra).2 k
theorem u_69_E {k : Nat} {x : Int32} (hG : q_G ρ L m S0 S) (ma : a ∈ L) (ra : ρ a = 69) (hm : m.contains (q_ar 69 0) = true) (hx : (-32768 ≤ x.toInt ∧ x.toInt ≤ 65535)) : q_G ρ L m S0 (q_sI S a k x) := q_G_sI hG ma ra hm (q_E1_sI hG ra rfl rfl) (⟨(g_69 hG ma ra).1, fun k9 => by
    by_cases e : k9 = k
    · subst e; rw [q_up_same]; exact hx
    · rw [q_up_ne _ _ e]; exact (g_69 hG ma ra).2 k9⟩)
theorem g_70 (hG : q_G ρ L m S0 S) (ma : a ∈ L) (ra : ρ a = 70) : (q_N S a) = 32 ∧ (∀ k, (-32768 ≤ ((q_I S a) k).toInt ∧ ((q_I S a) k).toInt ≤ 32767)) := by
  have h := (hG.1.2.1 a ma).2
  rw [ra] at h
  exact h
theorem g_70_N (hG : q_G ρ L m S0 S) (ma : a ∈ L) (ra : ρ a = 70) : (q_N S a) = 32 := (g_70 hG ma ra).1
theorem g_70_E (hG : q_G ρ L m S0 S) (ma : a ∈ L) (ra : ρ a = 70) {k : Nat} : (-32768 ≤ ((q_I S a) k).toInt ∧ ((q_I S a) k).toInt ≤ 32767) := (g_70 hG ma ra).2 k
theorem u_70_E {k : Nat} {x : Int32} (hG : q_G ρ L m S0 S) (ma : a ∈ L) (ra : ρ a = 70) (hm : m.contains (q_ar 70 0) = true) (hx : (-32768 ≤ x.toInt ∧ x.toInt ≤ 32767)) : q_G ρ L m S0 (q_sI S a k x) := q_G_sI hG ma ra hm (q_E1_sI hG ra rfl rfl) (⟨(g_70 hG ma ra).1, fun k9 => by
    by_cases e : k9 = k
    · subst e; rw [q_up_same]; exact hx
    · rw [q_up_ne _ _ e]; exact (g_70 hG ma ra).2 k9⟩)
theorem g_71 (hG : q_G ρ L m S0 S) (ma : a ∈ L) (ra : ρ a = 71) : (q_N S a) = 2000 := by
  have h := (hG.1.2.1 a ma).2
  rw [ra] at h
  exact h
theorem g_71_N (hG : q_G ρ L m S0 S) (ma : a ∈ L) (ra : ρ a = 71) : (q_N S a) = 2000 := (g_71 hG ma ra)
theorem u_71_E {k : Nat} {x : Int32} (hG : q_G ρ L m S0 S) (ma : a ∈ L) (ra : ρ a = 71) (hm : m.contains (q_ar 71 0) = true) : q_G ρ L m S0 (q_sI S a k x) := q_G_sI hG ma ra hm (q_E1_sI hG ra rfl rfl) ((g_71 hG ma ra))
theorem g_72 (hG : q_G ρ L m S0 S) (ma : a ∈ L) (ra : ρ a = 72) : (q_N S a) = 2400 ∧ (∀ k, (0 ≤ ((q_I S a) k).toInt ∧ ((q_I S a) k).toInt ≤ 255)) := by
  have h := (hG.1.2.1 a ma).2
  rw [ra] at h
  exact h
theorem g_72_N (hG : q_G ρ L m S0 S) (ma : a ∈ L) (ra : ρ a = 72) : (q_N S a) = 2400 := (g_72 hG ma ra).1
theorem g_72_E (hG : q_G ρ L m S0 S) (ma : a ∈ L) (ra : ρ a = 72) {k : Nat} : (0 ≤ ((q_I S a) k).toInt ∧ ((q_I S a) k).toInt ≤ 255) := (g_72 hG ma ra).2 k
theorem u_72_E {k : Nat} {x : Int32} (hG : q_G ρ L m S0 S) (ma : a ∈ L) (ra : ρ a = 72) (hm : m.contains (q_ar 72 0) = true) (hx : (0 ≤ x.toInt ∧ x.toInt ≤ 255)) : q_G ρ L m S0 (q_sI S a k x) := q_G_sI hG ma ra hm (q_E1_sI hG ra rfl rfl) (⟨(g_72 hG ma ra).1, fun k9 => by
    by_cases e : k9 = k
    · subst e; rw [q_up_same]; exact hx
    · rw [q_up_ne _ _ e]; exact (g_72 hG ma ra).2 k9⟩)
theorem g_73 (hG : q_G ρ L m S0 S) (ma : a ∈ L) (ra : ρ a = 73) : (q_N S a) = 24 ∧ (∀ k, (0 ≤ ((q_I S a) k).toInt ∧ ((q_I S a) k).toInt ≤ 23)) := by
  have h := (hG.1.2.1 a ma).2
  rw [ra] at h
  exact h
theorem g_73_N (hG : q_G ρ L m S0 S) (ma : a ∈ L) (ra : ρ a = 73) : (q_N S a) = 24 := (g_73 hG ma ra).1
theorem g_73_E (hG : q_G ρ L m S0 S) (ma : a ∈ L) (ra : ρ a = 73) {k : Nat} : (0 ≤ ((q_I S a) k).toInt ∧ ((q_I S a) k).toInt ≤ 23) := (g_73 hG ma ra).2 k
theorem u_73_E {k : Nat} {x : Int32} (hG : q_G ρ L m S0 S) (ma : a ∈ L) (ra : ρ a = 73) (hm : m.contains (q_ar 73 0) = true) (hx : (0 ≤ x.toInt ∧ x.toInt ≤ 23)) : q_G ρ L m S0 (q_sI S a k x) := q_G_sI hG ma ra hm (q_E1_sI hG ra rfl rfl) (⟨(g_73 hG ma ra).1, fun k9 => by
    by_cases e : k9 = k
    · subst e; rw [q_up_same]; exact hx
    · rw [q_up_ne _ _ e]; exact (g_73 hG ma ra).2 k9⟩)
theorem g_74 (hG : q_G ρ L m S0 S) (ma : a ∈ L) (ra : ρ a = 74) : (q_N S a) = 1 := by
  have h := (hG.1.2.1 a ma).2
  rw [ra] at h
  exact h
theorem g_74_N (hG : q_G ρ L m S0 S) (ma : a ∈ L) (ra : ρ a = 74) : (q_N S a) = 1 := (g_74 hG ma ra)
theorem u_74_E {k : Nat} {x : Int64} (hG : q_G ρ L m S0 S) (ma : a ∈ L) (ra : ρ a = 74) (hm : m.contains (q_ar 74 0) = true) : q_G ρ L m S0 (q_sJ S a k x) := q_G_sJ hG ma ra hm ((g_74 hG ma ra))
end QG
/-! numbers by names: q_eqv hides what a number is of from the arithmetic -/
def q_eqv (a v : Int) : Prop := a = v
def q_sm (p : Prop) : Prop := p
theorem q_ev (a : Int) : ∃ v, q_eqv a v := ⟨a, rfl⟩
theorem q_evr {a : Int} : q_eqv a a := rfl
section QV
variable {x y : Int32} {X Y : Int64} {v a b lo hi K9 B9 u w : Int}
theorem q_rVI (e : q_eqv x.toInt v) : -2147483648 ≤ v ∧ v ≤ 2147483647 := by rw [← show x.toInt = v from e]; exact q_rngI x
theorem q_rVJ (e : q_eqv X.toInt v) : -9223372036854775808 ≤ v ∧ v ≤ 9223372036854775807 := by rw [← show X.toInt = v from e]; exact q_rngJ X
theorem q_bV (e : q_eqv u v) (h : lo ≤ u ∧ u ≤ hi) : lo ≤ v ∧ v ≤ hi := by rw [← show u = v from e]; exact h
theorem q_oV (e : q_eqv u v) (h1 : lo ≤ v) (h2 : v ≤ hi) : lo ≤ u ∧ u ≤ hi := by rw [show u = v from e]; exact ⟨h1, h2⟩
theorem q_addVI (e : q_eqv (x + y).toInt v) (ex : q_eqv x.toInt a) (ey : q_eqv y.toInt b) (h1 : -2147483648 ≤ a + b) (h2 : a + b ≤ 2147483647) : v = a + b := (show (x + y).toInt = v from e).symm.trans (q_addXI ex ey h1 h2)
theorem q_subVI (e : q_eqv (x - y).toInt v) (ex : q_eqv x.toInt a) (ey : q_eqv y.toInt b) (h1 : -2147483648 ≤ a - b) (h2 : a - b ≤ 2147483647) : v = a - b := (show (x - y).toInt = v from e).symm.trans (q_subXI ex ey h1 h2)
theorem q_mulVI (e : q_eqv (x * y).toInt v) (ex : q_eqv x.toInt a) (ey : q_eqv y.toInt b) (h1 : -2147483648 ≤ a * b) (h2 : a * b ≤ 2147483647) : v = a * b := by
  rw [← show (x * y).toInt = v from e, ← show y.toInt = b from ey]; exact q_mulLI ex (by rw [show y.toInt = b from ey]; exact h1) (by rw [show y.toInt = b from ey]; exact h2)
theorem q_addVJ (e : q_eqv (X + Y).toInt v) (ex : q_eqv X.toInt a) (ey : q_eqv Y.toInt b) (h1 : -9223372036854775808 ≤ a + b) (h2 : a + b ≤ 9223372036854775807) : v = a + b := (show (X + Y).toInt = v from e).symm.trans (q_addXJ ex ey h1 h2)
theorem q_subVJ (e : q_eqv (X - Y).toInt v) (ex : q_eqv X.toInt a) (ey : q_eqv Y.toInt b) (h1 : -9223372036854775808 ≤ a - b) (h2 : a - b ≤ 9223372036854775807) : v = a - b := (show (X - Y).toInt = v from e).symm.trans (q_subXJ ex ey h1 h2)
theorem q_mulVJ (e : q_eqv (X * Y).toInt v) (ex : q_eqv X.toInt a) (ey : q_eqv Y.toInt b) (h1 : -9223372036854775808 ≤ a * b) (h2 : a * b ≤ 9223372036854775807) : v = a * b := by
  rw [← show (X * Y).toInt = v from e, ← show Y.toInt = b from ey]; exact q_mulLJ ex (by rw [show Y.toInt = b from ey]; exact h1) (by rw [show Y.toInt = b from ey]; exact h2)
theorem q_andRVI (e : q_eqv (x &&& y).toInt v) (ey : q_eqv y.toInt b) (h : 0 ≤ b) : 0 ≤ v ∧ v ≤ b := by
  rw [← show (x &&& y).toInt = v from e, ← show y.toInt = b from ey]; exact q_andRI (by rw [show y.toInt = b from ey]; exact h)
theorem q_andLVI (e : q_eqv (x &&& y).toInt v) (ex : q_eqv x.toInt a) (h : 0 ≤ a) : 0 ≤ v ∧ v ≤ a := by
  rw [← show (x &&& y).toInt = v from e, ← show x.toInt = a from ex]; exact q_andLI (by rw [show x.toInt = a from ex]; exact h)
theorem q_andRVJ (e : q_eqv (X &&& Y).toInt v) (ey : q_eqv Y.toInt b) (h : 0 ≤ b) : 0 ≤ v ∧ v ≤ b := by
  rw [← show (X &&& Y).toInt = v from e, ← show Y.toInt = b from ey]; exact q_andRJ (by rw [show Y.toInt = b from ey]; exact h)
theorem q_andLVJ (e : q_eqv (X &&& Y).toInt v) (ex : q_eqv X.toInt a) (h : 0 ≤ a) : 0 ≤ v ∧ v ≤ a := by
  rw [← show (X &&& Y).toInt = v from e, ← show X.toInt = a from ex]; exact q_andLJ (by rw [show X.toInt = a from ex]; exact h)
theorem q_orVI (c M9 : Nat) (hM : 2 ^ c = M9) (hm : M9 ≤ 2147483648) (e : q_eqv (x ||| y).toInt v) (ex : q_eqv x.toInt a) (ey : q_eqv y.toInt b) (h1 : 0 ≤ a) (h2 : a < M9) (h3 : 0 ≤ b) (h4 : b < M9) : 0 ≤ v ∧ v < M9 := by
  have ex : x.toInt = a := ex
  have ey : y.toInt = b := ey
  rw [← show (x ||| y).toInt = v from e]; subst ex; subst ey; exact q_orI c M9 hM hm h1 h2 h3 h4
theorem q_orVJ (c M9 : Nat) (hM : 2 ^ c = M9) (hm : M9 ≤ 9223372036854775808) (e : q_eqv (X ||| Y).toInt v) (ex : q_eqv X.toInt a) (ey : q_eqv Y.toInt b) (h1 : 0 ≤ a) (h2 : a < M9) (h3 : 0 ≤ b) (h4 : b < M9) : 0 ≤ v ∧ v < M9 := by
  have ex : X.toInt = a := ex
  have ey : Y.toInt = b := ey
  rw [← show (X ||| Y).toInt = v from e]; subst ex; subst ey; exact q_orJ c M9 hM hm h1 h2 h3 h4
theorem q_shlVI (c M9 : Nat) (hc : (y.toBitVec.smod 32).toNat = c) (hM : 2 ^ c = M9) (e : q_eqv (x <<< y).toInt v) (ex : q_eqv x.toInt a) (h0 : 0 ≤ a) (h1 : a * M9 ≤ 2147483647) : v = a * M9 := by
  have ex : x.toInt = a := ex
  rw [← show (x <<< y).toInt = v from e]; subst ex; exact q_shlI c M9 hc hM h0 h1
theorem q_shlVJ (c M9 : Nat) (hc : (Y.toBitVec.smod 64).toNat = c) (hM : 2 ^ c = M9) (e : q_eqv (X <<< Y).toInt v) (ex : q_eqv X.toInt a) (h0 : 0 ≤ a) (h1 : a * M9 ≤ 9223372036854775807) : v = a * M9 := by
  have ex : X.toInt = a := ex
  rw [← show (X <<< Y).toInt = v from e]; subst ex; exact q_shlJ c M9 hc hM h0 h1
theorem q_divVI (c : Nat) (hc : y.toInt = c) (hp : 0 < c) (e : q_eqv (x / y).toInt v) (ex : q_eqv x.toInt a) (h0 : 0 ≤ a) : v = a / c := by
  have ex : x.toInt = a := ex
  rw [← show (x / y).toInt = v from e]; subst ex; exact q_divI c hc hp h0
theorem q_divVJ (c : Nat) (hc : Y.toInt = c) (hp : 0 < c) (e : q_eqv (X / Y).toInt v) (ex : q_eqv X.toInt a) (h0 : 0 ≤ a) : v = a / c := by
  have ex : X.toInt = a := ex
  rw [← show (X / Y).toInt = v from e]; subst ex; exact q_divJ c hc hp h0
theorem q_i2lV (e : q_eqv x.toInt64.toInt v) (ex : q_eqv x.toInt a) : v = a := by
  rw [← show x.toInt64.toInt = v from e, ← show x.toInt = a from ex]; exact q_wil x
theorem q_l2iV (e : q_eqv X.toInt32.toInt v) (ex : q_eqv X.toInt a) (h1 : -2147483648 ≤ a) (h2 : a ≤ 2147483647) : v = a := by
  have ex : X.toInt = a := ex
  rw [← show X.toInt32.toInt = v from e]; subst ex; exact q_wli h1 h2
theorem q_narV (e : q_eqv (vp_nar .boolean x).toInt v) (ex : q_eqv x.toInt a) (h1 : 0 ≤ a) (h2 : a ≤ 1) : v = a := by
  have ex : x.toInt = a := ex
  rw [← show (vp_nar .boolean x).toInt = v from e]; subst ex; exact q_narB h1 h2
theorem q_eqVI (en : x = y) (e : q_eqv x.toInt v) (ey : q_eqv y.toInt b) : v = b := by
  rw [← show x.toInt = v from e, ← show y.toInt = b from ey, en]
theorem q_eqVJ (en : X = Y) (e : q_eqv X.toInt v) (ey : q_eqv Y.toInt b) : v = b := by
  rw [← show X.toInt = v from e, ← show Y.toInt = b from ey, en]
theorem q_lenV {S : q_S} {c n : Nat} (e : q_eqv (nI (q_N S c)).toInt v) (hN : q_N S c = n) (h : decide (n ≤ 2147483647) = true) : v = n := by
  rw [← show (nI (q_N S c)).toInt = v from e]; exact q_lenI hN h
theorem q_ltV (ex : q_eqv u a) (ey : q_eqv w b) (h : u < w) : a < b := by rw [← show u = a from ex, ← show w = b from ey]; exact h
theorem q_leV (ex : q_eqv u a) (ey : q_eqv w b) (h : u ≤ w) : a ≤ b := by rw [← show u = a from ex, ← show w = b from ey]; exact h
theorem q_eqV (ex : q_eqv u a) (ey : q_eqv w b) (h : u = w) : a = b := by rw [← show u = a from ex, ← show w = b from ey]; exact h
theorem q_neV (ex : q_eqv u a) (ey : q_eqv w b) (h : u ≠ w) : a ≠ b := by rw [← show u = a from ex, ← show w = b from ey]; exact h
theorem q_inV {S : q_S} {c n : Nat} (hN : q_N S c = n) (e : q_eqv x.toInt v) (h1 : 0 ≤ v) (h2 : v < n) : q_in x (q_N S c) = true := q_inI hN (by rw [show x.toInt = v from e]; exact h1) (by rw [show x.toInt = v from e]; exact h2)
theorem q_idxV {n : Nat} (e : q_eqv x.toInt v) (h1 : 0 ≤ v) (h2 : v < n) : x.toNatClampNeg < n := q_idx (by rw [show x.toInt = v from e]; exact h1) (by rw [show x.toInt = v from e]; exact h2)
theorem q_idxK {n : Nat} (e : q_eqv x.toInt v) (h : v = n) : x.toNatClampNeg = n := by
  have h1 : x.toInt = v := e
  have h2 : x.toNatClampNeg = x.toInt.toNat := rfl
  rw [h2, h1, h]; rfl
theorem q_ne0VI (e : q_eqv x.toInt v) (h : v ≠ 0) : ¬ x = 0 := q_ne0I (by rw [show x.toInt = v from e]; exact h)
theorem q_ne0VJ (e : q_eqv X.toInt v) (h : v ≠ 0) : ¬ X = 0 := q_ne0J (by rw [show X.toInt = v from e]; exact h)
theorem q_b01V (e : q_eqv x.toInt v) (h1 : 0 ≤ v) (h2 : v ≤ 1) : x = 0 ∨ x = 1 := q_b01 (by rw [show x.toInt = v from e]; exact h1) (by rw [show x.toInt = v from e]; exact h2)
theorem q_upV (e : q_eqv u v) (h : K9 - v ≤ B9) : K9 - u ≤ B9 := by rw [show u = v from e]; exact h
theorem q_dnV (e : q_eqv u v) (h : v + K9 ≤ B9) : u + K9 ≤ B9 := by rw [show u = v from e]; exact h
theorem q_upVl (e : q_eqv u v) (h : K9 - v < B9) : K9 - u < B9 := by rw [show u = v from e]; exact h
theorem q_dnVl (e : q_eqv u v) (h : v + K9 < B9) : u + K9 < B9 := by rw [show u = v from e]; exact h
end QV
section QVW
variable {v a b u w : Int} {r : Int}
theorem q_ltW (ex : q_eqv u a) (ey : q_eqv w b) (h : a < b) : u < w := by rw [show u = a from ex, show w = b from ey]; exact h
theorem q_leW (ex : q_eqv u a) (ey : q_eqv w b) (h : a ≤ b) : u ≤ w := by rw [show u = a from ex, show w = b from ey]; exact h
theorem q_gtW (ex : q_eqv u a) (ey : q_eqv w b) (h : b < a) : w < u := by rw [show u = a from ex, show w = b from ey]; exact h
theorem q_geW (ex : q_eqv u a) (ey : q_eqv w b) (h : b ≤ a) : w ≤ u := by rw [show u = a from ex, show w = b from ey]; exact h
theorem q_eqW (ex : q_eqv u a) (ey : q_eqv w b) (h : a = b) : u = w := by rw [show u = a from ex, show w = b from ey]; exact h
theorem q_neW (ex : q_eqv u a) (ey : q_eqv w b) (h : a ≠ b) : u ≠ w := by rw [show u = a from ex, show w = b from ey]; exact h
theorem q_mmVN (ex : q_eqv u a) (ey : q_eqv w b) (h : (r = u ∨ r = w) ∧ r ≤ u ∧ r ≤ w) : (r = a ∨ r = b) ∧ r ≤ a ∧ r ≤ b := by rw [show u = a from ex, show w = b from ey] at h; exact h
theorem q_mmVX (ex : q_eqv u a) (ey : q_eqv w b) (h : (r = u ∨ r = w) ∧ u ≤ r ∧ w ≤ r) : (r = a ∨ r = b) ∧ a ≤ r ∧ b ≤ r := by rw [show u = a from ex, show w = b from ey] at h; exact h
end QVW
theorem q_trk {r : Option Nat} {c : Nat} {Q : Nat → Prop} (e : r = some c) (h : Q c) : ∀ a, r = some a → Q a := fun a e9 => by
  cases Option.some.inj (e.symm.trans e9); exact h
theorem q_leT {u w z a b c K9 : Int} (e1 : q_eqv u a) (e0 : q_eqv w b) (ec : q_eqv z c) (h : a ≤ b + K9 * c) : u ≤ w + K9 * z := by
  rw [show u = a from e1, show w = b from e0, show z = c from ec]; exact h
theorem q_leA {u z a c K9 B9 : Int} (e1 : q_eqv u a) (ec : q_eqv z c) (h : a ≤ B9 + K9 * c) : u ≤ B9 + K9 * z := by
  rw [show u = a from e1, show z = c from ec]; exact h
theorem q_leD {u w a b K9 : Int} (e1 : q_eqv u a) (e0 : q_eqv w b) (h : a ≤ b + K9) : u ≤ w + K9 := by
  rw [show u = a from e1, show w = b from e0]; exact h
theorem q_leC {u a K9 : Int} (e1 : q_eqv u a) (h : a ≤ K9) : u ≤ K9 := by
  rw [show u = a from e1]; exact h
theorem q_leTv {u w z a b c K9 : Int} (e1 : q_eqv u a) (e0 : q_eqv w b) (ec : q_eqv z c) (h : u ≤ w + K9 * z) : a ≤ b + K9 * c := by
  rw [← show u = a from e1, ← show w = b from e0, ← show z = c from ec]; exact h
theorem q_leAv {u z a c K9 B9 : Int} (e1 : q_eqv u a) (ec : q_eqv z c) (h : u ≤ B9 + K9 * z) : a ≤ B9 + K9 * c := by
  rw [← show u = a from e1, ← show z = c from ec]; exact h
theorem q_leDv {u w a b K9 : Int} (e1 : q_eqv u a) (e0 : q_eqv w b) (h : u ≤ w + K9) : a ≤ b + K9 := by
  rw [← show u = a from e1, ← show w = b from e0]; exact h
theorem q_leCv {u a K9 : Int} (e1 : q_eqv u a) (h : u ≤ K9) : a ≤ K9 := by
  rw [← show u = a from e1]; exact h
theorem q_le3 {u w z a b c K9 E9 : Int} (e1 : q_eqv u a) (e0 : q_eqv w b) (ec : q_eqv z c) (h : a ≤ b + K9 * c + E9) : u ≤ w + K9 * z + E9 := by
  rw [show u = a from e1, show w = b from e0, show z = c from ec]; exact h
theorem q_le3v {u w z a b c K9 E9 : Int} (e1 : q_eqv u a) (e0 : q_eqv w b) (ec : q_eqv z c) (h : u ≤ w + K9 * z + E9) : a ≤ b + K9 * c + E9 := by
  rw [← show u = a from e1, ← show w = b from e0, ← show z = c from ec]; exact h
theorem q_trk2 {r : Option Nat} {a0 b0 : Nat} {f : Nat → Option Nat} {Q : Nat → Prop} (ea : r = some a0) (eb : f a0 = some b0) (h : Q b0) : ∀ a b, r = some a → f a = some b → Q b := fun a b e1 e2 => by
  cases Option.some.inj (ea.symm.trans e1)
  cases Option.some.inj (eb.symm.trans e2)
  exact h
theorem q_to1 {t0 v0 : Int} (φ : Int → Prop) (e0 : q_eqv t0 v0) (h : φ t0) : φ v0 := by rw [← show t0 = v0 from e0]; exact h
theorem q_bw1 {t0 v0 : Int} (φ : Int → Prop) (e0 : q_eqv t0 v0) (h : φ v0) : φ t0 := by rw [show t0 = v0 from e0]; exact h
theorem q_to2 {t0 t1 v0 v1 : Int} (φ : Int → Int → Prop) (e0 : q_eqv t0 v0) (e1 : q_eqv t1 v1) (h : φ t0 t1) : φ v0 v1 := by rw [← show t0 = v0 from e0, ← show t1 = v1 from e1]; exact h
theorem q_bw2 {t0 t1 v0 v1 : Int} (φ : Int → Int → Prop) (e0 : q_eqv t0 v0) (e1 : q_eqv t1 v1) (h : φ v0 v1) : φ t0 t1 := by rw [show t0 = v0 from e0, show t1 = v1 from e1]; exact h
theorem q_to3 {t0 t1 t2 v0 v1 v2 : Int} (φ : Int → Int → Int → Prop) (e0 : q_eqv t0 v0) (e1 : q_eqv t1 v1) (e2 : q_eqv t2 v2) (h : φ t0 t1 t2) : φ v0 v1 v2 := by rw [← show t0 = v0 from e0, ← show t1 = v1 from e1, ← show t2 = v2 from e2]; exact h
theorem q_bw3 {t0 t1 t2 v0 v1 v2 : Int} (φ : Int → Int → Int → Prop) (e0 : q_eqv t0 v0) (e1 : q_eqv t1 v1) (e2 : q_eqv t2 v2) (h : φ v0 v1 v2) : φ t0 t1 t2 := by rw [show t0 = v0 from e0, show t1 = v1 from e1, show t2 = v2 from e2]; exact h
theorem q_to4 {t0 t1 t2 t3 v0 v1 v2 v3 : Int} (φ : Int → Int → Int → Int → Prop) (e0 : q_eqv t0 v0) (e1 : q_eqv t1 v1) (e2 : q_eqv t2 v2) (e3 : q_eqv t3 v3) (h : φ t0 t1 t2 t3) : φ v0 v1 v2 v3 := by rw [← show t0 = v0 from e0, ← show t1 = v1 from e1, ← show t2 = v2 from e2, ← show t3 = v3 from e3]; exact h
theorem q_bw4 {t0 t1 t2 t3 v0 v1 v2 v3 : Int} (φ : Int → Int → Int → Int → Prop) (e0 : q_eqv t0 v0) (e1 : q_eqv t1 v1) (e2 : q_eqv t2 v2) (e3 : q_eqv t3 v3) (h : φ v0 v1 v2 v3) : φ t0 t1 t2 t3 := by rw [show t0 = v0 from e0, show t1 = v1 from e1, show t2 = v2 from e2, show t3 = v3 from e3]; exact h
theorem q_to5 {t0 t1 t2 t3 t4 v0 v1 v2 v3 v4 : Int} (φ : Int → Int → Int → Int → Int → Prop) (e0 : q_eqv t0 v0) (e1 : q_eqv t1 v1) (e2 : q_eqv t2 v2) (e3 : q_eqv t3 v3) (e4 : q_eqv t4 v4) (h : φ t0 t1 t2 t3 t4) : φ v0 v1 v2 v3 v4 := by rw [← show t0 = v0 from e0, ← show t1 = v1 from e1, ← show t2 = v2 from e2, ← show t3 = v3 from e3, ← show t4 = v4 from e4]; exact h
theorem q_bw5 {t0 t1 t2 t3 t4 v0 v1 v2 v3 v4 : Int} (φ : Int → Int → Int → Int → Int → Prop) (e0 : q_eqv t0 v0) (e1 : q_eqv t1 v1) (e2 : q_eqv t2 v2) (e3 : q_eqv t3 v3) (e4 : q_eqv t4 v4) (h : φ v0 v1 v2 v3 v4) : φ t0 t1 t2 t3 t4 := by rw [show t0 = v0 from e0, show t1 = v1 from e1, show t2 = v2 from e2, show t3 = v3 from e3, show t4 = v4 from e4]; exact h
theorem q_to6 {t0 t1 t2 t3 t4 t5 v0 v1 v2 v3 v4 v5 : Int} (φ : Int → Int → Int → Int → Int → Int → Prop) (e0 : q_eqv t0 v0) (e1 : q_eqv t1 v1) (e2 : q_eqv t2 v2) (e3 : q_eqv t3 v3) (e4 : q_eqv t4 v4) (e5 : q_eqv t5 v5) (h : φ t0 t1 t2 t3 t4 t5) : φ v0 v1 v2 v3 v4 v5 := by rw [← show t0 = v0 from e0, ← show t1 = v1 from e1, ← show t2 = v2 from e2, ← show t3 = v3 from e3, ← show t4 = v4 from e4, ← show t5 = v5 from e5]; exact h
theorem q_bw6 {t0 t1 t2 t3 t4 t5 v0 v1 v2 v3 v4 v5 : Int} (φ : Int → Int → Int → Int → Int → Int → Prop) (e0 : q_eqv t0 v0) (e1 : q_eqv t1 v1) (e2 : q_eqv t2 v2) (e3 : q_eqv t3 v3) (e4 : q_eqv t4 v4) (e5 : q_eqv t5 v5) (h : φ v0 v1 v2 v3 v4 v5) : φ t0 t1 t2 t3 t4 t5 := by rw [show t0 = v0 from e0, show t1 = v1 from e1, show t2 = v2 from e2, show t3 = v3 from e3, show t4 = v4 from e4, show t5 = v5 from e5]; exact h
theorem q_to7 {t0 t1 t2 t3 t4 t5 t6 v0 v1 v2 v3 v4 v5 v6 : Int} (φ : Int → Int → Int → Int → Int → Int → Int → Prop) (e0 : q_eqv t0 v0) (e1 : q_eqv t1 v1) (e2 : q_eqv t2 v2) (e3 : q_eqv t3 v3) (e4 : q_eqv t4 v4) (e5 : q_eqv t5 v5) (e6 : q_eqv t6 v6) (h : φ t0 t1 t2 t3 t4 t5 t6) : φ v0 v1 v2 v3 v4 v5 v6 := by rw [← show t0 = v0 from e0, ← show t1 = v1 from e1, ← show t2 = v2 from e2, ← show t3 = v3 from e3, ← show t4 = v4 from e4, ← show t5 = v5 from e5, ← show t6 = v6 from e6]; exact h
theorem q_bw7 {t0 t1 t2 t3 t4 t5 t6 v0 v1 v2 v3 v4 v5 v6 : Int} (φ : Int → Int → Int → Int → Int → Int → Int → Prop) (e0 : q_eqv t0 v0) (e1 : q_eqv t1 v1) (e2 : q_eqv t2 v2) (e3 : q_eqv t3 v3) (e4 : q_eqv t4 v4) (e5 : q_eqv t5 v5) (e6 : q_eqv t6 v6) (h : φ v0 v1 v2 v3 v4 v5 v6) : φ t0 t1 t2 t3 t4 t5 t6 := by rw [show t0 = v0 from e0, show t1 = v1 from e1, show t2 = v2 from e2, show t3 = v3 from e3, show t4 = v4 from e4, show t5 = v5 from e5, show t6 = v6 from e6]; exact h
theorem q_to8 {t0 t1 t2 t3 t4 t5 t6 t7 v0 v1 v2 v3 v4 v5 v6 v7 : Int} (φ : Int → Int → Int → Int → Int → Int → Int → Int → Prop) (e0 : q_eqv t0 v0) (e1 : q_eqv t1 v1) (e2 : q_eqv t2 v2) (e3 : q_eqv t3 v3) (e4 : q_eqv t4 v4) (e5 : q_eqv t5 v5) (e6 : q_eqv t6 v6) (e7 : q_eqv t7 v7) (h : φ t0 t1 t2 t3 t4 t5 t6 t7) : φ v0 v1 v2 v3 v4 v5 v6 v7 := by rw [← show t0 = v0 from e0, ← show t1 = v1 from e1, ← show t2 = v2 from e2, ← show t3 = v3 from e3, ← show t4 = v4 from e4, ← show t5 = v5 from e5, ← show t6 = v6 from e6, ← show t7 = v7 from e7]; exact h
theorem q_bw8 {t0 t1 t2 t3 t4 t5 t6 t7 v0 v1 v2 v3 v4 v5 v6 v7 : Int} (φ : Int → Int → Int → Int → Int → Int → Int → Int → Prop) (e0 : q_eqv t0 v0) (e1 : q_eqv t1 v1) (e2 : q_eqv t2 v2) (e3 : q_eqv t3 v3) (e4 : q_eqv t4 v4) (e5 : q_eqv t5 v5) (e6 : q_eqv t6 v6) (e7 : q_eqv t7 v7) (h : φ v0 v1 v2 v3 v4 v5 v6 v7) : φ t0 t1 t2 t3 t4 t5 t6 t7 := by rw [show t0 = v0 from e0, show t1 = v1 from e1, show t2 = v2 from e2, show t3 = v3 from e3, show t4 = v4 from e4, show t5 = v5 from e5, show t6 = v6 from e6, show t7 = v7 from e7]; exact h
theorem q_to9 {t0 t1 t2 t3 t4 t5 t6 t7 t8 v0 v1 v2 v3 v4 v5 v6 v7 v8 : Int} (φ : Int → Int → Int → Int → Int → Int → Int → Int → Int → Prop) (e0 : q_eqv t0 v0) (e1 : q_eqv t1 v1) (e2 : q_eqv t2 v2) (e3 : q_eqv t3 v3) (e4 : q_eqv t4 v4) (e5 : q_eqv t5 v5) (e6 : q_eqv t6 v6) (e7 : q_eqv t7 v7) (e8 : q_eqv t8 v8) (h : φ t0 t1 t2 t3 t4 t5 t6 t7 t8) : φ v0 v1 v2 v3 v4 v5 v6 v7 v8 := by rw [← show t0 = v0 from e0, ← show t1 = v1 from e1, ← show t2 = v2 from e2, ← show t3 = v3 from e3, ← show t4 = v4 from e4, ← show t5 = v5 from e5, ← show t6 = v6 from e6, ← show t7 = v7 from e7, ← show t8 = v8 from e8]; exact h
theorem q_bw9 {t0 t1 t2 t3 t4 t5 t6 t7 t8 v0 v1 v2 v3 v4 v5 v6 v7 v8 : Int} (φ : Int → Int → Int → Int → Int → Int → Int → Int → Int → Prop) (e0 : q_eqv t0 v0) (e1 : q_eqv t1 v1) (e2 : q_eqv t2 v2) (e3 : q_eqv t3 v3) (e4 : q_eqv t4 v4) (e5 : q_eqv t5 v5) (e6 : q_eqv t6 v6) (e7 : q_eqv t7 v7) (e8 : q_eqv t8 v8) (h : φ v0 v1 v2 v3 v4 v5 v6 v7 v8) : φ t0 t1 t2 t3 t4 t5 t6 t7 t8 := by rw [show t0 = v0 from e0, show t1 = v1 from e1, show t2 = v2 from e2, show t3 = v3 from e3, show t4 = v4 from e4, show t5 = v5 from e5, show t6 = v6 from e6, show t7 = v7 from e7, show t8 = v8 from e8]; exact h
theorem q_to10 {t0 t1 t2 t3 t4 t5 t6 t7 t8 t9 v0 v1 v2 v3 v4 v5 v6 v7 v8 v9 : Int} (φ : Int → Int → Int → Int → Int → Int → Int → Int → Int → Int → Prop) (e0 : q_eqv t0 v0) (e1 : q_eqv t1 v1) (e2 : q_eqv t2 v2) (e3 : q_eqv t3 v3) (e4 : q_eqv t4 v4) (e5 : q_eqv t5 v5) (e6 : q_eqv t6 v6) (e7 : q_eqv t7 v7) (e8 : q_eqv t8 v8) (e9 : q_eqv t9 v9) (h : φ t0 t1 t2 t3 t4 t5 t6 t7 t8 t9) : φ v0 v1 v2 v3 v4 v5 v6 v7 v8 v9 := by rw [← show t0 = v0 from e0, ← show t1 = v1 from e1, ← show t2 = v2 from e2, ← show t3 = v3 from e3, ← show t4 = v4 from e4, ← show t5 = v5 from e5, ← show t6 = v6 from e6, ← show t7 = v7 from e7, ← show t8 = v8 from e8, ← show t9 = v9 from e9]; exact h
theorem q_bw10 {t0 t1 t2 t3 t4 t5 t6 t7 t8 t9 v0 v1 v2 v3 v4 v5 v6 v7 v8 v9 : Int} (φ : Int → Int → Int → Int → Int → Int → Int → Int → Int → Int → Prop) (e0 : q_eqv t0 v0) (e1 : q_eqv t1 v1) (e2 : q_eqv t2 v2) (e3 : q_eqv t3 v3) (e4 : q_eqv t4 v4) (e5 : q_eqv t5 v5) (e6 : q_eqv t6 v6) (e7 : q_eqv t7 v7) (e8 : q_eqv t8 v8) (e9 : q_eqv t9 v9) (h : φ v0 v1 v2 v3 v4 v5 v6 v7 v8 v9) : φ t0 t1 t2 t3 t4 t5 t6 t7 t8 t9 := by rw [show t0 = v0 from e0, show t1 = v1 from e1, show t2 = v2 from e2, show t3 = v3 from e3, show t4 = v4 from e4, show t5 = v5 from e5, show t6 = v6 from e6, show t7 = v7 from e7, show t8 = v8 from e8, show t9 = v9 from e9]; exact h
theorem q_to11 {t0 t1 t2 t3 t4 t5 t6 t7 t8 t9 t10 v0 v1 v2 v3 v4 v5 v6 v7 v8 v9 v10 : Int} (φ : Int → Int → Int → Int → Int → Int → Int → Int → Int → Int → Int → Prop) (e0 : q_eqv t0 v0) (e1 : q_eqv t1 v1) (e2 : q_eqv t2 v2) (e3 : q_eqv t3 v3) (e4 : q_eqv t4 v4) (e5 : q_eqv t5 v5) (e6 : q_eqv t6 v6) (e7 : q_eqv t7 v7) (e8 : q_eqv t8 v8) (e9 : q_eqv t9 v9) (e10 : q_eqv t10 v10) (h : φ t0 t1 t2 t3 t4 t5 t6 t7 t8 t9 t10) : φ v0 v1 v2 v3 v4 v5 v6 v7 v8 v9 v10 := by rw [← show t0 = v0 from e0, ← show t1 = v1 from e1, ← show t2 = v2 from e2, ← show t3 = v3 from e3, ← show t4 = v4 from e4, ← show t5 = v5 from e5, ← show t6 = v6 from e6, ← show t7 = v7 from e7, ← show t8 = v8 from e8, ← show t9 = v9 from e9, ← show t10 = v10 from e10]; exact h
theorem q_bw11 {t0 t1 t2 t3 t4 t5 t6 t7 t8 t9 t10 v0 v1 v2 v3 v4 v5 v6 v7 v8 v9 v10 : Int} (φ : Int → Int → Int → Int → Int → Int → Int → Int → Int → Int → Int → Prop) (e0 : q_eqv t0 v0) (e1 : q_eqv t1 v1) (e2 : q_eqv t2 v2) (e3 : q_eqv t3 v3) (e4 : q_eqv t4 v4) (e5 : q_eqv t5 v5) (e6 : q_eqv t6 v6) (e7 : q_eqv t7 v7) (e8 : q_eqv t8 v8) (e9 : q_eqv t9 v9) (e10 : q_eqv t10 v10) (h : φ v0 v1 v2 v3 v4 v5 v6 v7 v8 v9 v10) : φ t0 t1 t2 t3 t4 t5 t6 t7 t8 t9 t10 := by rw [show t0 = v0 from e0, show t1 = v1 from e1, show t2 = v2 from e2, show t3 = v3 from e3, show t4 = v4 from e4, show t5 = v5 from e5, show t6 = v6 from e6, show t7 = v7 from e7, show t8 = v8 from e8, show t9 = v9 from e9, show t10 = v10 from e10]; exact h
theorem q_to12 {t0 t1 t2 t3 t4 t5 t6 t7 t8 t9 t10 t11 v0 v1 v2 v3 v4 v5 v6 v7 v8 v9 v10 v11 : Int} (φ : Int → Int → Int → Int → Int → Int → Int → Int → Int → Int → Int → Int → Prop) (e0 : q_eqv t0 v0) (e1 : q_eqv t1 v1) (e2 : q_eqv t2 v2) (e3 : q_eqv t3 v3) (e4 : q_eqv t4 v4) (e5 : q_eqv t5 v5) (e6 : q_eqv t6 v6) (e7 : q_eqv t7 v7) (e8 : q_eqv t8 v8) (e9 : q_eqv t9 v9) (e10 : q_eqv t10 v10) (e11 : q_eqv t11 v11) (h : φ t0 t1 t2 t3 t4 t5 t6 t7 t8 t9 t10 t11) : φ v0 v1 v2 v3 v4 v5 v6 v7 v8 v9 v10 v11 := by rw [← show t0 = v0 from e0, ← show t1 = v1 from e1, ← show t2 = v2 from e2, ← show t3 = v3 from e3, ← show t4 = v4 from e4, ← show t5 = v5 from e5, ← show t6 = v6 from e6, ← show t7 = v7 from e7, ← show t8 = v8 from e8, ← show t9 = v9 from e9, ← show t10 = v10 from e10, ← show t11 = v11 from e11]; exact h
theorem q_bw12 {t0 t1 t2 t3 t4 t5 t6 t7 t8 t9 t10 t11 v0 v1 v2 v3 v4 v5 v6 v7 v8 v9 v10 v11 : Int} (φ : Int → Int → Int → Int → Int → Int → Int → Int → Int → Int → Int → Int → Prop) (e0 : q_eqv t0 v0) (e1 : q_eqv t1 v1) (e2 : q_eqv t2 v2) (e3 : q_eqv t3 v3) (e4 : q_eqv t4 v4) (e5 : q_eqv t5 v5) (e6 : q_eqv t6 v6) (e7 : q_eqv t7 v7) (e8 : q_eqv t8 v8) (e9 : q_eqv t9 v9) (e10 : q_eqv t10 v10) (e11 : q_eqv t11 v11) (h : φ v0 v1 v2 v3 v4 v5 v6 v7 v8 v9 v10 v11) : φ t0 t1 t2 t3 t4 t5 t6 t7 t8 t9 t10 t11 := by rw [show t0 = v0 from e0, show t1 = v1 from e1, show t2 = v2 from e2, show t3 = v3 from e3, show t4 = v4 from e4, show t5 = v5 from e5, show t6 = v6 from e6, show t7 = v7 from e7, show t8 = v8 from e8, show t9 = v9 from e9, show t10 = v10 from e10, show t11 = v11 from e11]; exact h
theorem q_smE {p : Prop} (h : q_sm p) : p := h
theorem q_smI {p : Prop} (h : p) : q_sm p := h
/-- an element of the row in a field -/
def q_fE (S : q_S) (o j k : Nat) : Int32 := match q_R S o j with
  | some b => q_I S b k
  | none => 0
theorem q_fEe {S : q_S} {o j k b : Nat} (e : q_R S o j = some b) : q_fE S o j k = q_I S b k := by unfold q_fE; rw [e]
theorem q_remI {x y : Int32} (h0 : 0 ≤ x.toInt) (hb : 0 < y.toInt) : (x - x / y * y).toInt = x.toInt % y.toInt := by
  have h1 : (x / y).toInt = x.toInt / y.toInt := by
    rw [Int32.toInt_div, Int.tdiv_eq_ediv_of_nonneg h0]
    have hx := q_rngI x
    have h2 : 0 ≤ x.toInt / y.toInt := Int.ediv_nonneg h0 (Int.le_of_lt hb)
    have h3 : x.toInt / y.toInt ≤ x.toInt := Int.ediv_le_self _ h0
    exact q_bm (by omega) (by omega) rfl
  have h4 : 0 ≤ x.toInt % y.toInt := Int.emod_nonneg _ (by omega)
  have h6 := Int.emod_add_mul_ediv x.toInt y.toInt
  have h9 : 0 ≤ y.toInt * (x.toInt / y.toInt) := Int.mul_nonneg (by omega) (Int.ediv_nonneg h0 (by omega))
  have h5 : x.toInt % y.toInt ≤ x.toInt := by omega
  have hx := q_rngI x
  have h7 : (x / y * y).toInt = x.toInt - x.toInt % y.toInt := by
    rw [Int32.toInt_mul, h1]
    have h8 : x.toInt / y.toInt * y.toInt = x.toInt - x.toInt % y.toInt := by rw [Int.mul_comm]; omega
    rw [h8]
    exact q_bm (by omega) (by omega) rfl
  rw [q_subI (by rw [h7]; omega) (by rw [h7]; omega), h7]
  omega
theorem q_remVI {x y : Int32} {v a b : Int} (e : q_eqv (x - x / y * y).toInt v) (ex : q_eqv x.toInt a) (ey : q_eqv y.toInt b) (h0 : 0 ≤ a) (hb : 0 < b) : v = a % b := by
  have ex : x.toInt = a := ex
  have ey : y.toInt = b := ey
  rw [← show (x - x / y * y).toInt = v from e]; subst ex; subst ey; exact q_remI h0 hb
theorem q_remBI {x y : Int32} {v a b : Int} (e : q_eqv (x - x / y * y).toInt v) (ex : q_eqv x.toInt a) (ey : q_eqv y.toInt b) (h0 : 0 ≤ a) (hb : 0 < b) : 0 ≤ v ∧ v < b := by
  rw [q_remVI e ex ey h0 hb]
  exact ⟨Int.emod_nonneg _ (by omega), Int.emod_lt_of_pos _ hb⟩
theorem q_cgJ {S : q_S} {c : Nat} {x y : Int32} {a b u w : Int} (ex : q_eqv x.toInt a) (ey : q_eqv y.toInt b) (e1 : q_eqv (q_J S c x.toNatClampNeg).toInt u) (e2 : q_eqv (q_J S c y.toNatClampNeg).toInt w) : a = b → u = w := by
  intro h
  have h1 : x.toInt = y.toInt := (show x.toInt = a from ex).trans (h.trans (show y.toInt = b from ey).symm)
  have h2 : x = y := Int32.toInt_inj.mp h1
  subst h2
  exact (show (q_J S c x.toNatClampNeg).toInt = u from e1).symm.trans e2
/-- what find() answers -/
def q_fdl (f : Nat → Int64) (t : Int64) : Nat → Nat → Int32
  | 0, _ => -1
  | n + 1, i => if f i = t then Int32.ofNat i else q_fdl f t n (i + 1)
def q_fd (S : q_S) (o : Nat) (t : Int64) : Int32 := match q_R S o 4 with
  | some b => q_fdl (q_J S b) t (q_I S o 3).toInt.toNat 0
  | none => -1
section QD
variable {ρ : Nat → Nat} {L m : List Nat} {S S0 T : q_S} {a b k r r2 : Nat} {t : Int64} {x : Int32} {y : Int64}
theorem q_arA (h : (100 : Nat) ≤ q_kd r) : q_ar r k = 64 * r := by unfold q_ar; rw [if_neg (by omega)]
theorem q_unIA (g : q_G ρ L m S T) (ma : a ∈ L) (ra : ρ a = r) (hk : 100 ≤ q_kd r) (h : m.contains (64 * r) = false) : q_I T a k = q_I S a k := q_unI g ma ra (by rw [q_arA hk]; exact h)
theorem q_unJA (g : q_G ρ L m S T) (ma : a ∈ L) (ra : ρ a = r) (hk : 100 ≤ q_kd r) (h : m.contains (64 * r) = false) : q_J T a k = q_J S a k := q_unJ g ma ra (by rw [q_arA hk]; exact h)
theorem q_fdL (e : T = S) : q_fd T a t = q_fd S a t := by rw [e]
theorem q_fdK (h : (k == 3) = false) : q_fd (q_sI S a k x) a t = q_fd S a t := by
  unfold q_fd
  have h1 : q_I (q_sI S a k x) a 3 = q_I S a 3 := q_ffI (fun e => by subst e; cases h)
  rw [h1]
  rfl
theorem q_fdI (ra : ρ a = r) (rb : ρ b = r2) (h : r ≠ r2) : q_fd (q_sI S b k x) a t = q_fd S a t := by
  unfold q_fd
  rw [q_fwI ra rb h]
  rfl
theorem q_fdU (g : q_G ρ L m S T) (ma : a ∈ L) (ra : ρ a = 45) (h1 : m.contains (q_ar 45 3) = false) (h2 : m.contains (q_ar 45 4) = false) (h3 : m.contains (64 * 47) = false) : q_fd T a t = q_fd S a t := by
  obtain ⟨b, eb, mb, rb⟩ := g_45_R4 (m := m) (S0 := S) g ma ra
  have e2 : q_R S a 4 = some b := (q_unR g ma ra h2).symm.trans eb
  have h4 : q_J T b = q_J S b := funext fun i => q_unJA g mb rb (by decide) h3
  unfold q_fd
  rw [eb, e2]
  show q_fdl (q_J T b) t (q_I T a 3).toInt.toNat 0 = q_fdl (q_J S b) t (q_I S a 3).toInt.toNat 0
  rw [q_unI g ma ra h1, h4]
end QD

