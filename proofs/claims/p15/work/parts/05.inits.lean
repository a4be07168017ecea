/-! MAKING: new objects and rows come to the store; constructors by what must hold of the store behind them -/
def q_nw (S : q_S) (a kd n : Nat) : q_S := (S.1 ++ [a], va_up S.2.1 a kd, va_up S.2.2.1 a n, va_up S.2.2.2.1 a (fun _ => 0), va_up S.2.2.2.2.1 a (fun _ => 0), va_up S.2.2.2.2.2 a (fun _ => none))
/-- a class's fields as they are at first -/
def q_df (c : Nat) : List Value := (q_ft c).map (fun t => if t = 0 then Value.int 0 else if t = 1 then .long 0 else .null)
theorem q_up_same {α : Type} (f : Nat → α) (a : Nat) (x : α) : va_up f a x a = x := by unfold va_up; simp
theorem q_up_ne {α : Type} (f : Nat → α) {a b : Nat} (x : α) (h : b ≠ a) : va_up f a x b = f b := by unfold va_up; simp [h]
theorem q_nw_o {cy : Nat → ClassId} {S : q_S} {a kd n b : Nat} (h : b ≠ a) : q_c cy (q_nw S a kd n) b = q_c cy S b :=
  q_c_congr (q_up_ne _ _ h) (q_up_ne _ _ h) (q_up_ne _ _ h) (q_up_ne _ _ h) (q_up_ne _ _ h)
theorem q_nw_w {cy : Nat → ClassId} {S : q_S} {a kd n : Nat} {e : va_E} (hf : a ∉ q_L S) (he : q_c cy (q_nw S a kd n) a = e) : q_w cy S ++ [(a, e)] = q_w cy (q_nw S a kd n) := by
  unfold q_w va_pl
  show _ = List.map _ (q_L S ++ [a])
  rw [List.map_append, ← he]
  refine congrArg (fun z => z ++ [(a, q_c cy (q_nw S a kd n) a)]) ?_
  refine List.map_congr_left (fun b hb => ?_)
  have hne : b ≠ a := fun h => hf (by rw [← h]; exact hb)
  show (b, q_c cy S b) = (b, q_c cy (q_nw S a kd n) b)
  rw [q_nw_o hne]
theorem q_nw_fs {S : q_S} {a kd n : Nat} : ∀ (ts : List Nat) (k : Nat), q_fs (q_nw S a kd n) a k ts = ts.map (fun t => if t = 0 then Value.int 0 else if t = 1 then .long 0 else .null)
  | [], _ => rfl
  | t :: ts, k => by
    show q_v (q_nw S a kd n) a k t :: q_fs (q_nw S a kd n) a (k + 1) ts = _
    rw [q_nw_fs ts (k + 1), List.map_cons]
    refine congrArg (fun z => z :: _) ?_
    unfold q_v
    rw [show q_I (q_nw S a kd n) a = fun _ => 0 from q_up_same _ _ _, show q_J (q_nw S a kd n) a = fun _ => 0 from q_up_same _ _ _, show q_R (q_nw S a kd n) a = fun _ => none from q_up_same _ _ _]
    rfl
theorem q_nw_c {cy : Nat → ClassId} {S : q_S} {a c : Nat} (hc : c < 100) : q_c cy (q_nw S a c 0) a = .inr (c, q_df c) := by
  rw [q_c_obj (show q_K (q_nw S a c 0) a = c from q_up_same _ _ _) hc, q_nw_fs]
  rfl
def q_MC (l : Launch) (y : MethodName) (ws : List Cond) (rm : Room) (D : va_G) (cy : Nat → ClassId) (av : List Value) (S : q_S) (Post : q_S → Prop) (mc ms : Nat) : Prop := ∀ sz : Nat, Met l y ws rm (va_Pc av (q_P D cy S sz)) (va_Qv Post (q_B D cy (va_A (q_w cy S) sz)) (va_A (q_w cy S) sz)) mc ms (va_A (q_w cy S) sz)
/-- a reference that is there, known and of its kind, and then .. -/
def q_aP (S : q_S) (r : Option Nat) (c : Nat) (k : Nat → Prop) : Prop := ∃ a, r = some a ∧ a ∈ q_L S ∧ q_K S a = c ∧ k a
section QI
variable {p : Program} {l : Launch} {e : Env} {R : Room} {s : State} {m : MethodId} {args : Array Value} {below : List Frame} {meth : Method} {c : Code} {Q : State → Prop} {A : Nat → Prop} {D : va_G} {cy : Nat → ClassId} {nL cells slots : Nat} {S Sv : q_S} {pc : Nat} {lv : List (Nat × Value)} {st stk : List Value} {cc : ByteArray} {own : String}
theorem q_rnew (X : q_X p s m args c cc nL own q_T D cy A) {C : String} {T : u_T} {N ci i : Nat} (ty : Nat → FieldType) (hty : ∀ k, k < N → parseFieldDescriptor (T k).2.2.1 = some (ty k)) (hcl : vwCl[ci]? = some (C, T, N)) (h100 : ci < 100) (hin : ∀ w ∈ u_ws C T N, w ∈ q_T) (hlk : Cond.classLink own i C ∈ q_T) (hinst : Cond.instantiable C N ∈ q_T) (hini : Cond.initialized C ∈ q_T) (hdf : ∀ j, j < N → defaultValue (ty j) = vp_V (q_df ci) j) (hc : cells + 1 ≤ R.cells) (hs : slots + N ≤ R.slots) (hd : decode cc pc = .ok (.new i, 3))
    (k : ∀ q : Nat, q ∉ q_L S → q_W p l e R s m args below meth c Q A D cy nL (cells + 1) (slots + N) (q_nw S q ci 0) (pc + 3) lv (va_rf (some q) :: st)) : q_W p l e R s m args below meth c Q A D cy nL cells slots S pc lv st := by
  intro H locs ls h1 h2 h3 h4
  refine va_new X.1.1 X.1.2.1 X.1.2.2.2.2 hin ty hty X.1.2.2.2.1 (X.1.2.2.2.2 _ hlk) (X.1.2.2.2.2 _ hinst) (X.1.2.2.2.2 _ hini) X.2.1 h2 h3 h4 X.2.2.1 hcl hdf hc hs hd (fun q H1 g2 g3 g4 => ?_)
  have hf : q ∉ q_L S := va_pl_fresh2 (X := []) g3
  rw [q_nw_w hf (q_nw_c h100)] at g2 g3
  exact k q hf H1 locs ls h1 g2 g3 g4
theorem q_rnewa100 (X : q_X p s m args c cc nL own q_T D cy A) {x : Int32} (N9 : Nat) (harr : Cond.arrayClass .int ∈ q_T) (hn : ¬ x < 0) (hN : x.toNatClampNeg = N9) (hb9 : N9 * componentBytes .int ≤ 536870912) (hc : cells + 1 ≤ R.cells) (hs : slots + N9 ≤ R.slots) (hd : decode cc pc = .ok (.newarray .int, 2))
    (k : ∀ q : Nat, q ∉ q_L S → q_W p l e R s m args below meth c Q A D cy nL (cells + 1) (slots + N9) (q_nw S q 100 N9) (pc + 2) lv (va_rf (some q) :: st)) : q_W p l e R s m args below meth c Q A D cy nL cells slots S pc lv (.int x :: st) := by
  intro H locs ls h1 h2 h3 h4
  refine va_newa X.1.1 X.1.2.1 (atype := .int) (X.1.2.2.2.2 _ harr) (ty := .int) rfl X.2.1 h2 h3 h4 X.2.2.1 (a0 := (N9, .inl (fun _ => 0))) (fun cA => rfl) hn hN hb9 hc hs hd (fun q cA H1 gK g2 g3 g4 => ?_)
  have e1 : cA = cy 0 := Option.some.inj ((gK.2 5 _ rfl).2.symm.trans (X.2.1.2 0 _ rfl).2)
  subst e1
  have hf : q ∉ q_L S := va_pl_fresh2 (X := []) g3
  have he : q_c cy (q_nw S q 100 N9) q = .inl (cy 0, (N9, .inl (fun _ => 0))) := by
    rw [q_c_100 (show q_K (q_nw S q 100 N9) q = 100 from q_up_same _ _ _), show q_N (q_nw S q 100 N9) q = N9 from q_up_same _ _ _, show q_I (q_nw S q 100 N9) q = fun _ => 0 from q_up_same _ _ _]
  rw [q_nw_w hf he] at g2 g3
  exact k q hf H1 locs ls h1 g2 g3 g4
theorem q_rnewa101 (X : q_X p s m args c cc nL own q_T D cy A) {x : Int32} (N9 : Nat) (harr : Cond.arrayClass .long ∈ q_T) (hn : ¬ x < 0) (hN : x.toNatClampNeg = N9) (hb9 : N9 * componentBytes .long ≤ 536870912) (hc : cells + 1 ≤ R.cells) (hs : slots + N9 ≤ R.slots) (hd : decode cc pc = .ok (.newarray .long, 2))
    (k : ∀ q : Nat, q ∉ q_L S → q_W p l e R s m args below meth c Q A D cy nL (cells + 1) (slots + N9) (q_nw S q 101 N9) (pc + 2) lv (va_rf (some q) :: st)) : q_W p l e R s m args below meth c Q A D cy nL cells slots S pc lv (.int x :: st) := by
  intro H locs ls h1 h2 h3 h4
  refine va_newa X.1.1 X.1.2.1 (atype := .long) (X.1.2.2.2.2 _ harr) (ty := .long) rfl X.2.1 h2 h3 h4 X.2.2.1 (a0 := (N9, .inr (.inl (fun _ => 0)))) (fun cA => rfl) hn hN hb9 hc hs hd (fun q cA H1 gK g2 g3 g4 => ?_)
  have e1 : cA = cy 1 := Option.some.inj ((gK.2 5 _ rfl).2.symm.trans (X.2.1.2 1 _ rfl).2)
  subst e1
  have hf : q ∉ q_L S := va_pl_fresh2 (X := []) g3
  have he : q_c cy (q_nw S q 101 N9) q = .inl (cy 1, (N9, .inr (.inl (fun _ => 0)))) := by
    rw [q_c_101 (show q_K (q_nw S q 101 N9) q = 101 from q_up_same _ _ _), show q_N (q_nw S q 101 N9) q = N9 from q_up_same _ _ _, show q_J (q_nw S q 101 N9) q = fun _ => 0 from q_up_same _ _ _]
  rw [q_nw_w hf he] at g2 g3
  exact k q hf H1 locs ls h1 g2 g3 g4
theorem q_rnewa102 (X : q_X p s m args c cc nL own q_T D cy A) {x : Int32} (N9 : Nat) (harr : Cond.arrayClass .boolean ∈ q_T) (hn : ¬ x < 0) (hN : x.toNatClampNeg = N9) (hb9 : N9 * componentBytes .boolean ≤ 536870912) (hc : cells + 1 ≤ R.cells) (hs : slots + N9 ≤ R.slots) (hd : decode cc pc = .ok (.newarray .boolean, 2))
    (k : ∀ q : Nat, q ∉ q_L S → q_W p l e R s m args below meth c Q A D cy nL (cells + 1) (slots + N9) (q_nw S q 102 N9) (pc + 2) lv (va_rf (some q) :: st)) : q_W p l e R s m args below meth c Q A D cy nL cells slots S pc lv (.int x :: st) := by
  intro H locs ls h1 h2 h3 h4
  refine va_newa X.1.1 X.1.2.1 (atype := .boolean) (X.1.2.2.2.2 _ harr) (ty := .boolean) rfl X.2.1 h2 h3 h4 X.2.2.1 (a0 := (N9, .inl (fun _ => 0))) (fun cA => rfl) hn hN hb9 hc hs hd (fun q cA H1 gK g2 g3 g4 => ?_)
  have e1 : cA = cy 2 := Option.some.inj ((gK.2 5 _ rfl).2.symm.trans (X.2.1.2 2 _ rfl).2)
  subst e1
  have hf : q ∉ q_L S := va_pl_fresh2 (X := []) g3
  have he : q_c cy (q_nw S q 102 N9) q = .inl (cy 2, (N9, .inl (fun _ => 0))) := by
    rw [q_c_102 (show q_K (q_nw S q 102 N9) q = 102 from q_up_same _ _ _), show q_N (q_nw S q 102 N9) q = N9 from q_up_same _ _ _, show q_I (q_nw S q 102 N9) q = fun _ => 0 from q_up_same _ _ _]
  rw [q_nw_w hf he] at g2 g3
  exact k q hf H1 locs ls h1 g2 g3 g4
theorem q_rnewq103 (X : q_X p s m args c cc nL own q_T D cy A) {x : Int32} {i : Nat} (N9 : Nat) (hlk : Cond.classLink own i "TrueOutlines$Data" ∈ q_T) (hov : Cond.arrayOver (.object "TrueOutlines$Data") ∈ q_TN) (hn : ¬ x < 0) (hN : x.toNatClampNeg = N9) (hb9 : N9 * 4 ≤ 536870912) (hc : cells + 1 ≤ R.cells) (hs : slots + N9 ≤ R.slots) (hd : decode cc pc = .ok (.anewarray i, 3))
    (k : ∀ q : Nat, q ∉ q_L S → q_W p l e R s m args below meth c Q A D cy nL (cells + 1) (slots + N9) (q_nw S q 103 N9) (pc + 3) lv (va_rf (some q) :: st)) : q_W p l e R s m args below meth c Q A D cy nL cells slots S pc lv (.int x :: st) := by
  intro H locs ls h1 h2 h3 h4
  refine va_newq X.1.1 X.1.2.1 X.1.2.2.2.1 (X.1.2.2.2.2 _ hlk) (X.2.2.2 _ hov) X.2.1 h2 h3 h4 X.2.2.1 hn hN hb9 hc hs hd (fun q cA H1 gK g2 g3 g4 => ?_)
  have e1 : cA = cy 3 := by
    obtain ⟨kA, comp, -, -, -, f1⟩ := (gK.2 5 _ rfl).2
    obtain ⟨kB, comb, -, -, -, f2⟩ := (X.2.1.2 3 _ rfl).2
    exact Option.some.inj (f1.symm.trans f2)
  subst e1
  have hf : q ∉ q_L S := va_pl_fresh2 (X := []) g3
  have he : q_c cy (q_nw S q 103 N9) q = .inl (cy 3, N9, .inr (.inr (.inr (.inr (fun _ => none))))) := by
    rw [q_c_103 (show q_K (q_nw S q 103 N9) q = 103 from q_up_same _ _ _), show q_N (q_nw S q 103 N9) q = N9 from q_up_same _ _ _, show q_R (q_nw S q 103 N9) q = fun _ => none from q_up_same _ _ _]
  rw [q_nw_w hf he] at g2 g3
  exact k q hf H1 locs ls h1 g2 g3 g4
theorem q_rnewq104 (X : q_X p s m args c cc nL own q_T D cy A) {x : Int32} {i : Nat} (N9 : Nat) (hlk : Cond.classLink own i "TrueOutlines$Table" ∈ q_T) (hov : Cond.arrayOver (.object "TrueOutlines$Table") ∈ q_TN) (hn : ¬ x < 0) (hN : x.toNatClampNeg = N9) (hb9 : N9 * 4 ≤ 536870912) (hc : cells + 1 ≤ R.cells) (hs : slots + N9 ≤ R.slots) (hd : decode cc pc = .ok (.anewarray i, 3))
    (k : ∀ q : Nat, q ∉ q_L S → q_W p l e R s m args below meth c Q A D cy nL (cells + 1) (slots + N9) (q_nw S q 104 N9) (pc + 3) lv (va_rf (some q) :: st)) : q_W p l e R s m args below meth c Q A D cy nL cells slots S pc lv (.int x :: st) := by
  intro H locs ls h1 h2 h3 h4
  refine va_newq X.1.1 X.1.2.1 X.1.2.2.2.1 (X.1.2.2.2.2 _ hlk) (X.2.2.2 _ hov) X.2.1 h2 h3 h4 X.2.2.1 hn hN hb9 hc hs hd (fun q cA H1 gK g2 g3 g4 => ?_)
  have e1 : cA = cy 4 := by
    obtain ⟨kA, comp, -, -, -, f1⟩ := (gK.2 5 _ rfl).2
    obtain ⟨kB, comb, -, -, -, f2⟩ := (X.2.1.2 4 _ rfl).2
    exact Option.some.inj (f1.symm.trans f2)
  subst e1
  have hf : q ∉ q_L S := va_pl_fresh2 (X := []) g3
  have he : q_c cy (q_nw S q 104 N9) q = .inl (cy 4, N9, .inr (.inr (.inr (.inr (fun _ => none))))) := by
    rw [q_c_104 (show q_K (q_nw S q 104 N9) q = 104 from q_up_same _ _ _), show q_N (q_nw S q 104 N9) q = N9 from q_up_same _ _ _, show q_R (q_nw S q 104 N9) q = fun _ => none from q_up_same _ _ _]
  rw [q_nw_w hf he] at g2 g3
  exact k q hf H1 locs ls h1 g2 g3 g4
theorem q_objI (X : q_X p s m args c cc nL own q_T D cy A) {r : Option Nat} {a i : Nat} (er : r = some a) (hl : Cond.methodLink own i objectInit ∈ q_T) (hi : Cond.instanceMethod objectInit ∈ q_T) (hk : Cond.code objectInit ⟨#[0xb1]⟩ 1 none ∈ q_T) (hfr : 1 ≤ R.frames) (hlo : 2 * (F0 m pc (#[] : Array Slot) st).monitorRoom + (st.map fun v => v.category).sum + 12 ≤ R.locals) (hd : decode cc pc = .ok (.invokespecial i, 3)) (k : q_W p l e R s m args below meth c Q A D cy nL cells slots S (pc + 3) lv st) : q_W p l e R s m args below meth c Q A D cy nL cells slots S pc lv (va_rf r :: st) := by
  intro H locs ls h1 h2 h3 h4
  subst er
  exact W.objInit X.1.1 X.1.2.1 X.1.2.2.2.1 (X.1.2.2.2.2 _ hl) (X.1.2.2.2.2 _ hi) (X.1.2.2.2.2 _ hk) (g := F0 m pc ls (va_rf (some a) :: st)) rfl (h1.1.trans X.1.2.2.1.symm) rfl hd hfr hlo (k H locs ls h1 h2 h3 h4)
theorem q_putF (X : q_X p s m args c cc nL own q_T D cy A) {r : Option Nat} {a ci N i : Nat} {C : String} {T : u_T} (j : Nat) (er : r = some a) (hm : a ∈ q_L S) (hk : q_K S a = ci) (hcl : vwCl[ci]? = some (C, T, N)) (hin : ∀ w ∈ u_ws C T N, w ∈ q_T) (hj : j < N) (h100 : ci < 100) (hlk : Cond.fieldLink own i (T j).1 (T j).2.1 (T j).2.2.1 ∈ q_T) {x : Option Nat} {ty : FieldType} (ty0 : Nat → FieldType) (hty : ∀ k, k < N → parseFieldDescriptor (T k).2.2.1 = some (ty0 k)) (hnm : ∀ a, a < N → ∀ b, b < N → a ≠ b → (T a).2.1 ≠ (T b).2.1) (hfin : (T j).2.2.2 = true) (hin2 : meth.name = "<init>") (hdecl : (T j).1 = own) (hpd : parseFieldDescriptor (T j).2.2.1 = some ty) (hnr : narrow ty (va_rf x) = va_rf x) (hft : fits ty (va_rf x) = true) (hf : (q_ft ci)[j]? = some 2) (hd : decode cc pc = .ok (.putfield i, 3)) (k : q_W p l e R s m args below meth c Q A D cy nL cells slots (q_sR S a j x) (pc + 3) lv st) : q_W p l e R s m args below meth c Q A D cy nL cells slots S pc lv (va_rf x :: va_rf r :: st) := by
  intro H locs ls h1 h2 h3 h4
  subst er
  obtain ⟨q0, hq⟩ := q_w_get (cy := cy) hm
  have hq2 := hq
  rw [q_c_obj hk h100] at hq
  refine va_putF X.1.1 X.1.2.1 X.1.2.2.2.2 hin ty0 hty hnm X.1.2.2.2.1 X.2.1 h2 h3 h4 q0 hq hcl j hj (X.1.2.2.2.2 _ hlk) (fun _ h9 => h9) hfin hin2 hdecl hpd hnr hft (by rw [q_fs_len]; exact (List.getElem?_eq_some_iff.mp hf).1) hd (fun H1 locs1 g2 g3 g4 => ?_)
  rw [q_w_set (S2 := q_sR S a j x) h3 hm hq2 rfl (q_sR_c hk h100 hf) q_sR_o] at g2 g3
  exact k H1 locs1 ls h1 g2 g3 g4
theorem q_aast103 (X : q_X p s m args c cc nL own q_T D cy A) {r rx : Option Nat} {a v ci N : Nat} {T : u_T} {i : Int32} (er : r = some a) (hm : a ∈ q_L S) (hk : q_K S a = 103) (hi : vp_in i (q_N S a)) (ev : rx = some v) (hmv : v ∈ q_L S) (hkv : q_K S v = ci) (hcl : vwCl[ci]? = some ("TrueOutlines$Data", T, N)) (h100 : ci < 100) (hd : decode cc pc = .ok (.aastore, 1)) (k : q_W p l e R s m args below meth c Q A D cy nL cells slots (q_sR S a i.toNatClampNeg (some v)) (pc + 1) lv st) : q_W p l e R s m args below meth c Q A D cy nL cells slots S pc lv (va_rf rx :: .int i :: va_rf r :: st) := by
  intro H locs ls h1 h2 h3 h4
  subst er
  subst ev
  obtain ⟨q0, hq⟩ := q_w_get (cy := cy) hm
  obtain ⟨q1, hqv⟩ := q_w_get (cy := cy) hmv
  have hq2 := hq
  rw [q_c_103 hk] at hq
  rw [q_c_obj hkv h100] at hqv
  refine va_astq X.1.1 X.1.2.1 X.2.1 h2 h3 h4 q0 3 q1 ci hq (r := ("TrueOutlines$Data", T, N)) rfl hqv hcl hi hd (fun H1 locs1 g2 g3 g4 => ?_)
  have he := q_w_set (cy := cy) (S2 := q_sR S a i.toNatClampNeg (some v)) h3 hm hq2 rfl ((q_c_103 (show q_K (q_sR S a i.toNatClampNeg (some v)) a = 103 from hk)).trans (congrArg (fun z => (Sum.inl (cy 3, q_N S a, .inr (.inr (.inr (.inr z)))) : va_E)) (q_u_same (q_R S) a i.toNatClampNeg _))) q_sR_o
  exact k H1 locs1 ls h1 (he ▸ g2) (he ▸ g3) g4
theorem q_aast104 (X : q_X p s m args c cc nL own q_T D cy A) {r rx : Option Nat} {a v ci N : Nat} {T : u_T} {i : Int32} (er : r = some a) (hm : a ∈ q_L S) (hk : q_K S a = 104) (hi : vp_in i (q_N S a)) (ev : rx = some v) (hmv : v ∈ q_L S) (hkv : q_K S v = ci) (hcl : vwCl[ci]? = some ("TrueOutlines$Table", T, N)) (h100 : ci < 100) (hd : decode cc pc = .ok (.aastore, 1)) (k : q_W p l e R s m args below meth c Q A D cy nL cells slots (q_sR S a i.toNatClampNeg (some v)) (pc + 1) lv st) : q_W p l e R s m args below meth c Q A D cy nL cells slots S pc lv (va_rf rx :: .int i :: va_rf r :: st) := by
  intro H locs ls h1 h2 h3 h4
  subst er
  subst ev
  obtain ⟨q0, hq⟩ := q_w_get (cy := cy) hm
  obtain ⟨q1, hqv⟩ := q_w_get (cy := cy) hmv
  have hq2 := hq
  rw [q_c_104 hk] at hq
  rw [q_c_obj hkv h100] at hqv
  refine va_astq X.1.1 X.1.2.1 X.2.1 h2 h3 h4 q0 4 q1 ci hq (r := ("TrueOutlines$Table", T, N)) rfl hqv hcl hi hd (fun H1 locs1 g2 g3 g4 => ?_)
  have he := q_w_set (cy := cy) (S2 := q_sR S a i.toNatClampNeg (some v)) h3 hm hq2 rfl ((q_c_104 (show q_K (q_sR S a i.toNatClampNeg (some v)) a = 104 from hk)).trans (congrArg (fun z => (Sum.inl (cy 4, q_N S a, .inr (.inr (.inr (.inr z)))) : va_E)) (q_u_same (q_R S) a i.toNatClampNeg _))) q_sR_o
  exact k H1 locs1 ls h1 (he ▸ g2) (he ▸ g3) g4
theorem q_vretC (X : q_X p s m args c cc nL own q_T D cy A) {Post : q_S → Prop} {mc ms : Nat} (hr : meth.sig.returnType = none) (hlocks : meth.locks = false) (hp : Post S) (hc : cells ≤ mc) (hs : slots ≤ ms) (hd : decode cc pc = .ok (.return_, 1)) :
    q_W p l e R s m args below meth c (MQ below (va_Qv Post (q_B D cy A) A) args s mc ms A) A D cy nL cells slots S pc lv [] := by
  intro H locs ls h1 h2 h3 h4
  refine W.widen hc hs ?_
  exact W.vret X.1.1 X.1.2.1 hr (fun t ht hW => ⟨⟨S, rfl, hp, by rw [ht]; exact h2, va_K.moved hW.alike X.2.1, h3⟩, h4.F ht⟩) h4.2.2 hd hlocks
theorem q_MC_of {y : MethodName} {maxL : Nat} {rm : Room} {av : List Value} {Post : q_S → Prop} {mc ms : Nat} (hy : plainFor y = true) (hl : (lg_sl av).length ≤ maxL)
    (body : ∀ (p : Program) (e : Env) (s : State) (m : MethodId) (args : Array Value) (below : List Frame) (meth : Method) (c : Code) (A : Nat → Prop), q_X p s m args c cc maxL y.cls q_T D cy A → meth.sig.returnType = none → meth.locks = false → meth.name = y.name → q_W p l e rm s m args below meth c (MQ below (va_Qv Post (q_B D cy A) A) args s mc ms A) A D cy maxL 0 0 S 0 (lv_args 0 av) []) : q_MC l y (q_ws y cc maxL none) rm D cy av S Post mc ms := by
  intro sz
  refine va_MetF (cc := cc) (maxL := maxL) (ret := none) hy rfl ?_
  intro p e s m args below meth c s₁ B hml hv
  obtain ⟨rfl, hsz, hP, hK, hD0, hN⟩ := hv
  have hts := atoms_spec (ws := q_ws y cc maxL none) B.pre
  have hown : s.vm.findClass y.cls = some m.cls := findClass_of_methodNamed B.named
  subst hsz
  have hD := hD0.self (sz := s.heap.size)
  have hl := lv_entry av (n := maxL) hl
  rw [lg_entry_eq]
  exact body p e s m _ below meth c (va_A (q_w cy S) s.heap.size) ⟨⟨B.exec, B.bytes, hml, hown, fun w h => hts w (List.mem_cons_of_mem _ h)⟩, hK, fun q h => Or.inr h, hN⟩ B.returns B.notSynchronized (name_of_methodNamed B.named B.method).1 s.heap [] _ hl hP hD va_S.rf
variable {y : MethodName} {bytes : ByteArray} {maxL index n mc ms : Nat} {rm : Room} {As : List Value} {Post : q_S → Prop}
theorem q_cI (X : q_X p s m args c cc nL own q_T D cy A) {r : Option Nat} {a : Nat} (er : r = some a) (hM : q_MC l y (q_ws y bytes maxL none) rm D cy (.ref a :: As) S Post mc ms) (hcode : Cond.code y bytes maxL none ∈ q_T) (hl : Cond.methodLink own index y ∈ q_T) (hi : Cond.instanceMethod y ∈ q_T) (hini : Cond.initialized y.cls ∈ q_T) (hrc : rm.cells = mc) (hrs : rm.slots = ms) (hy : y.name = "<init>")
    (hdd : y.cls ≠ "java/lang/invoke/MethodHandle" ∧ y.cls ≠ "java/lang/invoke/VarHandle" ∧ (parseMethodDescriptor y.desc).map (fun d => d.parameters.length) = some n) (hR : rm.frames + 1 ≤ R.frames ∧ 8 + (maxL + 11) + rm.locals ≤ R.locals) (hn : As.length = n) (hstk : stk = As.reverse ++ va_rf r :: st) (hW : (st.map fun v => v.category).sum ≤ 8) (hc : cells + mc ≤ R.cells ∧ slots + ms ≤ R.slots) (hd : decode cc pc = .ok (.invokespecial index, 3))
    (k : ∀ u : q_S, Post u → q_W p l e R s m args below meth c Q A D cy nL (cells + mc) (slots + ms) u (pc + 3) lv st) : q_W p l e R s m args below meth c Q A D cy nL cells slots S pc lv stk := by
  intro H locs ls h1 h2 h3 h4
  subst er
  subst hstk
  have hF := q_freeAll h3 h4 X.2.2.1
  refine va_callv (va_runI (As := As) (rest := st) X.1 (hM H.size) ⟨callB_of n X.1.2.2.2.2 (q_goodT hcode) rfl hrc hrs (X.1.2.2.2.2 _ hini) (X.1.2.2.2.2 _ hl) hdd hR, hy, X.1.2.2.2.2 _ hi⟩ ⟨q_blind, fun U hU hW => ⟨rfl, by rw [hU], by rw [hU]; exact h2, va_K.moved hW.alike X.2.1, h3.weaken (fun _ _ _ _ => trivial), q_Nst_warm hW X.2.2.2⟩⟩ rfl hn h1.1 rfl (lv_room hW) hd hc) h4 (fun q _ h => hF q h) hF (fun u t H1 locs1 ht hvm hw hB hz1 hk1 hS => ?_)
  obtain ⟨hP1, hK1, hD1⟩ := hB
  rw [ht] at hP1
  exact k u hw H1 locs1 ls h1 hP1 (hD1.weaken (fun _ _ _ h => hF _ h)) hS
theorem q_cIN (X : q_X p s m args c cc nL own q_T D cy A) {host : String} {r : Option Nat} {a : Nat} (er : r = some a) (hM : q_MC l y (q_ws y bytes maxL none) rm D cy (.ref a :: As) S Post mc ms) (hcode : Cond.code y bytes maxL none ∈ q_T) (hl : Cond.methodLinkNest own index y host ∈ q_TN) (hi : Cond.instanceMethod y ∈ q_T) (hini : Cond.initialized y.cls ∈ q_T) (hrc : rm.cells = mc) (hrs : rm.slots = ms) (hy : y.name = "<init>")
    (hdd : y.cls ≠ "java/lang/invoke/MethodHandle" ∧ y.cls ≠ "java/lang/invoke/VarHandle" ∧ (parseMethodDescriptor y.desc).map (fun d => d.parameters.length) = some n) (hR : rm.frames + 1 ≤ R.frames ∧ 8 + (maxL + 11) + rm.locals ≤ R.locals) (hn : As.length = n) (hstk : stk = As.reverse ++ va_rf r :: st) (hW : (st.map fun v => v.category).sum ≤ 8) (hc : cells + mc ≤ R.cells ∧ slots + ms ≤ R.slots) (hd : decode cc pc = .ok (.invokespecial index, 3))
    (k : ∀ u : q_S, Post u → q_W p l e R s m args below meth c Q A D cy nL (cells + mc) (slots + ms) u (pc + 3) lv st) : q_W p l e R s m args below meth c Q A D cy nL cells slots S pc lv stk := by
  intro H locs ls h1 h2 h3 h4
  subst er
  subst hstk
  have hF := q_freeAll h3 h4 X.2.2.1
  refine va_callv (va_runIN (As := As) (rest := st) X.1 (hM H.size) ⟨va_cnB n X.1.2.2.2.2 (q_goodT hcode) rfl hrc hrs (X.2.2.2 _ hl) (X.1.2.2.2.2 _ hini) hdd hR, hy, X.1.2.2.2.2 _ hi⟩ ⟨q_blind, fun U hU hW => ⟨rfl, by rw [hU], by rw [hU]; exact h2, va_K.moved hW.alike X.2.1, h3.weaken (fun _ _ _ _ => trivial), q_Nst_warm hW X.2.2.2⟩⟩ rfl hn h1.1 rfl (lv_room hW) hd hc) h4 (fun q _ h => hF q h) hF (fun u t H1 locs1 ht hvm hw hB hz1 hk1 hS => ?_)
  obtain ⟨hP1, hK1, hD1⟩ := hB
  rw [ht] at hP1
  exact k u hw H1 locs1 ls h1 hP1 (hD1.weaken (fun _ _ _ h => hF _ h)) hS
end QI
