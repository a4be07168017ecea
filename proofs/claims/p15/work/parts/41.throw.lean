/-! THROWS over the store: what a throw needs of the start, contracts of methods that return or throw -/
def q_isE : Cond → Bool
  | .declares _ => true
  | .castable _ _ => true
  | _ => false
def q_TE : List Cond := tables_1.filter q_isE
def q_Ew (U : State) : Prop := ∀ w ∈ q_TE, va_Nw w U
theorem q_Ew_warm {s U : State} (hW : s.WarmedH U.vm) (h : q_Ew s) : q_Ew U := by
  intro w hw
  have g := (List.mem_filter.mp hw).2
  cases w with
  | declares x => exact va_Nw.warmD hW (h _ hw)
  | castable C T => exact va_Nw.warmC hW (h _ hw)
  | _ => cases g
theorem q_Ew_same {u U : State} (e : u.vm = U.vm) (h : q_Ew u) : q_Ew U := by
  intro w hw
  have g := (List.mem_filter.mp hw).2
  cases w with
  | declares x => exact va_Nw.same rfl e (h _ hw)
  | castable C T => exact va_Nw.same rfl e (h _ hw)
  | _ => cases g
def q_txt : List (Nat × String) := [(112, "no such byte of a table"), (159, "no such number of a piece"), (167, "nothing such was told")]
def q_Es (U : State) : Prop := ∀ z ∈ q_txt, ∃ sa : Nat, vk_R RX11 z.1 z.2 sa U
def q_E (A : Nat → Prop) (U : State) (H : Heap) : Prop := q_Ew U ∧ q_Es U ∧ vx_Zq Bundle.tN "UNASSIGNED_STACK" Bundle.steD A U H ∧ vx_Zq Bundle.tN "SUPPRESSED_SENTINEL" Bundle.listD A U H
theorem q_E_warm {s U : State} {A : Nat → Prop} {H : Heap} (hW : s.WarmedH U.vm) (h : q_E A s H) : q_E A U H :=
  ⟨q_Ew_warm hW h.1, fun z hz => (h.2.1 z hz).imp (fun _ g => vk_R.warm hW g), vx_Zq.moved hW.alike h.2.2.1, vx_Zq.moved hW.alike h.2.2.2⟩
theorem q_E_same {u U : State} {A : Nat → Prop} {H : Heap} (e : u.vm = U.vm) (h : q_E A u H) : q_E A U H :=
  ⟨q_Ew_same e h.1, fun z hz => (h.2.1 z hz).imp (fun _ g => vk_R.same e.symm g), vx_Zq.moved (by rw [e]; exact Vm.Alike.refl _) h.2.2.1, vx_Zq.moved (by rw [e]; exact Vm.Alike.refl _) h.2.2.2⟩
theorem q_E_kept {U : State} {A : Nat → Prop} {H H1 : Heap} (h : q_E A U H) (hq : ∀ a : Nat, a < H.size → ¬ A a → H1[a]? = H[a]?) : q_E A U H1 :=
  ⟨h.1, h.2.1, vx_Zq.kept h.2.2.1 hq, vx_Zq.kept h.2.2.2 hq⟩
theorem q_E_narrow {U : State} {A B : Nat → Prop} {H : Heap} (h : q_E A U H) (hAB : ∀ q, B q → A q) : q_E B U H :=
  ⟨h.1, h.2.1, vx_Zq.narrow h.2.2.1 hAB, vx_Zq.narrow h.2.2.2 hAB⟩
def q_PE (D : va_G) (cy : Nat → ClassId) (S : q_S) (sz : Nat) (U : State) : Prop := q_P D cy S sz U ∧ q_E (va_A (q_w cy S) sz) U U.heap
theorem q_blindE {D : va_G} {cy : Nat → ClassId} {S : q_S} {av : List Value} {sz : Nat} : FrameBlind (va_Pc av (q_PE D cy S sz)) := fun a U g mk q => by
  obtain ⟨q0, q1, q2⟩ := q
  exact ⟨q0, (q_blind (av := av) a U g mk ⟨q0, q1⟩).2, q_E_same (u := U) (U := U.calling g mk a) rfl q2⟩
def q_QX (D : va_G) (cy : Nat → ClassId) (A : Nat → Prop) (rv : Option Int32) (Sv : q_S) : Array Value → State → Outcome → State → Prop := va_Qi (fun (r : Int32) (u : q_S) => some r = rv ∧ u = Sv) (q_B D cy A) A
def q_XX (D : va_G) (cy : Nat → ClassId) (A : Nat → Prop) (E : String) (rv : Option Int32) (Sv : q_S) : String → State → State → Prop := vx_X (fun (u : q_S) => rv = none ∧ u = Sv) (fun E9 u t => E9 = E ∧ q_B D cy A u t) A
def q_MX (l : Launch) (y : MethodName) (ws : List Cond) (rm : Room) (D : va_G) (cy : Nat → ClassId) (E : String) (av : List Value) (S : q_S) (rv : Option Int32) (Sv : q_S) : Prop := ∀ sz : Nat, vx_Met l y ws rm (va_Pc av (q_PE D cy S sz)) (q_QX D cy (va_A (q_w cy S) sz) rv Sv) (q_XX D cy (va_A (q_w cy S) sz) E rv Sv) 1 6 (va_A (q_w cy S) sz)
section QX
variable {p : Program} {l : Launch} {e : Env} {R : Room} {s : State} {m : MethodId} {args : Array Value} {below : List Frame} {meth : Method} {c : Code} {Q : State → Prop} {A : Nat → Prop} {D : va_G} {cy : Nat → ClassId} {nL cells slots : Nat} {S Sv : q_S} {pc : Nat} {lv : List (Nat × Value)} {st stk : List Value} {cc : ByteArray} {own : String}
theorem q_MX_of {y : MethodName} {cc : ByteArray} {maxL : Nat} {rm : Room} {av : List Value} {E : String} {rv : Option Int32} {ty : FieldType} (hy : plainName y.cls = true) (hl : (lg_sl av).length ≤ maxL)
    (body : ∀ (p : Program) (e : Env) (s : State) (m : MethodId) (args : Array Value) (below : List Frame) (meth : Method) (c : Code) (A : Nat → Prop), q_X p s m args c cc maxL y.cls q_T D cy A → meth.sig.returnType = some ty → meth.locks = false → (∀ x ∈ c.exceptionTable.toList, False) → q_E A s s.heap → q_W p l e rm s m args below meth c (vx_MQ below (q_QX D cy A rv Sv) (q_XX D cy A E rv Sv) args s 1 6 A) A D cy maxL 0 0 S 0 (lv_args 0 av) []) : q_MX l y (q_ws y cc maxL (some ty)) rm D cy E av S rv Sv := by
  intro sz
  refine vx_ofW (cc := cc) (maxL := maxL) (ret := some ty) hy rfl ?_
  intro p e s m args below meth c s₁ B hml ht hv
  obtain ⟨rfl, ⟨hsz, hP, hK, hD0, hN⟩, hE⟩ := hv
  have hts := atoms_spec (ws := q_ws y cc maxL (some ty)) B.pre
  have hown : s.vm.findClass y.cls = some m.cls := findClass_of_methodNamed B.named
  subst hsz
  have hD := hD0.self (sz := s.heap.size)
  have hl := lv_entry av (n := maxL) hl
  rw [lg_entry_eq]
  exact body p e s m _ below meth c (va_A (q_w cy S) s.heap.size) ⟨⟨B.exec, B.bytes, hml, hown, fun w h => hts w (List.mem_cons_of_mem _ h)⟩, hK, fun q h => Or.inr h, hN⟩ B.returns B.notSynchronized ht hE s.heap [] _ hl hP hD va_S.rf
theorem q_iretX (X : q_X p s m args c cc nL own q_T D cy A) {ty : FieldType} {v : Int32} {rv : Option Int32} {E : String} (hr : meth.sig.returnType = some ty) (hlocks : meth.locks = false) (hn : narrow ty (.int v) = .int v) (ev : some v = rv) (eS : S = Sv) (hd : decode cc pc = .ok (.ireturn, 1)) :
    q_W p l e R s m args below meth c (vx_MQ below (q_QX D cy A rv Sv) (q_XX D cy A E rv Sv) args s 1 6 A) A D cy nL 0 0 S pc lv [.int v] := by
  intro H locs ls h1 h2 h3 h4
  exact W.widen (k := 1) (n := 6) (Nat.zero_le _) (Nat.zero_le _) (vx_ret (W.zret X.1.1 X.1.2.1 hr hn (fun t ht hW => ⟨⟨v, S, rfl, ⟨ev, eS⟩, by rw [ht]; exact h2, va_K.moved hW.alike X.2.1, h3⟩, h4.F ht⟩) h4.2.2 hd hlocks))
theorem q_throwS (X : q_X p s m args c cc nL own q_T D cy A) (hlt : l.stackTraces = false) (ht : ∀ x ∈ c.exceptionTable.toList, False) (hE : q_E A s s.heap) {cls text : String} {ik is ic : Nat} {rv : Option Int32} (names : List String) (hcls : Bundle.fit cls = true) (hnames : ∀ n ∈ names, Bundle.fit n = true)
    (hk : Cond.classLink own ik cls ∈ q_T) (hini : Cond.initialized cls ∈ q_T) (hown : own = RX11) (htx : (is, text) ∈ q_txt) (hw1 : ∀ w ∈ (vx_atS own ic cls names).filter goodWord, w ∈ q_T) (hw2 : ∀ w ∈ (vx_atS own ic cls names).filter (fun w => !goodWord w), w ∈ q_TE)
    (hgood : ∀ w ∈ Cond.classLink own ik cls :: Cond.initialized cls :: vx_atS own ic cls names, vx_ot w = true)
    (d0 : decode cc pc = .ok (.new ik, 3)) (d3 : decode cc (pc + 3) = .ok (.dup, 1)) (d4 : decode cc (pc + 4) = .ok (.ldc is, 2)) (d6 : decode cc (pc + 6) = .ok (.invokespecial ic, 3)) (d9 : decode cc (pc + 9) = .ok (.athrow, 1))
    (hRf : names.length + 3 < R.frames) (hRl : (st.map fun v => v.category).sum + (13 * (names.length + 1) + 43) ≤ R.locals) (hRc : 1 ≤ R.cells) (hRs : 6 ≤ R.slots) (hlocks : meth.locks = false) (er : rv = none) (eS : S = Sv) :
    q_W p l e R s m args below meth c (vx_MQ below (q_QX D cy A rv Sv) (q_XX D cy A cls rv Sv) args s 1 6 A) A D cy nL 0 0 S pc lv st := by
  intro H locs ls h1 h2 h3 h4
  obtain ⟨sa, hsa⟩ := hE.2.1 _ htx
  rw [← hown] at hsa
  have hB : ∀ w ∈ q_TE, w.before args s = true := by
    intro w hw
    have g := (List.mem_filter.mp hw).2
    cases w with
    | declares x => exact va_Nw.use rfl (hE.1 _ hw)
    | castable C T => exact va_Nw.use rfl (hE.1 _ hw)
    | _ => cases g
  refine vx_throwS (A := A) X.1.1 X.1.2.1 hlt X.1.2.2.2.1 hcls hnames (X.1.2.2.2.2 _ hk) (X.1.2.2.2.2 _ hini) hsa (vx_hat (fun w hw => X.1.2.2.2.2 _ (hw1 w hw)) hw2 hB) hgood hE.2.2.1 hE.2.2.2 h4 (h1.1.trans X.1.2.2.1.symm) d0 d3 d4 d6 d9 (fun x hx => (ht x hx).elim) hRf hRl hRc hRs hlocks (fun t hv hz hq => ?_) h4.2.2 (Nat.le_refl _) (Nat.le_refl _)
  exact ⟨S, ⟨er, eS⟩, ⟨rfl, h2.kept (fun k q hk9 => hq _ (vx_lt h2 hk9)), va_K.moved hv X.2.1, h3⟩, Nat.le_trans h4.1 hz, fun q h8 h9 => (hq q (Nat.lt_of_lt_of_le h8 h4.1)).trans (h4.2.1 q h8 h9)⟩
end QX
