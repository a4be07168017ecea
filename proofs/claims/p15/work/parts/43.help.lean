/-! CATCHING by the only row of a method's table: own rows over the machine's search (the printed ones lean on a shelf that rounds don't have) -/
def q_ft1 (e : Env) (s : State) (f : JFrame) (a : Addr) (h : Handler) (vm' : Vm) : Prop :=
  ∀ (Q : Handler → Pre) (E : CtlPost) (d : Bool) (acts : List Action), wp (findHandler f a) Q E e d acts s ↔ Q h d acts (s.setVm vm')
theorem q_find1 {e : Env} {s : State} {f : JFrame} {a : Addr} {meth : Method} {code : Code} {x : ExceptionTableEntry} {c : ClassId} {cell : Cell} (hm : s.vm.method? f.method = some meth) (hc : meth.code = some code) (ht : code.exceptionTable.toList = [x]) (hx : covers x f.pc = true) (h0 : x.catchType ≠ 0)
    (hl : s.vm.ClassLinks e.platform f.method.cls x.catchType c) (hcell : s.heap[a]? = some cell) (hobj : ∀ k, cell.vm ≠ .statics k) (hk : ∃ k, s.vm.classes[cell.cls]? = some k) (hcl : ∃ k, s.vm.classes[c]? = some k) (hfit : s.vm.assignable cell.cls c = true) :
    q_ft1 e s f a (.found x.handlerPc) (s.vm.noted f.method.cls x.catchType (.cls c)) := by
  intro Q E d acts
  rw [Jvm.W.findHandler_eq hm hc, ht]
  simp only [covers] at hx
  obtain ⟨h1, h2⟩ := (resolveClass_links e.toSetting hl).op (op := VmOp.resolveClass f.method.cls x.catchType) rfl
  have hal : s.vm.Alike (s.vm.noted f.method.cls x.catchType (.cls c)) := (Vm.Alike.refl s.vm).noted _ _ _
  obtain ⟨k1, hk1⟩ := hk
  obtain ⟨k2, hk2⟩ := hcl
  obtain ⟨k3, hk3, -⟩ := hal.2.2 _ _ hk1
  obtain ⟨k4, hk4, -⟩ := hal.2.2 _ _ hk2
  have hfit2 : (s.vm.noted f.method.cls x.catchType (.cls c)).assignable cell.cls c = true := by rw [hal.assignable]; exact hfit
  simp [findHandler.go, hx, h0, h1, h2, hcell, hobj, hk3, hk4, hfit2, VmOp.dirties, VmOp.acts]
theorem q_step1 {e : Env} {s : State} {a : Addr} {f : JFrame} {r : List Frame} {pc : Nat} {vm' : Vm} (hf : q_ft1 e s f a (.found pc) vm') :
    (stepThrowing e s a (.java f :: r)).1 = (s.setVm vm').setFrames (.java { f with pc := pc, stack := [.ref a] } :: r) := by
  simp only [stepThrowing, searchFrame, vmDo]
  generalize hr : Sem.go _ e false [] s = res
  obtain ⟨as, rfl, ha⟩ := Sem.eq_ok_of hr (a := Handler.found pc) (s' := s.setVm vm') (acts' := []) (by simp [hf _ _ _ _])
  rfl
theorem q_caught1 {tb : Tables} {e : Env} {s target : State} {g : JFrame} {c : Code} {below : List Frame} {a : Addr} (h : At s g.method c below) {pc : Nat} {vm' : Vm} (hf : q_ft1 e ((s.setTop g).pushFrame (.throwing a)) g a (.found pc) vm')
    (hrest : Steps tb e below ((s.setVm vm').setTop { g with pc := pc, stack := [.ref a] }) target) : Steps tb e below ((s.setTop g).pushFrame (.throwing a)) target := by
  obtain ⟨hgo, hw⟩ := h.throwing a
  refine Steps.head hgo hw ?_
  rw [stepThread_throwing (frames_entered h.top _), q_step1 (s := (s.setTop g).pushFrame (.throwing a)) hf]
  obtain ⟨g0, hg⟩ := Option.isSome_iff_exists.mp h.top
  obtain ⟨r, hr⟩ := State.topJava?_eq_some.mp hg
  have hr2 : (s.setVm vm').frames = .java g0 :: r := hr
  have hmv : ∀ (u : State) (F G : List Frame), ((u.setFrames F).setVm vm').setFrames G = (u.setVm vm').setFrames G := fun u F G => by
    rw [show (u.setFrames F).setVm vm' = (u.setVm vm').setFrames F from rfl, State.setFrames_setFrames]
  rw [State.setTop_of_frames _ hr2] at hrest
  rw [hr, List.tail_cons, State.pushFrame, hmv, State.setTop_of_frames _ hr, hmv]
  exact hrest
theorem q_catch1 {p : Program} {l : Launch} {e : Env} {R : Room} {s : State} {m : MethodId} {args : Array Value} {below : List Frame} {meth : Method} {c : Code} {H : Heap} {locs : List Loc} {cells slots : Nat} {Q : State → Prop} {pc : Nat} {ls : Array Slot} {rest : List Value} {own name E : String} {ce : Cell} {q : Addr} {x : ExceptionTableEntry} (hown : s.vm.findClass own = some m.cls) (ht : c.exceptionTable.toList = [x]) (hx : covers x pc = true) (h0 : x.catchType ≠ 0)
    (hlink : (Cond.classLink own x.catchType name).before args s = true) (hcast : (Cond.castable E name).before args s = true) (hcell : H[q]? = some ce) (hv : ce.vm = .none) (hcl : s.vm.findClass E = some ce.cls)
    (kk : W p l e R s m args below meth c H locs cells slots Q (F0 m x.handlerPc ls [.ref q])) : vx_W p l e R s m args below meth c H locs cells slots Q (F0 m pc ls rest) q := by
  intro T hT X
  have hpl : e.platform.magicAccessors = ({} : Platform).magicAccessors := by rw [X.admits.platform]
  obtain ⟨c3, c4, hc3, hc4, hasg⟩ := Cond.castable_spec hcast
  cases Option.some.inj (hc3.symm.trans hcl)
  obtain ⟨c5, hc5, hcl5⟩ := Cond.classLink_spec hown hlink e.platform hpl
  cases Option.some.inj (hc4.symm.trans hc5)
  obtain ⟨dk, _, _, kt, hd, _, _, _, _, hkt, _, hopen⟩ := hcl5.here
  have hW1 : s.WarmedH (T.vm.noted m.cls x.catchType (.cls c4)) := X.warmed.noted hd hopen (State.rightAt_cls hcl5)
  have hal := X.warmed.alike
  obtain ⟨k4, hk4, -⟩ := hal.2.2 _ _ hkt
  have hfit : T.vm.assignable ce.cls c4 = true := by rw [hal.assignable]; exact hasg
  obtain ⟨t, a1, b1⟩ := kk (T.setVm (T.vm.noted m.cls x.catchType (.cls c4))) hT (X.noted hW1)
  refine ⟨t, ?_, b1⟩
  have hcell1 : T.heap[q]? = some ce := by rw [hT]; exact hcell
  have hobj : ce.vm.isStatics = false := by rw [hv]; rfl
  exact q_caught1 (g := F0 m pc ls rest) X.here (q_find1 (s := (T.setTop (F0 m pc ls rest)).pushFrame (.throwing q)) (f := F0 m pc ls rest) (meth := meth) (code := c) X.method' X.code ht hx h0 (c := c4) (cell := ce) (X.warmed.classLinks hcl5) hcell1 (VmData.ne_statics_of hobj) (Vm.classAt_of_assignable hfit ⟨k4, hk4⟩) ⟨k4, hk4⟩ hfit) a1
/-! CATCHES over the store: a call of a method that may throw, under a handler; methods with a table of their own -/
def q_wsW (y : MethodName) (cc : ByteArray) (n : Nat) (r : Option FieldType) (hh : List (Nat × Nat × Nat × Nat)) : List Cond := Cond.codeWith y cc n r hh :: q_T
def q_XH (A : Nat → Prop) : String → State → State → Prop := vx_X (fun (_ : q_S) => False) (fun _ _ _ => True) A
def q_MH (l : Launch) (y : MethodName) (ws : List Cond) (rm : Room) (D : va_G) (cy : Nat → ClassId) (av : List Value) (S : q_S) (rv : Int32) (Sv : q_S) : Prop := ∀ sz : Nat, vx_Met l y ws rm (va_Pc av (q_PE D cy S sz)) (va_Qi (fun (r : Int32) (u : q_S) => r = rv ∧ u = Sv) (q_B D cy (va_A (q_w cy S) sz)) (va_A (q_w cy S) sz)) (q_XH (va_A (q_w cy S) sz)) 1 6 (va_A (q_w cy S) sz)
theorem q_goodW {own : String} {index : Nat} {y : MethodName} {cc : ByteArray} {n : Nat} {r : Option FieldType} {hh : List (Nat × Nat × Nat × Nat)} (h : Cond.codeWith y cc n r hh ∈ q_T) (hl : Cond.methodLink own index y ∈ q_T) (hs : Cond.static y ∈ q_T) (hn : Cond.initialized y.cls ∈ q_T) : GoodIn q_T (va_wsS own index y (q_wsW y cc n r hh)) := by
  intro w hw
  have hm : w ∈ q_T := by
    rcases List.mem_append.mp hw with e | e
    · rcases List.mem_cons.mp e with e | e
      · rw [e]; exact hl
      · rcases List.mem_cons.mp e with e | e
        · rw [e]; exact hs
        · rcases List.mem_cons.mp e with e | e
          · rw [e]; exact hn
          · cases e
    · rcases List.mem_cons.mp e with e | e
      · rw [e]; exact h
      · exact e
  exact ⟨hm, good_of_word (List.mem_filter.mp hm).2⟩
section QH
variable {p : Program} {l : Launch} {e : Env} {R : Room} {s : State} {m : MethodId} {args : Array Value} {below : List Frame} {meth : Method} {c : Code} {Q : State → Prop} {A : Nat → Prop} {D : va_G} {cy : Nat → ClassId} {nL cells slots : Nat} {S Sv : q_S} {pc : Nat} {lv : List (Nat × Value)} {st stk : List Value} {cc : ByteArray} {own : String}
variable {y : MethodName} {bytes : ByteArray} {maxL index n : Nat} {ret : Option FieldType} {rm : Room} {C : String} {As : List Value}
theorem q_cwVX (X : q_X p s m args c cc nL own q_T D cy A) (hcode : Cond.code y bytes maxL ret ∈ q_T) (hl : Cond.methodLink own index y ∈ q_T) (hi : Cond.instanceMethod y ∈ q_T) (hs : Cond.selects C y y ∈ q_T) (hn : Cond.initialized y.cls ∈ q_T) (hrc : rm.cells = 1) (hrs : rm.slots = 6)
    (hd : y.cls ≠ "java/lang/invoke/MethodHandle" ∧ y.cls ≠ "java/lang/invoke/VarHandle" ∧ (parseMethodDescriptor y.desc).map (fun d => d.parameters.length) = some n) (hR : rm.frames + 1 ≤ R.frames ∧ 8 + (maxL + 11) + rm.locals ≤ R.locals) :
    CallW R s args own C index y bytes maxL ret (q_ws y bytes maxL ret) rm 1 6 n :=
  ⟨callB_of n X.1.2.2.2.2 (q_goodT hcode) rfl hrc hrs (X.1.2.2.2.2 _ hn) (X.1.2.2.2.2 _ hl) hd hR, X.1.2.2.2.2 _ hi, X.1.2.2.2.2 _ hs⟩
/-- a call that may throw, the throw caught here by the only row of the table -/
theorem q_cVX (X : q_X p s m args c cc nL own q_T D cy A) (hE : q_E A s s.heap) {E name : String} {x : ExceptionTableEntry} {rv : Option Int32} {r : Option Nat} {a ci N : Nat} {T : u_T} (er : r = some a) (hm : a ∈ q_L S) (hk : q_K S a = ci) (hcl : vwCl[ci]? = some (C, T, N)) (h100 : ci < 100) (hM : q_MX l y (q_ws y bytes maxL ret) rm D cy E (.ref a :: As) S rv Sv) (cw : CallW R s args own C index y bytes maxL ret (q_ws y bytes maxL ret) rm 1 6 n) (hn : As.length = n) (hstk : stk = As.reverse ++ va_rf r :: st) (hW : (st.map fun v => v.category).sum ≤ 8) (hc : cells + 1 ≤ R.cells ∧ slots + 6 ≤ R.slots) (hd : decode cc pc = .ok (.invokevirtual index, 3))
    (ht : c.exceptionTable.toList = [x]) (hx : covers x pc = true) (h0 : x.catchType ≠ 0) (hlk : Cond.classLink own x.catchType name ∈ q_T) (hcast : Cond.castable E name ∈ q_TE)
    (kx : rv = none → ∀ q : Nat, q_W p l e R s m args below meth c Q A D cy nL (cells + 1) (slots + 6) Sv x.handlerPc lv [va_rf (some q)])
    (k : ∀ v : Int32, some v = rv → q_W p l e R s m args below meth c Q A D cy nL (cells + 1) (slots + 6) Sv (pc + 3) lv (.int v :: st)) : q_W p l e R s m args below meth c Q A D cy nL cells slots S (pc) lv (stk) := by
  intro H locs ls h1 h2 h3 h4
  subst er
  subst hstk
  obtain ⟨q0, hq⟩ := q_w_get (cy := cy) hm
  rw [q_c_obj hk h100] at hq
  have hF := q_freeAll h3 h4 X.2.2.1
  have hE1 : q_E (va_A (q_w cy S) H.size) s H := q_E_narrow (q_E_kept hE h4.2.1) hF
  refine vx_calli (vx_runV (As := As) (rest := st) X.1 (hM H.size) cw ⟨q_blindE, va_recv X.2.1 h2 hcl hq, fun U hU hW => ⟨rfl, ⟨by rw [hU], by rw [hU]; exact h2, va_K.moved hW.alike X.2.1, h3.weaken (fun _ _ _ _ => trivial), q_Nst_warm hW X.2.2.2⟩, by rw [hU]; exact q_E_warm hW hE1⟩⟩ rfl hn h1.1 rfl (lv_room hW) hd ⟨hc.1, hc.2⟩) h4 (fun q _ h => hF q h) hF (fun q _ h => hF q h) (fun E9 ce q9 u t H1 locs1 ht9 hvm hp hB hz1 hk1 hS hcell hv hcl9 => ?_) (fun v u t H1 locs1 ht9 hvm hw hB hz1 hk1 hS => ?_)
  · obtain ⟨er, rfl⟩ := hp
    obtain ⟨rfl, hP1, hK1, hD1⟩ := hB
    rw [ht9] at hP1
    exact q_catch1 X.1.2.2.2.1 ht hx h0 (X.1.2.2.2.2 _ hlk) (va_Nw.use rfl (hE.1 _ hcast)) hcell hv hcl9 (kx er q9 H1 locs1 ls h1 hP1 (hD1.weaken (fun _ _ _ h => hF _ h)) hS)
  · obtain ⟨er, rfl⟩ := hw
    obtain ⟨hP1, hK1, hD1⟩ := hB
    rw [ht9] at hP1
    exact k v er H1 locs1 ls h1 hP1 (hD1.weaken (fun _ _ _ h => hF _ h)) hS
theorem q_MH_of {y : MethodName} {cc : ByteArray} {maxL : Nat} {rm : Room} {av : List Value} {rv : Int32} {ty : FieldType} {hh : List (Nat × Nat × Nat × Nat)} (hy : plainName y.cls = true) (hl : (lg_sl av).length ≤ maxL)
    (body : ∀ (p : Program) (e : Env) (s : State) (m : MethodId) (args : Array Value) (below : List Frame) (meth : Method) (c : Code) (A : Nat → Prop), q_X p s m args c cc maxL y.cls q_T D cy A → meth.sig.returnType = some ty → meth.locks = false → c.exceptionTable.toList = tableOf hh → q_E A s s.heap → q_W p l e rm s m args below meth c (vx_MQ below (va_Qi (fun (r : Int32) (u : q_S) => r = rv ∧ u = Sv) (q_B D cy A) A) (q_XH A) args s 1 6 A) A D cy maxL 0 0 S 0 (lv_args 0 av) []) : q_MH l y (q_wsW y cc maxL (some ty) hh) rm D cy av S rv Sv := by
  intro sz
  refine vx_ofWH (cc := cc) (maxL := maxL) (ret := some ty) (hh := hh) hy rfl ?_
  intro p e s m args below meth c s₁ B hml hv
  obtain ⟨rfl, ⟨hsz, hP, hK, hD0, hN⟩, hE⟩ := hv
  have hts := atoms_spec (ws := q_wsW y cc maxL (some ty) hh) B.pre
  have hown : s.vm.findClass y.cls = some m.cls := findClass_of_methodNamed B.named
  have htb : c.exceptionTable.toList = tableOf hh := vx_table (x := y) B (hts _ List.mem_cons_self)
  subst hsz
  have hD := hD0.self (sz := s.heap.size)
  have hl := lv_entry av (n := maxL) hl
  rw [lg_entry_eq]
  exact body p e s m _ below meth c (va_A (q_w cy S) s.heap.size) ⟨⟨B.exec, B.bytes, hml, hown, fun w h => hts w (List.mem_cons_of_mem _ h)⟩, hK, fun q h => Or.inr h, hN⟩ B.returns B.notSynchronized htb hE s.heap [] _ hl hP hD va_S.rf
theorem q_iretH (X : q_X p s m args c cc nL own q_T D cy A) {ty : FieldType} {v rv : Int32} (hr : meth.sig.returnType = some ty) (hlocks : meth.locks = false) (hn : narrow ty (.int v) = .int v) (ev : v = rv) (eS : S = Sv) (hd : decode cc pc = .ok (.ireturn, 1)) :
    q_W p l e R s m args below meth c (vx_MQ below (va_Qi (fun (r : Int32) (u : q_S) => r = rv ∧ u = Sv) (q_B D cy A) A) (q_XH A) args s 1 6 A) A D cy nL 1 6 S pc lv [.int v] := by
  intro H locs ls h1 h2 h3 h4
  exact vx_ret (W.zret X.1.1 X.1.2.1 hr hn (fun t ht hW => ⟨⟨v, S, rfl, ⟨ev, eS⟩, by rw [ht]; exact h2, va_K.moved hW.alike X.2.1, h3⟩, h4.F ht⟩) h4.2.2 hd hlocks)
/-- a call of such a method -/
theorem q_cSH (X : q_X p s m args c cc nL own q_T D cy A) (hE : q_E A s s.heap) {hh : List (Nat × Nat × Nat × Nat)} {rv : Int32} (hM : q_MH l y (q_wsW y bytes maxL ret hh) rm D cy As S rv Sv) (hcode : Cond.codeWith y bytes maxL ret hh ∈ q_T) (hl : Cond.methodLink own index y ∈ q_T) (hst : Cond.static y ∈ q_T) (hin : Cond.initialized y.cls ∈ q_T) (hrc : rm.cells = 1) (hrs : rm.slots = 6)
    (hdd : y.cls ≠ "java/lang/invoke/MethodHandle" ∧ y.cls ≠ "java/lang/invoke/VarHandle" ∧ (parseMethodDescriptor y.desc).map (fun d => d.parameters.length) = some n) (hR : rm.frames + 1 ≤ R.frames ∧ 8 + (maxL + 11) + rm.locals ≤ R.locals) (hn : As.length = n) (hstk : stk = As.reverse ++ st) (hW : (st.map fun v => v.category).sum ≤ 8) (hc : cells + 1 ≤ R.cells ∧ slots + 6 ≤ R.slots) (hd : decode cc pc = .ok (.invokestatic index, 3)) (k : q_W p l e R s m args below meth c Q A D cy nL (cells + 1) (slots + 6) Sv (pc + 3) lv (.int rv :: st)) : q_W p l e R s m args below meth c Q A D cy nL cells slots S (pc) lv (stk) := by
  intro H locs ls h1 h2 h3 h4
  subst hstk
  have hF := q_freeAll h3 h4 X.2.2.1
  have hE1 : q_E (va_A (q_w cy S) H.size) s H := q_E_narrow (q_E_kept hE h4.2.1) hF
  refine vx_calli (vx_runSX (hh := hh) (As := As) (rest := st) X.1 (hM H.size) (vx_cwSW n X.1.2.2.2.2 (q_goodW hcode hl hst hin) rfl hrc hrs hdd hR) ⟨q_blindE, fun U hU hW => ⟨rfl, ⟨by rw [hU], by rw [hU]; exact h2, va_K.moved hW.alike X.2.1, h3.weaken (fun _ _ _ _ => trivial), q_Nst_warm hW X.2.2.2⟩, by rw [hU]; exact q_E_warm hW hE1⟩⟩ rfl hn h1.1 rfl (lv_room hW) hd ⟨hc.1, hc.2⟩) h4 (fun q _ h => hF q h) hF (fun q _ h => hF q h) (fun E9 ce q9 u t H1 locs1 ht9 hvm hp hB hz1 hk1 hS hcell hv hcl9 => hp.elim) (fun v u t H1 locs1 ht9 hvm hw hB hz1 hk1 hS => ?_)
  obtain ⟨rfl, rfl⟩ := hw
  obtain ⟨hP1, hK1, hD1⟩ := hB
  rw [ht9] at hP1
  exact k H1 locs1 ls h1 hP1 (hD1.weaken (fun _ _ _ h => hF _ h)) hS
theorem q_pop2 (X : q_X p s m args c cc nL own q_T D cy A) {v : Int64} (hd : decode cc pc = .ok (.pop2, 1)) (k : q_W p l e R s m args below meth c Q A D cy nL cells slots S (pc + 1) lv (st)) : q_W p l e R s m args below meth c Q A D cy nL cells slots S (pc) lv (.long v :: st) := fun H locs ls h1 h2 h3 h4 => lv_pop2_2 X.1.1 X.1.2.1 hd rfl (k H locs ls h1 h2 h3 h4)
/-- the law's script -/
theorem q_sld (X : q_X p s m args c cc nL own q_T D cy A) {b L : Nat} {xs : Nat → Int32} (hX : va_X b L xs s s.heap) (hbl : b < s.heap.size) (hbA : ¬ A b) {i : Int32} (hin : vp_in i L) (hd : decode cc pc = .ok (.iaload, 1)) (k : q_W p l e R s m args below meth c Q A D cy nL cells slots S (pc + 1) lv (.int (xs i.toNatClampNeg) :: st)) : q_W p l e R s m args below meth c Q A D cy nL cells slots S (pc) lv (.int i :: va_rf (some b) :: st) := fun H locs ls h1 h2 h3 h4 => va_sld X.1.1 X.1.2.1 hX hbl hbA h4 hin hd (k H locs ls h1 h2 h3 h4)
theorem q_slen (X : q_X p s m args c cc nL own q_T D cy A) {b L : Nat} {xs : Nat → Int32} (hX : va_X b L xs s s.heap) (hbl : b < s.heap.size) (hbA : ¬ A b) (hd : decode cc pc = .ok (.arraylength, 1)) (k : q_W p l e R s m args below meth c Q A D cy nL cells slots S (pc + 1) lv (.int (Int32.ofNat L) :: st)) : q_W p l e R s m args below meth c Q A D cy nL cells slots S (pc) lv (va_rf (some b) :: st) := fun H locs ls h1 h2 h3 h4 => va_slen X.1.1 X.1.2.1 hX hbl hbA h4 hd (k H locs ls h1 h2 h3 h4)
end QH
