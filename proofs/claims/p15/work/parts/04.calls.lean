/-! CALLS, ENDS AND ENTRIES over the store -/
theorem q_goodT {y : MethodName} {cc : ByteArray} {n : Nat} {r : Option FieldType} (h : Cond.code y cc n r ∈ q_T) : GoodIn q_T (q_ws y cc n r) := by
  intro w hw
  have hm : w ∈ q_T := by
    rcases List.mem_cons.mp hw with e | e
    · rw [e]; exact h
    · exact e
  exact ⟨hm, good_of_word (List.mem_filter.mp hm).2⟩
theorem q_bool {v : Int32} (h : v = 0 ∨ v = 1) : narrow .boolean (.int v) = .int v := by
  rcases h with rfl | rfl <;> decide
theorem q_boolF {v : Int32} (h : v = 0 ∨ v = 1) : fits .boolean (.int v) = true := by
  rcases h with rfl | rfl <;> decide
section QC
variable {p : Program} {l : Launch} {e : Env} {R : Room} {s : State} {m : MethodId} {args : Array Value} {below : List Frame} {meth : Method} {c : Code} {Q : State → Prop} {A : Nat → Prop} {D : va_G} {cy : Nat → ClassId} {nL cells slots : Nat} {S Sv : q_S} {pc : Nat} {lv : List (Nat × Value)} {st stk : List Value} {cc : ByteArray} {own : String}
variable {y : MethodName} {bytes : ByteArray} {maxL index n : Nat} {ret : Option FieldType} {rm : Room} {C : String} {As : List Value}
theorem q_cwV (X : q_X p s m args c cc nL own q_T D cy A) (hcode : Cond.code y bytes maxL ret ∈ q_T) (hl : Cond.methodLink own index y ∈ q_T) (hi : Cond.instanceMethod y ∈ q_T) (hs : Cond.selects C y y ∈ q_T) (hn : Cond.initialized y.cls ∈ q_T) (hrc : rm.cells = 0) (hrs : rm.slots = 0)
    (hd : y.cls ≠ "java/lang/invoke/MethodHandle" ∧ y.cls ≠ "java/lang/invoke/VarHandle" ∧ (parseMethodDescriptor y.desc).map (fun d => d.parameters.length) = some n) (hR : rm.frames + 1 ≤ R.frames ∧ 8 + (maxL + 11) + rm.locals ≤ R.locals) :
    CallW R s args own C index y bytes maxL ret (q_ws y bytes maxL ret) rm 0 0 n :=
  ⟨callB_of n X.1.2.2.2.2 (q_goodT hcode) rfl hrc hrs (X.1.2.2.2.2 _ hn) (X.1.2.2.2.2 _ hl) hd hR, X.1.2.2.2.2 _ hi, X.1.2.2.2.2 _ hs⟩
theorem q_cwS (X : q_X p s m args c cc nL own q_T D cy A) (hcode : Cond.code y bytes maxL ret ∈ q_T) (hl : Cond.methodLink own index y ∈ q_T) (hs : Cond.static y ∈ q_T) (hn : Cond.initialized y.cls ∈ q_T) (hrc : rm.cells = 0) (hrs : rm.slots = 0)
    (hd : y.cls ≠ "java/lang/invoke/MethodHandle" ∧ y.cls ≠ "java/lang/invoke/VarHandle" ∧ (parseMethodDescriptor y.desc).map (fun d => d.parameters.length) = some n) (hR : rm.frames + 1 ≤ R.frames ∧ 8 + (maxL + 11) + rm.locals ≤ R.locals) :
    CallB R s args own index y bytes maxL ret (q_ws y bytes maxL ret) rm 0 0 n ∧ (Cond.static y).before args s = true :=
  ⟨callB_of n X.1.2.2.2.2 (q_goodT hcode) rfl hrc hrs (X.1.2.2.2.2 _ hn) (X.1.2.2.2.2 _ hl) hd hR, X.1.2.2.2.2 _ hs⟩
theorem q_cwSN (X : q_X p s m args c cc nL own q_T D cy A) {host : String} (hcode : Cond.code y bytes maxL ret ∈ q_T) (hl : Cond.methodLinkNest own index y host ∈ q_TN) (hs : Cond.static y ∈ q_T) (hn : Cond.initialized y.cls ∈ q_T) (hrc : rm.cells = 0) (hrs : rm.slots = 0)
    (hd : y.cls ≠ "java/lang/invoke/MethodHandle" ∧ y.cls ≠ "java/lang/invoke/VarHandle" ∧ (parseMethodDescriptor y.desc).map (fun d => d.parameters.length) = some n) (hR : rm.frames + 1 ≤ R.frames ∧ 8 + (maxL + 11) + rm.locals ≤ R.locals) :
    va_CN R s args own index y host bytes maxL ret (q_ws y bytes maxL ret) rm 0 0 n ∧ (Cond.static y).before args s = true ∧ True :=
  ⟨va_cnB n X.1.2.2.2.2 (q_goodT hcode) rfl hrc hrs (X.2.2.2 _ hl) (X.1.2.2.2.2 _ hn) hd hR, X.1.2.2.2.2 _ hs, trivial⟩
theorem q_blind {av : List Value} {sz : Nat} : FrameBlind (va_Pc av (q_P D cy S sz)) := fun a U g mk q => by
  obtain ⟨q0, q1, qP, qK, qD, qN⟩ := q
  exact ⟨q0, q1, qP, va_K.moved (u := U) (U := U.calling g mk a) (Vm.Alike.refl U.vm) qK, qD, q_Nst_same (u := U) (U := U.calling g mk a) rfl qN⟩
theorem q_cVI (X : q_X p s m args c cc nL own q_T D cy A) {rv : Int32} {r : Option Nat} {a ci N : Nat} {T : u_T} (er : r = some a) (hm : a ∈ q_L S) (hk : q_K S a = ci) (hcl : vwCl[ci]? = some (C, T, N)) (h100 : ci < 100) (hM : q_MI l y (q_ws y bytes maxL ret) rm D cy (.ref a :: As) S rv Sv) (cw : CallW R s args own C index y bytes maxL ret (q_ws y bytes maxL ret) rm 0 0 n) (hn : As.length = n) (hstk : stk = As.reverse ++ va_rf r :: st) (hW : (st.map fun v => v.category).sum ≤ 8) (hc : cells ≤ R.cells ∧ slots ≤ R.slots) (hd : decode cc pc = .ok (.invokevirtual index, 3)) (k : q_W p l e R s m args below meth c Q A D cy nL cells slots Sv (pc + 3) lv (.int rv :: st)) : q_W p l e R s m args below meth c Q A D cy nL cells slots S (pc) lv (stk) := by
  intro H locs ls h1 h2 h3 h4
  subst er
  subst hstk
  obtain ⟨q0, hq⟩ := q_w_get (cy := cy) hm
  rw [q_c_obj hk h100] at hq
  have hF := q_freeAll h3 h4 X.2.2.1
  refine va_calli (va_runV (As := As) (rest := st) X.1 (hM H.size) cw ⟨q_blind, va_recv X.2.1 h2 hcl hq, fun U hU hW => ⟨rfl, by rw [hU], by rw [hU]; exact h2, va_K.moved hW.alike X.2.1, h3.weaken (fun _ _ _ _ => trivial), q_Nst_warm hW X.2.2.2⟩⟩ rfl hn h1.1 rfl (lv_room hW) hd ⟨hc.1, hc.2⟩) h4 (fun q _ h => hF q h) hF (fun r u t H1 locs1 ht hvm hw hB hz1 hk1 hS => ?_)
  obtain ⟨rfl, rfl⟩ := hw
  obtain ⟨hP1, hK1, hD1⟩ := hB
  rw [ht] at hP1
  exact k H1 locs1 ls h1 hP1 (hD1.weaken (fun _ _ _ h => hF _ h)) hS
theorem q_cSI (X : q_X p s m args c cc nL own q_T D cy A) {rv : Int32} (hM : q_MI l y (q_ws y bytes maxL ret) rm D cy As S rv Sv) (cw : CallB R s args own index y bytes maxL ret (q_ws y bytes maxL ret) rm 0 0 n ∧ (Cond.static y).before args s = true) (hn : As.length = n) (hstk : stk = As.reverse ++ st) (hW : (st.map fun v => v.category).sum ≤ 8) (hc : cells ≤ R.cells ∧ slots ≤ R.slots) (hd : decode cc pc = .ok (.invokestatic index, 3)) (k : q_W p l e R s m args below meth c Q A D cy nL cells slots Sv (pc + 3) lv (.int rv :: st)) : q_W p l e R s m args below meth c Q A D cy nL cells slots S (pc) lv (stk) := by
  intro H locs ls h1 h2 h3 h4
  subst hstk
  have hF := q_freeAll h3 h4 X.2.2.1
  refine va_calli (va_runS (As := As) (rest := st) X.1 (hM H.size) cw ⟨q_blind, fun U hU hW => ⟨rfl, by rw [hU], by rw [hU]; exact h2, va_K.moved hW.alike X.2.1, h3.weaken (fun _ _ _ _ => trivial), q_Nst_warm hW X.2.2.2⟩⟩ rfl hn h1.1 rfl (lv_room hW) hd ⟨hc.1, hc.2⟩) h4 (fun q _ h => hF q h) hF (fun r u t H1 locs1 ht hvm hw hB hz1 hk1 hS => ?_)
  obtain ⟨rfl, rfl⟩ := hw
  obtain ⟨hP1, hK1, hD1⟩ := hB
  rw [ht] at hP1
  exact k H1 locs1 ls h1 hP1 (hD1.weaken (fun _ _ _ h => hF _ h)) hS
theorem q_cVJ (X : q_X p s m args c cc nL own q_T D cy A) {rv : Int64} {r : Option Nat} {a ci N : Nat} {T : u_T} (er : r = some a) (hm : a ∈ q_L S) (hk : q_K S a = ci) (hcl : vwCl[ci]? = some (C, T, N)) (h100 : ci < 100) (hM : q_MJ l y (q_ws y bytes maxL ret) rm D cy (.ref a :: As) S rv Sv) (cw : CallW R s args own C index y bytes maxL ret (q_ws y bytes maxL ret) rm 0 0 n) (hn : As.length = n) (hstk : stk = As.reverse ++ va_rf r :: st) (hW : (st.map fun v => v.category).sum ≤ 8) (hc : cells ≤ R.cells ∧ slots ≤ R.slots) (hd : decode cc pc = .ok (.invokevirtual index, 3)) (k : q_W p l e R s m args below meth c Q A D cy nL cells slots Sv (pc + 3) lv (.long rv :: st)) : q_W p l e R s m args below meth c Q A D cy nL cells slots S (pc) lv (stk) := by
  intro H locs ls h1 h2 h3 h4
  subst er
  subst hstk
  obtain ⟨q0, hq⟩ := q_w_get (cy := cy) hm
  rw [q_c_obj hk h100] at hq
  have hF := q_freeAll h3 h4 X.2.2.1
  refine va_calll (va_runV (As := As) (rest := st) X.1 (hM H.size) cw ⟨q_blind, va_recv X.2.1 h2 hcl hq, fun U hU hW => ⟨rfl, by rw [hU], by rw [hU]; exact h2, va_K.moved hW.alike X.2.1, h3.weaken (fun _ _ _ _ => trivial), q_Nst_warm hW X.2.2.2⟩⟩ rfl hn h1.1 rfl (lv_room hW) hd ⟨hc.1, hc.2⟩) h4 (fun q _ h => hF q h) hF (fun r u t H1 locs1 ht hvm hw hB hz1 hk1 hS => ?_)
  obtain ⟨rfl, rfl⟩ := hw
  obtain ⟨hP1, hK1, hD1⟩ := hB
  rw [ht] at hP1
  exact k H1 locs1 ls h1 hP1 (hD1.weaken (fun _ _ _ h => hF _ h)) hS
theorem q_cSJ (X : q_X p s m args c cc nL own q_T D cy A) {rv : Int64} (hM : q_MJ l y (q_ws y bytes maxL ret) rm D cy As S rv Sv) (cw : CallB R s args own index y bytes maxL ret (q_ws y bytes maxL ret) rm 0 0 n ∧ (Cond.static y).before args s = true) (hn : As.length = n) (hstk : stk = As.reverse ++ st) (hW : (st.map fun v => v.category).sum ≤ 8) (hc : cells ≤ R.cells ∧ slots ≤ R.slots) (hd : decode cc pc = .ok (.invokestatic index, 3)) (k : q_W p l e R s m args below meth c Q A D cy nL cells slots Sv (pc + 3) lv (.long rv :: st)) : q_W p l e R s m args below meth c Q A D cy nL cells slots S (pc) lv (stk) := by
  intro H locs ls h1 h2 h3 h4
  subst hstk
  have hF := q_freeAll h3 h4 X.2.2.1
  refine va_calll (va_runS (As := As) (rest := st) X.1 (hM H.size) cw ⟨q_blind, fun U hU hW => ⟨rfl, by rw [hU], by rw [hU]; exact h2, va_K.moved hW.alike X.2.1, h3.weaken (fun _ _ _ _ => trivial), q_Nst_warm hW X.2.2.2⟩⟩ rfl hn h1.1 rfl (lv_room hW) hd ⟨hc.1, hc.2⟩) h4 (fun q _ h => hF q h) hF (fun r u t H1 locs1 ht hvm hw hB hz1 hk1 hS => ?_)
  obtain ⟨rfl, rfl⟩ := hw
  obtain ⟨hP1, hK1, hD1⟩ := hB
  rw [ht] at hP1
  exact k H1 locs1 ls h1 hP1 (hD1.weaken (fun _ _ _ h => hF _ h)) hS
theorem q_cVV (X : q_X p s m args c cc nL own q_T D cy A) {r : Option Nat} {a ci N : Nat} {T : u_T} (er : r = some a) (hm : a ∈ q_L S) (hk : q_K S a = ci) (hcl : vwCl[ci]? = some (C, T, N)) (h100 : ci < 100) (hM : q_MV l y (q_ws y bytes maxL ret) rm D cy (.ref a :: As) S Sv) (cw : CallW R s args own C index y bytes maxL ret (q_ws y bytes maxL ret) rm 0 0 n) (hn : As.length = n) (hstk : stk = As.reverse ++ va_rf r :: st) (hW : (st.map fun v => v.category).sum ≤ 8) (hc : cells ≤ R.cells ∧ slots ≤ R.slots) (hd : decode cc pc = .ok (.invokevirtual index, 3)) (k : q_W p l e R s m args below meth c Q A D cy nL cells slots Sv (pc + 3) lv (st)) : q_W p l e R s m args below meth c Q A D cy nL cells slots S (pc) lv (stk) := by
  intro H locs ls h1 h2 h3 h4
  subst er
  subst hstk
  obtain ⟨q0, hq⟩ := q_w_get (cy := cy) hm
  rw [q_c_obj hk h100] at hq
  have hF := q_freeAll h3 h4 X.2.2.1
  refine va_callv (va_runV (As := As) (rest := st) X.1 (hM H.size) cw ⟨q_blind, va_recv X.2.1 h2 hcl hq, fun U hU hW => ⟨rfl, by rw [hU], by rw [hU]; exact h2, va_K.moved hW.alike X.2.1, h3.weaken (fun _ _ _ _ => trivial), q_Nst_warm hW X.2.2.2⟩⟩ rfl hn h1.1 rfl (lv_room hW) hd ⟨hc.1, hc.2⟩) h4 (fun q _ h => hF q h) hF (fun u t H1 locs1 ht hvm hw hB hz1 hk1 hS => ?_)
  obtain rfl := hw
  obtain ⟨hP1, hK1, hD1⟩ := hB
  rw [ht] at hP1
  exact k H1 locs1 ls h1 hP1 (hD1.weaken (fun _ _ _ h => hF _ h)) hS
theorem q_cSV (X : q_X p s m args c cc nL own q_T D cy A) (hM : q_MV l y (q_ws y bytes maxL ret) rm D cy As S Sv) (cw : CallB R s args own index y bytes maxL ret (q_ws y bytes maxL ret) rm 0 0 n ∧ (Cond.static y).before args s = true) (hn : As.length = n) (hstk : stk = As.reverse ++ st) (hW : (st.map fun v => v.category).sum ≤ 8) (hc : cells ≤ R.cells ∧ slots ≤ R.slots) (hd : decode cc pc = .ok (.invokestatic index, 3)) (k : q_W p l e R s m args below meth c Q A D cy nL cells slots Sv (pc + 3) lv (st)) : q_W p l e R s m args below meth c Q A D cy nL cells slots S (pc) lv (stk) := by
  intro H locs ls h1 h2 h3 h4
  subst hstk
  have hF := q_freeAll h3 h4 X.2.2.1
  refine va_callv (va_runS (As := As) (rest := st) X.1 (hM H.size) cw ⟨q_blind, fun U hU hW => ⟨rfl, by rw [hU], by rw [hU]; exact h2, va_K.moved hW.alike X.2.1, h3.weaken (fun _ _ _ _ => trivial), q_Nst_warm hW X.2.2.2⟩⟩ rfl hn h1.1 rfl (lv_room hW) hd ⟨hc.1, hc.2⟩) h4 (fun q _ h => hF q h) hF (fun u t H1 locs1 ht hvm hw hB hz1 hk1 hS => ?_)
  obtain rfl := hw
  obtain ⟨hP1, hK1, hD1⟩ := hB
  rw [ht] at hP1
  exact k H1 locs1 ls h1 hP1 (hD1.weaken (fun _ _ _ h => hF _ h)) hS
theorem q_cVR (X : q_X p s m args c cc nL own q_T D cy A) {rv : Nat} {r : Option Nat} {a ci N : Nat} {T : u_T} (er : r = some a) (hm : a ∈ q_L S) (hk : q_K S a = ci) (hcl : vwCl[ci]? = some (C, T, N)) (h100 : ci < 100) (hM : q_MR l y (q_ws y bytes maxL ret) rm D cy (.ref a :: As) S rv Sv) (cw : CallW R s args own C index y bytes maxL ret (q_ws y bytes maxL ret) rm 0 0 n) (hn : As.length = n) (hstk : stk = As.reverse ++ va_rf r :: st) (hW : (st.map fun v => v.category).sum ≤ 8) (hc : cells ≤ R.cells ∧ slots ≤ R.slots) (hd : decode cc pc = .ok (.invokevirtual index, 3)) (k : q_W p l e R s m args below meth c Q A D cy nL cells slots Sv (pc + 3) lv (va_rf (some rv) :: st)) : q_W p l e R s m args below meth c Q A D cy nL cells slots S (pc) lv (stk) := by
  intro H locs ls h1 h2 h3 h4
  subst er
  subst hstk
  obtain ⟨q0, hq⟩ := q_w_get (cy := cy) hm
  rw [q_c_obj hk h100] at hq
  have hF := q_freeAll h3 h4 X.2.2.1
  refine va_callr (va_runV (As := As) (rest := st) X.1 (hM H.size) cw ⟨q_blind, va_recv X.2.1 h2 hcl hq, fun U hU hW => ⟨rfl, by rw [hU], by rw [hU]; exact h2, va_K.moved hW.alike X.2.1, h3.weaken (fun _ _ _ _ => trivial), q_Nst_warm hW X.2.2.2⟩⟩ rfl hn h1.1 rfl (lv_room hW) hd ⟨hc.1, hc.2⟩) h4 (fun q _ h => hF q h) hF (fun u ra t H1 locs1 ht hvm hw hB hz1 hk1 hS => ?_)
  obtain rfl := hw
  obtain ⟨rfl, hP1, hK1, hD1⟩ := hB
  rw [ht] at hP1
  exact k H1 locs1 ls h1 hP1 (hD1.weaken (fun _ _ _ h => hF _ h)) hS
theorem q_cSR (X : q_X p s m args c cc nL own q_T D cy A) {rv : Nat} (hM : q_MR l y (q_ws y bytes maxL ret) rm D cy As S rv Sv) (cw : CallB R s args own index y bytes maxL ret (q_ws y bytes maxL ret) rm 0 0 n ∧ (Cond.static y).before args s = true) (hn : As.length = n) (hstk : stk = As.reverse ++ st) (hW : (st.map fun v => v.category).sum ≤ 8) (hc : cells ≤ R.cells ∧ slots ≤ R.slots) (hd : decode cc pc = .ok (.invokestatic index, 3)) (k : q_W p l e R s m args below meth c Q A D cy nL cells slots Sv (pc + 3) lv (va_rf (some rv) :: st)) : q_W p l e R s m args below meth c Q A D cy nL cells slots S (pc) lv (stk) := by
  intro H locs ls h1 h2 h3 h4
  subst hstk
  have hF := q_freeAll h3 h4 X.2.2.1
  refine va_callr (va_runS (As := As) (rest := st) X.1 (hM H.size) cw ⟨q_blind, fun U hU hW => ⟨rfl, by rw [hU], by rw [hU]; exact h2, va_K.moved hW.alike X.2.1, h3.weaken (fun _ _ _ _ => trivial), q_Nst_warm hW X.2.2.2⟩⟩ rfl hn h1.1 rfl (lv_room hW) hd ⟨hc.1, hc.2⟩) h4 (fun q _ h => hF q h) hF (fun u ra t H1 locs1 ht hvm hw hB hz1 hk1 hS => ?_)
  obtain rfl := hw
  obtain ⟨rfl, hP1, hK1, hD1⟩ := hB
  rw [ht] at hP1
  exact k H1 locs1 ls h1 hP1 (hD1.weaken (fun _ _ _ h => hF _ h)) hS
theorem q_cSNI (X : q_X p s m args c cc nL own q_T D cy A) {rv : Int32} (hM : q_MI l y (q_ws y bytes maxL ret) rm D cy As S rv Sv) {host : String} (cw : va_CN R s args own index y host bytes maxL ret (q_ws y bytes maxL ret) rm 0 0 n ∧ (Cond.static y).before args s = true ∧ True) (hn : As.length = n) (hstk : stk = As.reverse ++ st) (hW : (st.map fun v => v.category).sum ≤ 8) (hc : cells ≤ R.cells ∧ slots ≤ R.slots) (hd : decode cc pc = .ok (.invokestatic index, 3)) (k : q_W p l e R s m args below meth c Q A D cy nL cells slots Sv (pc + 3) lv (.int rv :: st)) : q_W p l e R s m args below meth c Q A D cy nL cells slots S (pc) lv (stk) := by
  intro H locs ls h1 h2 h3 h4
  subst hstk
  have hF := q_freeAll h3 h4 X.2.2.1
  refine va_calli (va_runSN (As := As) (rest := st) X.1 (hM H.size) cw ⟨q_blind, fun U hU hW => ⟨rfl, by rw [hU], by rw [hU]; exact h2, va_K.moved hW.alike X.2.1, h3.weaken (fun _ _ _ _ => trivial), q_Nst_warm hW X.2.2.2⟩⟩ rfl hn h1.1 rfl (lv_room hW) hd ⟨hc.1, hc.2⟩) h4 (fun q _ h => hF q h) hF (fun r u t H1 locs1 ht hvm hw hB hz1 hk1 hS => ?_)
  obtain ⟨rfl, rfl⟩ := hw
  obtain ⟨hP1, hK1, hD1⟩ := hB
  rw [ht] at hP1
  exact k H1 locs1 ls h1 hP1 (hD1.weaken (fun _ _ _ h => hF _ h)) hS
theorem q_iret (X : q_X p s m args c cc nL own q_T D cy A) {ty : FieldType} {v rv : Int32} (hr : meth.sig.returnType = some ty) (hlocks : meth.locks = false) (hn : narrow ty (.int v) = .int v) (ev : v = rv) (eS : S = Sv) (hd : decode cc pc = .ok (.ireturn, 1)) :
    q_W p l e R s m args below meth c (MQ below (va_Qi (fun (r : Int32) (u : q_S) => r = rv ∧ u = Sv) (q_B D cy A) A) args s 0 0 A) A D cy nL 0 0 S pc lv [.int v] := by
  intro H locs ls h1 h2 h3 h4
  exact W.zret X.1.1 X.1.2.1 hr hn (fun t ht hW => ⟨⟨v, S, rfl, ⟨ev, eS⟩, by rw [ht]; exact h2, va_K.moved hW.alike X.2.1, h3⟩, h4.F ht⟩) h4.2.2 hd hlocks
theorem q_lret (X : q_X p s m args c cc nL own q_T D cy A) {v rv : Int64} (hr : meth.sig.returnType = some .long) (hlocks : meth.locks = false) (ev : v = rv) (eS : S = Sv) (hd : decode cc pc = .ok (.lreturn, 1)) :
    q_W p l e R s m args below meth c (MQ below (va_Ql (fun (r : Int64) (u : q_S) => r = rv ∧ u = Sv) (q_B D cy A) A) args s 0 0 A) A D cy nL 0 0 S pc lv [.long v] := by
  intro H locs ls h1 h2 h3 h4
  exact W.lret X.1.1 X.1.2.1 hr (fun t ht hW => ⟨⟨v, S, rfl, ⟨ev, eS⟩, by rw [ht]; exact h2, va_K.moved hW.alike X.2.1, h3⟩, h4.F ht⟩) h4.2.2 hd hlocks
theorem q_vret (X : q_X p s m args c cc nL own q_T D cy A) (hr : meth.sig.returnType = none) (hlocks : meth.locks = false) (eS : S = Sv) (hd : decode cc pc = .ok (.return_, 1)) :
    q_W p l e R s m args below meth c (MQ below (va_Qv (fun (u : q_S) => u = Sv) (q_B D cy A) A) args s 0 0 A) A D cy nL 0 0 S pc lv [] := by
  intro H locs ls h1 h2 h3 h4
  exact W.vret X.1.1 X.1.2.1 hr (fun t ht hW => ⟨⟨S, rfl, eS, by rw [ht]; exact h2, va_K.moved hW.alike X.2.1, h3⟩, h4.F ht⟩) h4.2.2 hd hlocks
theorem q_aret (X : q_X p s m args c cc nL own q_T D cy A) {nm : String} {r : Option Nat} {rv : Nat} (hr : meth.sig.returnType = some (.object nm)) (hlocks : meth.locks = false) (er : r = some rv) (eS : S = Sv) (hd : decode cc pc = .ok (.areturn, 1)) :
    q_W p l e R s m args below meth c (MQ below (va_Qr (fun (u : q_S) => u = Sv) (fun (u : q_S) (a : Nat) (t : State) => a = rv ∧ q_B D cy A u t) A) args s 0 0 A) A D cy nL 0 0 S pc lv [va_rf r] := by
  intro H locs ls h1 h2 h3 h4
  subst er
  exact W.aret (v := .ref rv) X.1.1 X.1.2.1 hr (Or.inl ⟨nm, rfl⟩) (Or.inr ⟨rv, rfl⟩) (fun t ht hW => ⟨⟨S, rv, rfl, eS, rfl, by rw [ht]; exact h2, va_K.moved hW.alike X.2.1, h3⟩, h4.F ht⟩) h4.2.2 hd hlocks
theorem q_MI_of {y : MethodName} {cc : ByteArray} {maxL : Nat} {rm : Room} {av : List Value} {rv : Int32} {ty : FieldType} (hy : plainFor y = true) (hl : (lg_sl av).length ≤ maxL)
    (body : ∀ (p : Program) (e : Env) (s : State) (m : MethodId) (args : Array Value) (below : List Frame) (meth : Method) (c : Code) (A : Nat → Prop), q_X p s m args c cc maxL y.cls q_T D cy A → meth.sig.returnType = some ty → meth.locks = false → q_W p l e rm s m args below meth c (MQ below (va_Qi (fun (r : Int32) (u : q_S) => r = rv ∧ u = Sv) (q_B D cy A) A) args s 0 0 A) A D cy maxL 0 0 S 0 (lv_args 0 av) []) : q_MI l y (q_ws y cc maxL (some ty)) rm D cy av S rv Sv := by
  intro sz
  refine va_MetF (cc := cc) (maxL := maxL) (ret := some ty) hy rfl ?_
  intro p e s m args below meth c s₁ B hml hv
  obtain ⟨rfl, hsz, hP, hK, hD0, hN⟩ := hv
  have hts := atoms_spec (ws := q_ws y cc maxL (some ty)) B.pre
  have hown : s.vm.findClass y.cls = some m.cls := findClass_of_methodNamed B.named
  subst hsz
  have hD := hD0.self (sz := s.heap.size)
  have hl := lv_entry av (n := maxL) hl
  rw [lg_entry_eq]
  exact body p e s m _ below meth c (va_A (q_w cy S) s.heap.size) ⟨⟨B.exec, B.bytes, hml, hown, fun w h => hts w (List.mem_cons_of_mem _ h)⟩, hK, fun q h => Or.inr h, hN⟩ B.returns B.notSynchronized s.heap [] _ hl hP hD va_S.rf
theorem q_MJ_of {y : MethodName} {cc : ByteArray} {maxL : Nat} {rm : Room} {av : List Value} {rv : Int64} (hy : plainFor y = true) (hl : (lg_sl av).length ≤ maxL)
    (body : ∀ (p : Program) (e : Env) (s : State) (m : MethodId) (args : Array Value) (below : List Frame) (meth : Method) (c : Code) (A : Nat → Prop), q_X p s m args c cc maxL y.cls q_T D cy A → meth.sig.returnType = some .long → meth.locks = false → q_W p l e rm s m args below meth c (MQ below (va_Ql (fun (r : Int64) (u : q_S) => r = rv ∧ u = Sv) (q_B D cy A) A) args s 0 0 A) A D cy maxL 0 0 S 0 (lv_args 0 av) []) : q_MJ l y (q_ws y cc maxL (some .long)) rm D cy av S rv Sv := by
  intro sz
  refine va_MetF (cc := cc) (maxL := maxL) (ret := some .long) hy rfl ?_
  intro p e s m args below meth c s₁ B hml hv
  obtain ⟨rfl, hsz, hP, hK, hD0, hN⟩ := hv
  have hts := atoms_spec (ws := q_ws y cc maxL (some .long)) B.pre
  have hown : s.vm.findClass y.cls = some m.cls := findClass_of_methodNamed B.named
  subst hsz
  have hD := hD0.self (sz := s.heap.size)
  have hl := lv_entry av (n := maxL) hl
  rw [lg_entry_eq]
  exact body p e s m _ below meth c (va_A (q_w cy S) s.heap.size) ⟨⟨B.exec, B.bytes, hml, hown, fun w h => hts w (List.mem_cons_of_mem _ h)⟩, hK, fun q h => Or.inr h, hN⟩ B.returns B.notSynchronized s.heap [] _ hl hP hD va_S.rf
theorem q_MV_of {y : MethodName} {cc : ByteArray} {maxL : Nat} {rm : Room} {av : List Value} (hy : plainFor y = true) (hl : (lg_sl av).length ≤ maxL)
    (body : ∀ (p : Program) (e : Env) (s : State) (m : MethodId) (args : Array Value) (below : List Frame) (meth : Method) (c : Code) (A : Nat → Prop), q_X p s m args c cc maxL y.cls q_T D cy A → meth.sig.returnType = none → meth.locks = false → q_W p l e rm s m args below meth c (MQ below (va_Qv (fun (u : q_S) => u = Sv) (q_B D cy A) A) args s 0 0 A) A D cy maxL 0 0 S 0 (lv_args 0 av) []) : q_MV l y (q_ws y cc maxL (none)) rm D cy av S Sv := by
  intro sz
  refine va_MetF (cc := cc) (maxL := maxL) (ret := none) hy rfl ?_
  intro p e s m args below meth c s₁ B hml hv
  obtain ⟨rfl, hsz, hP, hK, hD0, hN⟩ := hv
  have hts := atoms_spec (ws := q_ws y cc maxL (none)) B.pre
  have hown : s.vm.findClass y.cls = some m.cls := findClass_of_methodNamed B.named
  subst hsz
  have hD := hD0.self (sz := s.heap.size)
  have hl := lv_entry av (n := maxL) hl
  rw [lg_entry_eq]
  exact body p e s m _ below meth c (va_A (q_w cy S) s.heap.size) ⟨⟨B.exec, B.bytes, hml, hown, fun w h => hts w (List.mem_cons_of_mem _ h)⟩, hK, fun q h => Or.inr h, hN⟩ B.returns B.notSynchronized s.heap [] _ hl hP hD va_S.rf
theorem q_MR_of {y : MethodName} {cc : ByteArray} {maxL : Nat} {rm : Room} {av : List Value} {rv : Nat} {ty : FieldType} (hy : plainFor y = true) (hl : (lg_sl av).length ≤ maxL)
    (body : ∀ (p : Program) (e : Env) (s : State) (m : MethodId) (args : Array Value) (below : List Frame) (meth : Method) (c : Code) (A : Nat → Prop), q_X p s m args c cc maxL y.cls q_T D cy A → meth.sig.returnType = some ty → meth.locks = false → q_W p l e rm s m args below meth c (MQ below (va_Qr (fun (u : q_S) => u = Sv) (fun (u : q_S) (a : Nat) (t : State) => a = rv ∧ q_B D cy A u t) A) args s 0 0 A) A D cy maxL 0 0 S 0 (lv_args 0 av) []) : q_MR l y (q_ws y cc maxL (some ty)) rm D cy av S rv Sv := by
  intro sz
  refine va_MetF (cc := cc) (maxL := maxL) (ret := some ty) hy rfl ?_
  intro p e s m args below meth c s₁ B hml hv
  obtain ⟨rfl, hsz, hP, hK, hD0, hN⟩ := hv
  have hts := atoms_spec (ws := q_ws y cc maxL (some ty)) B.pre
  have hown : s.vm.findClass y.cls = some m.cls := findClass_of_methodNamed B.named
  subst hsz
  have hD := hD0.self (sz := s.heap.size)
  have hl := lv_entry av (n := maxL) hl
  rw [lg_entry_eq]
  exact body p e s m _ below meth c (va_A (q_w cy S) s.heap.size) ⟨⟨B.exec, B.bytes, hml, hown, fun w h => hts w (List.mem_cons_of_mem _ h)⟩, hK, fun q h => Or.inr h, hN⟩ B.returns B.notSynchronized s.heap [] _ hl hP hD va_S.rf
end QC
theorem q_lv {p : Program} {l : Launch} {e : Env} {R : Room} {s : State} {m : MethodId} {args : Array Value} {below : List Frame} {meth : Method} {c : Code} {Q : State → Prop} {A : Nat → Prop} {D : va_G} {cy : Nat → ClassId} {nL cells slots : Nat} {S : q_S} {pc : Nat} {lv lv2 : List (Nat × Value)} {st : List Value} (ks : List Nat) (hl : lv_pick lv ks = lv2) (k : q_W p l e R s m args below meth c Q A D cy nL cells slots S pc lv2 st) : q_W p l e R s m args below meth c Q A D cy nL cells slots S pc lv st :=
  fun H locs ls h1 h2 h3 h4 => k H locs ls (lv_sub h1 ks hl) h2 h3 h4
theorem q_catR (r : Option Nat) : (va_rf r).category = 1 := by cases r <;> rfl
theorem q_end {α : Type} {v rv : α} {S Sv : q_S} (h : some (v, S) = some (rv, Sv)) : v = rv ∧ S = Sv := by
  have h := Option.some.inj h
  exact ⟨congrArg Prod.fst h, congrArg Prod.snd h⟩
theorem q_nR (n : String) (r : Option Nat) : narrow (.object n) (va_rf r) = va_rf r := by cases r <;> rfl
theorem q_fR (n : String) (r : Option Nat) : fits (.object n) (va_rf r) = true := by cases r <;> rfl
def q_let {β : Type} (x : q_S) (k : q_S → Option β) : Option β := k x
theorem q_letE {β : Type} {x : q_S} {k : q_S → Option β} {y : β} (h : q_let x k = some y) : ∃ T, T = x ∧ k T = some y := ⟨x, rfl, h⟩
theorem q_sub {p : Program} {l : Launch} {e : Env} {R : Room} {s : State} {m : MethodId} {args : Array Value} {below : List Frame} {meth : Method} {c : Code} {Q : State → Prop} {A : Nat → Prop} {D : va_G} {cy : Nat → ClassId} {nL cells slots : Nat} {S T : q_S} {pc : Nat} {lv : List (Nat × Value)} {st : List Value} (e2 : T = S) (k : q_W p l e R s m args below meth c Q A D cy nL cells slots T pc lv st) : q_W p l e R s m args below meth c Q A D cy nL cells slots S pc lv st := by
  subst e2
  exact k
theorem q_LsI {S : q_S} {a k b : Nat} {x : Int32} (h : b ∈ q_L S) : b ∈ q_L (q_sI S a k x) := h
theorem q_KsI {S : q_S} {a k b c : Nat} {x : Int32} (h : q_K S b = c) : q_K (q_sI S a k x) b = c := h
theorem q_LsJ {S : q_S} {a k b : Nat} {x : Int64} (h : b ∈ q_L S) : b ∈ q_L (q_sJ S a k x) := h
theorem q_KsJ {S : q_S} {a k b c : Nat} {x : Int64} (h : q_K S b = c) : q_K (q_sJ S a k x) b = c := h
theorem q_LsR {S : q_S} {a k b : Nat} {x : Option Nat} (h : b ∈ q_L S) : b ∈ q_L (q_sR S a k x) := h
theorem q_KsR {S : q_S} {a k b c : Nat} {x : Option Nat} (h : q_K S b = c) : q_K (q_sR S a k x) b = c := h
