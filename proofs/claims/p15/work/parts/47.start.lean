/-! THE START: what the premises give, and the constructors; behind it the law is i_L_law, a matter of functions alone -/
def q_S0 : q_S := ([], fun _ => 0, fun _ => 0, fun _ _ => 0, fun _ _ => 0, fun _ _ => none)
def i_L_law (n L : Nat) (xs : Nat → Int32) : Prop := ∀ x : Nat, x ∉ q_L q_S0 → i_X11_init (q_nw q_S0 x 12 0) x (fun S1 => ∀ m : Nat, m ∉ q_L S1 → i_X12_init (q_nw S1 m 13 0) m (fun S2 => ∀ o : Nat, o ∉ q_L S2 → ∃ Sv, m_L_law_23 n L xs 520 (q_nw S2 o 101 1) (some x) (some m) (some o) 0 = some (1, Sv)))
theorem q_arrI {args : Array Value} {s : State} (h : (Cond.arrayClass .int).before args s = true) : ∃ cA, ArrOfT s cA .int ∧ va_RA s cA .int := by
  obtain ⟨c, k, comp, h1, h2, h3⟩ := Cond.arrayClass_spec h
  exact ⟨c, fun n z => ⟨fun k h => (by cases h), k, h2, comp, h3⟩, h1⟩
theorem q_arrJ {args : Array Value} {s : State} (h : (Cond.arrayClass .long).before args s = true) : ∃ cA, ArrOfT s cA .long ∧ va_RA s cA .long := by
  obtain ⟨c, k, comp, h1, h2, h3⟩ := Cond.arrayClass_spec h
  exact ⟨c, fun n z => ⟨fun k h => (by cases h), k, h2, comp, h3⟩, h1⟩
theorem q_arrZ {args : Array Value} {s : State} (h : (Cond.arrayClass .boolean).before args s = true) : ∃ cA, ArrOfT s cA .boolean ∧ va_RA s cA .boolean := by
  obtain ⟨c, k, comp, h1, h2, h3⟩ := Cond.arrayClass_spec h
  exact ⟨c, fun n z => ⟨fun k h => (by cases h), k, h2, comp, h3⟩, h1⟩
theorem q_arrQ {args : Array Value} {s : State} {C : String} (h : (Cond.arrayOver (.object C)).before args s = true) : ∃ cA, ArrOfT s cA (.object C) ∧ va_RA s cA (.object C) := by
  obtain ⟨comp, c, k, h1, -, h3, h4, h5⟩ := Cond.arrayOver_spec h
  exact ⟨c, fun n z => ⟨fun k h => (by cases h), k, h3, comp, h4⟩, k, comp, h3, h4, h1, h5⟩
set_option maxRecDepth 100000 in
theorem tW_Jx00060 : ∀ w ∈ u_ws RJx00060 TJx00060 6, w ∈ q_T := fun w h => List.mem_filter.mpr ⟨(show ∀ w ∈ u_ws RJx00060 TJx00060 6, w ∈ lw_tbl by decide +kernel) w h, (show ∀ w ∈ u_ws RJx00060 TJx00060 6, goodWord w = true by decide +kernel) w h⟩
set_option maxHeartbeats 4000000 in
set_option maxRecDepth 100000 in
theorem q_known {args : Array Value} {s : State} (hts : ∀ w ∈ lw_tbl, w.before args s = true) (hN : q_Nst s) : ∃ (D : va_G) (cy : Nat → ClassId), va_K D vwCl (q_tys cy) s := by
  obtain ⟨c0, i0, k0⟩ := u_known (C := RJx00060) (T := TJx00060) (N := 6) (n := 6) hts (fun w h => (List.mem_filter.mp (tW_Jx00060 w h)).1) (hts _ (List.mem_filter.mp tJ_Jx00060).1)
  obtain ⟨c1, i1, k1⟩ := u_known (C := RX0) (T := TX0) (N := 3) (n := 3) hts (fun w h => (List.mem_filter.mp (tW_X0 w h)).1) (hts _ (List.mem_filter.mp tJ_X0).1)
  obtain ⟨c2, i2, k2⟩ := u_known (C := RX1) (T := TX1) (N := 14) (n := 14) hts (fun w h => (List.mem_filter.mp (tW_X1 w h)).1) (hts _ (List.mem_filter.mp tJ_X1).1)
  obtain ⟨c3, i3, k3⟩ := u_known (C := RX2) (T := TX2) (N := 4) (n := 4) hts (fun w h => (List.mem_filter.mp (tW_X2 w h)).1) (hts _ (List.mem_filter.mp tJ_X2).1)
  obtain ⟨c4, i4, k4⟩ := u_known (C := RX3) (T := TX3) (N := 6) (n := 6) hts (fun w h => (List.mem_filter.mp (tW_X3 w h)).1) (hts _ (List.mem_filter.mp tJ_X3).1)
  obtain ⟨c5, i5, k5⟩ := u_known (C := RX4) (T := TX4) (N := 2) (n := 2) hts (fun w h => (List.mem_filter.mp (tW_X4 w h)).1) (hts _ (List.mem_filter.mp tJ_X4).1)
  obtain ⟨c6, i6, k6⟩ := u_known (C := RX5) (T := TX5) (N := 10) (n := 10) hts (fun w h => (List.mem_filter.mp (tW_X5 w h)).1) (hts _ (List.mem_filter.mp tJ_X5).1)
  obtain ⟨c7, i7, k7⟩ := u_known (C := RX6) (T := TX6) (N := 10) (n := 10) hts (fun w h => (List.mem_filter.mp (tW_X6 w h)).1) (hts _ (List.mem_filter.mp tJ_X6).1)
  obtain ⟨c8, i8, k8⟩ := u_known (C := RX7) (T := TX7) (N := 5) (n := 5) hts (fun w h => (List.mem_filter.mp (tW_X7 w h)).1) (hts _ (List.mem_filter.mp tJ_X7).1)
  obtain ⟨c9, i9, k9⟩ := u_known (C := RX8) (T := TX8) (N := 4) (n := 4) hts (fun w h => (List.mem_filter.mp (tW_X8 w h)).1) (hts _ (List.mem_filter.mp tJ_X8).1)
  obtain ⟨c10, i10, k10⟩ := u_known (C := RX9) (T := TX9) (N := 3) (n := 3) hts (fun w h => (List.mem_filter.mp (tW_X9 w h)).1) (hts _ (List.mem_filter.mp tJ_X9).1)
  obtain ⟨c11, i11, k11⟩ := u_known (C := RX10) (T := TX10) (N := 9) (n := 9) hts (fun w h => (List.mem_filter.mp (tW_X10 w h)).1) (hts _ (List.mem_filter.mp tJ_X10).1)
  obtain ⟨c12, i12, k12⟩ := u_known (C := RX11) (T := TX11) (N := 8) (n := 8) hts (fun w h => (List.mem_filter.mp (tW_X11 w h)).1) (hts _ (List.mem_filter.mp tJ_X11).1)
  obtain ⟨c13, i13, k13⟩ := u_known (C := RX12) (T := TX12) (N := 43) (n := 43) hts (fun w h => (List.mem_filter.mp (tW_X12 w h)).1) (hts _ (List.mem_filter.mp tJ_X12).1)
  obtain ⟨a0, e0⟩ := q_arrI (hts _ (List.mem_filter.mp tA_int).1)
  obtain ⟨a1, e1⟩ := q_arrJ (hts _ (List.mem_filter.mp tA_long).1)
  obtain ⟨a2, e2⟩ := q_arrZ (hts _ (List.mem_filter.mp tA_boolean).1)
  obtain ⟨a3, e3⟩ := q_arrQ (C := "TrueOutlines$Data") (args := #[]) (hN _ tA_Data)
  obtain ⟨a4, e4⟩ := q_arrQ (C := "TrueOutlines$Table") (args := #[]) (hN _ tA_Table)
  refine ⟨(fun k => if k = 0 then c0 else if k = 1 then c1 else if k = 2 then c2 else if k = 3 then c3 else if k = 4 then c4 else if k = 5 then c5 else if k = 6 then c6 else if k = 7 then c7 else if k = 8 then c8 else if k = 9 then c9 else if k = 10 then c10 else if k = 11 then c11 else if k = 12 then c12 else c13, fun k => if k = 0 then i0 else if k = 1 then i1 else if k = 2 then i2 else if k = 3 then i3 else if k = 4 then i4 else if k = 5 then i5 else if k = 6 then i6 else if k = 7 then i7 else if k = 8 then i8 else if k = 9 then i9 else if k = 10 then i10 else if k = 11 then i11 else if k = 12 then i12 else i13), fun k => if k = 0 then a0 else if k = 1 then a1 else if k = 2 then a2 else if k = 3 then a3 else a4, ?_, ?_⟩
  · intro k q hq
    match k, hq with
    | 0, hq => cases hq; exact k0
    | 1, hq => cases hq; exact k1
    | 2, hq => cases hq; exact k2
    | 3, hq => cases hq; exact k3
    | 4, hq => cases hq; exact k4
    | 5, hq => cases hq; exact k5
    | 6, hq => cases hq; exact k6
    | 7, hq => cases hq; exact k7
    | 8, hq => cases hq; exact k8
    | 9, hq => cases hq; exact k9
    | 10, hq => cases hq; exact k10
    | 11, hq => cases hq; exact k11
    | 12, hq => cases hq; exact k12
    | 13, hq => cases hq; exact k13
    | k + 14, hq => simp [vwCl] at hq
  · intro k q hq
    match k, hq with
    | 0, hq => cases hq; exact e0
    | 1, hq => cases hq; exact e1
    | 2, hq => cases hq; exact e2
    | 3, hq => cases hq; exact e3
    | 4, hq => cases hq; exact e4
    | k + 5, hq => simp [q_tys] at hq
theorem q_Nst_of {args : Array Value} {s : State} (hts : ∀ w ∈ lw_tbl, w.before args s = true) : q_Nst s := by
  intro w hw
  have hm := List.mem_filter.mp hw
  have hb := hts w (List.mem_append_right _ hm.1)
  have g := hm.2
  cases w with
  | fieldLinkNest a i b n d k => exact va_tabs rfl rfl hb
  | methodLinkNest a i x k => exact va_tabs rfl rfl hb
  | arrayOver ty =>
    cases ty with
    | object C => exact hb
    | _ => cases g
  | _ => cases g
theorem q_Ew_of {args : Array Value} {s : State} (hts : ∀ w ∈ lw_tbl, w.before args s = true) : q_Ew s := by
  intro w hw
  have hm := List.mem_filter.mp hw
  have hb := hts w (List.mem_append_right _ hm.1)
  have g := hm.2
  cases w with
  | declares x => exact va_tabs rfl rfl hb
  | castable C T => exact va_tabs rfl rfl hb
  | _ => cases g
theorem q_Es_1 {args : Array Value} {s : State} {own tx : String} {k : Nat} (h1 : (Cond.stringRef own k tx).before args s = true) (h2 : (Cond.exactly (.string own k) "java/lang/String").before args s = true) : ∃ sa : Nat, vk_R own k tx sa s := by
  obtain ⟨a, c, cell, k9, h3, -⟩ := Cond.exactly_spec h2
  exact ⟨a, vk_R.of h1 h3⟩
set_option maxHeartbeats 4000000 in
set_option maxRecDepth 100000 in
theorem q_E_of {args : Array Value} {s : State} (hts : ∀ w ∈ lw_tbl, w.before args s = true) (hgv : (Jvm.Cond.and given_1 narrow_1).before args s = true) : q_E (fun q => s.heap.size ≤ q) s s.heap := by
  have hs := flat_of_before _ hgv
  refine ⟨q_Ew_of hts, ?_, ?_, ?_⟩
  · intro z hz
    rcases List.mem_cons.mp hz with rfl | hz
    · exact q_Es_1 (hts (.stringRef RX11 112 "no such byte of a table") (by decide +kernel)) (hs (.exactly (.string RX11 112) "java/lang/String") (by decide +kernel))
    rcases List.mem_cons.mp hz with rfl | hz
    · exact q_Es_1 (hts (.stringRef RX11 159 "no such number of a piece") (by decide +kernel)) (hs (.exactly (.string RX11 159) "java/lang/String") (by decide +kernel))
    rcases List.mem_cons.mp hz with rfl | hz
    · exact q_Es_1 (hts (.stringRef RX11 167 "nothing such was told") (by decide +kernel)) (hs (.exactly (.string RX11 167) "java/lang/String") (by decide +kernel))
    cases hz
  · exact vx_Zqof (hts (.laysStatic Bundle.tN "UNASSIGNED_STACK" Bundle.steD) (by decide +kernel)) (hts (.initialized Bundle.tN) (by decide +kernel)) (hs (.isRef (.static Bundle.tN "UNASSIGNED_STACK" Bundle.steD)) (by decide +kernel)) (fun a ha h => Nat.not_le.mpr ha h)
  · exact vx_Zqof (hts (.laysStatic Bundle.tN "SUPPRESSED_SENTINEL" Bundle.listD) (by decide +kernel)) (hts (.initialized Bundle.tN) (by decide +kernel)) (hs (.isRef (.static Bundle.tN "SUPPRESSED_SENTINEL" Bundle.listD)) (by decide +kernel)) (fun a ha h => Nat.not_le.mpr ha h)
set_option maxHeartbeats 4000000 in
set_option maxRecDepth 100000 in
theorem q_begin {p : Program} {e : Env} {s : State} {m : MethodId} {below : List Frame} {meth : Method} {c : Code} {l : Launch} (hlt : l.stackTraces = false) {b L n : Nat} {xs : Nat → Int32} (h : i_L_law n L xs) (C0 : lw_At p s m meth c b L xs) : W p l e room_1 s m #[Value.ref b] below meth c s.heap [] 0 0 (lw_Z below #[Value.ref b] s) (entryFrame m ([Value.ref b] : List Value).toArray 7) := by
  obtain ⟨hx, hb, hr, hml, hown, hts, hX, hbl, hl, hgv⟩ := id C0
  have hN := q_Nst_of hts
  obtain ⟨D, cy, hK⟩ := q_known hts hN
  have X : q_X p s m #[Value.ref b] c cL_law 7 RL q_T D cy (fun q => s.heap.size ≤ q) := ⟨⟨hx, hb, hml, hown, fun w h => hts w (List.mem_filter.mp h).1⟩, hK, fun _ h => h, hN⟩
  have hE := q_E_of hts hgv
  have hv := lv_entry ([.ref b]) (n := 7) (Nat.le_of_ble_eq_true rfl)
  rw [lg_entry_eq]
  have hP0 : va_P D vwCl (q_w cy q_S0) s.heap := fun k q h => by simp [q_w, q_S0, q_L, va_pl] at h
  have hD0 : va_D (fun q => s.heap.size ≤ q) (q_w cy q_S0) := ⟨fun i j p q h => by simp [q_w, q_S0, q_L, va_pl] at h, fun k q h => by simp [q_w, q_S0, q_L, va_pl] at h⟩
  refine (?_ : q_W p l e room_1 s m #[Value.ref b] below meth c (lw_Z below #[Value.ref b] s) (fun q => s.heap.size ≤ q) D cy 7 0 0 q_S0 0 [(0, va_rf (some b))] []) s.heap [] _ hv hP0 hD0 va_S.rf
  refine q_rnew X tyX11 tyX11_ok rfl (by decide) tW_X11 tL_L_8 tJ_X11 tN_X11 q_df_X11 (Nat.le_of_ble_eq_true rfl) (Nat.le_of_ble_eq_true rfl) dL_law_0 (fun x fx => ?_)
  have h := h x fx
  refine q_dup X (q_catR _) dL_law_3 ?_
  refine q_cI X (As := []) rfl (ci_X11_init h) tK_X11_init tM_L_23 tI_X11_init tN_X11 rfl rfl rfl tD_X11_init ⟨Nat.le_of_ble_eq_true rfl, Nat.le_of_ble_eq_true rfl⟩ rfl rfl (by first | exact Nat.le_of_ble_eq_true rfl | (simp only [List.map, q_catR]; exact Nat.le_of_ble_eq_true rfl)) ⟨Nat.le_of_ble_eq_true rfl, Nat.le_of_ble_eq_true rfl⟩ dL_law_4 (fun S1 h => ?_)
  refine q_astore_n X 1 [(1, va_rf (some x)), (0, va_rf (some b))] rfl (by decide) (by first | rfl | simp [List.filter, q_catR]) dL_law_7 ?_
  refine q_rnew X tyX12 tyX12_ok rfl (by decide) tW_X12 tL_L_24 tJ_X12 tN_X12 q_df_X12 (Nat.le_of_ble_eq_true rfl) (Nat.le_of_ble_eq_true rfl) dL_law_8 (fun y fy => ?_)
  have h := h y fy
  refine q_dup X (q_catR _) dL_law_11 ?_
  refine q_cI X (As := []) rfl (ci_X12_init h) tK_X12_init tM_L_26 tI_X12_init tN_X12 rfl rfl rfl tD_X12_init ⟨Nat.le_of_ble_eq_true rfl, Nat.le_of_ble_eq_true rfl⟩ rfl rfl (by first | exact Nat.le_of_ble_eq_true rfl | (simp only [List.map, q_catR]; exact Nat.le_of_ble_eq_true rfl)) ⟨Nat.le_of_ble_eq_true rfl, Nat.le_of_ble_eq_true rfl⟩ dL_law_12 (fun S2 h => ?_)
  refine q_astore_n X 2 [(2, va_rf (some y)), (1, va_rf (some x)), (0, va_rf (some b))] rfl (by decide) (by first | rfl | simp [List.filter, q_catR]) dL_law_15 ?_
  refine q_iconst X (1) (by decide) dL_law_16 ?_
  refine q_rnewa101 X 1 tA_long (by decide) (by decide) (Nat.le_of_ble_eq_true rfl) (Nat.le_of_ble_eq_true rfl) (Nat.le_of_ble_eq_true rfl) dL_law_17 (fun z fz => ?_)
  obtain ⟨Sv, h⟩ := h z fz
  refine q_astore_n X 3 [(3, va_rf (some z)), (2, va_rf (some y)), (1, va_rf (some x)), (0, va_rf (some b))] rfl (by decide) (by first | rfl | simp [List.filter, q_catR]) dL_law_19 ?_
  refine q_iconst X (0) (by decide) dL_law_20 ?_
  refine q_istore X 4 [(4, .int (0 : Int32)), (3, va_rf (some z)), (2, va_rf (some y)), (1, va_rf (some x)), (0, va_rf (some b))] (by decide) (by first | rfl | simp [List.filter, q_catR]) dL_law_21 ?_
  refine q_lv [4, 3, 2, 1, 0] rfl ?_
  exact w_L_law_23 X hr hl hlt hE hX hbl (Nat.not_le.mpr hbl) (fun _ h => h) 520 _ _ (by omega) (by omega) _ _ _ _ _ h
