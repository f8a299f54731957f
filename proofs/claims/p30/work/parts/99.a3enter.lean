/-! the law from its entry: what the Statement gives of the start, the object, the walk -/
set_option maxRecDepth 100000 in
set_option maxHeartbeats 4000000 in
theorem lst_0 {s : State} {b : Nat} (hgv : (Jvm.Cond.and given_1 narrow_1).before #[Value.ref b] s = true) (hts : ∀ w ∈ lw_tbl, w.before #[Value.ref b] s = true) : ∃ t : Nat, gZ1 "LOWEST" t 5 zLow (fun q => s.heap.size ≤ q) s s.heap := by
  have hn := flat_of_before _ hgv
  have hA : ∀ a : Nat, a < s.heap.size → ¬ (fun q => s.heap.size ≤ q) a := fun a h z => absurd z (Nat.not_le.mpr h)
  have e0 : (Term.elem (.static "RepairDuty" "LOWEST" "[I") (.int 0)).eval #[Value.ref b] s none [] s = some (.int 1) := va_eqt (hn (.eq (.elem (.static "RepairDuty" "LOWEST" "[I") (.int 0)) (.int 1)) (by decide +kernel))
  have e1 : (Term.elem (.static "RepairDuty" "LOWEST" "[I") (.int 1)).eval #[Value.ref b] s none [] s = some (.int 0) := va_eqt (hn (.eq (.elem (.static "RepairDuty" "LOWEST" "[I") (.int 1)) (.int 0)) (by decide +kernel))
  have e2 : (Term.elem (.static "RepairDuty" "LOWEST" "[I") (.int 2)).eval #[Value.ref b] s none [] s = some (.int 1) := va_eqt (hn (.eq (.elem (.static "RepairDuty" "LOWEST" "[I") (.int 2)) (.int 1)) (by decide +kernel))
  have e3 : (Term.elem (.static "RepairDuty" "LOWEST" "[I") (.int 3)).eval #[Value.ref b] s none [] s = some (.int 0) := va_eqt (hn (.eq (.elem (.static "RepairDuty" "LOWEST" "[I") (.int 3)) (.int 0)) (by decide +kernel))
  have e4 : (Term.elem (.static "RepairDuty" "LOWEST" "[I") (.int 4)).eval #[Value.ref b] s none [] s = some (.int 0) := va_eqt (hn (.eq (.elem (.static "RepairDuty" "LOWEST" "[I") (.int 4)) (.int 0)) (by decide +kernel))
  obtain ⟨t, h1, h2⟩ := va_Tof (tm := (.static "RepairDuty" "LOWEST" "[I")) (ty := .int) (N := 5) (f := fun j => .int (zLow j)) (by decide) (hn (.arrayOf (.static "RepairDuty" "LOWEST" "[I") .int) (by decide +kernel)) (va_eqt (hn (.eq (.length (.static "RepairDuty" "LOWEST" "[I")) (.int 5)) (by decide +kernel))) (fun j hj => match j, hj with
    | 0, _ => e0
    | 1, _ => e1
    | 2, _ => e2
    | 3, _ => e3
    | 4, _ => e4
    | j + 5, hj => absurd hj (by omega)) hA
  exact ⟨t, va_Zof (hts (.laysStatic RX9 "LOWEST" "[I") (List.mem_of_getElem? (i := 392) (by decide +kernel))) (hts (.initialized RX9) (wG_in wd_4)) h1 hA, h2⟩
set_option maxRecDepth 100000 in
set_option maxHeartbeats 4000000 in
theorem lst_1 {s : State} {b : Nat} (hgv : (Jvm.Cond.and given_1 narrow_1).before #[Value.ref b] s = true) (hts : ∀ w ∈ lw_tbl, w.before #[Value.ref b] s = true) : ∃ t : Nat, gZ1 "HIGHEST" t 5 zHigh (fun q => s.heap.size ≤ q) s s.heap := by
  have hn := flat_of_before _ hgv
  have hA : ∀ a : Nat, a < s.heap.size → ¬ (fun q => s.heap.size ≤ q) a := fun a h z => absurd z (Nat.not_le.mpr h)
  have e0 : (Term.elem (.static "RepairDuty" "HIGHEST" "[I") (.int 0)).eval #[Value.ref b] s none [] s = some (.int 1000) := va_eqt (hn (.eq (.elem (.static "RepairDuty" "HIGHEST" "[I") (.int 0)) (.int 1000)) (by decide +kernel))
  have e1 : (Term.elem (.static "RepairDuty" "HIGHEST" "[I") (.int 1)).eval #[Value.ref b] s none [] s = some (.int 500) := va_eqt (hn (.eq (.elem (.static "RepairDuty" "HIGHEST" "[I") (.int 1)) (.int 500)) (by decide +kernel))
  have e2 : (Term.elem (.static "RepairDuty" "HIGHEST" "[I") (.int 2)).eval #[Value.ref b] s none [] s = some (.int 10) := va_eqt (hn (.eq (.elem (.static "RepairDuty" "HIGHEST" "[I") (.int 2)) (.int 10)) (by decide +kernel))
  have e3 : (Term.elem (.static "RepairDuty" "HIGHEST" "[I") (.int 3)).eval #[Value.ref b] s none [] s = some (.int 100) := va_eqt (hn (.eq (.elem (.static "RepairDuty" "HIGHEST" "[I") (.int 3)) (.int 100)) (by decide +kernel))
  have e4 : (Term.elem (.static "RepairDuty" "HIGHEST" "[I") (.int 4)).eval #[Value.ref b] s none [] s = some (.int 100) := va_eqt (hn (.eq (.elem (.static "RepairDuty" "HIGHEST" "[I") (.int 4)) (.int 100)) (by decide +kernel))
  obtain ⟨t, h1, h2⟩ := va_Tof (tm := (.static "RepairDuty" "HIGHEST" "[I")) (ty := .int) (N := 5) (f := fun j => .int (zHigh j)) (by decide) (hn (.arrayOf (.static "RepairDuty" "HIGHEST" "[I") .int) (by decide +kernel)) (va_eqt (hn (.eq (.length (.static "RepairDuty" "HIGHEST" "[I")) (.int 5)) (by decide +kernel))) (fun j hj => match j, hj with
    | 0, _ => e0
    | 1, _ => e1
    | 2, _ => e2
    | 3, _ => e3
    | 4, _ => e4
    | j + 5, hj => absurd hj (by omega)) hA
  exact ⟨t, va_Zof (hts (.laysStatic RX9 "HIGHEST" "[I") (List.mem_of_getElem? (i := 394) (by decide +kernel))) (hts (.initialized RX9) (wG_in wd_4)) h1 hA, h2⟩
set_option maxRecDepth 100000 in
set_option maxHeartbeats 4000000 in
theorem lst_2 {s : State} {b : Nat} (hgv : (Jvm.Cond.and given_1 narrow_1).before #[Value.ref b] s = true) (hts : ∀ w ∈ lw_tbl, w.before #[Value.ref b] s = true) : ∃ t : Nat, gZ1 "WAITS_TO_TRY" t 6 zTry (fun q => s.heap.size ≤ q) s s.heap := by
  have hn := flat_of_before _ hgv
  have hA : ∀ a : Nat, a < s.heap.size → ¬ (fun q => s.heap.size ≤ q) a := fun a h z => absurd z (Nat.not_le.mpr h)
  have e0 : (Term.elem (.static "RepairDuty" "WAITS_TO_TRY" "[I") (.int 0)).eval #[Value.ref b] s none [] s = some (.int 1) := va_eqt (hn (.eq (.elem (.static "RepairDuty" "WAITS_TO_TRY" "[I") (.int 0)) (.int 1)) (by decide +kernel))
  have e1 : (Term.elem (.static "RepairDuty" "WAITS_TO_TRY" "[I") (.int 1)).eval #[Value.ref b] s none [] s = some (.int 10) := va_eqt (hn (.eq (.elem (.static "RepairDuty" "WAITS_TO_TRY" "[I") (.int 1)) (.int 10)) (by decide +kernel))
  have e2 : (Term.elem (.static "RepairDuty" "WAITS_TO_TRY" "[I") (.int 2)).eval #[Value.ref b] s none [] s = some (.int 30) := va_eqt (hn (.eq (.elem (.static "RepairDuty" "WAITS_TO_TRY" "[I") (.int 2)) (.int 30)) (by decide +kernel))
  have e3 : (Term.elem (.static "RepairDuty" "WAITS_TO_TRY" "[I") (.int 3)).eval #[Value.ref b] s none [] s = some (.int 100) := va_eqt (hn (.eq (.elem (.static "RepairDuty" "WAITS_TO_TRY" "[I") (.int 3)) (.int 100)) (by decide +kernel))
  have e4 : (Term.elem (.static "RepairDuty" "WAITS_TO_TRY" "[I") (.int 4)).eval #[Value.ref b] s none [] s = some (.int 300) := va_eqt (hn (.eq (.elem (.static "RepairDuty" "WAITS_TO_TRY" "[I") (.int 4)) (.int 300)) (by decide +kernel))
  have e5 : (Term.elem (.static "RepairDuty" "WAITS_TO_TRY" "[I") (.int 5)).eval #[Value.ref b] s none [] s = some (.int 1000) := va_eqt (hn (.eq (.elem (.static "RepairDuty" "WAITS_TO_TRY" "[I") (.int 5)) (.int 1000)) (by decide +kernel))
  obtain ⟨t, h1, h2⟩ := va_Tof (tm := (.static "RepairDuty" "WAITS_TO_TRY" "[I")) (ty := .int) (N := 6) (f := fun j => .int (zTry j)) (by decide) (hn (.arrayOf (.static "RepairDuty" "WAITS_TO_TRY" "[I") .int) (by decide +kernel)) (va_eqt (hn (.eq (.length (.static "RepairDuty" "WAITS_TO_TRY" "[I")) (.int 6)) (by decide +kernel))) (fun j hj => match j, hj with
    | 0, _ => e0
    | 1, _ => e1
    | 2, _ => e2
    | 3, _ => e3
    | 4, _ => e4
    | 5, _ => e5
    | j + 6, hj => absurd hj (by omega)) hA
  exact ⟨t, va_Zof (hts (.laysStatic RX9 "WAITS_TO_TRY" "[I") (List.mem_of_getElem? (i := 567) (by decide +kernel))) (hts (.initialized RX9) (wG_in wd_4)) h1 hA, h2⟩
theorem known_all {s : State} {args : Array Value} (hw : ∀ w ∈ wG, w.before args s = true) : ∃ D : va_G, ∀ (k : Nat) (q : vw_C), vwCl[k]? = some q → u_Kn s q.1 q.2.1 q.2.2 (D.1 k) (D.2 k) := by
  obtain ⟨k0, i0, n0⟩ := u_known (C := RX0) (T := TX0) (N := 4) (n := 4) hw wi_X0 (hw (.instantiable RX0 4) wd_101)
  obtain ⟨k1, i1, n1⟩ := u_known (C := RX1) (T := TX1) (N := 3) (n := 3) hw wi_X1 (hw (.instantiable RX1 3) wd_182)
  obtain ⟨k2, i2, n2⟩ := u_known (C := RX2) (T := TX2) (N := 4) (n := 4) hw wi_X2 (hw (.instantiable RX2 4) wd_129)
  obtain ⟨k3, i3, n3⟩ := u_known (C := RX3) (T := TX3) (N := 10) (n := 10) hw wi_X3 (hw (.instantiable RX3 10) wd_43)
  obtain ⟨k4, i4, n4⟩ := u_known (C := RX5) (T := TX5) (N := 12) (n := 12) hw wi_X5 (hw (.instantiable RX5 12) wd_218)
  obtain ⟨k5, i5, n5⟩ := u_known (C := RX6) (T := TX6) (N := 1) (n := 1) hw wi_X6 (hw (.instantiable RX6 1) wd_32)
  obtain ⟨k6, i6, n6⟩ := u_known (C := RX7) (T := TX7) (N := 5) (n := 5) hw wi_X7 (hw (.instantiable RX7 5) wd_26)
  obtain ⟨k7, i7, n7⟩ := u_known (C := RX8) (T := TX8) (N := 2) (n := 2) hw wi_X8 (hw (.instantiable RX8 2) wd_202)
  obtain ⟨k8, i8, n8⟩ := u_known (C := RX9) (T := TX9) (N := 5) (n := 5) hw wi_X9 (hw (.instantiable RX9 5) wd_18)
  refine ⟨(fun k => ([k0, k1, k2, k3, k4, k5, k6, k7, k8] : List ClassId).getD k 0, fun k => ([i0, i1, i2, i3, i4, i5, i6, i7, i8] : List (Nat → Nat)).getD k (fun _ => 0)), fun k q hq => ?_⟩
  match k, hq with
  | 0, hq => cases hq; exact n0
  | 1, hq => cases hq; exact n1
  | 2, hq => cases hq; exact n2
  | 3, hq => cases hq; exact n3
  | 4, hq => cases hq; exact n4
  | 5, hq => cases hq; exact n5
  | 6, hq => cases hq; exact n6
  | 7, hq => cases hq; exact n7
  | 8, hq => cases hq; exact n8
  | k + 9, hq => exact absurd hq (by simp)
theorem nst_all {s : State} {args : Array Value} (hts : ∀ w ∈ lw_tbl, w.before args s = true) : gNst s :=
  ⟨⟨va_Nw.of (A := args) rfl (hts (.methodLinkNest RX7 22 yX3_init RX9) (List.mem_of_getElem? (i := 44) (by decide +kernel))), va_Nw.of (A := args) rfl (hts (.methodLinkNest RX7 29 yX0_init RX9) (List.mem_of_getElem? (i := 102) (by decide +kernel))), va_Nw.of (A := args) rfl (hts (.methodLinkNest RX7 39 yX2_init RX9) (List.mem_of_getElem? (i := 130) (by decide +kernel)))⟩, ⟨va_Nw.of (A := args) rfl (hts (.methodLinkNest RX9 25 yX8_init RX9) (List.mem_of_getElem? (i := 203) (by decide +kernel))), va_Nw.of (A := args) rfl (hts (.methodLinkNest RX9 32 yX5_init RX9) (List.mem_of_getElem? (i := 219) (by decide +kernel))), va_Nw.of (A := args) rfl (hts (.methodLinkNest RX9 39 yX0_init RX9) (List.mem_of_getElem? (i := 278) (by decide +kernel)))⟩, va_AO.of (A := args) (hts (.arrayOver (.object RX7)) (List.mem_of_getElem? (i := 188) (by decide +kernel)))⟩
/-- the law behind the making, entered from the world that the constructor leaves -/
theorem law_enter {p : Program} {l : Launch} {e : Env} {s : State} {m : MethodId} {below : List Frame} {meth : Method} {c : Code} {D : va_G} {cI : ClassId} {b N : Nat} {xs : Nat → Int32} {args : Array Value} {Q : State → Prop} (C : nC D cI (fun q => s.heap.size ≤ q) RL cL_law ret 15 p s m args meth c) (hN : N ≤ 260) (hX : va_X b N xs s s.heap) (hbl : b < s.heap.size) {t1 t2 t3 : Nat}
    (z1 : gZ1 "LOWEST" t1 5 zLow (fun q => s.heap.size ≤ q) s s.heap) (z2 : gZ1 "HIGHEST" t2 5 zHigh (fun q => s.heap.size ≤ q) s s.heap) (z3 : gZ1 "WAITS_TO_TRY" t3 6 zTry (fun q => s.heap.size ≤ q) s s.heap)
    (hend : ∀ (H : Heap) (locs : List Loc) (ls : Array Slot), (∀ q ∈ locs, s.heap.size ≤ q.base) → W p l e room_1 s m args below meth c H locs 202 2954 Q (F0 m 812 ls [.int (nI 1)])) (a1 : Nat → Nat) (c1 : ClassId) (hS1 : va_K D vwCl [(c1, .object "RepairDuty$State")] s) : nV p l e room_1 s m args below meth c Q D (fun q => s.heap.size ≤ q) 15 154 2474 (([] : va_W) ++ gL cI c1 a1 mX9 0 shX9) 8 [(1, .ref (a1 0)), (0, .ref b)] [] := by
  rw [gW_all D (fun q => s.heap.size ≤ q) cI c1 a1 (t1, t2, t3)]
  intro H locs ls hP hD hS hl
  have Cg : gC (D, a1, (cI, c1, 0), (fun q => s.heap.size ≤ q), (t1, t2, t3)) RL cL_law ret 15 p room_1 s m args meth c 154 2474 :=
    ⟨C.1, C.2.1, C.2.2.1, C.2.2.2.1, C.o, C.2.2.2.2.2.1, C.2.2.2.2.2.2.1, C.K.app hS1, gD_any (m := mX9) hD, ⟨z1, z2, z3⟩, Nat.le_of_ble_eq_true rfl, Nat.le_of_ble_eq_true rfl⟩
  exact law_init (G := (D, a1, (cI, c1, 0), (fun q => s.heap.size ≤ q), (t1, t2, t3))) Cg hN ⟨hX, hbl, Nat.not_le.mpr hbl⟩ ⟨_, rfl⟩ rfl (fun mem L H locs ls _ hS _ => hend H locs ls hS.2.2) mX9 kls_0 H locs ls hP hS (lv_sub hl [1, 0] rfl)
