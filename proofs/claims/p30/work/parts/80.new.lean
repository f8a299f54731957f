/-! making the objects: worlds that grow. w: the cells so far; D: the classes' kind; cI: the class of the rows of ints -/
/-- the words of private constructors, and of the row of states -/
def gNst (U : State) : Prop := (va_Nw (.methodLinkNest RX7 22 yX3_init RX9) U ∧ va_Nw (.methodLinkNest RX7 29 yX0_init RX9) U ∧ va_Nw (.methodLinkNest RX7 39 yX2_init RX9) U) ∧ (va_Nw (.methodLinkNest RX9 25 yX8_init RX9) U ∧ va_Nw (.methodLinkNest RX9 32 yX5_init RX9) U ∧ va_Nw (.methodLinkNest RX9 39 yX0_init RX9) U) ∧ va_AO RX7 U
theorem gNst.warm {s U : State} (hW : s.WarmedH U.vm) (h : gNst s) : gNst U := ⟨⟨va_Nw.warmM hW h.1.1, va_Nw.warmM hW h.1.2.1, va_Nw.warmM hW h.1.2.2⟩, ⟨va_Nw.warmM hW h.2.1.1, va_Nw.warmM hW h.2.1.2.1, va_Nw.warmM hW h.2.1.2.2⟩, va_AO.moved hW.alike h.2.2⟩
theorem gNst.vm {s U : State} (hv : s.vm = U.vm) (h : gNst s) : gNst U := ⟨⟨va_tabs rfl hv h.1.1, va_tabs rfl hv h.1.2.1, va_tabs rfl hv h.1.2.2⟩, ⟨va_tabs rfl hv h.2.1.1, va_tabs rfl hv h.2.1.2.1, va_tabs rfl hv h.2.1.2.2⟩, va_AO.moved (by rw [hv]; exact Vm.Alike.refl U.vm) h.2.2⟩
theorem va_one {D : va_G} {w : va_W} {x : Nat × va_E} {H : Heap} (h : va_P D vwCl (w ++ [x]) H) : va_P D vwCl [x] H := fun k q hk => by
  have hz : k < 1 := (List.getElem?_eq_some_iff.mp hk).1
  refine h w.length q ?_
  rw [List.getElem?_append_right (Nat.le_refl _), Nat.sub_self]
  rw [show k = 0 by omega] at hk
  exact hk
theorem va_init {D : va_G} {w : va_W} {x : Nat × va_E} {H : Heap} (h : va_P D vwCl (w ++ [x]) H) : va_P D vwCl w H := fun k q hk => by
  refine h k q ?_
  rw [List.getElem?_append_left (List.getElem?_eq_some_iff.mp hk).1]
  exact hk
theorem va_Done {A : Nat → Prop} {w : va_W} {x : Nat × va_E} (h : va_D A (w ++ [x])) : A x.1 ∧ (∀ (k : Nat) (q : Nat × va_E), w[k]? = some q → q.1 ≠ x.1) ∧ va_D A w := by
  have hx : (w ++ [x])[w.length]? = some x := by rw [List.getElem?_append_right (Nat.le_refl _), Nat.sub_self]; rfl
  have hl : ∀ {k : Nat} {q : Nat × va_E}, w[k]? = some q → (w ++ [x])[k]? = some q := fun {k q} hk => by
    rw [List.getElem?_append_left (List.getElem?_eq_some_iff.mp hk).1]; exact hk
  refine ⟨h.2 _ _ hx, fun k q hk e => ?_, fun i j p q hi hj e => h.1 i j p q (hl hi) (hl hj) e, fun k q hk => h.2 k q (hl hk)⟩
  have := h.1 k w.length q x (hl hk) hx e
  have := (List.getElem?_eq_some_iff.mp hk).1
  omega
theorem va_Dsing {A : Nat → Prop} {x : Nat × va_E} (h : A x.1) : va_D A [x] := by
  have one : ∀ {k : Nat} {q : Nat × va_E}, ([x] : va_W)[k]? = some q → k = 0 ∧ x = q := fun {k q} hk => by
    have hz : k < 1 := (List.getElem?_eq_some_iff.mp hk).1
    have e : k = 0 := by omega
    subst e
    exact ⟨rfl, Option.some.inj hk⟩
  exact ⟨fun i j p q hi hj _ => (one hi).1.trans (one hj).1.symm, fun k q hk => by rw [← (one hk).2]; exact h⟩
/-- behind a constructor's call: the other cells, and what it made -/
theorem n_join {A0 : Nat → Prop} {D : va_G} {w0 w1 : va_W} {x : Nat × va_E} {H H1 : Heap} (hP : va_P D vwCl (w0 ++ [x]) H) (hD : va_D A0 (w0 ++ [x])) (hk : ∀ q : Nat, q < H.size → ¬ va_A [x] H.size q → H1[q]? = H[q]?) (hF : ∀ q, va_A [x] H.size q → A0 q) (hP1 : va_P D vwCl w1 H1) (hD1 : va_D (va_A [x] H.size) w1) : va_P D vwCl (w0 ++ w1) H1 ∧ va_D A0 (w0 ++ w1) := by
  obtain ⟨d1, d2, d3⟩ := va_Done hD
  have h0 := va_init hP
  have no : ∀ (k : Nat) (q : Nat × va_E), w0[k]? = some q → ¬ va_A [x] H.size q.1 := fun k q hq z => by
    rcases z with ⟨i, e, hi⟩ | z
    · have hz : i < 1 := (List.getElem?_eq_some_iff.mp hi).1
      have e0 : i = 0 := by omega
      subst e0
      have hx : x = (q.1, e) := Option.some.inj hi
      exact d2 k q hq (by rw [hx])
    · have := (h0 k q hq).lt
      omega
  refine ⟨(h0.kept fun k q hq => hk q.1 (h0 k q hq).lt (no k q hq)).app hP1, d3.app (hD1.weaken fun k q _ z => hF q.1 z) fun i j p q hi hj e => ?_⟩
  refine no i p hi ?_
  rw [e]
  exact hD1.2 j q hj
section NROWS
variable {p : Program} {l : Launch} {e : Env} {R : Room} {s : State} {m : MethodId} {args : Array Value} {below : List Frame} {meth : Method} {c : Code} {mc ms mc2 ms2 : Nat} {Q : State → Prop} {D : va_G} {cI : ClassId} {A : Nat → Prop} {own : String} {cc : ByteArray} {ret : Option FieldType} {nL : Nat} {w w2 : va_W} {pc : Nat} {L : List (Nat × Value)} {st : List Value}
def nC (D : va_G) (cI : ClassId) (A : Nat → Prop) (own : String) (cc : ByteArray) (ret : Option FieldType) (nL : Nat) (p : Program) (s : State) (m : MethodId) (args : Array Value) (meth : Method) (c : Code) : Prop :=
  p.tables.exec = Jvm.exec ∧ c.code = cc ∧ meth.sig.returnType = ret ∧ c.maxLocals = nL ∧ s.vm.findClass own = some m.cls ∧ (∀ w ∈ wG, w.before args s = true) ∧ meth.locks = false ∧ va_K D vwCl [(cI, .int)] s ∧ (∀ q, s.heap.size ≤ q → A q) ∧ gNst s
def nV (p : Program) (l : Launch) (e : Env) (R : Room) (s : State) (m : MethodId) (args : Array Value) (below : List Frame) (meth : Method) (c : Code) (Q : State → Prop) (D : va_G) (A : Nat → Prop) (nL mc ms : Nat) (w : va_W) (pc : Nat) (L : List (Nat × Value)) (st : List Value) : Prop :=
  ∀ (H : Heap) (locs : List Loc) (ls : Array Slot), va_P D vwCl w H → va_D A w → va_S A s.heap H locs → lv_has ls nL L → W p l e R s m args below meth c H locs mc ms Q (F0 m pc ls st)
theorem nC.wd (C : nC D cI A own cc ret nL p s m args meth c) {w : Cond} (h : w ∈ wG) : w.before args s = true := C.2.2.2.2.2.1 w h
theorem nC.K (C : nC D cI A own cc ret nL p s m args meth c) : va_K D vwCl [(cI, .int)] s := C.2.2.2.2.2.2.2.1
theorem nC.o (C : nC D cI A own cc ret nL p s m args meth c) : s.vm.findClass own = some m.cls := C.2.2.2.2.1
theorem nC.fr (C : nC D cI A own cc ret nL p s m args meth c) : ∀ q, s.heap.size ≤ q → A q := C.2.2.2.2.2.2.2.2.1
theorem nC.N (C : nC D cI A own cc ret nL p s m args meth c) : gNst s := C.2.2.2.2.2.2.2.2.2
theorem n_w {e0 : Env} (e : w = w2) (h : nV p l e0 R s m args below meth c Q D A nL mc ms w2 pc L st) : nV p l e0 R s m args below meth c Q D A nL mc ms w pc L st := e ▸ h
theorem n_aload_n (C : nC D cI A own cc ret nL p s m args meth c) {k : Fin 4} {x : Nat} (q : Nat) (hd : decode cc pc = .ok (.aload_n k, 1)) (hq : L[q]? = some ((k : Nat), .ref x)) (h : nV p l e R s m args below meth c Q D A nL mc ms w (pc + 1) L (.ref x :: st)) : nV p l e R s m args below meth c Q D A nL mc ms w pc L st := fun H locs ls hP hD hS hl => lv_aload_n C.1 C.2.1 hd rfl (lv_at hl q hq) (h H locs ls hP hD hS hl)
theorem n_iload_n (C : nC D cI A own cc ret nL p s m args meth c) {k : Fin 4} {x : Int32} (q : Nat) (hd : decode cc pc = .ok (.iload_n k, 1)) (hq : L[q]? = some ((k : Nat), .int x)) (h : nV p l e R s m args below meth c Q D A nL mc ms w (pc + 1) L (.int x :: st)) : nV p l e R s m args below meth c Q D A nL mc ms w pc L st := fun H locs ls hP hD hS hl => lv_iload_n C.1 C.2.1 hd rfl (lv_at hl q hq) (h H locs ls hP hD hS hl)
theorem n_istore_n (C : nC D cI A own cc ret nL p s m args meth c) {k : Fin 4} {x : Int32} {L2 : List (Nat × Value)} (hd : decode cc pc = .ok (.istore_n k, 1)) (hn : (k : Nat) < nL) (hL : ((k : Nat), Value.int x) :: L.filter (fun q => !(q.1 == (k : Nat)) && !(q.1 + 1 == (k : Nat) && q.2.category == 2)) = L2) (h : nV p l e R s m args below meth c Q D A nL mc ms w (pc + 1) L2 st) : nV p l e R s m args below meth c Q D A nL mc ms w pc L (.int x :: st) := fun H locs _ hP hD hS hl => lv_istore_n C.1 C.2.1 hd rfl hl hn hL fun ls2 hl2 => h H locs ls2 hP hD hS hl2
theorem n_astore_n (C : nC D cI A own cc ret nL p s m args meth c) {k : Fin 4} {x : Nat} {L2 : List (Nat × Value)} (hd : decode cc pc = .ok (.astore_n k, 1)) (hn : (k : Nat) < nL) (hL : ((k : Nat), Value.ref x) :: L.filter (fun q => !(q.1 == (k : Nat)) && !(q.1 + 1 == (k : Nat) && q.2.category == 2)) = L2) (h : nV p l e R s m args below meth c Q D A nL mc ms w (pc + 1) L2 st) : nV p l e R s m args below meth c Q D A nL mc ms w pc L (.ref x :: st) := fun H locs _ hP hD hS hl => lv_astore_n C.1 C.2.1 hd rfl hl hn hL fun ls2 hl2 => h H locs ls2 hP hD hS hl2
theorem n_iinc (C : nC D cI A own cc ret nL p s m args meth c) {i : Nat} {n : Int} {x v : Int32} {L2 : List (Nat × Value)} (k : Nat) (hd : decode cc pc = .ok (.iinc i n, 3)) (hk : L[k]? = some (i, .int x)) (hv : x + Int32.ofInt n = v) (hn : i < nL) (hL : (i, Value.int v) :: L.filter (fun q => !(q.1 == i) && !(q.1 + 1 == i && q.2.category == 2)) = L2) (h : nV p l e R s m args below meth c Q D A nL mc ms w (pc + 3) L2 st) : nV p l e R s m args below meth c Q D A nL mc ms w pc L st := fun H locs _ hP hD hS hl => lv_iinc C.1 C.2.1 hd hl hk hv hn hL fun ls2 hl2 => h H locs ls2 hP hD hS hl2
theorem n_iconst (C : nC D cI A own cc ret nL p s m args meth c) {n : Int} (v : Int32) (hd : decode cc pc = .ok (.iconst n, 1)) (hv : Int32.ofInt n = v) (h : nV p l e R s m args below meth c Q D A nL mc ms w (pc + 1) L (.int v :: st)) : nV p l e R s m args below meth c Q D A nL mc ms w pc L st := fun H locs ls hP hD hS hl => lv_iconst C.1 C.2.1 hd hv (h H locs ls hP hD hS hl)
theorem n_bipush (C : nC D cI A own cc ret nL p s m args meth c) {n : Int} (v : Int32) (hd : decode cc pc = .ok (.bipush n, 2)) (hv : (Int8.ofInt n).toInt32 = v) (h : nV p l e R s m args below meth c Q D A nL mc ms w (pc + 2) L (.int v :: st)) : nV p l e R s m args below meth c Q D A nL mc ms w pc L st := fun H locs ls hP hD hS hl => lv_bipush C.1 C.2.1 hd hv (h H locs ls hP hD hS hl)
theorem n_sipush (C : nC D cI A own cc ret nL p s m args meth c) {n : Int} (v : Int32) (hd : decode cc pc = .ok (.sipush n, 3)) (hv : (Int16.ofInt n).toInt32 = v) (h : nV p l e R s m args below meth c Q D A nL mc ms w (pc + 3) L (.int v :: st)) : nV p l e R s m args below meth c Q D A nL mc ms w pc L st := fun H locs ls hP hD hS hl => lv_sipush C.1 C.2.1 hd hv (h H locs ls hP hD hS hl)
theorem n_dup (C : nC D cI A own cc ret nL p s m args meth c) {va : Value} (hd : decode cc pc = .ok (.dup, 1)) (ha : va.category = 1) (h : nV p l e R s m args below meth c Q D A nL mc ms w (pc + 1) L (va :: va :: st)) : nV p l e R s m args below meth c Q D A nL mc ms w pc L (va :: st) := fun H locs ls hP hD hS hl => lv_dup C.1 C.2.1 hd ha (h H locs ls hP hD hS hl)
theorem n_goto (C : nC D cI A own cc ret nL p s m args meth c) {off : Int} (tgt : Nat) (hd : decode cc pc = .ok (.goto off, 3)) (ht : (pc : Int) + off = (tgt : Int)) (h : nV p l e R s m args below meth c Q D A nL mc ms w tgt L st) : nV p l e R s m args below meth c Q D A nL mc ms w pc L st := fun H locs ls hP hD hS hl => lv_goto C.1 C.2.1 hd ht (h H locs ls hP hD hS hl)
theorem n_le_f (C : nC D cI A own cc ret nL p s m args meth c) {x : Int32} {off : Int} (tgt : Nat) (hc : ¬ x ≤ 0) (hd : decode cc pc = .ok (.ifCond .le off, 3)) (ht : (pc : Int) + off = (tgt : Int)) (h : nV p l e R s m args below meth c Q D A nL mc ms w (pc + 3) L st) : nV p l e R s m args below meth c Q D A nL mc ms w pc L (.int x :: st) := fun H locs ls hP hD hS hl => lv_if_le C.1 C.2.1 hd ht (fun q => absurd q hc) (fun _ => h H locs ls hP hD hS hl)
theorem n_lt_f (C : nC D cI A own cc ret nL p s m args meth c) {x : Int32} {off : Int} (tgt : Nat) (hc : ¬ x < 0) (hd : decode cc pc = .ok (.ifCond .lt off, 3)) (ht : (pc : Int) + off = (tgt : Int)) (h : nV p l e R s m args below meth c Q D A nL mc ms w (pc + 3) L st) : nV p l e R s m args below meth c Q D A nL mc ms w pc L (.int x :: st) := fun H locs ls hP hD hS hl => lv_if_lt C.1 C.2.1 hd ht (fun q => absurd q hc) (fun _ => h H locs ls hP hD hS hl)
theorem n_ige_f (C : nC D cI A own cc ret nL p s m args meth c) {x y : Int32} {off : Int} (tgt : Nat) (hc : ¬ y ≤ x) (hd : decode cc pc = .ok (.if_icmp .ge off, 3)) (ht : (pc : Int) + off = (tgt : Int)) (h : nV p l e R s m args below meth c Q D A nL mc ms w (pc + 3) L st) : nV p l e R s m args below meth c Q D A nL mc ms w pc L (.int y :: .int x :: st) := fun H locs ls hP hD hS hl => lv_icmp_ge C.1 C.2.1 hd ht (fun q => absurd q hc) (fun _ => h H locs ls hP hD hS hl)
theorem n_ige_t (C : nC D cI A own cc ret nL p s m args meth c) {x y : Int32} {off : Int} (tgt : Nat) (hc : y ≤ x) (hd : decode cc pc = .ok (.if_icmp .ge off, 3)) (ht : (pc : Int) + off = (tgt : Int)) (h : nV p l e R s m args below meth c Q D A nL mc ms w tgt L st) : nV p l e R s m args below meth c Q D A nL mc ms w pc L (.int y :: .int x :: st) := fun H locs ls hP hD hS hl => lv_icmp_ge C.1 C.2.1 hd ht (fun _ => h H locs ls hP hD hS hl) (fun q => absurd hc q)
/-- Object's own constructor -/
theorem n_obj (C : nC D cI A own cc ret nL p s m args meth c) {idx a : Nat} (hw : Cond.methodLink own idx objectInit ∈ wG) (hw2 : Cond.instanceMethod objectInit ∈ wG) (hw3 : Cond.code objectInit ⟨#[0xb1]⟩ 1 none ∈ wG) (hf : 1 ≤ R.frames) (hlo : (st.map fun v => v.category).sum + 12 ≤ R.locals) (hd : decode cc pc = .ok (.invokespecial idx, 3)) (h : nV p l e R s m args below meth c Q D A nL mc ms w (pc + 3) L st) : nV p l e R s m args below meth c Q D A nL mc ms w pc L (.ref a :: st) := fun H locs ls hP hD hS hl => by
  refine W.objInit C.1 C.2.1 C.o (C.wd hw) (C.wd hw2) (C.wd hw3) rfl (hl.1.trans C.2.2.2.1.symm) rfl hd hf ?_ ?_
  · show 2 * 0 + _ + 12 ≤ _
    rw [Nat.mul_zero, Nat.zero_add]; exact hlo
  · exact W.eq (g2 := F0 m (pc + 3) ls st) rfl (h H locs ls hP hD hS hl)
theorem n_new (C : nC D cI A own cc ret nL p s m args meth c) {ci N idx : Nat} {Cn : String} {T : u_T} (hc : vwCl[ci]? = some (Cn, T, N)) (hin : ∀ w ∈ u_ws Cn T N, w ∈ wG) (ty : Nat → FieldType) (hty : ∀ k, k < N → parseFieldDescriptor (T k).2.2.1 = some (ty k)) (hw : Cond.classLink own idx Cn ∈ wG) (hw2 : Cond.instantiable Cn N ∈ wG) (hw3 : Cond.initialized Cn ∈ wG) {fs : List Value} (hfs : ∀ j, j < N → defaultValue (ty j) = vp_V fs j) (h1 : mc + 1 = mc2) (h2 : ms + N = ms2) (hR : mc2 ≤ R.cells ∧ ms2 ≤ R.slots) (hd : decode cc pc = .ok (.new idx, 3)) (h : ∀ q : Nat, nV p l e R s m args below meth c Q D A nL mc2 ms2 (w ++ [(q, .inr (ci, fs))]) (pc + 3) L (.ref q :: st)) : nV p l e R s m args below meth c Q D A nL mc ms w pc L st := fun H locs ls hP hD hS hl => by
  subst h1 h2
  exact va_new C.1 C.2.1 C.2.2.2.2.2.1 hin ty hty C.o (C.wd hw) (C.wd hw2) (C.wd hw3) C.K hP hD hS C.fr hc hfs hR.1 hR.2 hd fun q H1 hP hD hS => h q H1 locs ls hP hD hS hl
theorem n_newi (C : nC D cI A own cc ret nL p s m args meth c) {N : Nat} (hw : Cond.arrayClass .int ∈ wG) (hN : N < 2 ^ 27) (h1 : mc + 1 = mc2) (h2 : ms + N = ms2) (hR : mc2 ≤ R.cells ∧ ms2 ≤ R.slots) (hd : decode cc pc = .ok (.newarray .int, 2)) (h : ∀ q : Nat, nV p l e R s m args below meth c Q D A nL mc2 ms2 (w ++ [(q, .inl (cI, (N, .inl fun _ => 0)))]) (pc + 2) L (.ref q :: st)) : nV p l e R s m args below meth c Q D A nL mc ms w pc L (.int (nI N) :: st) := fun H locs ls hP hD hS hl => by
  subst h1 h2
  refine va_newa (atype := .int) (ty := .int) (N' := N) (a0 := (N, .inl fun _ => 0)) C.1 C.2.1 (C.wd hw) rfl C.K hP hD hS C.fr (fun cA => rfl) (nI_pos (by omega)) (nI_clamp (by omega)) (by show N * 4 ≤ _; omega) hR.1 hR.2 hd fun q cA H1 hK hP hD hS => ?_
  have e : cA = cI := by
    have a1 : s.vm.findClass ("[" ++ FieldType.int.toString) = some cI := (hK.2 0 (cI, .int) rfl).2
    have a2 : s.vm.findClass ("[" ++ FieldType.int.toString) = some cA := (hK.2 1 (cA, .int) rfl).2
    exact Option.some.inj (a2.symm.trans a1)
  subst e
  exact h q H1 locs ls hP hD hS hl
theorem n_newq (C : nC D cI A own cc ret nL p s m args meth c) {N idx : Nat} (hw : Cond.classLink own idx RX7 ∈ wG) (hN : N < 2 ^ 27) (h1 : mc + 1 = mc2) (h2 : ms + N = ms2) (hR : mc2 ≤ R.cells ∧ ms2 ≤ R.slots) (hd : decode cc pc = .ok (.anewarray idx, 3)) (h : ∀ (q : Nat) (cS : ClassId), va_K D vwCl [(cS, .object "RepairDuty$State")] s → nV p l e R s m args below meth c Q D A nL mc2 ms2 (w ++ [(q, .inl (cS, N, .inr (.inr (.inr (.inr (fun _ => none))))))]) (pc + 3) L (.ref q :: st)) : nV p l e R s m args below meth c Q D A nL mc ms w pc L (.int (nI N) :: st) := fun H locs ls hP hD hS hl => by
  subst h1 h2
  refine va_newq (N' := N) C.1 C.2.1 C.o (C.wd hw) C.N.2.2 C.K hP hD hS C.fr (nI_pos (by omega)) (nI_clamp (by omega)) (by omega) hR.1 hR.2 hd fun q cS H1 hK hP hD hS => ?_
  exact h q cS (hK.sub [1] rfl) H1 locs ls hP hD hS hl
theorem n_putF (C : nC D cI A own cc ret nL p s m args meth c) (hin2 : meth.name = "<init>") {a ci N idx : Nat} {Cn : String} {T : u_T} (q0 : Nat) {fs fs2 : List Value} (he : w[q0]? = some (a, .inr (ci, fs))) (hc : vwCl[ci]? = some (Cn, T, N)) (hin : ∀ w ∈ u_ws Cn T N, w ∈ wG) (ty : Nat → FieldType) (hty : ∀ k, k < N → parseFieldDescriptor (T k).2.2.1 = some (ty k)) (hnm : ∀ a, a < N → ∀ b, b < N → a ≠ b → (T a).2.1 ≠ (T b).2.1) (k : Nat) (hk : k < N) (hw : Cond.fieldLink own idx (T k).1 (T k).2.1 (T k).2.2.1 ∈ wG) (hfin : (T k).2.2.2 = true) (hdecl : (T k).1 = own) {tv : FieldType} {v : Value} (hv : parseFieldDescriptor (T k).2.2.1 = some tv) (hn : narrow tv v = v) (hfit : fits tv v = true) (hl : k < fs.length) (hfs : fs.set k v = fs2) (hw2 : w.set q0 (a, .inr (ci, fs2)) = w2) (hd : decode cc pc = .ok (.putfield idx, 3)) (h : nV p l e R s m args below meth c Q D A nL mc ms w2 (pc + 3) L st) : nV p l e R s m args below meth c Q D A nL mc ms w pc L (v :: .ref a :: st) := fun H locs ls hP hD hS hlv => by
  subst hw2 hfs
  exact va_putF C.1 C.2.1 C.2.2.2.2.2.1 hin ty hty hnm C.o C.K hP hD hS q0 he hc k hk (C.wd hw) (fun _ z => z) hfin hin2 hdecl hv hn hfit hl hd fun H1 locs1 hP hD hS => h H1 locs1 ls hP hD hS hlv
theorem n_get (C : nC D cI A own cc ret nL p s m args meth c) {a ci N idx : Nat} {Cn : String} {T : u_T} (q0 : Nat) {fs : List Value} (he : w[q0]? = some (a, .inr (ci, fs))) (hc : vwCl[ci]? = some (Cn, T, N)) (hin : ∀ w ∈ u_ws Cn T N, w ∈ wG) (k : Nat) (hk : k < N) (hw : Cond.fieldLink own idx (T k).1 (T k).2.1 (T k).2.2.1 ∈ wG) {v : Value} (hv : fs[k]? = some v) (hd : decode cc pc = .ok (.getfield idx, 3)) (h : nV p l e R s m args below meth c Q D A nL mc ms w (pc + 3) L (v :: st)) : nV p l e R s m args below meth c Q D A nL mc ms w pc L (.ref a :: st) := fun H locs ls hP hD hS hl =>
  va_get C.1 C.2.1 C.2.2.2.2.2.1 hin C.o C.K hP q0 he hc k hk (C.wd hw) (fun _ z => z) hv hd (h H locs ls hP hD hS hl)
theorem n_alen (C : nC D cI A own cc ret nL p s m args meth c) {a n : Nat} {f : Nat → Int32} (q0 : Nat) (he : w[q0]? = some (a, .inl (cI, (n, .inl f)))) (hd : decode cc pc = .ok (.arraylength, 1)) (h : nV p l e R s m args below meth c Q D A nL mc ms w (pc + 1) L (.int (nI n) :: st)) : nV p l e R s m args below meth c Q D A nL mc ms w pc L (.ref a :: st) := fun H locs ls hP hD hS hl =>
  va_alen C.1 C.2.1 C.K hP q0 0 he rfl rfl hd (h H locs ls hP hD hS hl)
theorem n_alenq (C : nC D cI A own cc ret nL p s m args meth c) {a n : Nat} {cS : ClassId} {f : Nat → Option Nat} (hK : va_K D vwCl [(cS, .object "RepairDuty$State")] s) (q0 : Nat) (he : w[q0]? = some (a, .inl (cS, n, .inr (.inr (.inr (.inr f)))))) (hd : decode cc pc = .ok (.arraylength, 1)) (h : nV p l e R s m args below meth c Q D A nL mc ms w (pc + 1) L (.int (nI n) :: st)) : nV p l e R s m args below meth c Q D A nL mc ms w pc L (.ref a :: st) := fun H locs ls hP hD hS hl =>
  va_alen C.1 C.2.1 hK hP q0 0 he rfl rfl hd (h H locs ls hP hD hS hl)
theorem n_iast (C : nC D cI A own cc ret nL p s m args meth c) {a n j : Nat} {f : Nat → Int32} (q0 : Nat) (he : w[q0]? = some (a, .inl (cI, (n, .inl f)))) {x : Int32} (hj : j < n) (hn : n < 2 ^ 31) (hw2 : w.set q0 (a, .inl (cI, (n, .inl (upd f j x)))) = w2) (hd : decode cc pc = .ok (.iastore, 1)) (h : nV p l e R s m args below meth c Q D A nL mc ms w2 (pc + 1) L st) : nV p l e R s m args below meth c Q D A nL mc ms w pc L (.int x :: .int (nI j) :: .ref a :: st) := fun H locs ls hP hD hS hl => by
  subst hw2
  have e : (nI j).toNatClampNeg = j := nI_clamp (by omega)
  refine va_iast C.1 C.2.1 C.K hP hD hS q0 0 he rfl (vp_in_nI hj hn) hd fun H1 locs1 hP hD hS => ?_
  rw [e] at hP hD
  exact h H1 locs1 ls hP hD hS hl
theorem n_astq (C : nC D cI A own cc ret nL p s m args meth c) {a n j v : Nat} {cS : ClassId} {vs : List Value} {f f2 : Nat → Option Nat} (hK : va_K D vwCl [(cS, .object "RepairDuty$State")] s) (q0 qk : Nat) (he : w[q0]? = some (a, .inl (cS, n, .inr (.inr (.inr (.inr f)))))) (hv : w[qk]? = some (v, .inr (6, vs))) (hj : j < n) (hn : n < 2 ^ 31) (hf2 : va_up f j (some v) = f2) (hw2 : w.set q0 (a, .inl (cS, n, .inr (.inr (.inr (.inr f2))))) = w2) (hd : decode cc pc = .ok (.aastore, 1)) (h : nV p l e R s m args below meth c Q D A nL mc ms w2 (pc + 1) L st) : nV p l e R s m args below meth c Q D A nL mc ms w pc L (.ref v :: .int (nI j) :: .ref a :: st) := fun H locs ls hP hD hS hl => by
  subst hw2 hf2
  have e : (nI j).toNatClampNeg = j := nI_clamp (by omega)
  refine va_astq (r := (RX7, TX7, 5)) C.1 C.2.1 hK hP hD hS q0 0 qk 6 he rfl hv rfl (vp_in_nI hj hn) hd fun H1 locs1 hP hD hS => ?_
  rw [e] at hP hD
  exact h H1 locs1 ls hP hD hS hl
/-! a constructor's contract -/
def nPre (D : va_G) (cI : ClassId) (ci : Nat) (fs0 : List Value) (h0 sz : Nat) (U : State) : Prop := U.heap.size = sz ∧ va_P D vwCl [(h0, .inr (ci, fs0))] U.heap ∧ va_K D vwCl [(cI, .int)] U ∧ va_D (fun _ => True) [(h0, .inr (ci, fs0))] ∧ gNst U
def nPost (D : va_G) (cI : ClassId) (m0 : gM) (sh : List gSh) (fS : Prop) (A : Nat → Prop) (u : (Nat → Nat) × ClassId) (t : State) : Prop := va_P D vwCl (gL cI u.2 u.1 m0 0 sh) t.heap ∧ va_D A (gL cI u.2 u.1 m0 0 sh) ∧ (fS → va_K D vwCl [(u.2, .object "RepairDuty$State")] t)
def nMet (l : Launch) (y : MethodName) (b : ByteArray) (maxL : Nat) (rm : Room) (D : va_G) (cI : ClassId) (As : List Value) (ci : Nat) (fs0 : List Value) (m0 : gM) (sh : List gSh) (fS : Prop) (mc ms : Nat) : Prop :=
  ∀ h0 sz : Nat, Met l y (Cond.code y b maxL none :: wG) rm (va_Pc (.ref h0 :: As) (nPre D cI ci fs0 h0 sz)) (va_Qv (fun u : (Nat → Nat) × ClassId => u.1 0 = h0) (nPost D cI m0 sh fS (va_A [(h0, .inr (ci, fs0))] sz)) (va_A [(h0, .inr (ci, fs0))] sz)) mc ms (va_A [(h0, .inr (ci, fs0))] sz)
theorem n_of {y : MethodName} {b : ByteArray} {maxL : Nat} {rm : Room} {As : List Value} {ci : Nat} {fs0 : List Value} {m0 : gM} {sh : List gSh} {fS : Prop} {mc ms : Nat} (hy : plainName y.cls = true) (ho : y.cls = own) (hyn : y.name = "<init>") (hn : ∀ h0 : Nat, (lg_sl (.ref h0 :: As)).length ≤ maxL)
    (body : ∀ (p : Program) (e : Env) (s : State) (m : MethodId) (args : Array Value) (below : List Frame) (meth : Method) (c : Code) (A : Nat → Prop) (h0 : Nat), nC D cI A own b none maxL p s m args meth c → meth.name = "<init>" → ∀ Q : State → Prop, Q = MQ below (va_Qv (fun u : (Nat → Nat) × ClassId => u.1 0 = h0) (nPost D cI m0 sh fS A) A) args s mc ms A → nV p l e rm s m args below meth c Q D A maxL 0 0 [(h0, .inr (ci, fs0))] 0 (lv_args 0 (.ref h0 :: As)) []) : nMet l y b maxL rm D cI As ci fs0 m0 sh fS mc ms := by
  intro h0 sz
  refine Met.ofW (cc := b) (maxL := maxL) (ret := none) hy rfl ?_
  intro p e s m args below meth c s₁ B hml hv
  obtain ⟨rfl, hsz, hP, hK, hD0, hN⟩ := hv
  have hts := atoms_spec (ws := Cond.code y b maxL none :: wG) B.pre
  have hown : s.vm.findClass own = some m.cls := ho ▸ findClass_of_methodNamed B.named
  have hl := lv_entry (.ref h0 :: As) (n := maxL) (hn h0)
  rw [lg_entry_eq]
  subst hsz
  have hin2 : meth.name = "<init>" := (name_of_methodNamed B.named B.method).1.trans hyn
  exact body p e s m _ below meth c (va_A [(h0, .inr (ci, fs0))] s.heap.size) h0 ⟨B.exec, B.bytes, B.returns, hml, hown, fun w hw => hts w (List.mem_cons_of_mem _ hw), B.notSynchronized, hK, fun q h => Or.inr h, hN⟩ hin2 _ rfl _ _ _ hP hD0.self va_S.rf hl
theorem n_vret (C : nC D cI A own cc none nL p s m args meth c) {h0 : Nat} {m0 : gM} {sh : List gSh} {fS : Prop} (hQ : Q = MQ below (va_Qv (fun u : (Nat → Nat) × ClassId => u.1 0 = h0) (nPost D cI m0 sh fS A) A) args s mc ms A) (ad : Nat → Nat) (cS : ClassId) (h1 : ad 0 = h0) (hw : w = gL cI cS ad m0 0 sh) (hS : fS → va_K D vwCl [(cS, .object "RepairDuty$State")] s) (hd : decode cc pc = .ok (.return_, 1)) : nV p l e R s m args below meth c Q D A nL mc ms w pc L [] := by
  subst hQ hw
  exact fun H locs ls hP hD hSv _ => W.vret C.1 C.2.1 C.2.2.1 (fun t ht hW => ⟨⟨(ad, cS), rfl, h1, by rw [ht]; exact hP, hD, fun z => va_K.moved hW.alike (hS z)⟩, hSv.F ht⟩) hSv.2.2 hd C.2.2.2.2.2.2.1
/-- what the tables say of a constructor -/
def gIn (y : MethodName) (b : ByteArray) (maxL n : Nat) : Prop := Cond.code y b maxL none ∈ wG ∧ Cond.initialized y.cls ∈ wG ∧ (y.cls ≠ "java/lang/invoke/MethodHandle" ∧ y.cls ≠ "java/lang/invoke/VarHandle" ∧ (parseMethodDescriptor y.desc).map (fun d => d.parameters.length) = some n) ∧ Cond.instanceMethod y ∈ wG ∧ y.name = "<init>"
theorem n_blind {D : va_G} {cI : ClassId} {ci : Nat} {fs0 : List Value} {h0 sz : Nat} {As : List Value} : FrameBlind (va_Pc As (nPre D cI ci fs0 h0 sz)) := fun _ U _ _ q => ⟨q.1, q.2.1, q.2.2.1, va_K.moved (u := U) (Vm.Alike.refl U.vm) q.2.2.2.1, q.2.2.2.2.1, gNst.vm (s := U) rfl q.2.2.2.2.2⟩
theorem n_pre (C : nC D cI A own cc ret nL p s m args meth c) {q ci : Nat} {fs0 : List Value} {w0 : va_W} {H : Heap} (hP : va_P D vwCl (w0 ++ [(q, .inr (ci, fs0))]) H) (As : List Value) : ∀ U : State, U.heap = H → s.WarmedH U.vm → va_Pc As (nPre D cI ci fs0 q H.size) As.toArray U := fun U hU hW => ⟨rfl, by rw [hU], by rw [hU]; exact va_one hP, va_K.moved hW.alike C.K, va_Dsing trivial, gNst.warm hW C.N⟩
theorem n_in {y : MethodName} {b : ByteArray} {maxL n : Nat} (I : gIn y b maxL n) : GoodIn wG (Cond.code y b maxL none :: wG) := by
  intro w hw
  rcases List.mem_cons.mp hw with rfl | hw
  · exact ⟨I.1, wG_good I.1⟩
  · exact ⟨hw, wG_good hw⟩
theorem n_back (C : nC D cI A own cc ret nL p s m args meth c) {ci q mcx msx : Nat} {As : List Value} {fs0 : List Value} {m0 : gM} {sh : List gSh} {fS : Prop} {w0 : va_W} {H : Heap} {locs : List Loc} {ls : Array Slot} {st0 : List Value}
    (hP : va_P D vwCl (w0 ++ [(q, .inr (ci, fs0))]) H) (hD : va_D A (w0 ++ [(q, .inr (ci, fs0))])) (hS : va_S A s.heap H locs) (hl : lv_has ls nL L)
    (hr : va_Run p l e R s m args below meth c H locs mc ms mcx msx (F0 m pc ls st0) st (va_Qv (fun u : (Nat → Nat) × ClassId => u.1 0 = q) (nPost D cI m0 sh fS (va_A [(q, .inr (ci, fs0))] H.size)) (va_A [(q, .inr (ci, fs0))] H.size) (Value.ref q :: As).toArray) (va_A [(q, .inr (ci, fs0))] H.size))
    (h1 : mc + mcx = mc2) (h2 : ms + msx = ms2)
    (h : ∀ (ad : Nat → Nat) (cS : ClassId), ad 0 = q → (fS → va_K D vwCl [(cS, .object "RepairDuty$State")] s) → nV p l e R s m args below meth c Q D A nL mc2 ms2 (w0 ++ gL cI cS ad m0 0 sh) (pc + 3) L st) : W p l e R s m args below meth c H locs mc ms Q (F0 m pc ls st0) := by
  subst h1 h2
  obtain ⟨d1, d2, d3⟩ := va_Done hD
  have hF : ∀ a, va_A [(q, .inr (ci, fs0))] H.size a → A a := fun a z => by
    rcases z with ⟨i, e, hi⟩ | z
    · have hz : i < 1 := (List.getElem?_eq_some_iff.mp hi).1
      have e0 : i = 0 := by omega
      subst e0
      cases hi
      exact d1
    · exact C.fr a (Nat.le_trans hS.1 z)
  refine va_callv hr hS (fun a _ z => hF a z) hF fun u t H1 locs1 ht hvm hu hB hz hk hS1 => ?_
  obtain ⟨hP1, hD1, hK1⟩ := hB
  rw [ht] at hP1
  obtain ⟨hPj, hDj⟩ := n_join hP hD hk hF hP1 hD1
  exact h u.1 u.2 hu (fun z => va_K.moved hvm.symm (hK1 z)) H1 locs1 ls hPj hDj hS1 hl
theorem n_call (C : nC D cI A own cc ret nL p s m args meth c) {y : MethodName} {b2 : ByteArray} {maxL2 n idx ci q mcx msx : Nat} {rm2 : Room} {As : List Value} {fs0 : List Value} {m0 : gM} {sh : List gSh} {fS : Prop} {w0 : va_W} {st0 : List Value} (I : gIn y b2 maxL2 n) (hM : nMet l y b2 maxL2 rm2 D cI As ci fs0 m0 sh fS mcx msx) (hw : Cond.methodLink own idx y ∈ wG) (hn : As.length = n) (hR : rm2.frames + 1 ≤ R.frames ∧ 8 + (maxL2 + 11) + rm2.locals ≤ R.locals) (hz : rm2.cells = mcx ∧ rm2.slots = msx) (hst : st0 = As.reverse ++ .ref q :: st) (hcat : (st.map fun v => v.category).sum ≤ 8) (h1 : mc + mcx = mc2) (h2 : ms + msx = ms2) (hR2 : mc2 ≤ R.cells ∧ ms2 ≤ R.slots) (hd : decode cc pc = .ok (.invokespecial idx, 3))
    (h : ∀ (ad : Nat → Nat) (cS : ClassId), ad 0 = q → (fS → va_K D vwCl [(cS, .object "RepairDuty$State")] s) → nV p l e R s m args below meth c Q D A nL mc2 ms2 (w0 ++ gL cI cS ad m0 0 sh) (pc + 3) L st) : nV p l e R s m args below meth c Q D A nL mc ms (w0 ++ [(q, .inr (ci, fs0))]) pc L st0 := fun H locs ls hP hD hS hl => by
  have hts := C.2.2.2.2.2.1
  exact n_back C hP hD hS hl (va_runI (nL := nL) (own := own) (As := As) (rest := st) ⟨C.1, C.2.1, C.2.2.2.1, C.o, hts⟩ (hM q H.size) (cwI n hts (n_in I) rfl hz.1 hz.2 (C.wd I.2.1) (C.wd hw) (C.wd I.2.2.2.1) I.2.2.2.2 I.2.2.1 hR) ⟨n_blind, n_pre C hP _⟩ rfl hn hl.1 hst (lv_room hcat) hd ⟨by rw [h1]; exact hR2.1, by rw [h2]; exact hR2.2⟩) h1 h2 h
theorem n_callN (C : nC D cI A own cc ret nL p s m args meth c) {y : MethodName} {b2 : ByteArray} {maxL2 n idx ci q mcx msx : Nat} {host : String} {rm2 : Room} {As : List Value} {fs0 : List Value} {m0 : gM} {sh : List gSh} {fS : Prop} {w0 : va_W} {st0 : List Value} (I : gIn y b2 maxL2 n) (hM : nMet l y b2 maxL2 rm2 D cI As ci fs0 m0 sh fS mcx msx) (hw : va_Nw (.methodLinkNest own idx y host) s) (hn : As.length = n) (hR : rm2.frames + 1 ≤ R.frames ∧ 8 + (maxL2 + 11) + rm2.locals ≤ R.locals) (hz : rm2.cells = mcx ∧ rm2.slots = msx) (hst : st0 = As.reverse ++ .ref q :: st) (hcat : (st.map fun v => v.category).sum ≤ 8) (h1 : mc + mcx = mc2) (h2 : ms + msx = ms2) (hR2 : mc2 ≤ R.cells ∧ ms2 ≤ R.slots) (hd : decode cc pc = .ok (.invokespecial idx, 3))
    (h : ∀ (ad : Nat → Nat) (cS : ClassId), ad 0 = q → (fS → va_K D vwCl [(cS, .object "RepairDuty$State")] s) → nV p l e R s m args below meth c Q D A nL mc2 ms2 (w0 ++ gL cI cS ad m0 0 sh) (pc + 3) L st) : nV p l e R s m args below meth c Q D A nL mc ms (w0 ++ [(q, .inr (ci, fs0))]) pc L st0 := fun H locs ls hP hD hS hl => by
  have hts := C.2.2.2.2.2.1
  exact n_back C hP hD hS hl (va_runIN (nL := nL) (own := own) (As := As) (rest := st) ⟨C.1, C.2.1, C.2.2.2.1, C.o, hts⟩ (hM q H.size) ⟨va_cnB n hts (n_in I) rfl hz.1 hz.2 hw (C.wd I.2.1) I.2.2.1 hR, I.2.2.2.2, C.wd I.2.2.2.1⟩ ⟨n_blind, n_pre C hP _⟩ rfl hn hl.1 hst (lv_room hcat) hd ⟨by rw [h1]; exact hR2.1, by rw [h2]; exact hR2.2⟩) h1 h2 h
end NROWS
