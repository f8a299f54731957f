/-! the law's rows: the world grows by rows of ten ints; contracts that make such rows; the script -/
theorem gFs_ad {ad ad2 : Nat → Nat} {f : Nat → Int32} (h : ∀ q, q < 154 → ad q = ad2 q) : ∀ {l : List (Option Nat)} {i : Nat}, (∀ q, some q ∈ l → q < 154) → gFs ad f i l = gFs ad2 f i l
  | [], _, _ => rfl
  | none :: t, i, hl => by simp only [gFs]; rw [gFs_ad h (l := t) fun q hq => hl q (List.mem_cons_of_mem _ hq)]
  | some q :: t, i, hl => by simp only [gFs]; rw [gFs_ad h (l := t) fun q hq => hl q (List.mem_cons_of_mem _ hq), h q (hl q List.mem_cons_self)]
def shOK : gSh → Bool
  | .inl _ => true
  | .inr (.inl o) => o.2.all fun r => match r with | none => true | some q => decide (q < 154)
  | .inr (.inr l) => l.all fun q => decide (q < 154)
theorem gE_ad {cI cS : ClassId} {ad ad2 : Nat → Nat} {r : Nat → Int32} (h : ∀ q, q < 154 → ad q = ad2 q) : ∀ {s : gSh}, shOK s = true → gE cI cS ad r s = gE cI cS ad2 r s
  | .inl _, _ => rfl
  | .inr (.inl o), hs => by
    have hl : ∀ q, some q ∈ o.2 → q < 154 := fun q hq => by
      have := List.all_eq_true.mp hs (some q) hq
      simpa using this
    show Sum.inr (o.1, gFs ad r 0 o.2) = Sum.inr (o.1, gFs ad2 r 0 o.2)
    rw [gFs_ad h hl]
  | .inr (.inr l), hs => by
    have e : (fun j : Nat => ((l : List Nat)[j]?).map ad) = fun j : Nat => ((l : List Nat)[j]?).map ad2 := by
      funext j
      cases hj : (l : List Nat)[j]? with
      | none => rfl
      | some q =>
        have := List.all_eq_true.mp hs q (List.mem_of_getElem? hj)
        show some (ad q) = some (ad2 q)
        rw [h q (by simpa using this)]
    exact congrArg (fun f : Nat → Option Nat => (Sum.inl (cS, (l.length, Sum.inr (Sum.inr (Sum.inr (Sum.inr f))))) : va_E)) e
theorem gL_ad {cI cS : ClassId} {ad ad2 : Nat → Nat} {m : gM} (h : ∀ q, q < 154 → ad q = ad2 q) : ∀ {l : List gSh} {k : Nat}, (∀ s, s ∈ l → shOK s = true) → (∀ j, j < l.length → ad (k + j) = ad2 (k + j)) → gL cI cS ad m k l = gL cI cS ad2 m k l
  | [], _, _, _ => rfl
  | s :: t, k, hl, hj => by
    simp only [gL]
    rw [gL_ad h (l := t) (k := k + 1) (fun x hx => hl x (List.mem_cons_of_mem _ hx)) fun j hj2 => by
      have := hj (j + 1) (by simp; omega)
      rw [show k + 1 + j = k + (j + 1) by omega]
      exact this]
    rw [gE_ad h (hl s List.mem_cons_self), show ad k = ad2 k from hj 0 (by simp)]
theorem gL_app {cI cS : ClassId} {ad : Nat → Nat} {m : gM} : ∀ {l l2 : List gSh} {k : Nat}, gL cI cS ad m k (l ++ l2) = gL cI cS ad m k l ++ gL cI cS ad m (k + l.length) l2
  | [], l2, k => by simp [gL]
  | s :: t, l2, k => by
    rw [List.cons_append]
    simp only [gL]
    rw [gL_app (l := t) (l2 := l2) (k := k + 1), List.cons_append, List.length_cons, show k + 1 + t.length = k + (t.length + 1) by omega]
theorem gL_memc {cI cS : ClassId} {ad : Nat → Nat} {m m2 : gM} : ∀ {l : List gSh} {k : Nat}, (∀ j, j < l.length → m (k + j) = m2 (k + j)) → gL cI cS ad m k l = gL cI cS ad m2 k l
  | [], _, _ => rfl
  | s :: t, k, h => by
    have h0 : m k = m2 k := h 0 (by simp)
    have ih := gL_memc (cI := cI) (cS := cS) (ad := ad) (l := t) (k := k + 1) (m := m) (m2 := m2) fun j hj => by
      have := h (j + 1) (by simp; omega)
      rw [show k + 1 + j = k + (j + 1) by omega]
      exact this
    simp only [gL]
    rw [h0, ih]
theorem gsh_len : gsh.length = 154 := by decide +kernel
theorem gsh_all : gsh.all shOK = true := by decide +kernel
theorem gshx_len (G : gG) : (gshx G).length = 154 + G.2.2.1.2.2 := by unfold gshx; rw [List.length_append, gsh_len, List.length_replicate]
theorem gshx_ok (G : gG) : ∀ s, s ∈ gshx G → shOK s = true := fun s hs => by
  rcases List.mem_append.mp hs with h | h
  · exact List.all_eq_true.mp gsh_all s h
  · rw [List.eq_of_mem_replicate h]; rfl
/-- the world with one more row of ten ints, at the address q -/
def addx (G : gG) (x q : Nat) : gG := (G.1, (fun k => if k = 154 + x then q else gad G k), (G.2.2.1.1, G.2.2.1.2.1, x + 1), G.2.2.2.1, G.2.2.2.2)
theorem addx_ad {G : gG} {x q k : Nat} (h : k ≠ 154 + x) : gad (addx G x q) k = gad G k := if_neg h
theorem addx_s {G : gG} {x q : Nat} : gad (addx G x q) (154 + x) = q := if_pos rfl
theorem addx_sh {G : gG} {x q : Nat} (hx : G.2.2.1.2.2 = x) : gshx (addx G x q) = gshx G ++ [.inl 10] := by
  unfold gshx
  rw [hx]
  show gsh ++ List.replicate (x + 1) (.inl 10) = _
  rw [List.replicate_succ', List.append_assoc]
theorem addx_W {G : gG} {x q : Nat} {m : gM} (hx : G.2.2.1.2.2 = x) : gW (addx G x q) m = gW G m ++ [(q, .inl (G.2.2.1.1, (10, .inl (m (154 + x)))))] := by
  have hl : (gshx G).length = 154 + x := by rw [gshx_len, hx]
  unfold gW
  rw [addx_sh hx, gL_app, hl, Nat.zero_add]
  show gL G.2.2.1.1 G.2.2.1.2.1 (gad (addx G x q)) m 0 (gshx G) ++ [(gad (addx G x q) (154 + x), .inl (G.2.2.1.1, (10, .inl (m (154 + x)))))] = _
  rw [addx_s, gL_ad (ad2 := gad G) (fun z hz => addx_ad (by omega)) (gshx_ok G) (fun j hj => addx_ad (by omega))]
theorem gW_memc {G : gG} {m m2 : gM} (h : ∀ k, k < 154 + G.2.2.1.2.2 → m k = m2 k) : gW G m = gW G m2 := gL_memc fun j hj => by
  rw [gshx_len] at hj
  rw [Nat.zero_add]
  exact h j hj
/-- a larger world that gives the smaller one back -/
def gSub (G G1 : gG) : Prop := gA G1 = gA G ∧ ∀ (m : gM) (t : State), gB G1 m t → gB G m t
theorem gSub.rf {G : gG} : gSub G G := ⟨rfl, fun _ _ h => h⟩
theorem gSub.tr {G G1 G2 : gG} (a : gSub G G1) (b : gSub G1 G2) : gSub G G2 := ⟨b.1.trans a.1, fun m t h => a.2 m t (b.2 m t h)⟩
theorem addx_sub {G : gG} {x q : Nat} (hx : G.2.2.1.2.2 = x) : gSub G (addx G x q) := by
  refine ⟨rfl, fun m t h => ?_⟩
  obtain ⟨h1, h2, h3, h4⟩ := h
  rw [addx_W hx] at h1 h3
  exact ⟨va_init h1, h2, (va_Done h3).2.2, h4⟩
/-- all addresses from some one on may be written -/
def upA (A : Nat → Prop) : Prop := ∃ b : Nat, A = fun q => b ≤ q
def gMetX (l : Launch) (y : MethodName) (b : ByteArray) (maxL : Nat) (ret : Option FieldType) (rm : Room) (G : gG) (As : List Value) (m : gM) (post : Option Value → gM → Prop) (mc ms : Nat) : Prop :=
  Met l y (Cond.code y b maxL ret :: wG) rm (va_Pc As (gB G m)) (gQ G post) mc ms (gA G)
section LAWR
variable {p : Program} {l : Launch} {e : Env} {R : Room} {s : State} {m : MethodId} {args : Array Value} {below : List Frame} {meth : Method} {c : Code} {mc ms mc2 ms2 : Nat} {Q : State → Prop} {G G0 : gG} {own : String} {cc : ByteArray} {ret : Option FieldType} {nL : Nat} {mem : gM} {pc : Nat} {L : List (Nat × Value)} {st : List Value}
theorem gC.cnt (C : gC G own cc ret nL p R s m args meth c mc ms) (h1 : mc2 ≤ R.cells) (h2 : ms2 ≤ R.slots) : gC G own cc ret nL p R s m args meth c mc2 ms2 := by
  obtain ⟨a1, a2, a3, a4, a5, a6, a7, a8, a9, a10, -, -⟩ := C
  exact ⟨a1, a2, a3, a4, a5, a6, a7, a8, a9, a10, h1, h2⟩
theorem g_widen (h1 : mc ≤ mc2) (h2 : ms ≤ ms2) (h : gV p l e R s m args below meth c mc2 ms2 Q G nL mem pc L st) : gV p l e R s m args below meth c mc ms Q G nL mem pc L st :=
  fun H locs ls hP hS hl => W.widen h1 h2 (h H locs ls hP hS hl)
theorem g_ofx {y : MethodName} {b : ByteArray} {maxL : Nat} {rm : Room} {As : List Value} {post : Option Value → gM → Prop} {L0 : List (Nat × Value)} (hA : upA (gA G)) (hy : plainName y.cls = true) (ho : y.cls = own) (hn : (lg_sl As).length ≤ maxL) (hL : lv_args 0 As = L0)
    (body : ∀ (p : Program) (e : Env) (s : State) (m : MethodId) (args : Array Value) (below : List Frame) (meth : Method) (c : Code), gC G own b ret maxL p rm s m args meth c 0 0 → (∀ q, s.heap.size ≤ q → gA G q) → ∀ Q : State → Prop, Q = MQ below (gQ G post) args s mc ms (gA G) → gV p l e rm s m args below meth c 0 0 Q G maxL mem 0 L0 []) : gMetX l y b maxL ret rm G As mem post mc ms := by
  refine Met.ofW (cc := b) (maxL := maxL) (ret := ret) hy rfl ?_
  intro p e s m args below meth c s₁ B hml hv
  obtain ⟨rfl, hP, hK, hD, hZ⟩ := hv
  have hts := atoms_spec (ws := Cond.code y b maxL ret :: wG) B.pre
  have hown : s.vm.findClass own = some m.cls := ho ▸ findClass_of_methodNamed B.named
  have hl := lv_entry As (n := maxL) hn
  rw [hL] at hl
  rw [lg_entry_eq]
  have hfr : ∀ q, s.heap.size ≤ q → gA G q := fun q hq => by
    obtain ⟨b0, hb0⟩ := hA
    have h0 := hD.2 0 _ (gW_get ob_0.1)
    have h1 := (hP 0 _ (gW_get ob_0.1)).lt
    rw [hb0] at h0 ⊢
    exact Nat.le_trans h0 (Nat.le_trans (Nat.le_of_lt h1) hq)
  exact body p e s m _ below meth c ⟨B.exec, B.bytes, B.returns, hml, hown, fun w hw => hts w (List.mem_cons_of_mem _ hw), B.notSynchronized, hK, gD_any hD, hZ, Nat.zero_le _, Nat.zero_le _⟩ hfr _ rfl _ _ _ hP va_S.rf hl
/-- new int[10] -/
theorem g_new10 (C : gC G own cc ret nL p R s m args meth c mc ms) (hfr : ∀ q, s.heap.size ≤ q → gA G q) {x : Nat} (hx : G.2.2.1.2.2 = x) (hw : Cond.arrayClass .int ∈ wG) (h1 : mc + 1 = mc2) (h2 : ms + 10 = ms2) (hR : mc2 ≤ R.cells ∧ ms2 ≤ R.slots) (hd : decode cc pc = .ok (.newarray .int, 2))
    (h : ∀ G1 : gG, gSub G G1 → G1.2.2.1.2.2 = x + 1 → (∀ k, k ≠ 154 + x → gad G k = gad G1 k) → gC G1 own cc ret nL p R s m args meth c mc2 ms2 → gV p l e R s m args below meth c mc2 ms2 Q G1 nL (gr mem (154 + x) fun _ => 0) (pc + 2) L (.ref (gad G1 (154 + x)) :: st)) : gV p l e R s m args below meth c mc ms Q G nL mem pc L (.int (nI 10) :: st) := fun H locs ls hP hS hl => by
  subst h1 h2
  refine va_newa (atype := .int) (ty := .int) (N' := 10) (a0 := (10, .inl fun _ => 0)) C.1 C.2.1 (C.w hw) rfl C.K hP C.D hS hfr (fun cA => rfl) (nI_pos (by omega)) (nI_clamp (by omega)) (by show 10 * 4 ≤ _; omega) hR.1 hR.2 hd fun q cA H1 hK hP1 hD1 hS1 => ?_
  have e : cA = G.2.2.1.1 := by
    have a1 : s.vm.findClass ("[" ++ FieldType.int.toString) = some G.2.2.1.1 := (C.K.2 0 (G.2.2.1.1, .int) rfl).2
    have a2 : s.vm.findClass ("[" ++ FieldType.int.toString) = some cA := (hK.2 2 (cA, .int) rfl).2
    exact Option.some.inj (a2.symm.trans a1)
  subst e
  have eW : gW (addx G x q) (gr mem (154 + x) fun _ => 0) = gW G mem ++ [(q, .inl (G.2.2.1.1, (10, .inl fun _ => 0)))] := by
    rw [addx_W hx, gr_s, gW_memc (m2 := mem) fun k hk => gr_n (by omega)]
  have C1 : gC (addx G x q) own cc ret nL p R s m args meth c (mc + 1) (ms + 10) := by
    obtain ⟨a1, a2, a3, a4, a5, a6, a7, a8, a9, a10, -, -⟩ := id C
    refine ⟨a1, a2, a3, a4, a5, a6, a7, a8, gD_any (m := gr mem (154 + x) fun _ => 0) ?_, a10, hR.1, hR.2⟩
    rw [eW]
    exact hD1
  refine (addx_s (G := G) (x := x) (q := q)) ▸ h (addx G x q) (addx_sub hx) rfl (fun k hk => (addx_ad hk).symm) C1 H1 locs ls ?_ hS1 hl
  rw [eW]
  exact hP1
theorem g_xald (C : gC G own cc ret nL p R s m args meth c mc ms) {k j : Nat} (hk : (gshx G)[k]? = some (.inl 10)) (hj : j < 10) (hd : decode cc pc = .ok (.iaload, 1)) (h : gV p l e R s m args below meth c mc ms Q G nL mem (pc + 1) L (.int (mem k j) :: st)) : gV p l e R s m args below meth c mc ms Q G nL mem pc L (.int (nI j) :: .ref (gad G k) :: st) := by
  intro H locs ls hP hS hl
  refine va_iald (ws := gW G mem) (tys := gT G) C.1 C.2.1 C.K hP k 0 (gW_getx hk) rfl (vp_in_nI hj (by decide)) hd ?_
  rw [nI_clamp (by omega)]
  exact h H locs ls hP hS hl
theorem g_xast (C : gC G own cc ret nL p R s m args meth c mc ms) {k j : Nat} {v : Int32} (hk : (gshx G)[k]? = some (.inl 10)) (hj : j < 10) (hd : decode cc pc = .ok (.iastore, 1)) (h : gV p l e R s m args below meth c mc ms Q G nL (gr mem k (upd (mem k) j v)) (pc + 1) L st) : gV p l e R s m args below meth c mc ms Q G nL mem pc L (.int v :: .int (nI j) :: .ref (gad G k) :: st) := by
  intro H locs ls hP hS hl
  refine va_iast (ws := gW G mem) (tys := gT G) C.1 C.2.1 C.K hP C.D hS k 0 (gW_getx hk) rfl (vp_in_nI hj (by decide)) hd fun H1 locs1 hP1 _ hS1 => ?_
  rw [nI_clamp (show j < 2 ^ 31 by omega)] at hP1
  exact h H1 locs1 ls (by rw [← gW_setx (f := upd (mem k) j v) hk]; exact hP1) hS1 hl
theorem gx_at {x : Nat} {G : gG} (hx : G.2.2.1.2.2 = x) {k : Nat} (h : k < x) : (gshx G)[154 + k]? = some (.inl 10) := by
  unfold gshx
  rw [hx, List.getElem?_append_right (by rw [gsh_len]; omega), gsh_len, Nat.add_sub_cancel_left, List.getElem?_replicate, if_pos h]
theorem g_zretX (C : gC G own cc ret nL p R s m args meth c mc ms) (S : gSub G0 G) {post : Option Value → gM → Prop} (hQ : Q = MQ below (gQ G0 post) args s mc ms (gA G0)) {v : Int32} (hr : ret = some .boolean) (hn : v = 0 ∨ v = 1) (hd : decode cc pc = .ok (.ireturn, 1)) (hp : post (some (.int v)) mem) : gV p l e R s m args below meth c mc ms Q G nL mem pc L [.int v] := by
  subst hQ
  exact fun _ _ _ hP hS _ => by
    have hS0 := S.1 ▸ hS
    exact W.zret (ty := .boolean) C.1 C.2.1 (C.2.2.1.trans hr) (by rcases hn with rfl | rfl <;> decide) (fun _ ht hW => ⟨⟨_, mem, rfl, hp, S.2 _ _ (gB_end C hP hS ht hW)⟩, hS0.F ht⟩) hS0.2.2 hd C.2.2.2.2.2.2.1
/-- a call that makes rows -/
theorem g_callSX (C : gC G own cc ret nL p R s m args meth c mc ms) {y : MethodName} {b2 : ByteArray} {maxL2 n idx mcx msx : Nat} {ret2 : Option FieldType} {rm2 : Room} {As rest : List Value} {post : Option Value → gM → Prop} (I : gIs y b2 maxL2 ret2 n) (hM : gMetX l y b2 maxL2 ret2 rm2 G As mem post mcx msx) (hw : Cond.methodLink own idx y ∈ wG) (hn : As.length = n) (hR : rm2.frames + 1 ≤ R.frames ∧ 8 + (maxL2 + 11) + rm2.locals ≤ R.locals) (hz : rm2.cells = mcx ∧ rm2.slots = msx) (hst : st = As.reverse ++ rest) (hcat : (rest.map fun v => v.category).sum ≤ 8) (h1 : mc + mcx = mc2) (h2 : ms + msx = ms2) (hR2 : mc2 ≤ R.cells ∧ ms2 ≤ R.slots) (hd : decode cc pc = .ok (.invokestatic idx, 3))
    (h : ∀ (v : Option Value) (u : gM), post v u → gV p l e R s m args below meth c mc2 ms2 Q G nL u (pc + 3) L (v.toList ++ rest)) : gV p l e R s m args below meth c mc ms Q G nL mem pc L st := by
  intro H locs ls hP hS hl
  subst h1 h2
  have hts := C.2.2.2.2.2.1
  have hr := va_runS (p := p) (meth := meth) (c := c) (R := R) (l := l) (e := e) (below := below) (cells := mc) (slots := ms) (locs := locs) (g := F0 m pc ls st) (nL := nL) (own := own) (As := As) (rest := rest) ⟨C.1, C.2.1, C.2.2.2.1, C.o, hts⟩ hM ⟨callB_of n hts (gI_good I.1) rfl hz.1 hz.2 (C.w I.1.2.1) (C.w hw) I.1.2.2 hR, C.w I.2⟩ ⟨gB_blind, gB_call C hP hS _⟩ rfl hn hl.1 hst (lv_room hcat) hd ⟨hR2.1, hR2.2⟩
  intro T hT X
  obtain ⟨v, st₀, t, T', L2, h0, X', hL, e1, e2, ⟨⟨w, u, hv, hp, hb⟩, hz2, hk⟩, stp⟩ := hr T hT X
  cases hv
  rw [h0] at hz2 hk
  obtain ⟨t2, a1, b1⟩ := h v u hp T'.heap (locs ++ L2) ls (by rw [e1]; exact hb.1)
    ⟨Nat.le_trans hS.1 (by rw [e1]; exact hz2), fun q h1 h2 => by rw [e1, hk q (Nat.lt_of_lt_of_le h1 hS.1) h2]; exact hS.2.1 q h1 h2, fun q hq => by
      rcases List.mem_append.mp hq with h | h
      · exact hS.2.2 q h
      · exact hL q h⟩ hl T' rfl X'
  exact ⟨t2, stp t2 a1, b1⟩
/-- the script -/
def sX (G : gG) (b N : Nat) (xs : Nat → Int32) (s : State) : Prop := va_X b N xs s s.heap ∧ b < s.heap.size ∧ ¬ gA G b
theorem g_slen (C : gC G own cc ret nL p R s m args meth c mc ms) {b N : Nat} {xs : Nat → Int32} (X : sX G b N xs s) (hd : decode cc pc = .ok (.arraylength, 1)) (h : gV p l e R s m args below meth c mc ms Q G nL mem (pc + 1) L (.int (nI N) :: st)) : gV p l e R s m args below meth c mc ms Q G nL mem pc L (.ref b :: st) :=
  fun H locs ls hP hS hl => va_slen C.1 C.2.1 X.1 X.2.1 X.2.2 hS hd (h H locs ls hP hS hl)
theorem g_sld (C : gC G own cc ret nL p R s m args meth c mc ms) {b N j : Nat} {xs : Nat → Int32} (X : sX G b N xs s) (hj : j < N) (hN : N < 2 ^ 31) (hd : decode cc pc = .ok (.iaload, 1)) (h : gV p l e R s m args below meth c mc ms Q G nL mem (pc + 1) L (.int (xs j) :: st)) : gV p l e R s m args below meth c mc ms Q G nL mem pc L (.int (nI j) :: .ref b :: st) :=
  fun H locs ls hP hS hl => va_sld C.1 C.2.1 X.1 X.2.1 X.2.2 hS (vp_in_nI hj hN) hd (by rw [nI_clamp (by omega)]; exact h H locs ls hP hS hl)
theorem g_cVf (C : gC G own cc ret nL p R s m args meth c mc ms) {y : MethodName} {b2 : ByteArray} {maxL2 n idx k ci N : Nat} {ret2 : Option FieldType} {rm2 : Room} {T : u_T} {fl : List (Option Nat)} {As rest : List Value} {v : Value} {P : gM → Prop} (I : gIv y b2 maxL2 ret2 n) (hM : gMet l y b2 maxL2 ret2 rm2 G (.ref (gad G k) :: As) mem (fun a u => a = some v ∧ P u)) (hw : Cond.methodLink own idx y ∈ wG) (O : gO k ci y.cls T N fl) (hn : As.length = n) (hR : rm2.frames + 1 ≤ R.frames ∧ 8 + (maxL2 + 11) + rm2.locals ≤ R.locals) (hz : rm2.cells = 0 ∧ rm2.slots = 0) (hst : st = As.reverse ++ .ref (gad G k) :: rest) (hcat : (rest.map fun v => v.category).sum ≤ 8) (hd : decode cc pc = .ok (.invokevirtual idx, 3)) (h : ∀ (u : gM), P u → gV p l e R s m args below meth c mc ms Q G nL u (pc + 3) L (v :: rest)) : gV p l e R s m args below meth c mc ms Q G nL mem pc L st :=
  g_callV C I hM hw O hn hR hz hst hcat hd fun a u q => by obtain ⟨rfl, hP⟩ := q; exact h u hP
end LAWR
