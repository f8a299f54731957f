/-! Row.put while the objects are made: a world of a row and its ints -/
section NPUT
variable {p : Program} {l : Launch} {e : Env} {R : Room} {s : State} {m : MethodId} {args : Array Value} {below : List Frame} {meth : Method} {c : Code} {mc ms mc2 ms2 : Nat} {Q : State → Prop} {D : va_G} {cI : ClassId} {A : Nat → Prop} {own : String} {cc : ByteArray} {ret : Option FieldType} {nL : Nat} {w w2 : va_W} {pc : Nat} {L : List (Nat × Value)} {st : List Value}
def pPre (D : va_G) (cI : ClassId) (w : va_W) (sz : Nat) (U : State) : Prop := U.heap.size = sz ∧ va_P D vwCl w U.heap ∧ va_K D vwCl [(cI, .int)] U ∧ va_D (fun _ => True) w ∧ gNst U
def pMet (l : Launch) (D : va_G) (cI : ClassId) (n j : Nat) (f : Nat → Int32) (v : Int32) : Prop :=
  ∀ a b sz : Nat, Met l yX6_put (Cond.code yX6_put cX6_put 3 none :: wG) rm_X6_put (va_Pc [.ref a, .int (nI j), .int v] (pPre D cI [(a, .inr (5, [.ref b])), (b, .inl (cI, (n, .inl f)))] sz)) (va_Qv (fun _ : Unit => True) (fun _ t => va_P D vwCl [(a, .inr (5, [.ref b])), (b, .inl (cI, (n, .inl (upd f j v))))] t.heap) (va_A [(a, .inr (5, [.ref b])), (b, .inl (cI, (n, .inl f)))] sz)) 0 0 (va_A [(a, .inr (5, [.ref b])), (b, .inl (cI, (n, .inl f)))] sz)
theorem p_blind {w : va_W} {sz : Nat} {As : List Value} : FrameBlind (va_Pc As (pPre D cI w sz)) := fun _ U _ _ q => ⟨q.1, q.2.1, q.2.2.1, va_K.moved (u := U) (Vm.Alike.refl U.vm) q.2.2.2.1, q.2.2.2.2.1, gNst.vm (s := U) rfl q.2.2.2.2.2⟩
theorem two_get {x y : Nat × va_E} {k : Nat} {q : Nat × va_E} (h : ([x, y] : va_W)[k]? = some q) : (k = 0 ∧ x = q) ∨ (k = 1 ∧ y = q) := by
  match k, h with
  | 0, h => exact Or.inl ⟨rfl, Option.some.inj h⟩
  | 1, h => exact Or.inr ⟨rfl, Option.some.inj h⟩
  | k + 2, h => exact absurd h (by simp)
theorem n_put (C : nC D cI A own cc ret nL p s m args meth c) {a b n j idx : Nat} {f : Nat → Int32} {v : Int32} (hM : pMet l D cI n j f v) (hw : Cond.methodLink own idx yX6_put ∈ wG) (q1 q2 : Nat) (h1 : w[q1]? = some (a, .inr (5, [.ref b]))) (h2 : w[q2]? = some (b, .inl (cI, (n, .inl f)))) (h12 : q1 ≠ q2) (hR : rm_X6_put.frames + 1 ≤ R.frames ∧ 8 + (3 + 11) + rm_X6_put.locals ≤ R.locals) (hcat : (st.map fun v => v.category).sum ≤ 8) (hR2 : mc ≤ R.cells ∧ ms ≤ R.slots) (hw2 : w.set q2 (b, .inl (cI, (n, .inl (upd f j v)))) = w2) (hd : decode cc pc = .ok (.invokevirtual idx, 3)) (h : nV p l e R s m args below meth c Q D A nL mc ms w2 (pc + 3) L st) : nV p l e R s m args below meth c Q D A nL mc ms w pc L (.int v :: .int (nI j) :: .ref a :: st) := fun H locs ls hP hD hS hl => by
  have hts := C.2.2.2.2.2.1
  have hab : a ≠ b := fun z => h12 (hD.1 q1 q2 _ _ h1 h2 z)
  have hPp : va_P D vwCl [(a, .inr (5, [.ref b])), (b, .inl (cI, (n, .inl f)))] H := fun k q hk => by
    rcases two_get hk with ⟨-, rfl⟩ | ⟨-, rfl⟩
    · exact hP q1 _ h1
    · exact hP q2 _ h2
  have hDp : va_D (fun _ => True) [(a, .inr (5, [.ref b])), (b, .inl (cI, (n, .inl f)))] := ⟨fun i k x y hi hk z => by
    rcases two_get hi with ⟨e1, rfl⟩ | ⟨e1, rfl⟩ <;> rcases two_get hk with ⟨e2, rfl⟩ | ⟨e2, rfl⟩
    · exact e1.trans e2.symm
    · exact absurd z hab
    · exact absurd z.symm hab
    · exact e1.trans e2.symm, fun _ _ _ => trivial⟩
  have hF : ∀ z, va_A [(a, .inr (5, [.ref b])), (b, .inl (cI, (n, .inl f)))] H.size z → A z := fun z hz => by
    rcases hz with ⟨i, e, hi⟩ | hz
    · rcases two_get hi with ⟨-, e⟩ | ⟨-, e⟩
      · cases e; exact hD.2 q1 _ h1
      · cases e; exact hD.2 q2 _ h2
    · exact C.fr z (Nat.le_trans hS.1 hz)
  refine va_callv (va_runV (nL := nL) (own := own) (C := RX6) (b := a) (As := [.int (nI j), .int v]) (rest := st) ⟨C.1, C.2.1, C.2.2.2.1, C.o, hts⟩ (hM a b H.size) ⟨callB_of 2 hts (gI_good iX6_put.1) rfl rfl rfl (C.wd iX6_put.1.2.1) (C.wd hw) iX6_put.1.2.2 hR, C.wd iX6_put.2.1, C.wd iX6_put.2.2⟩ ⟨p_blind, va_recv C.K hP rfl h1, fun U hU hW => ⟨rfl, by rw [hU], by rw [hU]; exact hPp, va_K.moved hW.alike C.K, hDp, gNst.warm hW C.N⟩⟩ rfl rfl hl.1 rfl (lv_room hcat) hd ⟨hR2.1, hR2.2⟩) hS (fun z _ hz => hF z hz) hF fun u t H1 locs1 ht hvm _ hB hz hk hS1 => ?_
  rw [ht] at hB
  subst hw2
  have l2 := (List.getElem?_eq_some_iff.mp h2).1
  refine h H1 locs1 ls (fun k q hq => ?_) (hD.set h2) hS1 hl
  by_cases e2 : k = q2
  · subst e2
    rw [List.getElem?_set_self l2] at hq
    cases hq
    exact hB 1 _ rfl
  · rw [List.getElem?_set_ne (Ne.symm e2)] at hq
    by_cases e1 : k = q1
    · subst e1
      rw [h1] at hq
      cases hq
      exact hB 0 _ rfl
    · refine (hP k q hq).kept (hk q.1 (hP k q hq).lt fun hz => ?_)
      rcases hz with ⟨i, e, hi⟩ | hz
      · rcases two_get hi with ⟨-, e⟩ | ⟨-, e⟩
        · exact e1 (hD.1 k q1 _ _ hq h1 (by rw [← (Prod.mk.inj e).1]))
        · exact e2 (hD.1 k q2 _ _ hq h2 (by rw [← (Prod.mk.inj e).1]))
      · have := (hP k q hq).lt
        omega
set_option maxRecDepth 100000 in
set_option maxHeartbeats 4000000 in
theorem c_put_new (l : Launch) (D : va_G) (cI : ClassId) {n j : Nat} (hj : j < n) (hn : n < 2 ^ 31) (f : Nat → Int32) (v : Int32) : pMet l D cI n j f v := by
  intro a b sz
  refine Met.ofW (cc := cX6_put) (maxL := 3) (ret := none) (by decide) rfl ?_
  intro p e s m args below meth c s₁ B hml hv
  obtain ⟨rfl, hsz, hP, hK, hD0, hN⟩ := hv
  have hts := atoms_spec (ws := Cond.code yX6_put cX6_put 3 none :: wG) B.pre
  have hown : s.vm.findClass RX6 = some m.cls := findClass_of_methodNamed B.named
  have hl := lv_entry ([.ref a, .int (nI j), .int v]) (n := 3) (Nat.le_of_ble_eq_true rfl)
  rw [lg_entry_eq]
  subst hsz
  have C : nC D cI (va_A [(a, .inr (5, [.ref b])), (b, .inl (cI, (n, .inl f)))] s.heap.size) RX6 cX6_put none 3 p s m _ meth c := ⟨B.exec, B.bytes, B.returns, hml, hown, fun w hw => hts w (List.mem_cons_of_mem _ hw), B.notSynchronized, hK, fun q h => Or.inr h, hN⟩
  refine (?_ : nV p l e (headSpec (Cond.code yX6_put cX6_put 3 none :: wG) rm_X6_put).room s m _ below meth c (MQ below (va_Qv (fun _ : Unit => True) (fun _ t => va_P D vwCl [(a, .inr (5, [.ref b])), (b, .inl (cI, (n, .inl (upd f j v))))] t.heap) (va_A [(a, .inr (5, [.ref b])), (b, .inl (cI, (n, .inl f)))] s.heap.size)) _ s 0 0 (va_A [(a, .inr (5, [.ref b])), (b, .inl (cI, (n, .inl f)))] s.heap.size)) D (va_A [(a, .inr (5, [.ref b])), (b, .inl (cI, (n, .inl f)))] s.heap.size) 3 0 0 [(a, .inr (5, [.ref b])), (b, .inl (cI, (n, .inl f)))] 0 [(0, .ref a), (1, .int (nI j)), (2, .int v)] []) _ _ _ hP hD0.self va_S.rf hl
  refine n_iload_n C 1 dX6_put_0 rfl ?_
  refine n_lt_f C 20 (nI_pos (by omega)) dX6_put_1 (by decide) ?_
  refine n_iload_n C 1 dX6_put_4 rfl ?_
  refine n_aload_n C 0 dX6_put_5 rfl ?_
  refine n_get C (ci := 5) (N := 1) (T := TX6) 0 (fs := [.ref b]) rfl rfl wi_X6 0 (by decide) wd_37 (v := .ref b) rfl dX6_put_6 ?_
  refine n_alen C 1 rfl dX6_put_9 ?_
  refine n_ige_f C 20 (nI_ge hj hn) dX6_put_10 (by decide) ?_
  refine n_aload_n C 0 dX6_put_13 rfl ?_
  refine n_get C (ci := 5) (N := 1) (T := TX6) 0 (fs := [.ref b]) rfl rfl wi_X6 0 (by decide) wd_37 (v := .ref b) rfl dX6_put_14 ?_
  refine n_iload_n C 1 dX6_put_17 rfl ?_
  refine n_iload_n C 2 dX6_put_18 rfl ?_
  refine n_iast C (w2 := [(a, .inr (5, [.ref b])), (b, .inl (cI, (n, .inl (upd (f) j v))))]) 1 rfl (hj) (hn) rfl dX6_put_19 ?_
  exact fun H locs ls hP hD hSv _ => W.vret C.1 C.2.1 C.2.2.1 (fun t ht hW => ⟨⟨(), rfl, trivial, by show va_P D vwCl _ t.heap; rw [ht]; exact hP⟩, hSv.F ht⟩) hSv.2.2 dX6_put_20 C.2.2.2.2.2.2.1
end NPUT
