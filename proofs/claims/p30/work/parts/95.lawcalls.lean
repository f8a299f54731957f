/-! the law's calls of its own methods, for a number n of members -/
section LAWC
variable {p : Program} {l : Launch} {e : Env} {R : Room} {s : State} {m : MethodId} {args : Array Value} {below : List Frame} {meth : Method} {c : Code} {mc ms mc2 ms2 : Nat} {Q : State → Prop} {G : gG} {own : String} {cc : ByteArray} {ret : Option FieldType} {nL : Nat} {mem : gM} {pc : Nat} {L : List (Nat × Value)} {st : List Value}
theorem g_cell (C : gC G own cc ret nL p R s m args meth c mc ms) {b N k idx : Nat} {xs : Nat → Int32} (X : sX G b N xs s) (hN : N ≤ 260) (hk : k < 100) {rest : List Value} (hw : Cond.methodLink own idx yL_cell ∈ wG) (hR : rm_L_cell.frames + 1 ≤ R.frames ∧ 8 + (2 + 11) + rm_L_cell.locals ≤ R.locals) (hcat : (rest.map fun v => v.category).sum ≤ 8) (hd : decode cc pc = .ok (.invokestatic idx, 3))
    (h : ∀ r : Int32, gV p l e R s m args below meth c mc ms Q G nL mem (pc + 3) L (.int r :: rest)) : gV p l e R s m args below meth c mc ms Q G nL mem pc L (.int (nI k) :: .ref b :: rest) := by
  intro H locs ls hP hS hl
  have hts := C.2.2.2.2.2.1
  have hT : va_T .int b N (fun j => .int (xs j)) (gA G) s s.heap := by
    obtain ⟨⟨scr, h1, h2, h3, h4, h5⟩, -, h7⟩ := X
    exact ⟨scr, h1, h2, h3, Nat.le_of_eq h4.symm, congrArg Nat.toInt32 h4, h5, h7⟩
  refine g_run (g := F0 m pc ls (.int (nI k) :: .ref b :: rest)) (G := G) (nL := nL) (L := L) (post := fun a u => ∃ r : Int32, a = some (.int r) ∧ u = mem) (a := ([.ref b, .int (nI k)] : List Value).toArray) (rest := rest) (va_runS (g := F0 m pc ls (.int (nI k) :: .ref b :: rest)) (nL := nL) (own := own) (As := [.ref b, .int (nI k)]) (rest := rest) ⟨C.1, C.2.1, C.2.2.2.1, C.o, hts⟩ (c_L_cell l G mem (xs := xs) hN hk) ⟨callB_of 2 hts (gI_good iL_cell.1) rfl rfl rfl (C.w iL_cell.1.2.1) (C.w hw) iL_cell.1.2.2 hR, C.w iL_cell.2⟩ ⟨?_, fun U hU hW => ⟨rfl, (gB_call C hP hS [.ref b, .int (nI k)] U hU hW).2, (hT.moved hW.alike).kept fun a h1 h2 => by rw [hU]; exact hS.2.1 a h1 h2⟩⟩ rfl rfl hl.1 rfl (lv_room hcat) hd ⟨C.2.2.2.2.2.2.2.2.2.2.1, C.2.2.2.2.2.2.2.2.2.2.2⟩) hS hl ?_
  · exact fun a U g mk q => ⟨q.1, ((gB_blind (G := G) (m := mem) (As := [.ref b, .int (nI k)])) a U g mk ⟨q.1, q.2.1⟩).2, va_T.moved (u := U) (Vm.Alike.refl U.vm) q.2.2⟩
  · intro v u q
    obtain ⟨r, rfl, rfl⟩ := q
    exact h r
theorem g_callSXf (C : gC G own cc ret nL p R s m args meth c mc ms) {y : MethodName} {b2 : ByteArray} {maxL2 n idx mcx msx : Nat} {ret2 : Option FieldType} {rm2 : Room} {As rest : List Value} {v : Value} {P : gM → Prop} (I : gIs y b2 maxL2 ret2 n) (hM : gMetX l y b2 maxL2 ret2 rm2 G As mem (fun a u => a = some v ∧ P u) mcx msx) (hw : Cond.methodLink own idx y ∈ wG) (hn : As.length = n) (hR : rm2.frames + 1 ≤ R.frames ∧ 8 + (maxL2 + 11) + rm2.locals ≤ R.locals) (hz : rm2.cells = mcx ∧ rm2.slots = msx) (hst : st = As.reverse ++ rest) (hcat : (rest.map fun v => v.category).sum ≤ 8) (h1 : mc + mcx ≤ mc2) (h2 : ms + msx ≤ ms2) (hR2 : mc2 ≤ R.cells ∧ ms2 ≤ R.slots) (hd : decode cc pc = .ok (.invokestatic idx, 3))
    (h : ∀ (u : gM), P u → gV p l e R s m args below meth c mc2 ms2 Q G nL u (pc + 3) L (v :: rest)) : gV p l e R s m args below meth c mc ms Q G nL mem pc L st :=
  g_callSX C I hM hw hn hR hz hst hcat rfl rfl ⟨Nat.le_trans h1 hR2.1, Nat.le_trans h2 hR2.2⟩ hd fun a u q => by obtain ⟨rfl, hP⟩ := q; exact g_widen h1 h2 (h u hP)
end LAWC
section LAWN
variable {T n : Nat} {V : Nat → Int32} {Vs : Nat → Nat → Int32} {h : Nat} {A B : Nat → Int32}
theorem c_fails_n (l : Launch) (G : gG) (hn : vN V = n) (g : Good T V) (mem : gM) (L : kLS T V Vs h A B mem) (hT : T < 2 ^ 20) : gMet l yL_fails cL_fails 5 (some .boolean) rm_L_fails G [.ref (gad G 0), .int (nI n)] mem (fun a u => a = some (.int (nI 1)) ∧ kLS T V Vs h A B u) := by
  subst hn; exact c_L_fails l G g mem L hT
theorem c_agrees_n (l : Launch) (G : gG) (hn : vN V = n) (g : Good T V) (mem : gM) (L : kLS T V Vs h A B mem) (hT : T < 2 ^ 20) (x : Ex T V) : gMet l yL_agrees cL_agrees 8 (some .boolean) rm_L_agrees G [.ref (gad G 0), .int (nI n)] mem (fun a u => a = some (.int (nI 1)) ∧ u = mem) := by
  subst hn; exact c_L_agrees l G g mem L hT x
theorem c_draws_n (l : Launch) (G : gG) (hA : upA (gA G)) (hx0 : G.2.2.1.2.2 = 0) (hn : vN V = n) (g : Good T V) (mem : gM) (L : kLS T V Vs h A B mem) (hT : T < 2 ^ 20) (x : Ex T V) (hp : 0 < n) : gMetX l yL_draws cL_draws 8 (some .boolean) rm_L_draws G [.ref (gad G 0), .int (nI n)] mem (fun a u => a = some (.int (nI 1)) ∧ LI (T + 1) n u) 2 20 := by
  subst hn; exact c_L_draws l G hA hx0 g mem L hT x hp
theorem c_repairs_n (l : Launch) (G : gG) (hA : upA (gA G)) (hx0 : G.2.2.1.2.2 = 0) (hn : vN V = n) (g : Good T V) (mem : gM) (L : kLS T V Vs h A B mem) (hT : T + 1 < 2 ^ 20) (x : Ex T V) (hp : 0 < n) {b : Nat} (hb : b < 200) : gMetX l yL_repairs cL_repairs 18 (some .boolean) rm_L_repairs G [.ref (gad G 0), .int (nI n), .int (nI b)] mem (fun a u => a = some (.int (nI 1)) ∧ LI (T + 1) n u) 1 10 := by
  subst hn; exact c_L_repairs l G hA hx0 g mem L hT x hp hb
theorem LI.more {T2 : Nat} {u : gM} (i : LI T n u) (ht : T ≤ T2) : LI T2 n u := by
  obtain ⟨V, Vs, h, A, B, L, g, x, e⟩ := i
  exact ⟨V, Vs, h, A, B, L.more ht, g.more ht, x.more ht, e⟩
end LAWN
