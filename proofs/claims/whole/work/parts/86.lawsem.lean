/-! a call on both sides: the same answer, and both stand for one state again -/
theorem XP.more {T T2 : Nat} {V : Nat → Int32} {Vs : Nat → Nat → Int32} {h : Nat} {mem u : gM} (x : XP T V Vs h mem u) (ht : T ≤ T2) : XP T2 V Vs h mem u := by
  obtain ⟨r, ⟨o, hx⟩, f⟩ := x
  exact ⟨r, ⟨o, hx.more ht⟩, f⟩
theorem INV.more {T T2 : Nat} {mem : gM} (i : INV T mem) (ht : T ≤ T2) : INV T2 mem := by
  obtain ⟨Vs, h, o, tx, tl, r, g, hx, a⟩ := i
  exact ⟨Vs, h, o, tx, tl, r, g.more ht, hx.more ht, a⟩
theorem xp_fr {T : Nat} {V : Nat → Int32} {Vs : Nat → Nat → Int32} {h o : Nat} {mem u : gM} (r : Rel V mem) (hx : HX T Vs h o mem) (f : ∀ k, (k < 146 ∨ 154 ≤ k) → u k = mem k) : XP T V Vs h mem u :=
  ⟨r.keep fun k _ h2 => f k (by omega), ⟨o, hx_keep hx fun k _ h2 => f k (by omega)⟩, fun k hk => f k (by omega)⟩
theorem xp_3 {T : Nat} {V : Nat → Int32} {Vs : Nat → Nat → Int32} {h : Nat} {mem u : gM} (x : XP T V Vs h mem u) : u 154 = mem 154 ∧ u 155 = mem 155 ∧ u 158 = mem 158 := ⟨x.2.2 154 (by decide), x.2.2 155 (by decide), x.2.2 158 (by decide)⟩
theorem ax_3 {T : Nat} {V : Nat → Int32} {Vs : Nat → Nat → Int32} {h : Nat} {mem u : gM} {ok : Prop} {res err r1 : Int32} {nV : Nat → Int32} (a : AX T V Vs h mem u ok res err nV r1) : u 154 = mem 154 ∧ u 155 = mem 155 ∧ u 158 = mem 158 := by
  by_cases q : ok
  · exact xp_3 (a.1 q).2
  · exact xp_3 (a.2 q).2
theorem step_act {T T2 h : Nat} {Vs : Nat → Nat → Int32} {tx : Nat → Nat} {tl : Nat} {mem u1 u2 : gM} {ok : Prop} {res err r1 r2 : Int32} {nV : Nat → Int32} (g : Good T (mem 155)) (hh : mem 154 2 = nI h) (h4 : h ≤ 4) (hpa : ∀ j, j < h → ∀ i, i < 520 → mem 156 (520 * j + i) = Vs j i) (tX : TX tx tl mem) (tM : TXM tx tl mem)
    (ax : AX T (mem 155) Vs h mem u1 ok res err nV r1) (mx : MX h u1 u2 ok res err nV r2) (gn : ok → Good T2 nV) (ht : T ≤ T2) : r1 = r2 ∧ INV T2 u2 := by
  by_cases q : ok
  · obtain ⟨e1, x⟩ := ax.1 q
    obtain ⟨e2, a⟩ := mx.1 q
    exact ⟨e1.trans e2.symm, inv_act (T := T) (o := 0) h4 hpa tX tM (x.more ht) (gn q) a⟩
  · obtain ⟨e1, x⟩ := ax.2 q
    obtain ⟨e2, a⟩ := mx.2 q
    exact ⟨e1.trans e2.symm, (inv_same (o := 0) h4 g hh hpa tX tM x a).more ht⟩
theorem txm_3 {tx : Nat → Nat} {tl : Nat} {mem u : gM} (t : TXM tx tl mem) (f : u 154 = mem 154) (f2 : u 158 = mem 158) : TXM tx tl u := by
  obtain ⟨t1, t2, t3⟩ := t
  exact ⟨by rw [f]; exact t1, t2, fun i hi => by rw [f2]; exact t3 i hi⟩
theorem good_ch {T : Nat} {V : Nat → Int32} (g : Good T V) {x y z : Int32} (h : memP V x ∧ ((y = 0 ∧ wOK z) ∨ (y = nI 1 ∧ pOK z))) : Good T (upd V (chI x y) z) := by
  obtain ⟨j, hj, rfl⟩ := memP_ex g h.1
  have n10 := gd_n10 g
  have ej : toN (nI j) = j := toN_nI (by omega)
  unfold chI
  rw [ej]
  rcases h.2 with ⟨rfl, hz⟩ | ⟨rfl, hz⟩
  · exact good_one (c := 0) g hj (by decide) ⟨fun _ => hz, fun q => absurd q (by decide), fun q => absurd q (by decide)⟩
  · exact good_one (c := 1) g hj (by decide) ⟨fun q => absurd q (by decide), fun _ => hz, fun q => absurd q (by decide)⟩
theorem good_lvs {T : Nat} {V : Nat → Int32} (g : Good T V) {x : Int32} (z : Int32) (h : memP V x) : Good T (upd V (32 + 12 * toN x) (if z = 0 then nI 0 else nI 1)) := by
  obtain ⟨j, hj, rfl⟩ := memP_ex g h
  have n10 := gd_n10 g
  have ej : toN (nI j) = j := toN_nI (by omega)
  rw [ej]
  have hz : (if z = 0 then nI 0 else nI 1) = nI 0 ∨ (if z = 0 then nI 0 else nI 1) = nI 1 := by
    by_cases e : z = 0
    · rw [if_pos e]; exact Or.inl rfl
    · rw [if_neg e]; exact Or.inr rfl
  have := good_one (c := 2) g hj (by decide) ⟨fun q => absurd q (by decide), fun q => absurd q (by decide), fun _ => hz⟩
  rw [show 30 + 12 * j + 2 = 32 + 12 * j by omega] at this
  exact this
theorem good_sts {T : Nat} {V : Nat → Int32} (g : Good T V) {x y : Int32} (h : setP x y) : Good T (upd V (toN x) y) := by
  obtain ⟨j, hj, rfl⟩ := lt_ex (by decide) h.1
  rw [toN_nI (by omega)]
  exact good_set g hj h
theorem good_cms {T : Nat} {V : Nat → Int32} (g : Good T V) {x : Int32} (y : Int32) (h : memP V x) : Good T (cmV V (toN x) y) := by
  obtain ⟨j, hj, rfl⟩ := memP_ex g h
  have n10 := gd_n10 g
  rw [toN_nI (by omega)]
  exact good_cm g (by omega) y
theorem good_rvs {T : Nat} {V : Nat → Int32} (g : Good T V) {x : Int32} (y : Int32) (h : memP V x) : Good T (rvV V (toN x) y) := by
  obtain ⟨j, hj, rfl⟩ := memP_ex g h
  have n10 := gd_n10 g
  rw [toN_nI (by omega)]
  exact good_rv g (by omega) y
theorem good_lss {T : Nat} {V : Nat → Int32} (g : Good T V) {x y : Int32} (h : memP V x ∧ blkP y) : Good T (upd V (150 + toN y) (V (150 + toN y) ||| bit (toN x))) := by
  obtain ⟨j, hj, rfl⟩ := memP_ex g h.1
  obtain ⟨b, hb, rfl⟩ := blkP_ex h.2
  have n10 := gd_n10 g
  rw [toN_nI (by omega), toN_nI (by omega)]
  exact good_ls g hj hb
theorem good_reps {T : Nat} {V : Nat → Int32} (g : Good T V) (hT : T < 2 ^ 20) {x : Int32} (wa : Nat) (h : blkP x ∧ hcd V (toN x) = 0) : Good (T + 1) (rpV V (toN x) wa) := by
  obtain ⟨b, hb, rfl⟩ := blkP_ex h.1
  have e : toN (nI b) = b := toN_nI (by omega)
  rw [e] at h ⊢
  exact good_rep g hT hb (hc_0 h.2).2.2
theorem sil_nn {T : Nat} {V : Nat → Int32} (g : Good T V) (hT : T < 2 ^ 20) : vf_n32 (silR V) := by
  obtain ⟨a0, n0, ea, en, ha, hn⟩ := sil_b g hT
  unfold silR
  by_cases h : V 8 + V 9 = 0
  · rw [if_pos h]; unfold vf_n32; decide
  · rw [if_neg h, ea, en]
    exact fx_div (Nat.pos_of_ne_zero fun z => h (by rw [ea, z]; rfl)) ha hn
/-! the law's rows: the script, calls whose answer is known and whose memory isn't -/
section LAWR
variable {p : Program} {l : Launch} {e : Env} {R : Room} {s : State} {m : MethodId} {args : Array Value} {below : List Frame} {meth : Method} {c : Code} {mc ms : Nat} {Q : State → Prop} {G : gG} {own : String} {cc : ByteArray} {ret : Option FieldType} {nL : Nat} {mem : gM} {pc : Nat} {L : List (Nat × Value)} {st : List Value}
def sX (G : gG) (b N : Nat) (xs : Nat → Int32) (s : State) : Prop := va_X b N xs s s.heap ∧ b < s.heap.size ∧ ¬ gA G b
theorem g_slen (C : gC G own cc ret nL p R s m args meth c mc ms) {b N : Nat} {xs : Nat → Int32} (X : sX G b N xs s) (hd : decode cc pc = .ok (.arraylength, 1)) (h : gV p l e R s m args below meth c mc ms Q G nL mem (pc + 1) L (.int (nI N) :: st)) : gV p l e R s m args below meth c mc ms Q G nL mem pc L (.ref b :: st) :=
  fun H locs ls hP hS hl => va_slen C.1 C.2.1 X.1 X.2.1 X.2.2 hS hd (h H locs ls hP hS hl)
theorem g_sld (C : gC G own cc ret nL p R s m args meth c mc ms) {b N j : Nat} {xs : Nat → Int32} (X : sX G b N xs s) (hj : j < N) (hN : N < 2 ^ 31) (hd : decode cc pc = .ok (.iaload, 1)) (h : gV p l e R s m args below meth c mc ms Q G nL mem (pc + 1) L (.int (xs j) :: st)) : gV p l e R s m args below meth c mc ms Q G nL mem pc L (.int (nI j) :: .ref b :: st) :=
  fun H locs ls hP hS hl => va_sld C.1 C.2.1 X.1 X.2.1 X.2.2 hS (vp_in_nI hj hN) hd (by rw [nI_clamp (by omega)]; exact h H locs ls hP hS hl)
theorem g_cVf (C : gC G own cc ret nL p R s m args meth c mc ms) {y : MethodName} {b2 : ByteArray} {maxL2 n idx k ci N : Nat} {ret2 : Option FieldType} {rm2 : Room} {T : u_T} {fl : List (Option Nat)} {As rest : List Value} {v : Value} {P : gM → Prop} (I : gIv y b2 maxL2 ret2 n) (hM : gMet l y b2 maxL2 ret2 rm2 G (.ref (gad G k) :: As) mem (fun a u => a = some v ∧ P u)) (hw : Cond.methodLink own idx y ∈ wG) (O : gO k ci y.cls T N fl) (hn : As.length = n) (hR : rm2.frames + 1 ≤ R.frames ∧ 8 + (maxL2 + 11) + rm2.locals ≤ R.locals) (hz : rm2.cells = 0 ∧ rm2.slots = 0) (hst : st = As.reverse ++ .ref (gad G k) :: rest) (hcat : (rest.map fun v => v.category).sum ≤ 8) (hd : decode cc pc = .ok (.invokevirtual idx, 3)) (h : ∀ (u : gM), P u → gV p l e R s m args below meth c mc ms Q G nL u (pc + 3) L (v :: rest)) : gV p l e R s m args below meth c mc ms Q G nL mem pc L st :=
  g_callV C I hM hw O hn hR hz hst hcat hd fun a u q => by obtain ⟨rfl, hP⟩ := q; exact h u hP
end LAWR
theorem lw_more {i N : Nat} (hi : 4 * i ≤ N) (hN : N ≤ 2048) : ¬ nI N - nI 4 < nI (4 * i) ↔ 4 * i + 4 ≤ N := by
  rw [Int32.lt_iff_toInt_lt, pk_sub_toInt (by omega) (by decide), nI_toInt (by omega)]
  omega
