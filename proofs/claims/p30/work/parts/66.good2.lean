theorem good_join {T : Nat} {V : Nat → Int32} (g : Good T V) (hn : vN V < 10) {w p : Int32} (hw : wOK w) (hp : pOK p) : Good T (jnV V w p) := by
  obtain ⟨n1, n2, n3, n4, n5⟩ := jn_new (V := V) (w := w) (p := p)
  have qw := nI_range (a := 1) (b := 9) (by decide) (by decide) hw.1 hw.2
  have qp := nI_range (a := 0) (b := 1000) (by decide) (by decide) hp.1 hp.2
  have o : ∀ {i : Nat}, i ≠ 5 → i < 30 + 12 * vN V ∨ 42 + 12 * vN V ≤ i → jnV V w p i = V i := fun h5 h => jn_old h5 h
  have en : vN (jnV V w p) = vN V + 1 := by show toN (jnV V w p 5) = _; rw [n5, toN_nI (by omega)]
  have ez : vZ (jnV V w p) = vZ V := congrArg toN (o (by decide) (by omega))
  obtain ⟨⟨g1, g2⟩, g3, g6, g8, g11, ⟨g12, g13⟩, g14, g15, g16, g17, g19, g20, g21⟩ := g
  unfold Good
  rw [en, ez, n5, o (i := 11) (by decide) (by omega), o (i := 0) (by decide) (by omega), o (i := 1) (by decide) (by omega), o (i := 2) (by decide) (by omega), o (i := 7) (by decide) (by omega), o (i := 8) (by decide) (by omega), o (i := 9) (by decide) (by omega)]
  refine ⟨⟨rfl, by omega⟩, g3, g6, g8, fun m hm => ?_, ⟨g12, by omega⟩, fun r hr2 => ?_, fun m hm2 hno => ?_, fun b hb i h1 h2 => ?_, g17, g19, g20, g21⟩
  · show jnV V w p (30 + 12 * m) = nI (toN (jnV V w p (30 + 12 * m))) ∧ 1 ≤ toN (jnV V w p (30 + 12 * m)) ∧ toN (jnV V w p (30 + 12 * m)) ≤ 9 ∧ jnV V w p (31 + 12 * m) = nI (toN (jnV V w p (31 + 12 * m))) ∧ toN (jnV V w p (31 + 12 * m)) ≤ 1000 ∧ (jnV V w p (32 + 12 * m) = nI 0 ∨ jnV V w p (32 + 12 * m) = nI 1)
    by_cases e : m = vN V
    · rw [e, n1, n2, n3]
      exact ⟨qw.1, qw.2.1, qw.2.2, qp.1, qp.2.2, Or.inr rfl⟩
    · rw [o (by omega) (by omega), o (by omega) (by omega), o (by omega) (by omega)]
      exact g11 m (by omega)
  · have w1 := g14 r hr2
    show jnV V w p (12 + r) = nI (toN (jnV V w p (12 + r))) ∧ toN (jnV V w p (12 + r)) < _ ∧ jnV V w p (34 + 12 * toN (jnV V w p (12 + r))) = _
    have hlt : toN (V (12 + r)) < vN V := w1.2.1
    rw [o (by omega) (by omega), o (by omega) (by omega)]
    exact ⟨w1.1, by omega, w1.2.2⟩
  · by_cases e : m = vN V
    · rw [e, n4]
    · rw [o (by omega) (by omega)]
      refine g15 m (by omega) fun r hr2 => ?_
      have w1 := hno r hr2
      rw [show vL (jnV V w p) r = vL V r from congrArg toN (o (by omega) (by omega))] at w1
      exact w1
  · rw [o (by omega) (by omega)]
    exact g16 b hb i (by omega) h2
/-- a row that agrees with V below 520 is stood for likewise -/
theorem rel_agree {b : Nat} {V V2 : Nat → Int32} {mem : gM} (r : RelS b V mem) (h10 : vN V ≤ 10) (hz : vZ V ≤ 10) (h : ∀ i, i < 520 → V2 i = V i) : RelS b V2 mem := by
  have en : vN V2 = vN V := congrArg toN (h 5 (by decide))
  have ez : vZ V2 = vZ V := congrArg toN (h 11 (by decide))
  obtain ⟨r1, ⟨r2, r3⟩, r4, r5, ⟨r6, r7, r8⟩, r9, r10, ⟨r11, r12, r13⟩, r14⟩ := r
  unfold RelS
  rw [en, ez, h 5 (by decide), h 6 (by decide), h 10 (by decide), h 11 (by decide), h 7 (by decide), h 8 (by decide), h 9 (by decide)]
  refine ⟨fun k hk => (r1 k hk).trans (h k (by omega)).symm, ⟨r2, r3.trans (mk_cong fun m hm => ?_)⟩, fun m hm => ?_, r5, ⟨r6, r7, r8⟩, fun q hq => (r9 q hq).trans (h _ (by omega)).symm, fun q hq => (r10 q hq).trans (h _ (by omega)).symm, ⟨r11, r12, r13⟩, fun q hq => (r14 q hq).trans (h _ (by omega)).symm⟩
  · show decide (V (32 + 12 * m) = nI 1) = decide (V2 (32 + 12 * m) = nI 1)
    rw [h (32 + 12 * m) (by omega)]
  · rw [h (30 + 12 * m) (by omega), h (31 + 12 * m) (by omega), h (33 + 12 * m) (by omega), h (36 + 12 * m) (by omega), h (37 + 12 * m) (by omega), h (38 + 12 * m) (by omega), h (39 + 12 * m) (by omega), h (40 + 12 * m) (by omega)]
    exact r4 m hm
theorem good_agree {T : Nat} {V V2 : Nat → Int32} (g : Good T V) (h : ∀ i, i < 520 → V2 i = V i) : Good T V2 := g.irr fun i hi => h i (by rcases hi with q | q | q | q | q | q | q | ⟨m, q, e⟩ <;> omega)
