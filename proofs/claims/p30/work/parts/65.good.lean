theorem set_z : zLow 0 = nI 1 ∧ zHigh 0 = nI 1000 ∧ zLow 1 = nI 0 ∧ zHigh 1 = nI 500 ∧ zLow 2 = nI 1 ∧ zHigh 2 = nI 10 ∧ zLow 3 = nI 0 ∧ zHigh 3 = nI 100 ∧ zLow 4 = nI 0 ∧ zHigh 4 = nI 100 := by decide +kernel
theorem set_j {j : Nat} {y lo hi : Int32} (hj : j < 5) (hl : zLow j = lo) (hh : zHigh j = hi) : setP (nI j) y ↔ (lo ≤ y ∧ y ≤ hi) := by
  have e : toN (nI j) = j := toN_nI (by omega)
  unfold setP
  rw [e, hl, hh]
  exact ⟨fun q => q.2, fun q => ⟨lt_of (by decide) hj, q⟩⟩
/-! what acts leave is Good: settings, weights, positions, lives -/
theorem good_gen {T : Nat} {V V2 : Nat → Int32} (g : Good T V) (h : ∀ i, (i = 5 ∨ i = 7 ∨ i = 8 ∨ i = 9 ∨ (11 ≤ i ∧ i < 22) ∨ (150 ≤ i ∧ i < 350) ∨ (∃ m, m < 10 ∧ i = 34 + 12 * m)) → V2 i = V i)
    (h0 : V2 0 = nI (toN (V2 0)) ∧ 1 ≤ toN (V2 0) ∧ toN (V2 0) ≤ 1000) (h1 : V2 1 = nI (toN (V2 1)) ∧ toN (V2 1) ≤ 500) (h2 : V2 2 = nI (toN (V2 2)) ∧ 1 ≤ toN (V2 2) ∧ toN (V2 2) ≤ 10)
    (hmem : ∀ m, m < vN V → V2 (30 + 12 * m) = nI (vW V2 m) ∧ 1 ≤ vW V2 m ∧ vW V2 m ≤ 9 ∧ V2 (31 + 12 * m) = nI (vP V2 m) ∧ vP V2 m ≤ 1000 ∧ (V2 (32 + 12 * m) = nI 0 ∨ V2 (32 + 12 * m) = nI 1)) : Good T V2 := by
  obtain ⟨⟨g1, g2⟩, -, -, -, -, ⟨g12, g13⟩, g14, g15, g16, ⟨g17, g18⟩, g19, g20, g21⟩ := g
  have e5 := h 5 (by omega)
  have e11 := h 11 (by omega)
  have e7 := h 7 (by omega)
  have e8 := h 8 (by omega)
  have e9 := h 9 (by omega)
  have hm : ∀ m, m < 10 → V2 (34 + 12 * m) = V (34 + 12 * m) := fun m h10 => h _ (by right; right; right; right; right; right; exact ⟨m, h10, rfl⟩)
  have hr : ∀ q, q < 10 → V2 (12 + q) = V (12 + q) := fun q hq => h _ (by omega)
  have en : vN V2 = vN V := congrArg toN e5
  have ez : vZ V2 = vZ V := congrArg toN e11
  unfold Good
  rw [en, ez, e5, e11, e7, e8, e9]
  refine ⟨⟨g1, g2⟩, h0, h1, h2, hmem, ⟨g12, g13⟩, fun r hr2 => ?_, fun m hm2 hno => ?_, fun b hb i h1 h2 => ?_, ⟨g17, g18⟩, g19, g20, g21⟩
  · have w := g14 r hr2
    have a := hr r (by omega)
    show V2 (12 + r) = nI (toN (V2 (12 + r))) ∧ toN (V2 (12 + r)) < _ ∧ V2 (34 + 12 * toN (V2 (12 + r))) = _
    rw [a, hm _ (Nat.lt_of_lt_of_le w.2.1 g2)]
    exact w
  · rw [hm m (by omega)]
    refine g15 m hm2 fun r hr2 => ?_
    have w := hno r hr2
    rw [show vL V2 r = vL V r from congrArg toN (hr r (by omega))] at w
    exact w
  · rw [h (150 + b) (by omega)]
    exact g16 b hb i h1 h2
theorem good_mem {T : Nat} {V : Nat → Int32} (g : Good T V) {m : Nat} (h : m < vN V) : V (30 + 12 * m) = nI (vW V m) ∧ 1 ≤ vW V m ∧ vW V m ≤ 9 ∧ V (31 + 12 * m) = nI (vP V m) ∧ vP V m ≤ 1000 ∧ (V (32 + 12 * m) = nI 0 ∨ V (32 + 12 * m) = nI 1) := g.2.2.2.2.1 m h
/-- one number of one member changed, 30, 31 or 32 -/
theorem good_one {T : Nat} {V : Nat → Int32} (g : Good T V) {j c : Nat} {y : Int32} (hj : j < vN V) (hc : c < 3)
    (hy : (c = 0 → wOK y) ∧ (c = 1 → pOK y) ∧ (c = 2 → y = nI 0 ∨ y = nI 1)) : Good T (upd V (30 + 12 * j + c) y) := by
  have n10 := gd_n10 g
  refine good_gen g (fun i hi => upd_n (by rcases hi with h | h | h | h | h | h | ⟨m, h, e⟩ <;> omega)) ?_ ?_ ?_ fun m hm => ?_
  · rw [upd_n (show (0 : Nat) ≠ 30 + 12 * j + c by omega)]; exact gd_wait g
  · rw [upd_n (show (1 : Nat) ≠ 30 + 12 * j + c by omega)]; exact gd_step g
  · rw [upd_n (show (2 : Nat) ≠ 30 + 12 * j + c by omega)]; exact gd_least g
  · obtain ⟨a1, a2, a3, a4, a5, a6⟩ := good_mem g hm
    show upd V _ y (30 + 12 * m) = nI (toN (upd V _ y (30 + 12 * m))) ∧ 1 ≤ toN (upd V _ y (30 + 12 * m)) ∧ toN (upd V _ y (30 + 12 * m)) ≤ 9 ∧ upd V _ y (31 + 12 * m) = nI (toN (upd V _ y (31 + 12 * m))) ∧ toN (upd V _ y (31 + 12 * m)) ≤ 1000 ∧ (upd V _ y (32 + 12 * m) = nI 0 ∨ upd V _ y (32 + 12 * m) = nI 1)
    by_cases e : m = j
    · subst e
      have hcc : c = 0 ∨ c = 1 ∨ c = 2 := by omega
      rcases hcc with e0 | e1 | e2
      · subst e0
        have q := nI_range (a := 1) (b := 9) (by decide) (by decide) (hy.1 rfl).1 (hy.1 rfl).2
        rw [show 30 + 12 * m + 0 = 30 + 12 * m from rfl, upd_s, upd_n (show 31 + 12 * m ≠ 30 + 12 * m by omega), upd_n (show 32 + 12 * m ≠ 30 + 12 * m by omega)]
        exact ⟨q.1, q.2.1, q.2.2, a4, a5, a6⟩
      · subst e1
        have q := nI_range (a := 0) (b := 1000) (by decide) (by decide) (hy.2.1 rfl).1 (hy.2.1 rfl).2
        rw [show 30 + 12 * m + 1 = 31 + 12 * m by omega, upd_s, upd_n (show 30 + 12 * m ≠ 31 + 12 * m by omega), upd_n (show 32 + 12 * m ≠ 31 + 12 * m by omega)]
        exact ⟨a1, a2, a3, q.1, q.2.2, a6⟩
      · subst e2
        rw [show 30 + 12 * m + 2 = 32 + 12 * m by omega, upd_s, upd_n (show 30 + 12 * m ≠ 32 + 12 * m by omega), upd_n (show 31 + 12 * m ≠ 32 + 12 * m by omega)]
        exact ⟨a1, a2, a3, a4, a5, hy.2.2 rfl⟩
    · rw [upd_n (show 30 + 12 * m ≠ 30 + 12 * j + c by omega), upd_n (show 31 + 12 * m ≠ 30 + 12 * j + c by omega), upd_n (show 32 + 12 * m ≠ 30 + 12 * j + c by omega)]
      exact ⟨a1, a2, a3, a4, a5, a6⟩
/-- a setting changed -/
theorem good_set {T : Nat} {V : Nat → Int32} (g : Good T V) {j : Nat} {y : Int32} (hj : j < 5) (hs : setP (nI j) y) : Good T (upd V j y) := by
  have n10 := gd_n10 g
  have k0 := gd_wait g
  have k1 := gd_step g
  have k2 := gd_least g
  have hmm : ∀ m, m < vN V → upd V j y (30 + 12 * m) = nI (toN (upd V j y (30 + 12 * m))) ∧ 1 ≤ toN (upd V j y (30 + 12 * m)) ∧ toN (upd V j y (30 + 12 * m)) ≤ 9 ∧ upd V j y (31 + 12 * m) = nI (toN (upd V j y (31 + 12 * m))) ∧ toN (upd V j y (31 + 12 * m)) ≤ 1000 ∧ (upd V j y (32 + 12 * m) = nI 0 ∨ upd V j y (32 + 12 * m) = nI 1) := fun m hm => by
    rw [upd_n (show 30 + 12 * m ≠ j by omega), upd_n (show 31 + 12 * m ≠ j by omega), upd_n (show 32 + 12 * m ≠ j by omega)]
    exact good_mem g hm
  have hfr : ∀ i, (i = 5 ∨ i = 7 ∨ i = 8 ∨ i = 9 ∨ (11 ≤ i ∧ i < 22) ∨ (150 ≤ i ∧ i < 350) ∨ (∃ m, m < 10 ∧ i = 34 + 12 * m)) → upd V j y i = V i := fun i hi => upd_n (by rcases hi with h | h | h | h | h | h | ⟨m, h, e⟩ <;> omega)
  match j, hj with
  | 0, _ =>
    have q0 := (set_j (j := 0) (by decide) set_z.1 set_z.2.1).mp hs
    have q := nI_range (a := 1) (b := 1000) (by decide) (by decide) q0.1 q0.2
    exact good_gen g hfr q k1 k2 hmm
  | 1, _ =>
    have q0 := (set_j (j := 1) (by decide) set_z.2.2.1 set_z.2.2.2.1).mp hs
    have q := nI_range (a := 0) (b := 500) (by decide) (by decide) q0.1 q0.2
    exact good_gen g hfr k0 ⟨q.1, q.2.2⟩ k2 hmm
  | 2, _ =>
    have q0 := (set_j (j := 2) (by decide) set_z.2.2.2.2.1 set_z.2.2.2.2.2.1).mp hs
    have q := nI_range (a := 1) (b := 10) (by decide) (by decide) q0.1 q0.2
    exact good_gen g hfr k0 k1 q hmm
  | 3, _ => exact good_gen g hfr k0 k1 k2 hmm
  | 4, _ => exact good_gen g hfr k0 k1 k2 hmm
