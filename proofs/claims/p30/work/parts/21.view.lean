/-! the state that both sides stand for: V, the model's row. Its numbers: -/
abbrev vN (V : Nat → Int32) : Nat := toN (V 5)
abbrev vZ (V : Nat → Int32) : Nat := toN (V 11)
abbrev vL (V : Nat → Int32) (r : Nat) : Nat := toN (V (12 + r))
abbrev vW (V : Nat → Int32) (m : Nat) : Nat := toN (V (30 + 12 * m))
abbrev vP (V : Nat → Int32) (m : Nat) : Nat := toN (V (31 + 12 * m))
abbrev vLv (V : Nat → Int32) (m : Nat) : Bool := decide (V (32 + 12 * m) = nI 1)
abbrev vLo (V : Nat → Int32) (b m : Nat) : Bool := bt (V (150 + b)) m
/-- what holds of V after T calls -/
def Good (T : Nat) (V : Nat → Int32) : Prop :=
  (V 5 = nI (vN V) ∧ vN V ≤ 10) ∧
  (V 0 = nI (toN (V 0)) ∧ 1 ≤ toN (V 0) ∧ toN (V 0) ≤ 1000) ∧
  (V 1 = nI (toN (V 1)) ∧ toN (V 1) ≤ 500) ∧
  (V 2 = nI (toN (V 2)) ∧ 1 ≤ toN (V 2) ∧ toN (V 2) ≤ 10) ∧
  (∀ m, m < vN V → V (30 + 12 * m) = nI (vW V m) ∧ 1 ≤ vW V m ∧ vW V m ≤ 9 ∧ V (31 + 12 * m) = nI (vP V m) ∧ vP V m ≤ 1000 ∧ (V (32 + 12 * m) = nI 0 ∨ V (32 + 12 * m) = nI 1)) ∧
  (V 11 = nI (vZ V) ∧ vZ V ≤ vN V) ∧
  (∀ r, r < vZ V → V (12 + r) = nI (vL V r) ∧ vL V r < vN V ∧ V (34 + 12 * vL V r) = nI r) ∧
  (∀ m, m < vN V → (∀ r, r < vZ V → vL V r ≠ m) → V (34 + 12 * m) = kNone) ∧
  (∀ b, b < 200 → ∀ i, vN V ≤ i → i < 32 → bt (V (150 + b)) i = false) ∧
  (V 7 = nI (toN (V 7)) ∧ toN (V 7) ≤ T) ∧ (V 8 = nI (toN (V 8)) ∧ V 9 = nI (toN (V 9)) ∧ toN (V 8) + toN (V 9) ≤ 10 * T)
section GOOD
variable {T : Nat} {V : Nat → Int32}
theorem gd_n (g : Good T V) : V 5 = nI (vN V) := g.1.1
theorem gd_n10 (g : Good T V) : vN V ≤ 10 := g.1.2
theorem gd_wait (g : Good T V) : V 0 = nI (toN (V 0)) ∧ 1 ≤ toN (V 0) ∧ toN (V 0) ≤ 1000 := g.2.1
theorem gd_step (g : Good T V) : V 1 = nI (toN (V 1)) ∧ toN (V 1) ≤ 500 := g.2.2.1
theorem gd_least (g : Good T V) : V 2 = nI (toN (V 2)) ∧ 1 ≤ toN (V 2) ∧ toN (V 2) ≤ 10 := g.2.2.2.1
theorem gd_w (g : Good T V) {m : Nat} (h : m < vN V) : V (30 + 12 * m) = nI (vW V m) ∧ 1 ≤ vW V m ∧ vW V m ≤ 9 := ⟨(g.2.2.2.2.1 m h).1, (g.2.2.2.2.1 m h).2.1, (g.2.2.2.2.1 m h).2.2.1⟩
theorem gd_p (g : Good T V) {m : Nat} (h : m < vN V) : V (31 + 12 * m) = nI (vP V m) ∧ vP V m ≤ 1000 := ⟨(g.2.2.2.2.1 m h).2.2.2.1, (g.2.2.2.2.1 m h).2.2.2.2.1⟩
theorem gd_lv (g : Good T V) {m : Nat} (h : m < vN V) : V (32 + 12 * m) = nI 0 ∨ V (32 + 12 * m) = nI 1 := (g.2.2.2.2.1 m h).2.2.2.2.2
theorem gd_z (g : Good T V) : V 11 = nI (vZ V) ∧ vZ V ≤ vN V := g.2.2.2.2.2.1
theorem gd_l (g : Good T V) {r : Nat} (h : r < vZ V) : V (12 + r) = nI (vL V r) ∧ vL V r < vN V ∧ V (34 + 12 * vL V r) = nI r := g.2.2.2.2.2.2.1 r h
theorem gd_none (g : Good T V) {m : Nat} (h : m < vN V) (h2 : ∀ r, r < vZ V → vL V r ≠ m) : V (34 + 12 * m) = kNone := g.2.2.2.2.2.2.2.1 m h h2
theorem gd_lo (g : Good T V) {b i : Nat} (h : b < 200) (h1 : vN V ≤ i) (h2 : i < 32) : bt (V (150 + b)) i = false := g.2.2.2.2.2.2.2.2.1 b h i h1 h2
theorem gd_made (g : Good T V) : V 7 = nI (toN (V 7)) ∧ toN (V 7) ≤ T := g.2.2.2.2.2.2.2.2.2.1
theorem gd_asks (g : Good T V) : V 8 = nI (toN (V 8)) ∧ V 9 = nI (toN (V 9)) ∧ toN (V 8) + toN (V 9) ≤ 10 * T := g.2.2.2.2.2.2.2.2.2.2
theorem gd_lomk (g : Good T V) {b : Nat} (h : b < 200) : V (150 + b) = mk (vLo V b) (vN V) := mk_ext (by have := gd_n10 g; omega) fun i hi => by
  by_cases e : i < vN V
  · rw [decide_eq_true e, Bool.true_and]
  · rw [decide_eq_false e, Bool.false_and]; exact gd_lo g h (by omega) hi
theorem gd_linj (g : Good T V) {r q : Nat} (hr : r < vZ V) (hq : q < vZ V) (h : vL V r = vL V q) : r = q := by
  have h1 := (gd_l g hr).2.2
  have h2 := (gd_l g hq).2.2
  rw [h] at h1
  have n1 := gd_n10 g
  have n2 := (gd_z g).2
  exact (nI_iff (by omega) (by omega)).mp (h1.symm.trans h2)
end GOOD
/-- the class's state with the places from b on stands for V -/
def RelS (b : Nat) (V : Nat → Int32) (mem : gM) : Prop :=
  (∀ k, k < 5 → mem (b + 2) k = V k) ∧ (mem (b + 3) 0 = V 5 ∧ mem (b + 3) 1 = mk (vLv V) (vN V)) ∧
  (∀ m, m < vN V → mem (b + 5) m = V (30 + 12 * m) ∧ mem (b + 7) m = V (31 + 12 * m) ∧ mem (b + 9) m = V (33 + 12 * m) ∧ mem (b + 11) m = V (36 + 12 * m) ∧ mem (b + 13) m = V (37 + 12 * m) ∧ mem (b + 15) m = V (38 + 12 * m) ∧ mem (b + 17) m = V (39 + 12 * m) ∧ mem (b + 19) m = V (40 + 12 * m)) ∧
  (∀ m, vN V ≤ m → m < 10 → mem (b + 9) m = 0 ∧ mem (b + 11) m = 0 ∧ mem (b + 13) m = 0 ∧ mem (b + 15) m = 0 ∧ mem (b + 17) m = 0 ∧ mem (b + 19) m = 0) ∧
  (mem (b + 20) 0 = V 6 ∧ mem (b + 20) 1 = V 10 ∧ mem (b + 20) 2 = V 11) ∧ (∀ r, r < vZ V → mem (b + 22) r = V (12 + r)) ∧
  (∀ q, q < 200 → mem (b + 24) q = V (150 + q)) ∧
  (mem (b + 25) 0 = V 7 ∧ mem (b + 25) 1 = V 8 ∧ mem (b + 25) 2 = V 9) ∧ (∀ j, j < 140 → mem (b + 27) j = V (360 + j))
/-- the part of a memory where a state lies -/
theorem RelS.keep {b : Nat} {V : Nat → Int32} {mem mem2 : gM} (h : RelS b V mem) (e : ∀ k, b ≤ k → k < b + 28 → mem2 k = mem k) : RelS b V mem2 := by
  unfold RelS at h ⊢
  rw [e (b + 2) (by omega) (by omega), e (b + 3) (by omega) (by omega), e (b + 5) (by omega) (by omega), e (b + 7) (by omega) (by omega), e (b + 9) (by omega) (by omega), e (b + 11) (by omega) (by omega), e (b + 13) (by omega) (by omega), e (b + 15) (by omega) (by omega), e (b + 17) (by omega) (by omega), e (b + 19) (by omega) (by omega), e (b + 20) (by omega) (by omega), e (b + 22) (by omega) (by omega), e (b + 24) (by omega) (by omega), e (b + 25) (by omega) (by omega), e (b + 27) (by omega) (by omega)]
  exact h
/-- the class's own state, the one that it works on -/
abbrev Rel (V : Nat → Int32) (mem : gM) : Prop := RelS 1 V mem
theorem r_gr {V : Nat → Int32} {mem : gM} {k : Nat} {f : Nat → Int32} (h : 29 ≤ k) (r : Rel V mem) : Rel V (gr mem k f) := r.keep fun _ _ h2 => gr_n (by omega)
section REL
variable {V : Nat → Int32} {mem : gM}
theorem r_set (r : Rel V mem) {k : Nat} (h : k < 5) : mem 3 k = V k := r.1 k h
theorem r_n {T : Nat} (r : Rel V mem) (g : Good T V) : mem 4 0 = nI (vN V) := r.2.1.1.trans (gd_n g)
theorem r_lv (r : Rel V mem) : mem 4 1 = mk (vLv V) (vN V) := r.2.1.2
theorem r_w (r : Rel V mem) {m : Nat} (h : m < vN V) : mem 6 m = V (30 + 12 * m) := (r.2.2.1 m h).1
theorem r_p (r : Rel V mem) {m : Nat} (h : m < vN V) : mem 8 m = V (31 + 12 * m) := (r.2.2.1 m h).2.1
theorem r_cr (r : Rel V mem) {m : Nat} (h : m < vN V) : mem 10 m = V (33 + 12 * m) := (r.2.2.1 m h).2.2.1
theorem r_mk (r : Rel V mem) {m : Nat} (h : m < vN V) : mem 12 m = V (36 + 12 * m) := (r.2.2.1 m h).2.2.2.1
theorem r_mi (r : Rel V mem) {m : Nat} (h : m < vN V) : mem 14 m = V (37 + 12 * m) := (r.2.2.1 m h).2.2.2.2.1
theorem r_st (r : Rel V mem) {m : Nat} (h : m < vN V) : mem 16 m = V (38 + 12 * m) := (r.2.2.1 m h).2.2.2.2.2.1
theorem r_to (r : Rel V mem) {m : Nat} (h : m < vN V) : mem 18 m = V (39 + 12 * m) := (r.2.2.1 m h).2.2.2.2.2.2.1
theorem r_se (r : Rel V mem) {m : Nat} (h : m < vN V) : mem 20 m = V (40 + 12 * m) := (r.2.2.1 m h).2.2.2.2.2.2.2
theorem r_0 (r : Rel V mem) {m : Nat} (h : vN V ≤ m) (h2 : m < 10) : mem 10 m = 0 ∧ mem 12 m = 0 ∧ mem 14 m = 0 ∧ mem 16 m = 0 ∧ mem 18 m = 0 ∧ mem 20 m = 0 := r.2.2.2.1 m h h2
theorem r_rd (r : Rel V mem) : mem 21 0 = V 6 := r.2.2.2.2.1.1
theorem r_sd (r : Rel V mem) : mem 21 1 = V 10 := r.2.2.2.2.1.2.1
theorem r_z {T : Nat} (r : Rel V mem) (g : Good T V) : mem 21 2 = nI (vZ V) := r.2.2.2.2.1.2.2.trans (gd_z g).1
theorem r_l {T : Nat} (r : Rel V mem) (g : Good T V) {q : Nat} (h : q < vZ V) : mem 23 q = nI (vL V q) := (r.2.2.2.2.2.1 q h).trans (gd_l g h).1
theorem r_lo (r : Rel V mem) {q : Nat} (h : q < 200) : mem 25 q = V (150 + q) := r.2.2.2.2.2.2.1 q h
theorem r_made {T : Nat} (r : Rel V mem) (g : Good T V) : mem 26 0 = nI (toN (V 7)) := r.2.2.2.2.2.2.2.1.1.trans (gd_made g).1
theorem r_ask {T : Nat} (r : Rel V mem) (g : Good T V) : mem 26 1 = nI (toN (V 8)) := r.2.2.2.2.2.2.2.1.2.1.trans (gd_asks g).1
theorem r_sil {T : Nat} (r : Rel V mem) (g : Good T V) : mem 26 2 = nI (toN (V 9)) := r.2.2.2.2.2.2.2.1.2.2.trans (gd_asks g).2.1
theorem r_num (r : Rel V mem) {j : Nat} (h : j < 140) : mem 28 j = V (360 + j) := r.2.2.2.2.2.2.2.2 j h
end REL
