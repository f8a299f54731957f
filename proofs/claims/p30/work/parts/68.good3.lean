/-! what commit, reveal, lose leave is Good -/
theorem good_cm {T : Nat} {V : Nat → Int32} (g : Good T V) {j : Nat} (hj : j < 10) (y : Int32) : Good T (cmV V j y) := g.irr fun i hi => by
  unfold cmV
  rw [upd_n (by rcases hi with q | q | q | q | q | q | q | ⟨m, q, e | e | e | e⟩ <;> omega), upd_n (by rcases hi with q | q | q | q | q | q | q | ⟨m, q, e | e | e | e⟩ <;> omega)]
theorem good_rv {T : Nat} {V : Nat → Int32} (g : Good T V) {j : Nat} (hj : j < 10) (y : Int32) : Good T (rvV V j y) := g.irr fun i hi => by
  unfold rvV
  rw [upd_n (by rcases hi with q | q | q | q | q | q | q | ⟨m, q, e | e | e | e⟩ <;> omega), upd_n (by rcases hi with q | q | q | q | q | q | q | ⟨m, q, e | e | e | e⟩ <;> omega)]
theorem good_ls {T : Nat} {V : Nat → Int32} (g : Good T V) {j b : Nat} (hj : j < vN V) (hb : b < 200) : Good T (upd V (150 + b) (V (150 + b) ||| bit j)) := by
  have n10 := gd_n10 g
  exact good_lo g hb fun i h1 h2 => by rw [b_or, gd_lo g hb h1 h2, bt_bit (by omega) h2, decide_eq_false (by omega)]; rfl
