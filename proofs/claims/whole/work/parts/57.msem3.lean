/-- the waits of the losers below k stand in w -/
def WL (V : Nat → Int32) (b wa k : Nat) (w : Nat → Int32) : Prop := ∀ m, m < k → los V b m = true → w m = nI (wt V b wa m)
theorem wl_no {V : Nat → Int32} {b wa k : Nat} {w : Nat → Int32} (h : WL V b wa k w) (hl : los V b k = false) : WL V b wa (k + 1) w := fun m hm hm2 => by
  by_cases e : m = k
  · rw [e, hl] at hm2; exact absurd hm2 (by decide)
  · exact h m (by omega) hm2
theorem wl_yes {V : Nat → Int32} {b wa k : Nat} {w : Nat → Int32} (h : WL V b wa k w) : WL V b wa (k + 1) (upd w k (nI (wt V b wa k))) := fun m hm hm2 => by
  by_cases e : m = k
  · rw [e]; exact upd_s _ _ _
  · rw [upd_n e]; exact h m (by omega) hm2
theorem asq_f {V : Nat → Int32} {b wa f : Nat} (h : los V b f = true) : ask V b wa f f = true := by
  unfold ask
  rw [h, dN_self, decide_eq_true (by omega)]; rfl
theorem asq_y {V : Nat → Int32} {b wa f m : Nat} (hl : los V b m = true) (h : wt V b wa m ≤ wt V b wa f + dN (vP V f) (vP V m)) : ask V b wa f m = true := by
  unfold ask
  rw [hl, dN_comm, decide_eq_true h]; rfl
theorem asq_n {V : Nat → Int32} {b wa f m : Nat} (h : ¬ wt V b wa m ≤ wt V b wa f + dN (vP V f) (vP V m)) : ask V b wa f m = false := by
  unfold ask
  rw [dN_comm, decide_eq_false h, Bool.and_false]
theorem asq_l {V : Nat → Int32} {b wa f m : Nat} (hl : los V b m = false) : ask V b wa f m = false := by
  unfold ask
  rw [hl, Bool.false_and]
theorem sil_y {V : Nat → Int32} {b wa f m : Nat} (hl : los V b m = true) (ha : ask V b wa f m = false) : sil V b wa f m = true := by
  unfold sil
  rw [hl, ha]; rfl
theorem sil_n {V : Nat → Int32} {b wa f m : Nat} (ha : ask V b wa f m = true) : sil V b wa f m = false := by
  unfold sil
  rw [ha, Bool.not_true, Bool.and_false]
theorem sil_l {V : Nat → Int32} {b wa f m : Nat} (hl : los V b m = false) : sil V b wa f m = false := by
  unfold sil
  rw [hl, Bool.false_and]
/-- a running minimum without a start -/
def moF (p : Nat → Bool) (x : Nat → Nat) : Nat → Option Nat
  | 0 => none
  | m + 1 => if p m = true then some (match moF p x m with
    | none => x m
    | some v => min v (x m)) else moF p x m
theorem mo_no {p : Nat → Bool} {x : Nat → Nat} {m : Nat} (h : p m = false) : moF p x (m + 1) = moF p x m := by rw [moF, if_neg (by rw [h]; decide)]
theorem mo_0 {p : Nat → Bool} {x : Nat → Nat} {m : Nat} (h : p m = true) (h2 : moF p x m = none) : moF p x (m + 1) = some (x m) := by rw [moF, if_pos h, h2]
theorem mo_s {p : Nat → Bool} {x : Nat → Nat} {m v : Nat} (h : p m = true) (h2 : moF p x m = some v) : moF p x (m + 1) = some (min v (x m)) := by rw [moF, if_pos h, h2]
theorem mo_lt_s {p : Nat → Bool} {x : Nat → Nat} {m v : Nat} (h : p m = true) (h2 : moF p x m = some v) (h3 : x m < v) : moF p x (m + 1) = some (x m) := by
  rw [mo_s h h2, Nat.min_eq_right (by omega)]
theorem mo_ge_s {p : Nat → Bool} {x : Nat → Nat} {m v : Nat} (h : p m = true) (h2 : moF p x m = some v) (h3 : ¬ x m < v) : moF p x (m + 1) = some v := by
  rw [mo_s h h2, Nat.min_eq_left (by omega)]
theorem mo_both {p : Nat → Bool} {x : Nat → Nat} {h0 : Nat} : ∀ n, (moF p x n = none → hdF p x h0 n = h0 ∧ ∀ m, m < n → p m = false) ∧ (∀ v, moF p x n = some v → hdF p x h0 n = min h0 v ∧ ∀ m, m < n → p m = true → v ≤ x m)
  | 0 => ⟨fun _ => ⟨rfl, fun m hm => absurd hm (Nat.not_lt_zero m)⟩, fun v h => by rw [moF] at h; cases h⟩
  | n + 1 => by
    obtain ⟨i1, i2⟩ := mo_both (p := p) (x := x) (h0 := h0) n
    by_cases hp : p n = true
    · rw [hd_t hp]
      refine ⟨fun h => ?_, fun v h => ?_⟩
      · rw [moF, if_pos hp] at h; cases h
      · rcases hmo : moF p x n with _ | u
        · rw [mo_0 hp hmo] at h
          have e := Option.some.inj h
          obtain ⟨j1, j2⟩ := i1 hmo
          refine ⟨by rw [j1, e], fun m hm2 hpm => ?_⟩
          by_cases e2 : m = n
          · rw [e2, e]; exact Nat.le_refl _
          · have q := j2 m (by omega)
            rw [hpm] at q
            exact absurd q (by decide)
        · rw [mo_s hp hmo] at h
          have e := Option.some.inj h
          obtain ⟨j1, j2⟩ := i2 u hmo
          refine ⟨by rw [j1, ← e]; omega, fun m hm2 hpm => ?_⟩
          by_cases e2 : m = n
          · rw [e2]; omega
          · have q := j2 m (by omega) hpm
            omega
    · have hp2 := (Bool.not_eq_true _).mp hp
      rw [hd_f hp2, mo_no hp2]
      refine ⟨fun h => ⟨(i1 h).1, fun m hm2 => ?_⟩, fun v h => ⟨(i2 v h).1, fun m hm2 hpm => ?_⟩⟩
      · by_cases e2 : m = n
        · rw [e2]; exact hp2
        · exact (i1 h).2 m (by omega)
      · by_cases e2 : m = n
        · rw [e2] at hpm; exact absurd hpm hp
        · exact (i2 v h).2 m (by omega) hpm
theorem mo_lt {p : Nat → Bool} {x : Nat → Nat} {c : Nat} : ∀ {n v : Nat}, (∀ m, m < n → x m < c) → moF p x n = some v → v < c
  | 0, v, _, h => by rw [moF] at h; cases h
  | n + 1, v, hc, h => by
    have h1 := hc n (Nat.lt_succ_self n)
    by_cases hp : p n = true
    · rcases hmo : moF p x n with _ | u
      · rw [mo_0 hp hmo] at h
        have e := Option.some.inj h
        omega
      · rw [mo_s hp hmo] at h
        have e := Option.some.inj h
        omega
    · rw [mo_no ((Bool.not_eq_true _).mp hp)] at h
      exact mo_lt (fun m hm => hc m (by omega)) h
theorem mo_ex {p : Nat → Bool} {x : Nat → Nat} {n f : Nat} (hf : f < n) (hp : p f = true) : moF p x n = some (hdF p x (x f) n) := by
  rcases hmo : moF p x n with _ | v
  · have q := ((mo_both (p := p) (x := x) (h0 := x f) n).1 hmo).2 f hf
    rw [hp] at q
    exact absurd q (by decide)
  · obtain ⟨h1, h2⟩ := (mo_both (p := p) (x := x) (h0 := x f) n).2 v hmo
    have h3 := h2 f hf hp
    rw [h1, Nat.min_eq_right h3]
theorem tm_sh {q : Nat → Bool} {x : Nat → Nat} {s : Nat} : ∀ n, tmF q (fun m => s + x m) n = s + tmF q x n ∨ ((∀ m, m < n → q m = false) ∧ tmF q (fun m => s + x m) n = 0 ∧ tmF q x n = 0)
  | 0 => Or.inr ⟨fun m hm => absurd hm (Nat.not_lt_zero m), rfl, rfl⟩
  | n + 1 => by
    have ih := tm_sh (q := q) (x := x) (s := s) n
    by_cases hq : q n = true
    · left
      rw [tm_t hq, tm_t hq]
      show max _ (s + x n) = _
      rcases ih with h | ⟨_, h1, h2⟩
      · rw [h]; omega
      · rw [h1, h2]; omega
    · have hq2 := (Bool.not_eq_true _).mp hq
      rw [tm_f hq2, tm_f hq2]
      rcases ih with h | ⟨h0, h1, h2⟩
      · exact Or.inl h
      · refine Or.inr ⟨fun m hm => ?_, h1, h2⟩
        by_cases e : m = n
        · rw [e]; exact hq2
        · exact h0 m (by omega)
theorem tim_sh {V : Nat → Int32} {b wa f : Nat} (hf : f < vN V) (hl : los V b f = true) : tim V b wa f = sent V b wa f + tmF (los V b) (dR V b) (vN V) := by
  rcases tm_sh (q := los V b) (x := dR V b) (s := sent V b wa f) (vN V) with h | ⟨h, _⟩
  · exact h
  · have q := h f hf
    rw [hl] at q
    exact absurd q (by decide)
theorem tm_gt {q : Nat → Bool} {x : Nat → Nat} {m : Nat} (h : q m = true) (h2 : tmF q x m < x m) : tmF q x (m + 1) = x m := by rw [tm_t h, Nat.max_eq_right (by omega)]
theorem tm_ge {q : Nat → Bool} {x : Nat → Nat} {m : Nat} (h : q m = true) (h2 : ¬ tmF q x m < x m) : tmF q x (m + 1) = tmF q x m := by rw [tm_t h, Nat.max_eq_left (by omega)]
theorem opt_or {α : Type} (o : Option α) : o = none ∨ ∃ x, o = some x := by
  cases o with
  | none => exact Or.inl rfl
  | some x => exact Or.inr ⟨x, rfl⟩
theorem or_nil (x : Int32) : x ||| nI 0 = x := b_ext fun i hi => by
  rw [b_or, show bt (nI 0) i = false from b_0 i, Bool.or_false]
/-- what asks leaves -/
def AK (V : Nat → Int32) (b wa : Nat) (mem u : gM) : Prop :=
  ∃ (q w : Nat → Int32) (f : Nat), u = gr (gr mem 154 q) 160 w ∧ (∀ i, i ≠ 5 → i ≠ 14 → i ≠ 15 → i ≠ 16 → i ≠ 19 → i ≠ 20 → q i = mem 154 i) ∧ frF (los V b) (wt V b wa) (vN V) = some f ∧ q 14 = nI f ∧ q 15 = mk (ask V b wa f) (vN V) ∧ q 16 = mk (sil V b wa f) (vN V) ∧ q 19 = nI (sent V b wa f) ∧ q 20 = nI (tim V b wa f) ∧ WL V b wa (vN V) w
