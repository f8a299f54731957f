/-! both sides after a call -/
theorem psh_ok {h : Nat} (h4 : h ≤ 4) {V p : Nat → Int32} {Vs : Nat → Nat → Int32} (hp : ∀ j, j < h → ∀ i, i < 520 → p (520 * j + i) = Vs j i) : ∀ j, j < pushN h → ∀ i, i < 520 → pshP h V p (520 * j + i) = pushV h Vs V j i := by
  intro j hj i hi
  unfold pushN at hj
  unfold pshP pushV
  by_cases e : h < 4
  · rw [if_pos e] at hj
    rw [if_pos e, if_pos e]
    unfold lyo
    by_cases ej : j = h
    · rw [if_pos (show 520 * h ≤ 520 * j + i ∧ 520 * j + i < 520 * h + 520 by omega), if_pos ej, show 520 * j + i - 520 * h = i by omega]
    · rw [if_neg (show ¬ (520 * h ≤ 520 * j + i ∧ 520 * j + i < 520 * h + 520) by omega), if_neg ej]
      exact hp j (by omega) i hi
  · rw [if_neg e] at hj
    rw [if_neg e, if_neg e]
    unfold lyo
    by_cases ej : j = 3
    · rw [if_pos (show 1560 ≤ 520 * j + i ∧ 520 * j + i < 1560 + 520 by omega), if_pos ej, show 520 * j + i - 1560 = i by omega]
    · rw [if_neg (show ¬ (1560 ≤ 520 * j + i ∧ 520 * j + i < 1560 + 520) by omega), if_neg ej]
      unfold shf
      rw [cpy_in (by omega), show 520 * j + i + 520 = 520 * (j + 1) + i by omega]
      exact hp (j + 1) (by omega) i hi
/-- class and model stand for the same state, the same past, the same text -/
def INV (T : Nat) (mem : gM) : Prop :=
  ∃ (Vs : Nat → Nat → Int32) (h o : Nat) (tx : Nat → Nat) (tl : Nat), Rel (mem 155) mem ∧ Good T (mem 155) ∧ HX T Vs h o mem ∧ mem 154 2 = nI h ∧ h ≤ 4 ∧ (∀ j, j < h → ∀ i, i < 520 → mem 156 (520 * j + i) = Vs j i) ∧ TX tx tl mem ∧ TXM tx tl mem
/-- an act that both sides make -/
theorem inv_act {T T2 h o : Nat} {Vs : Nat → Nat → Int32} {tx : Nat → Nat} {tl : Nat} {mem u1 u2 : gM} {nV : Nat → Int32} (h4 : h ≤ 4) (hpa : ∀ j, j < h → ∀ i, i < 520 → mem 156 (520 * j + i) = Vs j i) (tX : TX tx tl mem) (tM : TXM tx tl mem)
    (x : XP T2 nV (pushV h Vs (mem 155)) (pushN h) mem u1) (g : Good T2 nV) (a : MA h u1 u2 nV) : INV T2 u2 := by
  obtain ⟨xr, ⟨o2, xh⟩, xf⟩ := x
  obtain ⟨a1, a2, a3, a4, a5, a6⟩ := a
  have f154 : u1 154 = mem 154 := xf 154 (by omega)
  have f155 : u1 155 = mem 155 := xf 155 (by omega)
  have f156 : u1 156 = mem 156 := xf 156 (by omega)
  have f158 : u1 158 = mem 158 := xf 158 (by omega)
  refine ⟨pushV h Vs (mem 155), pushN h, o2, tx, tl, by rw [a1]; exact xr.keep fun k _ h2 => a6 k (by omega), by rw [a1]; exact g, hx_keep xh fun k _ h2 => a6 k (by omega), a3, ?_, ?_, ?_, ?_⟩
  · unfold pushN; split <;> omega
  · rw [a2, f155, f156]; exact psh_ok h4 hpa
  · obtain ⟨t1, t2, t3⟩ := tX
    refine ⟨by rw [a6 143 (by omega), xf 143 (by omega)]; exact t1, t2, fun i hi => ?_⟩
    rw [a6 145 (by omega), xf 145 (by omega)]
    exact t3 i hi
  · obtain ⟨t1, t2, t3⟩ := tM
    refine ⟨by rw [a4, f154]; exact t1, t2, fun i hi => ?_⟩
    rw [a5, f158]
    exact t3 i hi
/-- a call that changes nothing on either side -/
theorem inv_same {T h o : Nat} {Vs : Nat → Nat → Int32} {tx : Nat → Nat} {tl : Nat} {mem u1 u2 : gM} (h4 : h ≤ 4) (g : Good T (mem 155)) (hh : mem 154 2 = nI h) (hpa : ∀ j, j < h → ∀ i, i < 520 → mem 156 (520 * j + i) = Vs j i) (tX : TX tx tl mem) (tM : TXM tx tl mem)
    (x : XP T (mem 155) Vs h mem u1) (a : MN u1 u2) : INV T u2 := by
  obtain ⟨xr, ⟨o2, xh⟩, xf⟩ := x
  obtain ⟨a1, a2, a3, a4, a5, a6⟩ := a
  have f154 : u1 154 = mem 154 := xf 154 (by omega)
  have f155 : u1 155 = mem 155 := xf 155 (by omega)
  have f156 : u1 156 = mem 156 := xf 156 (by omega)
  have f158 : u1 158 = mem 158 := xf 158 (by omega)
  refine ⟨Vs, h, o2, tx, tl, by rw [a1, f155]; exact xr.keep fun k _ h2 => a6 k (by omega), by rw [a1, f155]; exact g, hx_keep xh fun k _ h2 => a6 k (by omega), by rw [a3, f154]; exact hh, h4, ?_, ?_, ?_⟩
  · rw [a2, f156]; exact hpa
  · obtain ⟨t1, t2, t3⟩ := tX
    refine ⟨by rw [a6 143 (by omega), xf 143 (by omega)]; exact t1, t2, fun i hi => ?_⟩
    rw [a6 145 (by omega), xf 145 (by omega)]
    exact t3 i hi
  · obtain ⟨t1, t2, t3⟩ := tM
    refine ⟨by rw [a4, f154]; exact t1, t2, fun i hi => ?_⟩
    rw [a5, f158]
    exact t3 i hi
