/-- undo on both sides -/
theorem inv_undo {T h o : Nat} {Vs : Nat → Nat → Int32} {tx : Nat → Nat} {tl : Nat} {mem u1 u2 : gM} {r1 r2 : Int32} (g : Good T (mem 155)) (hx : HX T Vs h o mem) (hh : mem 154 2 = nI h) (h4 : h ≤ 4) (hpa : ∀ j, j < h → ∀ i, i < 520 → mem 156 (520 * j + i) = Vs j i) (tX : TX tx tl mem) (tM : TXM tx tl mem)
    (x : UX T (mem 155) Vs h mem u1 r1) (a : MU h u1 u2 r2) : r1 = r2 ∧ INV T u2 := by
  by_cases h0 : h = 0
  · obtain ⟨x1, x2⟩ := x.1 h0
    obtain ⟨a1, a2⟩ := a.1 h0
    exact ⟨x1.trans a1.symm, inv_same (o := o) h4 g hh hpa tX tM x2 a2⟩
  · have hpos : 0 < h := Nat.pos_of_ne_zero h0
    obtain ⟨x1, xr, ⟨o2, xh⟩, xf⟩ := x.2 hpos
    obtain ⟨b1, a1, a2, a3, a4, a5, a6⟩ := a.2 hpos
    have f154 : u1 154 = mem 154 := xf 154 (by omega)
    have f156 : u1 156 = mem 156 := xf 156 (by omega)
    have f158 : u1 158 = mem 158 := xf 158 (by omega)
    have gv : Good T (Vs (h - 1)) := (hx.2 (h - 1) (by omega)).2
    have ag : ∀ i, i < 520 → u2 155 i = Vs (h - 1) i := fun i hi => by
      rw [a1, cpy_in hi, f156]
      exact hpa (h - 1) (by omega) i hi
    have n10 := gd_n10 gv
    have hz := (gd_z gv).2
    refine ⟨x1.trans b1.symm, Vs, h - 1, o2, tx, tl, rel_agree (xr.keep fun k _ h2 => a6 k (by omega)) n10 (by omega) ag, good_agree gv ag, hx_keep xh fun k _ h2 => a6 k (by omega), a3, by omega, ?_, ?_, ?_⟩
    · rw [a2, f156]; exact fun j hj => hpa j (by omega)
    · obtain ⟨t1, t2, t3⟩ := tX
      refine ⟨by rw [a6 143 (by omega), xf 143 (by omega)]; exact t1, t2, fun i hi => ?_⟩
      rw [a6 145 (by omega), xf 145 (by omega)]
      exact t3 i hi
    · obtain ⟨t1, t2, t3⟩ := tM
      refine ⟨by rw [a4, f154]; exact t1, t2, fun i hi => ?_⟩
      rw [a5, f158]
      exact t3 i hi
