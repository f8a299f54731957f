/-- read on both sides -/
theorem inv_read {T h o : Nat} {Vs : Nat → Nat → Int32} {tx : Nat → Nat} {tl : Nat} {mem u1 u2 : gM} {r1 r2 : Int32} (r : Rel (mem 155) mem) (g : Good T (mem 155)) (hx : HX T Vs h o mem) (hh : mem 154 2 = nI h) (h4 : h ≤ 4) (hpa : ∀ j, j < h → ∀ i, i < 520 → mem 156 (520 * j + i) = Vs j i) (tX : TX tx tl mem) (tM : TXM tx tl mem)
    (x : RDX T (mem 155) Vs h tx tl mem u1 r1) (a : RDM h (vN (u1 155)) tx tl u1 u2 r2) : r1 = r2 ∧ INV T u2 := by
  have n10 := gd_n10 g
  by_cases q : rdOK (vN (mem 155)) tx tl
  · obtain ⟨x1, x2, ⟨o2, x3⟩, x4, x5⟩ := x.1 q
    have f155 : u1 155 = mem 155 := x5 155 (by decide)
    have f156 : u1 156 = mem 156 := x5 156 (by decide)
    rw [f155] at a
    obtain ⟨a1, a2, a3, a4, a5, a6⟩ := a.1 q
    rw [f155] at a1 a2 a3
    have gn : Good T (apL (mem 155) (lsT (vN (mem 155)) tx tl tl)).1 := good_ap g (ls_ok n10 (wr_none q.2).1)
    refine ⟨x1.trans a1.symm, pushV h Vs (mem 155), pushN h, o2, tx, 0, by rw [a2]; exact x2.keep fun k _ h2 => a6 k (by omega), by rw [a2]; exact gn, hx_keep x3 fun k _ h2 => a6 k (by omega), a4, ?_, ?_, ?_, ?_⟩
    · unfold pushN; split <;> omega
    · rw [a3, f156]; exact psh_ok h4 hpa
    · exact ⟨by rw [a6 143 (by decide)]; exact x4, by decide, fun i hi => absurd hi (Nat.not_lt_zero i)⟩
    · exact ⟨a5, by decide, fun i hi => absurd hi (Nat.not_lt_zero i)⟩
  · obtain ⟨⟨e, x1, x2⟩, x3⟩ := x.2 q
    subst x3
    obtain ⟨⟨e2, a1, a2⟩, a3⟩ := a.2 q
    exact ⟨by rw [x2, a2, ep_det x1 a1], inv_same (o := o) h4 g hh hpa tX tM (XP_same r hx) a3⟩
