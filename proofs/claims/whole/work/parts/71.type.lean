/-- type and clear on both sides -/
theorem ty_det {tx t2 t3 : Nat → Nat} {tl l2 l3 : Nat} {x r r2 : Int32} (h60 : tl ≤ 60) (a : TYX tx tl x r t2 l2) (b : TYX tx tl x r2 t3 l3) : r = r2 ∧ l2 = l3 ∧ t2 = t3 := by
  by_cases hc : chP x
  · by_cases h : tl = 60
    · obtain ⟨a1, a2, a3⟩ := a.2.1 hc h
      obtain ⟨b1, b2, b3⟩ := b.2.1 hc h
      exact ⟨a1.trans b1.symm, a2.trans b2.symm, a3.trans b3.symm⟩
    · obtain ⟨a1, a2, a3⟩ := a.2.2 hc (by omega)
      obtain ⟨b1, b2, b3⟩ := b.2.2 hc (by omega)
      exact ⟨a1.trans b1.symm, a2.trans b2.symm, a3.trans b3.symm⟩
  · obtain ⟨a1, a2, a3⟩ := a.1 hc
    obtain ⟨b1, b2, b3⟩ := b.1 hc
    exact ⟨a1.trans b1.symm, a2.trans b2.symm, a3.trans b3.symm⟩
theorem inv_text {T h o : Nat} {Vs : Nat → Nat → Int32} {t2 : Nat → Nat} {l2 : Nat} {mem u1 u2 : gM} (r : Rel (mem 155) mem) (g : Good T (mem 155)) (hx : HX T Vs h o mem) (hh : mem 154 2 = nI h) (h4 : h ≤ 4) (hpa : ∀ j, j < h → ∀ i, i < 520 → mem 156 (520 * j + i) = Vs j i)
    (tX : TX t2 l2 u1) (hf : ∀ k, k ≠ 143 → k ≠ 145 → u1 k = mem k) (tM : TXM t2 l2 u2) (mt : MT u1 u2) : INV T u2 := by
  obtain ⟨m1, m2, m3, m4⟩ := mt
  have e : u2 155 = mem 155 := m1.trans (hf 155 (by decide) (by decide))
  refine ⟨Vs, h, o, t2, l2, by rw [e]; exact r.keep fun k _ h2 => (m4 k (by omega)).trans (hf k (by omega) (by omega)), by rw [e]; exact g, hx_keep hx fun k _ h2 => (m4 k (by omega)).trans (hf k (by omega) (by omega)), by rw [m3, hf 154 (by decide) (by decide)]; exact hh, h4, by rw [m2, hf 156 (by decide) (by decide)]; exact hpa, ?_, tM⟩
  obtain ⟨t1, t3, t4⟩ := tX
  refine ⟨by rw [m4 143 (by decide)]; exact t1, t3, fun i hi => ?_⟩
  rw [m4 145 (by decide)]
  exact t4 i hi
theorem tx_cl {tx : Nat → Nat} {mem : gM} : TX tx 0 (gr mem 143 (upd (mem 143) 0 (nI 0))) := ⟨rfl, by decide, fun i hi => absurd hi (Nat.not_lt_zero i)⟩
theorem txm_cl {tx : Nat → Nat} {mem : gM} : TXM tx 0 (gr mem 154 (upd (mem 154) 7 (nI 0))) ∧ MT mem (gr mem 154 (upd (mem 154) 7 (nI 0))) := ⟨⟨rfl, by decide, fun i hi => absurd hi (Nat.not_lt_zero i)⟩, rfl, rfl, rfl, fun k hk => gr_n (by omega)⟩
