/-! the law's start: the empty group -/
theorem set5_0 {i : Nat} (h : 5 ≤ i) : set5 i = 0 := by
  unfold set5
  rw [upd_n (by omega), upd_n (by omega), upd_n (by omega), upd_n (by omega), upd_n (by omega)]
theorem set5_n : vN set5 = 0 := by decide +kernel
theorem set5_z : vZ set5 = 0 := by decide +kernel
theorem set5_2 : set5 2 = nI 2 := by decide +kernel
theorem good_0 : Good 0 set5 := by
  unfold Good
  rw [set5_n, set5_z]
  refine ⟨by decide +kernel, by decide +kernel, by decide +kernel, by decide +kernel, fun m hm => absurd hm (Nat.not_lt_zero m), by decide +kernel, fun r hr => absurd hr (Nat.not_lt_zero r), fun m hm => absurd hm (Nat.not_lt_zero m), fun b hb i _ _ => by rw [set5_0 (by omega)]; exact b_0 i, by decide +kernel, by decide +kernel⟩
theorem rel_0 : Rel set5 mX9 := by
  show RelS 1 set5 mX9
  unfold RelS
  rw [set5_n, set5_z]
  refine ⟨fun k _ => rfl, ⟨by decide +kernel, by decide +kernel⟩, fun m hm => absurd hm (Nat.not_lt_zero m), fun m _ _ => ⟨rfl, rfl, rfl, rfl, rfl, rfl⟩, ⟨by decide +kernel, by decide +kernel, by decide +kernel⟩, fun r hr => absurd hr (Nat.not_lt_zero r), fun q _ => (set5_0 (by omega)).symm, ⟨by decide +kernel, by decide +kernel, by decide +kernel⟩, fun j _ => (set5_0 (by omega)).symm⟩
theorem kls_0 : kLS 0 set5 (fun _ _ => 0) 0 (mX9 154) (mX9 155) mX9 :=
  ⟨rel_0, ⟨0, ⟨by decide +kernel, by decide, by decide +kernel, by decide⟩, fun j hj => absurd hj (Nat.not_lt_zero j)⟩, ⟨fun _ => 0, 0, by decide +kernel, by decide, fun i hi => absurd hi (Nat.not_lt_zero i)⟩, rfl, rfl⟩
theorem s5_hcd (b : Nat) : hcd set5 b = 1 := hcd_1.mpr (set5_0 (by decide))
theorem s5_cnt : fa_cnt (cnP set5) 200 = 0 := cnt_z fun q _ => decide_eq_false (by rw [s5_hcd]; decide)
theorem s5_draw : ¬ toN (set5 2) ≤ fa_cnt (vRR set5) (vN set5) := by
  rw [set5_n, set5_2]
  decide +kernel
theorem s5_sil : silR set5 = 0 := if_pos (by rw [set5_0 (by decide), set5_0 (by decide)]; rfl)
set_option maxRecDepth 100000 in
theorem shX9_eq : shX9 = gsh ++ List.replicate 0 (.inl 10) := by decide +kernel
theorem gW_all (D : va_G) (A : Nat → Prop) (cI c1 : ClassId) (a1 : Nat → Nat) (t : Nat × Nat × Nat) : (([] : va_W) ++ gL cI c1 a1 mX9 0 shX9) = gW (D, a1, (cI, c1, 0), A, t) mX9 := by
  rw [shX9_eq]
  rfl
