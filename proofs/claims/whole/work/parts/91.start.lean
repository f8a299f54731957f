/-! the start: both sides stand for the empty group -/
/-- the ints of all places when both are made -/
def mAll : gM := fun k => if k < 154 then mX9 k else mX10 (k - 154)
theorem set5_0 {i : Nat} (h : 5 ≤ i) : set5 i = 0 := by
  unfold set5
  rw [upd_n (by omega), upd_n (by omega), upd_n (by omega), upd_n (by omega), upd_n (by omega)]
theorem set5_n : vN set5 = 0 := by decide +kernel
theorem set5_z : vZ set5 = 0 := by decide +kernel
theorem good_0 : Good 0 set5 := by
  unfold Good
  rw [set5_n, set5_z]
  refine ⟨by decide +kernel, by decide +kernel, by decide +kernel, by decide +kernel, fun m hm => absurd hm (Nat.not_lt_zero m), by decide +kernel, fun r hr => absurd hr (Nat.not_lt_zero r), fun m hm => absurd hm (Nat.not_lt_zero m), fun b hb i _ _ => by rw [set5_0 (by omega)]; exact b_0 i, by decide +kernel, by decide +kernel⟩
theorem rel_0 : Rel set5 mAll := by
  show RelS 1 set5 mAll
  unfold RelS
  rw [set5_n, set5_z]
  refine ⟨fun k _ => rfl, ⟨by decide +kernel, by decide +kernel⟩, fun m hm => absurd hm (Nat.not_lt_zero m), fun m _ _ => ⟨rfl, rfl, rfl, rfl, rfl, rfl⟩, ⟨by decide +kernel, by decide +kernel, by decide +kernel⟩, fun r hr => absurd hr (Nat.not_lt_zero r), fun q _ => (set5_0 (by omega)).symm, ⟨by decide +kernel, by decide +kernel, by decide +kernel⟩, fun j _ => (set5_0 (by omega)).symm⟩
theorem inv_0 : INV 0 mAll :=
  ⟨fun _ _ => 0, 0, 0, fun _ => 0, 0, rel_0, good_0, ⟨⟨by decide +kernel, by decide, by decide +kernel, by decide⟩, fun j hj => absurd hj (Nat.not_lt_zero j)⟩, by decide +kernel, by decide, fun j hj => absurd hj (Nat.not_lt_zero j), ⟨by decide +kernel, by decide, fun i hi => absurd hi (Nat.not_lt_zero i)⟩, ⟨by decide +kernel, by decide, fun i hi => absurd hi (Nat.not_lt_zero i)⟩⟩
def adAll (a1 a2 : Nat → Nat) : Nat → Nat := fun k => if k < 154 then a1 k else a2 (k - 154)
set_option maxRecDepth 100000 in
set_option maxHeartbeats 4000000 in
theorem gW_all (D : va_G) (A : Nat → Prop) (cI c1 c2 : ClassId) (a1 a2 : Nat → Nat) (t : Nat × Nat × Nat) : ((([] : va_W) ++ gL cI c1 a1 mX9 0 shX9) ++ gL cI c2 a2 mX10 0 shX10) = gW (D, adAll a1 a2, (cI, c1), A, t) mAll := by
  have h31 : (fun j => (([31, 59, 87, 115] : List Nat)[j]?).map a1) = fun j => (([31, 59, 87, 115] : List Nat)[j]?).map (adAll a1 a2) := funext fun j => match j with | 0 => rfl | 1 => rfl | 2 => rfl | 3 => rfl | j + 4 => rfl
  exact congrArg (fun f : Nat → Option Nat => ((gL cI c1 a1 mX9 0 (shX9.take 30) ++ ((a1 30, .inl (c1, (4, .inr (.inr (.inr (.inr f)))))) :: gL cI c1 a1 mX9 31 (shX9.drop 31))) ++ gL cI c2 a2 mX10 0 shX10 : va_W)) h31
