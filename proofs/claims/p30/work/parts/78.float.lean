/-! floats: whole numbers below 2 ^ 24, and what their quotient's bits are -/
theorem fx_enc32 (s : Bool) (c : Nat) (q : Int) : FP.Core.encode FP.Core.b32 (FP.Core.settle FP.Core.b32 s c q) % 2147483648 ≤ 2139095040 ∧ FP.Core.encode FP.Core.b32 (FP.Core.settle FP.Core.b32 s c q) < 4294967296 := by
  have hp : (2 : Nat) ^ FP.Core.b32.p = 16777216 := by decide
  have ht : FP.Core.b32.tails = 8388608 := by decide
  have he : FP.Core.b32.exps = 256 := by decide
  have hx : FP.Core.b32.qmax = 104 := by decide
  have hn : FP.Core.b32.qmin = -149 := by decide
  have hs : s.toNat ≤ 1 := by cases s <;> decide
  unfold FP.Core.settle FP.Core.bound
  rw [hp, hx, ht]
  split
  · split
    · unfold FP.Core.encode FP.Core.assemble
      simp only [ht, he, hn]
      split <;> omega
    · unfold FP.Core.encode FP.Core.assemble
      simp only [ht, he]
      omega
  · split
    · unfold FP.Core.encode FP.Core.assemble
      simp only [ht, he, hn]
      split <;> omega
    · unfold FP.Core.encode FP.Core.assemble
      simp only [ht, he]
      omega
theorem fx_enc64 (s : Bool) (c : Nat) (q : Int) : FP.Core.encode FP.Core.b64 (FP.Core.settle FP.Core.b64 s c q) % 9223372036854775808 ≤ 9218868437227405312 ∧ FP.Core.encode FP.Core.b64 (FP.Core.settle FP.Core.b64 s c q) < 18446744073709551616 := by
  have hp : (2 : Nat) ^ FP.Core.b64.p = 9007199254740992 := by decide
  have ht : FP.Core.b64.tails = 4503599627370496 := by decide
  have he : FP.Core.b64.exps = 2048 := by decide
  have hx : FP.Core.b64.qmax = 971 := by decide
  have hn : FP.Core.b64.qmin = -1074 := by decide
  have hs : s.toNat ≤ 1 := by cases s <;> decide
  unfold FP.Core.settle FP.Core.bound
  rw [hp, hx, ht]
  split
  · split
    · unfold FP.Core.encode FP.Core.assemble
      simp only [ht, he, hn]
      split <;> omega
    · unfold FP.Core.encode FP.Core.assemble
      simp only [ht, he]
      omega
  · split
    · unfold FP.Core.encode FP.Core.assemble
      simp only [ht, he, hn]
      split <;> omega
    · unfold FP.Core.encode FP.Core.assemble
      simp only [ht, he]
      omega
theorem fx_rr32 (s : Bool) (c d : Nat) (e : Int) : FP.Core.encode FP.Core.b32 (FP.Core.roundRatio FP.Core.b32 s c d e) % 2147483648 ≤ 2139095040 ∧ FP.Core.encode FP.Core.b32 (FP.Core.roundRatio FP.Core.b32 s c d e) < 4294967296 := by
  unfold FP.Core.roundRatio
  split
  · have ht : FP.Core.b32.tails = 8388608 := by decide
    have he : FP.Core.b32.exps = 256 := by decide
    have hs : s.toNat ≤ 1 := by cases s <;> decide
    unfold FP.Core.encode FP.Core.assemble
    simp only [ht, he]
    rw [if_pos (by decide)]
    omega
  · exact fx_enc32 _ _ _
theorem fx_rr64 (s : Bool) (c d : Nat) (e : Int) : FP.Core.encode FP.Core.b64 (FP.Core.roundRatio FP.Core.b64 s c d e) % 9223372036854775808 ≤ 9218868437227405312 ∧ FP.Core.encode FP.Core.b64 (FP.Core.roundRatio FP.Core.b64 s c d e) < 18446744073709551616 := by
  unfold FP.Core.roundRatio
  split
  · have ht : FP.Core.b64.tails = 4503599627370496 := by decide
    have he : FP.Core.b64.exps = 2048 := by decide
    have hs : s.toNat ≤ 1 := by cases s <;> decide
    unfold FP.Core.encode FP.Core.assemble
    simp only [ht, he]
    rw [if_pos (by decide)]
    omega
  · exact fx_enc64 _ _ _
theorem fx_n32 {n : Nat} (h : n % 2147483648 ≤ 2139095040 ∧ n < 4294967296) : vf_n32 (UInt32.ofNat n) := by
  unfold vf_n32
  rw [UInt32.le_iff_toNat_le, UInt32.toNat_and]
  have e : (UInt32.ofNat n).toNat = n := UInt32.toNat_ofNat_of_lt' h.2
  rw [e, show (0x7fffffff : UInt32).toNat = 2 ^ 31 - 1 by decide, Nat.and_two_pow_sub_one_eq_mod]
  exact h.1
theorem fx_n64 {n : Nat} (h : n % 9223372036854775808 ≤ 9218868437227405312 ∧ n < 18446744073709551616) : vf_n64 (UInt64.ofNat n) := by
  unfold vf_n64
  rw [UInt64.le_iff_toNat_le, UInt64.toNat_and]
  have e : (UInt64.ofNat n).toNat = n := UInt64.toNat_ofNat_of_lt' h.2
  rw [e, show (0x7fffffffffffffff : UInt64).toNat = 2 ^ 63 - 1 by decide, Nat.and_two_pow_sub_one_eq_mod]
  exact h.1
/-- bits below those of the NaNs -/
theorem fx_dec32 {n : Nat} (h : n % 2147483648 ≤ 2139095040) : FP.Core.decode FP.Core.b32 n ≠ .nan := by
  have ht : FP.Core.b32.tails = 8388608 := by decide
  have he : FP.Core.b32.exps = 256 := by decide
  unfold FP.Core.decode FP.Core.fieldE FP.Core.fieldT
  rw [ht, he]
  split
  · rename_i h1
    rw [if_pos (by omega)]
    exact fun q => by cases q
  · split
    · exact fun q => by cases q
    · exact fun q => by cases q
theorem fx_back {c : Nat} {q : Int} (h0 : 0 < c) (hq : q ≤ 0) : ∃ c2 q2, FP.Core.decode FP.Core.b32 (FP.Core.encode FP.Core.b32 (FP.Core.settle FP.Core.b32 false c q)) = .fin false c2 q2 ∧ 0 < c2 := by
  have hp : (2 : Nat) ^ FP.Core.b32.p = 16777216 := by decide
  have ht : FP.Core.b32.tails = 8388608 := by decide
  have he : FP.Core.b32.exps = 256 := by decide
  have hx : FP.Core.b32.qmax = 104 := by decide
  have hn : FP.Core.b32.qmin = -149 := by decide
  have key : ∀ (c : Nat) (q : Int), 0 < c → c < 16777216 → q ≤ 1 → ∃ c2 q2, FP.Core.decode FP.Core.b32 (FP.Core.encode FP.Core.b32 (.fin false c q)) = .fin false c2 q2 ∧ 0 < c2 := by
    intro c q h0 h1 hq
    have e : ∃ e t, FP.Core.encode FP.Core.b32 (.fin false c q) = e * 8388608 + t ∧ t < 8388608 ∧ e < 255 ∧ (e = 0 → 0 < t) := by
      unfold FP.Core.encode FP.Core.assemble
      simp only [ht, he, hn]
      split
      · exact ⟨0, c, by simp, by omega, by decide, fun _ => h0⟩
      · exact ⟨(q - -149).toNat + 1, c - 8388608, by simp, by omega, by omega, fun q => by omega⟩
    obtain ⟨e, t, e1, e2, e3, e4⟩ := e
    rw [e1]
    unfold FP.Core.decode FP.Core.fieldE FP.Core.fieldT FP.Core.fieldS
    rw [ht, he, if_neg (by omega)]
    have hs : ((e * 8388608 + t) / 8388608 / 256 % 2 == 1) = false := by
      rw [show (e * 8388608 + t) / 8388608 / 256 % 2 = 0 by omega]; rfl
    rw [hs]
    split
    · rename_i z
      exact ⟨_, _, rfl, by have := e4 (by omega); omega⟩
    · exact ⟨_, _, rfl, by omega⟩
  unfold FP.Core.settle FP.Core.bound
  rw [hp, hx]
  split
  · rename_i hc
    rw [if_pos (by omega)]
    exact key c q h0 hc (by omega)
  · rw [if_pos (by omega), ht]
    exact key 8388608 (q + 1) (by decide) (by decide) (by omega)
theorem fx_i2f {n : Nat} (h0 : 0 < n) (h : n < 16777216) : ∃ c q, FP.Core.decode FP.Core.b32 (FP.i2f (nI n)).toNat = .fin false c q ∧ 0 < c := by
  have ei : (nI n).toInt = (n : Int) := nI_toInt (by omega)
  have e1 : FP.Core.fromInt FP.Core.b32 (nI n).toInt = FP.Core.encode FP.Core.b32 (FP.Core.roundRatio FP.Core.b32 false n 1 0) := by
    rw [ei]
    unfold FP.Core.fromInt FP.Core.ofInt
    rw [decide_eq_false (by omega)]
    rfl
  have hb := fx_rr32 false n 1 0
  have e2 : (FP.i2f (nI n)).toNat = FP.Core.encode FP.Core.b32 (FP.Core.roundRatio FP.Core.b32 false n 1 0) := by
    show (UInt32.ofNat (FP.Core.fromInt FP.Core.b32 (nI n).toInt)).toNat = _
    rw [e1]
    exact UInt32.toNat_ofNat_of_lt' hb.2
  rw [e2]
  unfold FP.Core.roundRatio
  rw [if_neg (by omega)]
  unfold FP.Core.roundAt
  have hl : n.log2 ≤ 23 := by
    have := (Nat.log2_lt (n := n) (k := 24) (by omega)).mpr h
    omega
  have hq : FP.Core.quantum FP.Core.b32 n 1 0 ≤ 0 := by
    unfold FP.Core.quantum FP.Core.leading
    have hn : FP.Core.b32.qmin = -149 := by decide
    have hp : ((FP.Core.b32.p : Nat) : Int) = 24 := by decide
    have h1 : (1 : Nat).log2 = 0 := by decide
    simp only [hn, hp, h1]
    split <;> omega
  refine fx_back ?_ hq
  unfold FP.Core.unitsNum FP.Core.unitsDen FP.Core.nearest
  rw [show (FP.Core.quantum FP.Core.b32 n 1 0 - 0).toNat = 0 by omega]
  have h2 := Nat.two_pow_pos (0 - FP.Core.quantum FP.Core.b32 n 1 0).toNat
  have h3 : 0 < n * 2 ^ (0 - FP.Core.quantum FP.Core.b32 n 1 0).toNat := Nat.mul_pos h0 h2
  simp only [Nat.pow_zero, Nat.mul_one, Nat.mod_one, Nat.div_one]
  rw [if_pos (by decide)]
  exact h3
theorem fx_0 : FP.Core.decode FP.Core.b32 (0 : UInt32).toNat = .fin false 0 (-149) := by decide +kernel
theorem fx_i0 : FP.i2f (nI 0) = 0 := by decide +kernel
theorem fx_cmp {k : Nat} (h : 0 < k) : compare ((k : Nat) : Int) ((0 : Nat) : Int) = Ordering.gt := by
  show compareOfLessAndEq ((k : Nat) : Int) ((0 : Nat) : Int) = _
  unfold compareOfLessAndEq
  rw [if_neg (by omega), if_neg (by omega)]
theorem fx_quo {s t : Bool} {c d : Nat} {q r : Int} (hd : ¬ d = 0) : FP.Core.quotient FP.Core.b32 (.fin s c q) (.fin t d r) = FP.Core.roundRatio FP.Core.b32 (s != t) c d (q - r) := if_neg hd
theorem fx_gt {n : Nat} (h0 : 0 < n) (h : n < 16777216) : FP.fcmp (FP.i2f (nI n)) 0 = some .gt := by
  obtain ⟨c, q, e, hc⟩ := fx_i2f h0 h
  show FP.Core.order (FP.Core.decode FP.Core.b32 (FP.i2f (nI n)).toNat) (FP.Core.decode FP.Core.b32 (0 : UInt32).toNat) = some .gt
  rw [e, fx_0]
  unfold FP.Core.order FP.Core.signed FP.Core.inUnits
  have h2 := Nat.two_pow_pos (q - min q (-149)).toNat
  have h3 : 0 < c * 2 ^ (q - min q (-149)).toNat := Nat.mul_pos hc h2
  simp only [Nat.zero_mul]
  rw [if_neg (by decide), if_neg (by decide)]
  exact congrArg some (fx_cmp h3)
theorem fx_eq : FP.fcmp (FP.i2f (nI 0)) 0 = some .eq := by decide +kernel
/-- a share: no NaN -/
theorem fx_div {n d : Nat} (hd : 0 < d) (hd2 : d < 16777216) (hn : n < 16777216) : vf_n32 (FP.fdiv (FP.i2f (nI n)) (FP.i2f (nI d))) := by
  obtain ⟨cd, qd, ed, hcd⟩ := fx_i2f hd hd2
  have en : ∃ c q, FP.Core.decode FP.Core.b32 (FP.i2f (nI n)).toNat = .fin false c q := by
    by_cases h0 : n = 0
    · rw [h0, fx_i0]; exact ⟨_, _, fx_0⟩
    · obtain ⟨c, q, e, _⟩ := fx_i2f (Nat.pos_of_ne_zero h0) hn
      exact ⟨c, q, e⟩
  obtain ⟨cn, qn, en⟩ := en
  refine fx_n32 (n := FP.Core.div FP.Core.b32 (FP.i2f (nI n)).toNat (FP.i2f (nI d)).toNat) ?_
  unfold FP.Core.div
  rw [en, ed]
  rw [fx_quo (by omega)]
  exact fx_rr32 _ _ _ _
theorem fx_dbl {v : UInt32} (h : vf_n32 v) : vf_n64 (FP.f2d v) := by
  have h1 : v.toNat % 2147483648 ≤ 2139095040 := by
    unfold vf_n32 at h
    rw [UInt32.le_iff_toNat_le, UInt32.toNat_and, show (0x7fffffff : UInt32).toNat = 2 ^ 31 - 1 by decide, Nat.and_two_pow_sub_one_eq_mod] at h
    exact h
  have h2 := fx_dec32 h1
  have h3 : FP.Core.fIsNaN v = false := decide_eq_false h2
  unfold FP.f2d
  rw [h3]
  show vf_n64 (UInt64.ofNat (FP.Core.convert FP.Core.b32 FP.Core.b64 v.toNat))
  refine fx_n64 ?_
  unfold FP.Core.convert
  cases e : FP.Core.decode FP.Core.b32 v.toNat with
  | nan => exact absurd e h2
  | inf s => cases s <;> decide +kernel
  | fin s c q => exact fx_rr64 _ _ _ _
/-- the share of losers that were silent -/
def silR (V : Nat → Int32) : UInt32 := if V 8 + V 9 = 0 then 0 else FP.fdiv (FP.i2f (V 9)) (FP.i2f (V 8 + V 9))
section GFLOAT
variable {p : Program} {l : Launch} {e : Env} {R : Room} {s : State} {m : MethodId} {args : Array Value} {below : List Frame} {meth : Method} {c : Code} {mc ms : Nat} {Q : State → Prop} {G : gG} {own : String} {cc : ByteArray} {ret : Option FieldType} {nL : Nat} {mem : gM} {pc : Nat} {L : List (Nat × Value)} {st : List Value}
theorem g_i2f (C : gC G own cc ret nL p R s m args meth c mc ms) {x : Int32} (hd : decode cc pc = .ok (.i2f, 1)) (h : gV p l e R s m args below meth c mc ms Q G nL mem (pc + 1) L (.float (FP.i2f x) :: st)) : gV p l e R s m args below meth c mc ms Q G nL mem pc L (.int x :: st) := fun H locs ls hP hS hl => lv_i2f C.1 C.2.1 hd (h H locs ls hP hS hl)
theorem g_fcmp (C : gC G own cc ret nL p R s m args meth c mc ms) {x y : UInt32} {op : CmpOp} {v : Int32} (hd : decode cc pc = .ok (.fcmp op, 1)) (hv : Op.cmpValue (FP.fcmp x y) op = v) (h : gV p l e R s m args below meth c mc ms Q G nL mem (pc + 1) L (.int v :: st)) : gV p l e R s m args below meth c mc ms Q G nL mem pc L (.float y :: .float x :: st) := fun H locs ls hP hS hl => lv_fcmp C.1 C.2.1 hd (by rw [hv]; exact h H locs ls hP hS hl)
theorem g_fdiv (C : gC G own cc ret nL p R s m args meth c mc ms) {x y : UInt32} (hne : vf_n32 (FP.fdiv x y)) (hd : decode cc pc = .ok (.fdiv, 1)) (h : gV p l e R s m args below meth c mc ms Q G nL mem (pc + 1) L (.float (FP.fdiv x y) :: st)) : gV p l e R s m args below meth c mc ms Q G nL mem pc L (.float y :: .float x :: st) := fun H locs ls hP hS hl => lv_fdiv C.1 C.2.1 hd hne (h H locs ls hP hS hl)
theorem g_f2d (C : gC G own cc ret nL p R s m args meth c mc ms) {x : UInt32} (hne : vf_n64 (FP.f2d x)) (hd : decode cc pc = .ok (.f2d, 1)) (h : gV p l e R s m args below meth c mc ms Q G nL mem (pc + 1) L (.double (FP.f2d x) :: st)) : gV p l e R s m args below meth c mc ms Q G nL mem pc L (.float x :: st) := fun H locs ls hP hS hl => lv_f2d C.1 C.2.1 hd hne (h H locs ls hP hS hl)
theorem g_dcmp (C : gC G own cc ret nL p R s m args meth c mc ms) {x y : UInt64} {op : CmpOp} (hd : decode cc pc = .ok (.dcmp op, 1)) (h : gV p l e R s m args below meth c mc ms Q G nL mem (pc + 1) L (.int (Op.cmpValue (FP.dcmp x y) op) :: st)) : gV p l e R s m args below meth c mc ms Q G nL mem pc L (.double y :: .double x :: st) := fun H locs ls hP hS hl => lv_dcmp C.1 C.2.1 hd (h H locs ls hP hS hl)
theorem g_fret (C : gC G own cc ret nL p R s m args meth c mc ms) {post : Option Value → gM → Prop} (hQ : Q = MQ below (gQ G post) args s mc ms (gA G)) {v : UInt32} (hr : ret = some .float) (hd : decode cc pc = .ok (.freturn, 1)) (hp : post (some (.float v)) mem) : gV p l e R s m args below meth c mc ms Q G nL mem pc L [.float v] := by
  subst hQ
  exact fun _ _ _ hP hS _ => W.fret C.1 C.2.1 (C.2.2.1.trans hr) (fun _ ht hW => ⟨⟨_, mem, rfl, hp, gB_end C hP hS ht hW⟩, hS.F ht⟩) hS.2.2 hd C.2.2.2.2.2.2.1
end GFLOAT
theorem sil_b {T : Nat} {V : Nat → Int32} (g : Good T V) (hT : T < 2 ^ 20) : ∃ a n : Nat, V 8 + V 9 = nI a ∧ V 9 = nI n ∧ a < 16777216 ∧ n < 16777216 := by
  obtain ⟨e8, e9, hle⟩ := gd_asks g
  exact ⟨toN (V 8) + toN (V 9), toN (V 9), by rw [← nI_add, ← e8, ← e9], e9, by omega, by omega⟩
