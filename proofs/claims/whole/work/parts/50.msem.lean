/-! the model's memory: 154 its numbers, 155 v, 156 past, 157 list, 158 text, 159 losses, 160 waits -/
/-- f's first n laid from off on -/
def lyo (n off : Nat) (f p : Nat → Int32) : Nat → Int32 := fun i => if off ≤ i ∧ i < off + n then f (i - off) else p i
theorem lyo_0 (off : Nat) (f p : Nat → Int32) : lyo 0 off f p = p := by funext i; unfold lyo; rw [if_neg (by omega)]
theorem lyo_s {n off : Nat} {f p : Nat → Int32} {x : Int32} (h : x = f n) : upd (lyo n off f p) (off + n) x = lyo (n + 1) off f p := by
  funext i
  unfold upd lyo
  by_cases e : i = off + n
  · subst e; rw [if_pos rfl, if_pos (by omega), h, show off + n - off = n by omega]
  · rw [if_neg e]
    by_cases e2 : off ≤ i ∧ i < off + n
    · rw [if_pos e2, if_pos (by omega)]
    · rw [if_neg e2, if_neg (by omega)]
def shf (p : Nat → Int32) : Nat → Int32 := cpy 1560 (fun i => p (i + 520)) p
def pshP (h : Nat) (V p : Nat → Int32) : Nat → Int32 := if h < 4 then lyo 520 (520 * h) V p else lyo 520 1560 V (shf p)
/-- what an act of the model leaves: v is nV, the state before is kept -/
def MA (h : Nat) (mem u : gM) (nV : Nat → Int32) : Prop := u 155 = nV ∧ u 156 = pshP h (mem 155) (mem 156) ∧ u 154 2 = nI (pushN h) ∧ u 154 7 = mem 154 7 ∧ u 158 = mem 158 ∧ ∀ k, k < 154 → u k = mem k
/-- only numbers that nobody asks for may differ -/
def MN (mem u : gM) : Prop := u 155 = mem 155 ∧ u 156 = mem 156 ∧ u 154 2 = mem 154 2 ∧ u 154 7 = mem 154 7 ∧ u 158 = mem 158 ∧ ∀ k, k < 154 → u k = mem k
theorem MN.rf (mem : gM) : MN mem mem := ⟨rfl, rfl, rfl, rfl, rfl, fun _ _ => rfl⟩
def MX (h : Nat) (mem u : gM) (ok : Prop) (res err : Int32) (nV : Nat → Int32) (r : Int32) : Prop := (ok → r = res ∧ MA h mem u nV) ∧ (¬ ok → r = err ∧ MN mem u)
theorem in_mem {T : Nat} {V : Nat → Int32} (g : Good T V) (x : Int32) : (nI 0 ≤ x ∧ x ≤ nI (vN V) - nI 1) ↔ memP V x := by
  have n10 := gd_n10 g
  have e : (nI (vN V) - nI 1).toInt = (vN V : Int) - 1 := pk_sub_toInt (by omega) (by decide)
  unfold memP
  rw [Int32.le_iff_toInt_le, Int32.le_iff_toInt_le, Int32.le_iff_toInt_le, Int32.lt_iff_toInt_lt, e, nI_toInt (by decide), nI_toInt (by omega), Int32.toInt_zero]
  omega
theorem in_blk (x : Int32) : (nI 0 ≤ x ∧ x ≤ nI 199) ↔ blkP x := by
  unfold blkP
  rw [Int32.le_iff_toInt_le, Int32.le_iff_toInt_le, Int32.le_iff_toInt_le, Int32.lt_iff_toInt_lt, nI_toInt (by decide), nI_toInt (by decide), nI_toInt (by decide), Int32.toInt_zero]
  omega
theorem in_lt {x : Int32} {a b : Nat} (h : b = a + 1) (hb : b < 2 ^ 31) : (nI 0 ≤ x ∧ x ≤ nI a) ↔ (0 ≤ x ∧ x < nI b) := by
  rw [Int32.le_iff_toInt_le, Int32.le_iff_toInt_le, Int32.le_iff_toInt_le, Int32.lt_iff_toInt_lt, nI_toInt (by decide), nI_toInt (by omega), nI_toInt hb, Int32.toInt_zero]
  omega
theorem nhs_0 {x : Int32} {m : Nat} (hm : m < 32) : ((x >>> (nI m &&& 31)) &&& nI 1 = 0) ↔ ¬ hs x m := by
  rw [nhs_bt hm, sh1_eq hm]
  cases bt x m
  · exact ⟨fun _ => rfl, fun _ => rfl⟩
  · exact ⟨fun q => absurd q (by decide), fun q => absurd q (by decide)⟩
theorem zr_0 (V : Nat → Int32) (n : Nat) : zr V n 0 = V := by funext i; unfold zr; rw [if_neg (by omega)]
theorem zr_s (V : Nat → Int32) (n k : Nat) : upd (zr V n k) (30 + 12 * n + k) (nI 0) = zr V n (k + 1) := by
  funext i
  unfold upd zr
  by_cases e : i = 30 + 12 * n + k
  · rw [if_pos e, if_pos (by omega)]
  · rw [if_neg e]
    by_cases e2 : 30 + 12 * n ≤ i ∧ i < 30 + 12 * n + k
    · rw [if_pos e2, if_pos (by omega)]
    · rw [if_neg e2, if_neg (by omega)]
