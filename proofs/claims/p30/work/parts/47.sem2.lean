/-! the best wait, the fingerprint -/
def stF (V : Nat → Int32) (wa : Nat) : Nat → Nat × Nat
  | 0 => (0, 0)
  | b + 1 => if hcd V b = 0 then ((stF V wa b).1 + tim V b wa (fF V b wa), (stF V wa b).2 + 1) else stF V wa b
theorem st_t {V : Nat → Int32} {wa b : Nat} (h : hcd V b = 0) : stF V wa (b + 1) = ((stF V wa b).1 + tim V b wa (fF V b wa), (stF V wa b).2 + 1) := by rw [stF, if_pos h]
theorem st_f {V : Nat → Int32} {wa b : Nat} (h : ¬ hcd V b = 0) : stF V wa (b + 1) = stF V wa b := by rw [stF, if_neg h]
def stI (q : Nat × Nat) : Int32 := if q.2 = 0 then kNone else nI q.1
theorem st_0 {V : Nat → Int32} {wa : Nat} : ∀ {b : Nat}, (stF V wa b).2 = 0 → (stF V wa b).1 = 0
  | 0, _ => rfl
  | b + 1, h => by
    by_cases q : hcd V b = 0
    · rw [st_t q] at h; exact absurd h (Nat.succ_ne_zero _)
    · rw [st_f q] at h ⊢; exact st_0 h
theorem st_le {T : Nat} {V : Nat → Int32} {wa : Nat} (g : Good T V) (hwa : 1 ≤ wa) (hwa1 : wa ≤ 1000) : ∀ b, (stF V wa b).1 ≤ 8000 * b
  | 0 => Nat.le_refl _
  | b + 1 => by
    have ih := st_le g hwa hwa1 b
    by_cases q : hcd V b = 0
    · rw [st_t q]
      obtain ⟨-, e2, hrk⟩ := hc_0 q
      obtain ⟨f, hf⟩ := fr_ex (wa := wa) (gd_n10 g) e2
      have := tim_le (wa := wa) (f := fF V b wa) g hwa hwa1 (by rw [fF_eq hf]; exact (fr_some hf).1) hrk
      show (stF V wa b).1 + _ ≤ _
      omega
    · rw [st_f q]; omega
theorem stI_0 {q : Nat × Nat} (h : q.2 = 0) : stI q = kNone := if_pos h
theorem stI_n {q : Nat × Nat} (h : ¬ q.2 = 0) : stI q = nI q.1 := if_neg h
def tw (j : Nat) : Nat := ([1, 10, 30, 100, 300, 1000] : List Nat).getD j 0
theorem tw_ok : ∀ j, j < 6 → zTry j = nI (tw j) ∧ 1 ≤ tw j ∧ tw j ≤ 1000 := by decide +kernel
def bwF (V : Nat → Int32) : Nat → Option (Nat × Nat)
  | 0 => none
  | k + 1 => if (stF V (tw k) 200).2 = 0 then bwF V k else match bwF V k with
    | none => some (tw k, (stF V (tw k) 200).1)
    | some q => if (stF V (tw k) 200).1 < q.2 then some (tw k, (stF V (tw k) 200).1) else some q
theorem bw_0 {V : Nat → Int32} {k : Nat} (h : (stF V (tw k) 200).2 = 0) : bwF V (k + 1) = bwF V k := by rw [bwF, if_pos h]
theorem bw_n {V : Nat → Int32} {k : Nat} (h : ¬ (stF V (tw k) 200).2 = 0) (h2 : bwF V k = none) : bwF V (k + 1) = some (tw k, (stF V (tw k) 200).1) := by rw [bwF, if_neg h, h2]
theorem bw_lt {V : Nat → Int32} {k : Nat} {q : Nat × Nat} (h : ¬ (stF V (tw k) 200).2 = 0) (h2 : bwF V k = some q) (h3 : (stF V (tw k) 200).1 < q.2) : bwF V (k + 1) = some (tw k, (stF V (tw k) 200).1) := by rw [bwF, if_neg h, h2]; exact if_pos h3
theorem bw_ge {V : Nat → Int32} {k : Nat} {q : Nat × Nat} (h : ¬ (stF V (tw k) 200).2 = 0) (h2 : bwF V k = some q) (h3 : ¬ (stF V (tw k) 200).1 < q.2) : bwF V (k + 1) = some q := by rw [bwF, if_neg h, h2]; exact if_neg h3
theorem bw_le {T : Nat} {V : Nat → Int32} (g : Good T V) : ∀ {k : Nat} {q : Nat × Nat}, k ≤ 6 → bwF V k = some q → q.1 ≤ 1000 ∧ q.2 ≤ 1600000
  | 0, _, _, h => by cases h
  | k + 1, q, hk, h => by
    have hs := st_le g (tw_ok k (by omega)).2.1 (tw_ok k (by omega)).2.2 200
    have ht := (tw_ok k (by omega)).2.2
    by_cases h0 : (stF V (tw k) 200).2 = 0
    · rw [bw_0 h0] at h; exact bw_le g (by omega) h
    · cases hb : bwF V k with
      | none => rw [bw_n h0 hb] at h; cases h; exact ⟨ht, hs⟩
      | some q2 =>
        by_cases h3 : (stF V (tw k) 200).1 < q2.2
        · rw [bw_lt h0 hb h3] at h; cases h; exact ⟨ht, hs⟩
        · rw [bw_ge h0 hb h3] at h; cases h; exact bw_le g (by omega) hb
def bwI : Option (Nat × Nat) → Int32
  | none => kNone
  | some q => nI q.1
def bwS : Option (Nat × Nat) → Int32
  | none => nI 0
  | some q => nI q.2
def f31 (f : Nat → Int64) (h : Int64) : Nat → Int64
  | 0 => h
  | k + 1 => (31 : Int64) * f31 f h k + f k
def fp0 (V : Nat → Int32) : Int64 := f31 (fun k => (V k).toInt64) (197 : Int64) 10
def fpM (V : Nat → Int32) : Nat → Int64
  | 0 => fp0 V
  | m + 1 => f31 (fun k => (mbR V m k).toInt64) (fpM V m) 9
def fp3 (V : Nat → Int32) : Int64 := (31 : Int64) * fpM V (vN V) + seedR V
def fpL (V : Nat → Int32) : Int64 := f31 (fun r => (V (12 + r)).toInt64) (fp3 V) (vZ V)
def fpB (V : Nat → Int32) : Nat → Int64
  | 0 => fpL V
  | b + 1 => if V (150 + b) = 0 then fpB V b else (31 : Int64) * ((31 : Int64) * fpB V b + (nI b).toInt64) + (V (150 + b)).toInt64
theorem fpB_0 {V : Nat → Int32} {b : Nat} (h : V (150 + b) = 0) : fpB V (b + 1) = fpB V b := by rw [fpB, if_pos h]
theorem fpB_n {V : Nat → Int32} {b : Nat} (h : ¬ V (150 + b) = 0) : fpB V (b + 1) = (31 : Int64) * ((31 : Int64) * fpB V b + (nI b).toInt64) + (V (150 + b)).toInt64 := by rw [fpB, if_neg h]
def fpP (V : Nat → Int32) : Nat → Int64
  | 0 => fpB V 200
  | i + 1 => f31 (fun k => (pastN V i k).toInt64) (fpP V i) 7
def fpR (V : Nat → Int32) : Int64 := fpP V (min (toN (V 7)) 20)
theorem about_n {V : Nat → Int32} {k : Nat} (h : k < 10) : aboutR V (nI k) = V k := by rw [aboutR, if_pos (lt_of (by decide) h), toN_nI (by omega)]
theorem member_n {T : Nat} {V : Nat → Int32} (g : Good T V) {m k : Nat} (hm : m < vN V) (h : k < 9) : memberR V (nI m) (nI k) = mbR V m k := by rw [memberR, if_pos ⟨memP_of g hm, lt_of (by decide) h⟩, toN_nI (by have := gd_n10 g; omega), toN_nI (by omega)]
theorem duty_n {T : Nat} {V : Nat → Int32} (g : Good T V) {k : Nat} (h : k < vZ V) : dutyR V (nI k) = V (12 + k) := by
  have z := (gd_z g).2
  have n := gd_n10 g
  rw [dutyR, if_neg (nI_pos (by omega)), if_pos (nI_lt h (by omega)), toN_nI (by omega)]
theorem past_n {V : Nat → Int32} {i k : Nat} (hi : i < 2 ^ 31) (h : k < 7) : pastR V (nI i) (nI k) = pastN V i k := by rw [pastR, if_pos ⟨nI_pos' hi, lt_of (by decide) h⟩, toN_nI hi, toN_nI (by omega)]
/-- the text: its characters -/
def TX (tx : Nat → Nat) (tl : Nat) (mem : gM) : Prop := mem 143 0 = nI tl ∧ tl ≤ 60 ∧ ∀ i, i < tl → mem 145 i = nI (tx i) ∧ 32 ≤ tx i ∧ tx i ≤ 126
abbrev chP (x : Int32) : Prop := nI 32 ≤ x ∧ x ≤ nI 126
def tyT (tx : Nat → Nat) (tl : Nat) (c : Nat) : Nat → Nat := fun i => if i = tl then c else tx i
/-- what type answers and leaves -/
def TYX (tx : Nat → Nat) (tl : Nat) (x : Int32) (r : Int32) (tx2 : Nat → Nat) (tl2 : Nat) : Prop :=
  (¬ chP x → r = kBad ∧ tl2 = tl ∧ tx2 = tx) ∧ (chP x → tl = 60 → r = kFull ∧ tl2 = tl ∧ tx2 = tx) ∧ (chP x → tl < 60 → r = nI (tl + 1) ∧ tl2 = tl + 1 ∧ tx2 = tyT tx tl (toN x))
