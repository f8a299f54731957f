/-! ===== Int32 by its bits: bt x i ===== -/
def bt (x : Int32) (i : Nat) : Bool := x.toBitVec.getLsbD i
theorem b_ext {x y : Int32} (h : ∀ i, i < 32 → bt x i = bt y i) : x = y := Int32.toBitVec_inj.mp (BitVec.eq_of_getLsbD_eq (fun i hi => h i hi))
theorem b_or (x y : Int32) (i : Nat) : bt (x ||| y) i = (bt x i || bt y i) := by unfold bt; rw [Int32.toBitVec_or, BitVec.getLsbD_or]
theorem b_and (x y : Int32) (i : Nat) : bt (x &&& y) i = (bt x i && bt y i) := by unfold bt; rw [Int32.toBitVec_and, BitVec.getLsbD_and]
theorem b_xor (x y : Int32) (i : Nat) : bt (x ^^^ y) i = (bt x i ^^ bt y i) := by unfold bt; rw [Int32.toBitVec_xor, BitVec.getLsbD_xor]
theorem b_big {x : Int32} {i : Nat} (h : 32 ≤ i) : bt x i = false := BitVec.getLsbD_of_ge _ _ h
theorem b_255 (i : Nat) : bt 255 i = decide (i < 8) := by
  rcases Nat.lt_or_ge i 32 with h | h
  · exact (by decide +kernel : ∀ i, i < 32 → bt 255 i = decide (i < 8)) i h
  · rw [b_big h, decide_eq_false (by omega)]
theorem b_65535 (i : Nat) : bt 65535 i = decide (i < 16) := by
  rcases Nat.lt_or_ge i 32 with h | h
  · exact (by decide +kernel : ∀ i, i < 32 → bt 65535 i = decide (i < 16)) i h
  · rw [b_big h, decide_eq_false (by omega)]
theorem b_m1 : ∀ i, i < 32 → bt (-1) i = true := by decide +kernel
theorem b_0 (i : Nat) : bt 0 i = false := BitVec.getLsbD_zero
theorem s_l : ∀ n, n < 32 → ((nI n &&& 31).toBitVec.smod 32).toNat = n := by decide +kernel
theorem s_u : ∀ n, n < 32 → (((nI n).toUInt32 &&& Int32.toUInt32 31).toBitVec % 32).toNat = n := by decide +kernel
theorem b_shl (n : Nat) (hn : n < 32) (x : Int32) {i : Nat} (hi : i < 32) : bt (x <<< (nI n &&& 31)) i = (decide (n ≤ i) && bt x (i - n)) := by
  unfold bt
  rw [Int32.toBitVec_shiftLeft]
  show (x.toBitVec <<< ((nI n &&& 31).toBitVec.smod 32).toNat).getLsbD i = _
  rw [s_l n hn, BitVec.getLsbD_shiftLeft]
  rcases Nat.lt_or_ge i n with h | h
  · simp [h, Nat.not_le.mpr h]
  · simp [hi, h, Nat.not_lt.mpr h]
theorem b_ushr (n : Nat) (hn : n < 32) (x : Int32) (i : Nat) : bt ((x.toUInt32 >>> ((nI n).toUInt32 &&& Int32.toUInt32 31)).toInt32) i = bt x (n + i) := by
  show (x.toUInt32 >>> ((nI n).toUInt32 &&& Int32.toUInt32 31)).toBitVec.getLsbD i = x.toUInt32.toBitVec.getLsbD (n + i)
  rw [UInt32.toBitVec_shiftRight]
  show (x.toUInt32.toBitVec >>> (((nI n).toUInt32 &&& Int32.toUInt32 31).toBitVec % 32).toNat).getLsbD i = _
  rw [s_u n hn, BitVec.getLsbD_ushiftRight]
theorem b_sshr (n : Nat) (hn : n < 32) (x : Int32) {i : Nat} (hi : i < 32) : bt (x >>> (nI n &&& 31)) i = if n + i < 32 then bt x (n + i) else bt x 31 := by
  unfold bt
  rw [Int32.toBitVec_shiftRight]
  show (x.toBitVec.sshiftRight ((nI n &&& 31).toBitVec.smod 32).toNat).getLsbD i = _
  rw [s_l n hn, BitVec.getLsbD_sshiftRight, BitVec.msb_eq_getLsbD_last]
  simp [hi]
theorem b_shl8 (x : Int32) {i : Nat} (hi : i < 32) : bt (x <<< ((8 : Int32) &&& 31)) i = (decide (8 ≤ i) && bt x (i - 8)) := b_shl 8 (by omega) x hi
theorem b_shl16 (x : Int32) {i : Nat} (hi : i < 32) : bt (x <<< ((16 : Int32) &&& 31)) i = (decide (16 ≤ i) && bt x (i - 16)) := b_shl 16 (by omega) x hi
theorem b_shl24 (x : Int32) {i : Nat} (hi : i < 32) : bt (x <<< ((24 : Int32) &&& 31)) i = (decide (24 ≤ i) && bt x (i - 24)) := b_shl 24 (by omega) x hi
theorem b_sshr8 (x : Int32) {i : Nat} (hi : i < 32) : bt (x >>> ((8 : Int32) &&& 31)) i = if 8 + i < 32 then bt x (8 + i) else bt x 31 := b_sshr 8 (by omega) x hi
/-! ===== the first index with a property; a count ===== -/
/-- the first k < n with p k, n if there is none -/
def fa_first (p : Nat → Bool) : Nat → Nat
  | 0 => 0
  | n + 1 => if fa_first p n < n then fa_first p n else if p n then n else n + 1
theorem fa_first_le (p : Nat → Bool) : ∀ n, fa_first p n ≤ n
  | 0 => Nat.le_refl 0
  | n + 1 => by
    have ih := fa_first_le p n
    unfold fa_first
    split
    · omega
    · split
      · omega
      · omega
theorem fa_first_no (p : Nat → Bool) : ∀ n k, k < fa_first p n → p k = false
  | 0, k, h => absurd h (Nat.not_lt_zero k)
  | n + 1, k, h => by
    have ih := fa_first_no p n
    have hl := fa_first_le p n
    unfold fa_first at h
    split at h
    · exact ih k h
    · rename_i h1
      split at h
      · exact ih k (by omega)
      · rename_i h2
        by_cases e : k = n
        · subst e
          exact Bool.eq_false_iff.mpr h2
        · exact ih k (by omega)
theorem fa_first_yes (p : Nat → Bool) : ∀ n, fa_first p n < n → p (fa_first p n) = true
  | 0, h => absurd h (Nat.not_lt_zero _)
  | n + 1, h => by
    have ih := fa_first_yes p n
    have hl := fa_first_le p n
    unfold fa_first at h ⊢
    split at h
    · rename_i h1
      rw [if_pos h1]
      exact ih h1
    · rename_i h1
      rw [if_neg h1]
      split at h
      · rename_i h2
        rw [if_pos h2]
        exact h2
      · omega
/-- how many k < n have p k -/
def fa_cnt (p : Nat → Bool) : Nat → Nat
  | 0 => 0
  | n + 1 => fa_cnt p n + if p n then 1 else 0
theorem fa_cnt_le (p : Nat → Bool) : ∀ n, fa_cnt p n ≤ n
  | 0 => Nat.le_refl 0
  | n + 1 => by
    have ih := fa_cnt_le p n
    unfold fa_cnt
    split
    · omega
    · omega
theorem fa_cnt_yes {p : Nat → Bool} {n : Nat} (h : p n = true) : fa_cnt p (n + 1) = fa_cnt p n + 1 := by rw [fa_cnt, if_pos h]
theorem fa_cnt_no {p : Nat → Bool} {n : Nat} (h : p n = false) : fa_cnt p (n + 1) = fa_cnt p n := by rw [fa_cnt, if_neg (by rw [h]; decide)]; rfl
theorem fa_cnt_cong {p q : Nat → Bool} : ∀ {n : Nat}, (∀ k, k < n → p k = q k) → fa_cnt p n = fa_cnt q n
  | 0, _ => rfl
  | n + 1, h => by rw [fa_cnt, fa_cnt, fa_cnt_cong (fun k hk => h k (Nat.lt_succ_of_lt hk)), h n (Nat.lt_succ_self n)]
theorem fb_holes : ∀ (m n : Nat) (f : Nat → Nat), (∀ i, i < n → f i < m) → (∀ i j, i < j → j < n → f i ≠ f j) → n ≤ m := by
  intro m
  induction m with
  | zero =>
    intro n f h1 _
    rcases Nat.eq_zero_or_pos n with h | h
    · omega
    · exact absurd (h1 0 h) (Nat.not_lt_zero _)
  | succ m ih =>
    intro n f h1 h2
    by_cases hx : ∃ i, i < n ∧ f i = m
    · obtain ⟨a, ha, hfa⟩ := hx
      have hg := ih (n - 1) (fun i => if i < a then f i else f (i + 1)) (by
        intro i hi
        by_cases q : i < a
        · simp only [if_pos q]
          have b1 := h1 i (by omega)
          have b2 := h2 i a q ha
          omega
        · simp only [if_neg q]
          have b1 := h1 (i + 1) (by omega)
          have b2 := h2 a (i + 1) (by omega) (by omega)
          omega) (by
        intro i j hij hj
        by_cases q : i < a
        · by_cases r : j < a
          · simp only [if_pos q, if_pos r]
            exact h2 i j hij (by omega)
          · simp only [if_pos q, if_neg r]
            exact h2 i (j + 1) (by omega) (by omega)
        · have r : ¬ j < a := by omega
          simp only [if_neg q, if_neg r]
          exact h2 (i + 1) (j + 1) (by omega) (by omega))
      omega
    · have hg := ih n f (fun i hi => by
        have b1 := h1 i hi
        have b2 : f i ≠ m := fun e => hx ⟨i, hi, e⟩
        omega) h2
      omega
theorem fb_onto {n : Nat} {f : Nat → Nat} (h : ∀ i, i < n → f i < n) (h2 : ∀ i j, i < j → j < n → f i ≠ f j) {y : Nat} (hy : y < n) : ∃ i, i < n ∧ f i = y := by
  refine Classical.byContradiction fun hx => ?_
  have hne : ∀ i, i < n → f i ≠ y := fun i hi e => hx ⟨i, hi, e⟩
  have := fb_holes (n - 1) n (fun i => if f i < y then f i else f i - 1) (by
    intro i hi
    have b1 := h i hi
    have b2 := hne i hi
    by_cases q : f i < y
    · simp only [if_pos q]; omega
    · simp only [if_neg q]; omega) (by
    intro i j hij hj
    have b1 := hne i (by omega)
    have b2 := hne j hj
    have b3 := h2 i j hij hj
    by_cases q : f i < y
    · by_cases r : f j < y
      · simp only [if_pos q, if_pos r]; exact b3
      · simp only [if_pos q, if_neg r]; omega
    · by_cases r : f j < y
      · simp only [if_neg q, if_pos r]; omega
      · simp only [if_neg q, if_neg r]; omega)
  omega
/-! sets of members as ints -/
abbrev kNone : Int32 := (-1000009 : Int32)
def bit (m : Nat) : Int32 := nI 1 <<< (nI m &&& 31)
theorem b_1 : ∀ i, i < 32 → bt (nI 1) i = decide (i = 0) := by decide +kernel
theorem bt_bit {m i : Nat} (hm : m < 32) (hi : i < 32) : bt (bit m) i = decide (i = m) := by
  unfold bit
  rw [b_shl m hm _ hi]
  by_cases h : m ≤ i
  · rw [b_1 _ (by omega), decide_eq_true h, Bool.true_and]
    apply decide_eq_decide.mpr
    omega
  · rw [decide_eq_false h, Bool.false_and, decide_eq_false (by omega)]
theorem and_1 (x : Int32) : x &&& nI 1 = if bt x 0 = true then nI 1 else nI 0 := by
  apply b_ext
  intro i hi
  rw [b_and, b_1 i hi]
  by_cases h0 : i = 0
  · subst h0
    cases h : bt x 0 <;> simp <;> decide
  · rw [decide_eq_false h0, Bool.and_false]
    split
    · rw [b_1 i hi, decide_eq_false h0]
    · exact (b_0 i).symm
theorem bt_shr {x : Int32} {m : Nat} (hm : m < 32) : bt (x >>> (nI m &&& 31)) 0 = bt x m := by
  rw [b_sshr m hm x (by omega), Nat.add_zero, if_pos hm]
theorem hs_bt {x : Int32} {m : Nat} (hm : m < 32) : hs x m ↔ bt x m = true := by
  unfold hs
  rw [and_1, bt_shr hm]
  split
  · rename_i h; exact ⟨fun _ => h, fun _ => rfl⟩
  · rename_i h; exact ⟨fun q => absurd q (by decide), fun q => absurd q h⟩
theorem nhs_bt {x : Int32} {m : Nat} (hm : m < 32) : ¬ hs x m ↔ bt x m = false := by rw [hs_bt hm, Bool.not_eq_true]
theorem sh1_eq {x : Int32} {m : Nat} (hm : m < 32) : (x >>> (nI m &&& 31)) &&& nI 1 = if bt x m = true then nI 1 else nI 0 := by rw [and_1, bt_shr hm]
def mk (p : Nat → Bool) : Nat → Int32
  | 0 => nI 0
  | m + 1 => if p m = true then mk p m ||| bit m else mk p m
theorem mk_t {p : Nat → Bool} {m : Nat} (h : p m = true) : mk p (m + 1) = mk p m ||| bit m := by rw [mk, if_pos h]
theorem mk_f {p : Nat → Bool} {m : Nat} (h : p m = false) : mk p (m + 1) = mk p m := by rw [mk, if_neg (by rw [h]; decide)]
theorem bt_mk (p : Nat → Bool) : ∀ n, n ≤ 32 → ∀ i, i < 32 → bt (mk p n) i = (decide (i < n) && p i)
  | 0, _, i, _ => by rw [mk, decide_eq_false (Nat.not_lt_zero i), Bool.false_and]; exact b_0 i
  | n + 1, h, i, hi => by
    have ih := bt_mk p n (by omega) i hi
    unfold mk
    by_cases hp : p n = true
    · rw [if_pos hp, b_or, ih, bt_bit (by omega) hi]
      by_cases e : i = n
      · subst e; simp [hp]
      · rw [decide_eq_false e, Bool.or_false]
        congr 1
        apply decide_eq_decide.mpr
        omega
    · rw [if_neg hp, ih]
      by_cases e : i = n
      · subst e
        rw [decide_eq_false (Nat.lt_irrefl i), Bool.false_and]
        simp only [Bool.not_eq_true] at hp
        rw [hp, Bool.and_false]
      · congr 1
        apply decide_eq_decide.mpr
        omega
theorem mk_ext {x : Int32} {p : Nat → Bool} {n : Nat} (hn : n ≤ 32) (h : ∀ i, i < 32 → bt x i = (decide (i < n) && p i)) : x = mk p n := b_ext fun i hi => (h i hi).trans (bt_mk p n hn i hi).symm
theorem mk_cong {p q : Nat → Bool} : ∀ {n : Nat}, (∀ i, i < n → p i = q i) → mk p n = mk q n
  | 0, _ => rfl
  | n + 1, h => by unfold mk; rw [mk_cong (fun i hi => h i (Nat.lt_succ_of_lt hi)), h n (Nat.lt_succ_self n)]
theorem mk_and {p q : Nat → Bool} {n : Nat} (hn : n ≤ 32) : mk p n &&& mk q n = mk (fun i => p i && q i) n := mk_ext hn fun i hi => by
  rw [b_and, bt_mk p n hn i hi, bt_mk q n hn i hi]
  cases decide (i < n) <;> simp
theorem bt_not (x : Int32) {i : Nat} (hi : i < 32) : bt (x ^^^ (-1)) i = !bt x i := by rw [b_xor, b_m1 i hi]; simp
theorem mk_andn {p q : Nat → Bool} {n : Nat} (hn : n ≤ 32) : mk p n &&& (mk q n ^^^ (-1)) = mk (fun i => p i && !q i) n := mk_ext hn fun i hi => by
  rw [b_and, bt_not _ hi, bt_mk p n hn i hi, bt_mk q n hn i hi]
  cases decide (i < n) <;> simp
theorem mk_wide {p : Nat → Bool} {n k : Nat} (h : n ≤ k) (hk : k ≤ 32) : mk p n = mk (fun i => decide (i < n) && p i) k := mk_ext hk fun i hi => by
  rw [bt_mk p n (by omega) i hi]
  by_cases e : i < n
  · rw [decide_eq_true e, decide_eq_true (Nat.lt_of_lt_of_le e h)]; simp
  · rw [decide_eq_false e]; simp
theorem mk_hs {p : Nat → Bool} {n m : Nat} (hn : n ≤ 32) (hm : m < n) : hs (mk p n) m ↔ p m = true := by
  rw [hs_bt (by omega), bt_mk p n hn m (by omega), decide_eq_true hm, Bool.true_and]
theorem mk_hs_out {p : Nat → Bool} {n m : Nat} (hn : n ≤ 32) (hm : m < 32) (h : n ≤ m) : ¬ hs (mk p n) m := by
  rw [nhs_bt hm, bt_mk p n hn m hm, decide_eq_false (by omega), Bool.false_and]
theorem hs_or {x : Int32} {k m : Nat} (hk : k < 32) (hm : m < 32) : hs (x ||| bit k) m ↔ (hs x m ∨ m = k) := by
  rw [hs_bt hm, hs_bt hm, b_or, bt_bit hk hm]
  simp
theorem mk_0 {p : Nat → Bool} {n : Nat} (hn : n ≤ 32) : mk p n = 0 ↔ ∀ i, i < n → p i = false := by
  constructor
  · intro h i hi
    have := bt_mk p n hn i (by omega)
    rw [h, b_0, decide_eq_true hi, Bool.true_and] at this
    exact this.symm
  · intro h
    rw [mk_cong h]
    clear h
    induction n with
    | zero => rfl
    | succ n ih => unfold mk; exact ih (by omega)
/-! bitCount -/
def bcI (x : Int32) : Int32 :=
  let a := x - (g_ushr x (nI 1) &&& (1431655765 : Int32))
  let b := (a &&& (858993459 : Int32)) + (g_ushr a (nI 2) &&& (858993459 : Int32))
  let c := (b + g_ushr b (nI 4)) &&& (252645135 : Int32)
  let d := c + g_ushr c (nI 8)
  let e := d + g_ushr d (nI 16)
  e &&& nI 63
theorem bc_dec : ∀ b0 b1 b2 b3 b4 b5 b6 b7 b8 b9 : Bool, bcI (mk (fun m => ([b0, b1, b2, b3, b4, b5, b6, b7, b8, b9] : List Bool).getD m false) 10) = nI (fa_cnt (fun m => ([b0, b1, b2, b3, b4, b5, b6, b7, b8, b9] : List Bool).getD m false) 10) := by decide +kernel
theorem bc_10 (p : Nat → Bool) : bcI (mk p 10) = nI (fa_cnt p 10) := by
  have h := bc_dec (p 0) (p 1) (p 2) (p 3) (p 4) (p 5) (p 6) (p 7) (p 8) (p 9)
  have e : ∀ i, i < 10 → p i = ([p 0, p 1, p 2, p 3, p 4, p 5, p 6, p 7, p 8, p 9] : List Bool).getD i false := by
    intro i hi
    match i, hi with
    | 0, _ => rfl
    | 1, _ => rfl
    | 2, _ => rfl
    | 3, _ => rfl
    | 4, _ => rfl
    | 5, _ => rfl
    | 6, _ => rfl
    | 7, _ => rfl
    | 8, _ => rfl
    | 9, _ => rfl
    | k + 10, h => omega
  rw [mk_cong e, fa_cnt_cong e]
  exact h
theorem fa_cnt_wide {p : Nat → Bool} {n : Nat} : ∀ {k : Nat}, n ≤ k → fa_cnt (fun i => decide (i < n) && p i) k = fa_cnt p n
  | 0, h => by rw [Nat.le_zero.mp h]; rfl
  | k + 1, h => by
    by_cases e : n = k + 1
    · rw [e]
      exact fa_cnt_cong fun i hi => by rw [decide_eq_true hi, Bool.true_and]
    · rw [fa_cnt_no (by rw [decide_eq_false (by omega), Bool.false_and])]
      exact fa_cnt_wide (by omega)
theorem bc_mk {p : Nat → Bool} {n : Nat} (hn : n ≤ 10) : bcI (mk p n) = nI (fa_cnt p n) := by
  rw [mk_wide hn (by omega), bc_10, fa_cnt_wide hn]
/-! numbers -/
abbrev toN (x : Int32) : Nat := x.toNatClampNeg
theorem toN_nI {n : Nat} (h : n < 2 ^ 31) : toN (nI n) = n := nI_clamp h
theorem nI_toN {x : Int32} (h : 0 ≤ x.toInt) : x = nI (toN x) := by
  apply Int32.toInt_inj.mp
  rw [nI_toInt (Int32.toNatClampNeg_lt x)]
  show x.toInt = ((x.toInt.toNat : Nat) : Int)
  omega
/-- an int within bounds is its number -/
theorem nI_range {x : Int32} {a b : Nat} (ha : a < 2 ^ 31) (hb : b < 2 ^ 31) (h1 : nI a ≤ x) (h2 : x ≤ nI b) : x = nI (toN x) ∧ a ≤ toN x ∧ toN x ≤ b := by
  rw [Int32.le_iff_toInt_le, nI_toInt ha] at h1
  rw [Int32.le_iff_toInt_le, nI_toInt hb] at h2
  refine ⟨nI_toN (by omega), ?_, ?_⟩
  · show a ≤ x.toInt.toNat; omega
  · show x.toInt.toNat ≤ b; omega
theorem nI_iff {a b : Nat} (ha : a < 2 ^ 31) (hb : b < 2 ^ 31) : nI a = nI b ↔ a = b := nI_eq ha hb
def hi16 (s : Int32) : Nat := s.toBitVec.toNat / 65536
theorem hi16_lt (s : Int32) : hi16 s < 65536 := by
  have := s.toBitVec.isLt
  unfold hi16
  omega
theorem ushr16 (s : Int32) : g_ushr s (nI 16) = nI (hi16 s) := by
  have h := pk_ushr s (nI 16) 16 (by decide)
  unfold g_ushr
  apply Int32.toBitVec_inj.mp
  apply BitVec.eq_of_toNat_eq
  rw [h, pk_tn (by have := hi16_lt s; omega)]
  rfl
def lotN (s : Int32) (k : Nat) : Nat := hi16 s % k
theorem lot_n (s : Int32) {k : Nat} (h0 : 0 < k) (h : k < 2 ^ 31) : lotI s (nI k) = nI (lotN s k) := by
  unfold lotI
  have h1 := hi16_lt s
  rw [if_pos (show (0 : Int32) < nI k from nI_lt (a := 0) h0 h), ushr16, pk_rem (by omega) h0 h]
  rfl
theorem lotN_lt (s : Int32) {k : Nat} (h0 : 0 < k) : lotN s k < k := Nat.mod_lt _ h0
/-- the distance of two numbers -/
def dN (a b : Nat) : Nat := if a ≤ b then b - a else a - b
theorem dN_comm (a b : Nat) : dN a b = dN b a := by unfold dN; split <;> split <;> omega
theorem dN_le {a b c : Nat} (ha : a ≤ c) (hb : b ≤ c) : dN a b ≤ c := by unfold dN; split <;> omega
theorem dN_self (a : Nat) : dN a a = 0 := by unfold dN; simp
theorem abs_n {a b : Nat} (ha : a < 2 ^ 30) (hb : b < 2 ^ 30) : (if 0 ≤ nI a - nI b then nI a - nI b else 0 - (nI a - nI b)) = nI (dN a b) := by
  have h := pk_sub_toInt ha hb
  by_cases hab : a < b
  · have hn : ¬ 0 ≤ nI a - nI b := by rw [Int32.le_iff_toInt_le, h, Int32.toInt_zero]; omega
    rw [if_neg hn]
    have : nI a - nI b = - nI (b - a) := by rw [← pk_sub (by omega : a ≤ b)]; exact (Int32.neg_sub ..).symm
    rw [this, Int32.zero_sub, Int32.neg_neg, dN, if_pos (by omega)]
  · have hn : 0 ≤ nI a - nI b := by rw [Int32.le_iff_toInt_le, h, Int32.toInt_zero]; omega
    rw [if_pos hn, pk_sub (by omega), dN]
    by_cases e : a ≤ b
    · rw [if_pos e, show a = b by omega]
    · rw [if_neg e]
/-! a row laid up to n -/
theorem cpy_0 (f g : Nat → Int32) : cpy 0 f g = g := by funext j; unfold cpy; rw [if_neg (Nat.not_lt_zero j)]
theorem cpy_s {i : Nat} {f g : Nat → Int32} {x : Int32} (h : x = f i) : upd (cpy i f g) i x = cpy (i + 1) f g := by
  funext j
  unfold upd cpy
  by_cases e : j = i
  · subst e; rw [if_pos rfl, if_pos (Nat.lt_succ_self j), h]
  · rw [if_neg e]
    by_cases e2 : j < i
    · rw [if_pos e2, if_pos (by omega)]
    · rw [if_neg e2, if_neg (by omega)]
theorem cpy_k {i : Nat} {f g : Nat → Int32} (h : g i = f i) : cpy i f g = cpy (i + 1) f g := by
  funext j
  unfold cpy
  by_cases e : j = i
  · subst e; rw [if_neg (Nat.lt_irrefl j), if_pos (Nat.lt_succ_self j), h]
  · by_cases e2 : j < i
    · rw [if_pos e2, if_pos (by omega)]
    · rw [if_neg e2, if_neg (by omega)]
theorem cpy_in {n j : Nat} {f g : Nat → Int32} (h : j < n) : cpy n f g j = f j := if_pos h
theorem cpy_out {n j : Nat} {f g : Nat → Int32} (h : n ≤ j) : cpy n f g j = g j := if_neg (by omega)
theorem upd_s (f : Nat → Int32) (k : Nat) (x : Int32) : upd f k x k = x := if_pos rfl
theorem upd_n {f : Nat → Int32} {k j : Nat} {x : Int32} (h : j ≠ k) : upd f k x j = f j := if_neg h
theorem upd_upd (f : Nat → Int32) (k : Nat) (x y : Int32) : upd (upd f k x) k y = upd f k y := by
  funext j
  unfold upd
  split <;> rfl
theorem upd_comm (f : Nat → Int32) {i k : Nat} (h : i ≠ k) (x y : Int32) : upd (upd f i x) k y = upd (upd f k y) i x := by
  funext j
  unfold upd
  by_cases h1 : j = k
  · subst h1; rw [if_pos rfl, if_neg (Ne.symm h), if_pos rfl]
  · rw [if_neg h1, if_neg h1]
theorem fa_first_is {p : Nat → Bool} {i : Nat} (h1 : ∀ k, k < i → p k = false) (h2 : p i = true) : ∀ {n : Nat}, i < n → fa_first p n = i := by
  intro n hn
  have e := fa_first_le p n
  rcases Nat.lt_trichotomy (fa_first p n) i with h | h | h
  · have := fa_first_yes p n (by omega)
    rw [h1 _ h] at this
    exact absurd this (by decide)
  · exact h
  · have := fa_first_no p n i h
    rw [h2] at this
    exact absurd this (by decide)
theorem fa_first_all {p : Nat → Bool} {n : Nat} (h : ∀ k, k < n → p k = false) : fa_first p n = n := by
  have e := fa_first_le p n
  by_cases q : fa_first p n < n
  · have := fa_first_yes p n q
    rw [h _ q] at this
    exact absurd this (by decide)
  · omega
/-! the seed, the list -/
def sdF (rev : Int32) (sec : Nat → Int32) (s0 : Int32) : Nat → Int32
  | 0 => s0
  | m + 1 => if hs rev m then mixI (sdF rev sec s0 m ^^^ sec m) else sdF rev sec s0 m
theorem sd_t {rev : Int32} {sec : Nat → Int32} {s0 : Int32} {m : Nat} (h : hs rev m) : sdF rev sec s0 (m + 1) = mixI (sdF rev sec s0 m ^^^ sec m) := by rw [sdF, if_pos h]
theorem sd_f {rev : Int32} {sec : Nat → Int32} {s0 : Int32} {m : Nat} (h : ¬ hs rev m) : sdF rev sec s0 (m + 1) = sdF rev sec s0 m := by rw [sdF, if_neg h]
def wSum (W : Nat → Nat) (ls : Int32) : Nat → Nat
  | 0 => 0
  | m + 1 => if hs ls m then wSum W ls m else wSum W ls m + W m
theorem wS_t {W : Nat → Nat} {ls : Int32} {m : Nat} (h : hs ls m) : wSum W ls (m + 1) = wSum W ls m := by rw [wSum, if_pos h]
theorem wS_f {W : Nat → Nat} {ls : Int32} {m : Nat} (h : ¬ hs ls m) : wSum W ls (m + 1) = wSum W ls m + W m := by rw [wSum, if_neg h]
theorem wS_le {W : Nat → Nat} {ls : Int32} {c : Nat} : ∀ {n : Nat}, (∀ m, m < n → W m ≤ c) → wSum W ls n ≤ n * c
  | 0, _ => Nat.zero_le _
  | n + 1, h => by
    have ih := wS_le (ls := ls) (n := n) fun m hm => h m (Nat.lt_succ_of_lt hm)
    have h1 := h n (Nat.lt_succ_self n)
    rw [Nat.succ_mul]
    unfold wSum
    split <;> omega
theorem wS_mono {W : Nat → Nat} {ls : Int32} {a : Nat} : ∀ {n : Nat}, a ≤ n → wSum W ls a ≤ wSum W ls n
  | 0, h => by rw [Nat.le_zero.mp h]; exact Nat.le_refl _
  | n + 1, h => by
    by_cases e : a = n + 1
    · rw [e]; exact Nat.le_refl _
    · have ih := wS_mono (W := W) (ls := ls) (a := a) (n := n) (by omega)
      by_cases q : hs ls n
      · rw [wS_t q]; exact ih
      · rw [wS_f q]; omega
/-- whom a lot draws -/
def pkP (W : Nat → Nat) (ls : Int32) (lot : Nat) (m : Nat) : Bool := !bt ls m && decide (lot < wSum W ls (m + 1))
def pkM (W : Nat → Nat) (ls : Int32) (lot n : Nat) : Nat := fa_first (pkP W ls lot) n
theorem pkm_no {W : Nat → Nat} {ls : Int32} {lot : Nat} : ∀ {n : Nat}, n ≤ 32 → (∀ k, k < n → pkP W ls lot k = false) → wSum W ls n ≤ lot
  | 0, _, _ => Nat.zero_le _
  | n + 1, hn, h => by
    have ih := pkm_no (n := n) (by omega) fun k hk => h k (Nat.lt_succ_of_lt hk)
    have h1 := h n (Nat.lt_succ_self n)
    by_cases e : hs ls n
    · rw [wS_t e]; exact ih
    · have e2 := (nhs_bt (by omega)).mp e
      unfold pkP at h1
      rw [e2] at h1
      simp only [Bool.not_false, Bool.true_and, decide_eq_false_iff_not] at h1
      omega
theorem pkm_lt {W : Nat → Nat} {ls : Int32} {lot n : Nat} (hn : n ≤ 32) (h : lot < wSum W ls n) : pkM W ls lot n < n ∧ ¬ hs ls (pkM W ls lot n) := by
  have hlt : pkM W ls lot n < n := by
    apply Nat.lt_of_le_of_ne (fa_first_le _ n)
    intro e
    have := pkm_no (W := W) (ls := ls) (lot := lot) hn fun k hk => fa_first_no _ n k (by rw [show fa_first (pkP W ls lot) n = n from e]; exact hk)
    omega
  refine ⟨hlt, ?_⟩
  have := fa_first_yes (pkP W ls lot) n hlt
  rw [nhs_bt (by omega)]
  unfold pkP at this
  simp only [Bool.and_eq_true, Bool.not_eq_true'] at this
  exact this.1
def dSt (seed : Int32) : Nat → Int32
  | 0 => seed
  | k + 1 => mixI (dSt seed k)
def dPk (W : Nat → Nat) (n : Nat) (ls s : Int32) : Nat := pkM W ls (lotN s (wSum W ls n)) n
def dLs (W : Nat → Nat) (n : Nat) (seed : Int32) : Nat → Int32
  | 0 => nI 0
  | k + 1 => dLs W n seed k ||| bit (dPk W n (dLs W n seed k) (dSt seed (k + 1)))
/-- the member at rank k of the list that a seed draws -/
def dM (W : Nat → Nat) (n : Nat) (seed : Int32) (k : Nat) : Nat := dPk W n (dLs W n seed k) (dSt seed (k + 1))
theorem dr_all {W : Nat → Nat} {n : Nat} (hn : n ≤ 32) (hW : ∀ m, m < n → 1 ≤ W m) (seed : Int32) : ∀ k, k ≤ n →
    (∀ j, j < k → dM W n seed j < n) ∧ (∀ m, m < 32 → (hs (dLs W n seed k) m ↔ ∃ j, j < k ∧ dM W n seed j = m)) ∧ (∀ i j, i < j → j < k → dM W n seed i ≠ dM W n seed j) ∧ (k < n → 0 < wSum W (dLs W n seed k) n) := by
  have pos : ∀ k, k < n → (∀ j, j < k → dM W n seed j < n) → (∀ m, m < 32 → (hs (dLs W n seed k) m ↔ ∃ j, j < k ∧ dM W n seed j = m)) → 0 < wSum W (dLs W n seed k) n := by
    intro k hk h1 h2
    by_cases e : ∃ m, m < n ∧ ¬ hs (dLs W n seed k) m
    · obtain ⟨m, hm, hno⟩ := e
      have a := wS_f (W := W) hno
      have b := wS_mono (W := W) (ls := dLs W n seed k) (a := m + 1) (n := n) hm
      have c := hW m hm
      omega
    · exfalso
      have all : ∀ m, m < n → ∃ j, j < k ∧ dM W n seed j = m := fun m hm => (h2 m (by omega)).mp (Classical.not_not.mp fun z => e ⟨m, hm, z⟩)
      have := fb_holes k n (fun m => if h : m < n then (all m h).choose else 0) (fun i hi => by simp only [dif_pos hi]; exact (all i hi).choose_spec.1) (fun i j hij hj => by
        simp only [dif_pos (Nat.lt_trans hij hj), dif_pos hj]
        intro q
        have e1 := (all i (Nat.lt_trans hij hj)).choose_spec.2
        have e2 := (all j hj).choose_spec.2
        rw [q] at e1
        omega)
      omega
  intro k
  induction k with
  | zero =>
    intro _
    have z2 : ∀ m, m < 32 → (hs (dLs W n seed 0) m ↔ ∃ j, j < 0 ∧ dM W n seed j = m) := fun m hm => by
      rw [hs_bt hm]
      show bt (nI 0) m = true ↔ _
      rw [show bt (nI 0) m = false from b_0 m]
      exact ⟨fun q => absurd q (by decide), fun ⟨j, hj, _⟩ => absurd hj (Nat.not_lt_zero j)⟩
    exact ⟨fun j hj => absurd hj (Nat.not_lt_zero j), z2, fun i j _ hj => absurd hj (Nat.not_lt_zero j), fun h => pos 0 h (fun j hj => absurd hj (Nat.not_lt_zero j)) z2⟩
  | succ k ih =>
    intro hk
    obtain ⟨i1, i2, i3, i4⟩ := ih (by omega)
    have hw := i4 (by omega)
    have hp := pkm_lt (W := W) (ls := dLs W n seed k) (lot := lotN (dSt seed (k + 1)) (wSum W (dLs W n seed k) n)) hn (lotN_lt _ hw)
    have hlt : dM W n seed k < n := hp.1
    have hno : ¬ hs (dLs W n seed k) (dM W n seed k) := hp.2
    have c1 : ∀ j, j < k + 1 → dM W n seed j < n := fun j hj => by
      by_cases e : j = k
      · rw [e]; exact hlt
      · exact i1 j (by omega)
    have c2 : ∀ m, m < 32 → (hs (dLs W n seed (k + 1)) m ↔ ∃ j, j < k + 1 ∧ dM W n seed j = m) := fun m hm => by
      show hs (dLs W n seed k ||| bit (dM W n seed k)) m ↔ _
      rw [hs_or (by omega) hm, i2 m hm]
      constructor
      · rintro (⟨j, hj, e⟩ | e)
        · exact ⟨j, by omega, e⟩
        · exact ⟨k, by omega, e.symm⟩
      · rintro ⟨j, hj, e⟩
        by_cases ejk : j = k
        · subst ejk; exact Or.inr e.symm
        · exact Or.inl ⟨j, by omega, e⟩
    refine ⟨c1, c2, fun i j hij hj e => ?_, fun h => pos (k + 1) h c1 c2⟩
    by_cases ejk : j = k
    · subst ejk
      exact hno ((i2 _ (by omega)).mpr ⟨i, hij, e⟩)
    · exact i3 i j hij (by omega) e
