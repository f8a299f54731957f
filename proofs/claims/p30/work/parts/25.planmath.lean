/-! a repair, worked out: for a block b, with the wait wa -/
theorem nN_ne {f : Nat} (h : f < 2 ^ 31) : ¬ nI f = kNone := fun q => by
  have := congrArg Int32.toInt q
  rw [nI_toInt h] at this
  have e : (kNone : Int32).toInt = -1000009 := by decide
  omega
theorem min_nI {a b : Nat} (ha : a < 2 ^ 31) (hb : b < 2 ^ 31) : (if nI b < nI a then nI b else nI a) = nI (min a b) := by
  by_cases q : b < a
  · rw [if_pos (nI_lt q ha), show min a b = b by omega]
  · rw [if_neg (nI_nlt (by omega) hb), show min a b = a by omega]
theorem max_nI {a b : Nat} (ha : a < 2 ^ 31) (hb : b < 2 ^ 31) : (if nI a < nI b then nI b else nI a) = nI (max a b) := by
  by_cases q : a < b
  · rw [if_pos (nI_lt q hb), show max a b = b by omega]
  · rw [if_neg (nI_nlt (by omega) ha), show max a b = a by omega]
def los (V : Nat → Int32) (b m : Nat) : Bool := vLv V m && vLo V b m
def rpG (V : Nat → Int32) (b r : Nat) : Bool := vLv V (vL V r) && !vLo V b (vL V r)
def rpK (V : Nat → Int32) (b : Nat) : Nat := fa_first (rpG V b) (vZ V)
/-- who misses a duty, of the first so many on the list -/
def msF (V : Nat → Int32) : Nat → Int32
  | 0 => nI 0
  | r + 1 => if vLv V (vL V r) = true then msF V r else msF V r ||| bit (vL V r)
theorem ms_t {V : Nat → Int32} {r : Nat} (h : vLv V (vL V r) = true) : msF V (r + 1) = msF V r := by rw [msF, if_pos h]
theorem ms_f {V : Nat → Int32} {r : Nat} (h : ¬ vLv V (vL V r) = true) : msF V (r + 1) = msF V r ||| bit (vL V r) := by rw [msF, if_neg h]
def wt (V : Nat → Int32) (b wa m : Nat) : Nat := lotN (mixI (mixI (V 10 ^^^ nI (1000 * b + m)))) wa
theorem wt_lt (V : Nat → Int32) (b m : Nat) {wa : Nat} (h : 1 ≤ wa) : wt V b wa m < wa := lotN_lt _ h
/-- the first with the smallest wait -/
def frF (q : Nat → Bool) (w : Nat → Nat) : Nat → Option Nat
  | 0 => none
  | m + 1 => if q m = true then (match frF q w m with
    | none => some m
    | some f => if w m < w f then some m else some f) else frF q w m
def oI : Option Nat → Int32
  | none => kNone
  | some m => nI m
theorem fr_no {q : Nat → Bool} {w : Nat → Nat} {m : Nat} (h : q m = false) : frF q w (m + 1) = frF q w m := by rw [frF, if_neg (by rw [h]; decide)]
theorem fr_0 {q : Nat → Bool} {w : Nat → Nat} {m : Nat} (h : q m = true) (h2 : frF q w m = none) : frF q w (m + 1) = some m := by rw [frF, if_pos h, h2]
theorem fr_lt {q : Nat → Bool} {w : Nat → Nat} {m f : Nat} (h : q m = true) (h2 : frF q w m = some f) (h3 : w m < w f) : frF q w (m + 1) = some m := by rw [frF, if_pos h, h2]; simp only; rw [if_pos h3]
theorem fr_ge {q : Nat → Bool} {w : Nat → Nat} {m f : Nat} (h : q m = true) (h2 : frF q w m = some f) (h3 : ¬ w m < w f) : frF q w (m + 1) = some f := by rw [frF, if_pos h, h2]; simp only; rw [if_neg h3]
theorem fr_some {q : Nat → Bool} {w : Nat → Nat} : ∀ {n f : Nat}, frF q w n = some f → f < n ∧ q f = true
  | 0, _, h => by cases h
  | n + 1, f, h => by
    by_cases hq : q n = true
    · cases hr : frF q w n with
      | none => rw [fr_0 hq hr] at h; cases h; exact ⟨Nat.lt_succ_self _, hq⟩
      | some x =>
        by_cases hw : w n < w x
        · rw [fr_lt hq hr hw] at h; cases h; exact ⟨Nat.lt_succ_self _, hq⟩
        · rw [fr_ge hq hr hw] at h; cases h; exact ⟨Nat.lt_succ_of_lt (fr_some hr).1, (fr_some hr).2⟩
    · rw [fr_no ((Bool.not_eq_true _).mp hq)] at h
      exact ⟨Nat.lt_succ_of_lt (fr_some h).1, (fr_some h).2⟩
theorem fr_none {q : Nat → Bool} {w : Nat → Nat} : ∀ {n : Nat}, frF q w n = none → ∀ m, m < n → q m = false
  | 0, _, m, hm => absurd hm (Nat.not_lt_zero m)
  | n + 1, h, m, hm => by
    by_cases hq : q n = true
    · exfalso
      cases hr : frF q w n with
      | none => rw [fr_0 hq hr] at h; cases h
      | some x =>
        by_cases hw : w n < w x
        · rw [fr_lt hq hr hw] at h; cases h
        · rw [fr_ge hq hr hw] at h; cases h
    · have hq := (Bool.not_eq_true _).mp hq
      rw [fr_no hq] at h
      by_cases e : m = n
      · rw [e]; exact hq
      · exact fr_none h m (by omega)
theorem fr_wide {q : Nat → Bool} {w : Nat → Nat} {n : Nat} : ∀ {k : Nat}, n ≤ k → (∀ m, n ≤ m → m < k → q m = false) → frF q w k = frF q w n
  | 0, h, _ => by rw [Nat.le_zero.mp h]
  | k + 1, h, hq => by
    by_cases e : n = k + 1
    · rw [e]
    · rw [fr_no (hq k (by omega) (Nat.lt_succ_self k))]
      exact fr_wide (by omega) fun m h1 h2 => hq m h1 (by omega)
def ask (V : Nat → Int32) (b wa f m : Nat) : Bool := los V b m && decide (wt V b wa m ≤ wt V b wa f + dN (vP V m) (vP V f))
def sil (V : Nat → Int32) (b wa f m : Nat) : Bool := los V b m && !ask V b wa f m
/-- when the repairer hears of it -/
def hdF (q : Nat → Bool) (x : Nat → Nat) (h0 : Nat) : Nat → Nat
  | 0 => h0
  | m + 1 => if q m = true then min (hdF q x h0 m) (x m) else hdF q x h0 m
theorem hd_t {q : Nat → Bool} {x : Nat → Nat} {h0 m : Nat} (h : q m = true) : hdF q x h0 (m + 1) = min (hdF q x h0 m) (x m) := by rw [hdF, if_pos h]
theorem hd_f {q : Nat → Bool} {x : Nat → Nat} {h0 m : Nat} (h : q m = false) : hdF q x h0 (m + 1) = hdF q x h0 m := by rw [hdF, if_neg (by rw [h]; decide)]
theorem hd_le {q : Nat → Bool} {x : Nat → Nat} {h0 : Nat} : ∀ n, hdF q x h0 n ≤ h0
  | 0 => Nat.le_refl _
  | n + 1 => by
    have ih := hd_le (q := q) (x := x) (h0 := h0) n
    unfold hdF
    split <;> omega
/-- when it comes to the last one -/
def tmF (q : Nat → Bool) (x : Nat → Nat) : Nat → Nat
  | 0 => 0
  | m + 1 => if q m = true then max (tmF q x m) (x m) else tmF q x m
theorem tm_t {q : Nat → Bool} {x : Nat → Nat} {m : Nat} (h : q m = true) : tmF q x (m + 1) = max (tmF q x m) (x m) := by rw [tmF, if_pos h]
theorem tm_f {q : Nat → Bool} {x : Nat → Nat} {m : Nat} (h : q m = false) : tmF q x (m + 1) = tmF q x m := by rw [tmF, if_neg (by rw [h]; decide)]
theorem tm_le {q : Nat → Bool} {x : Nat → Nat} {c : Nat} : ∀ {n : Nat}, (∀ m, m < n → x m ≤ c) → tmF q x n ≤ c
  | 0, _ => Nat.zero_le _
  | n + 1, h => by
    have ih := tm_le (q := q) (x := x) (n := n) fun m hm => h m (Nat.lt_succ_of_lt hm)
    have h1 := h n (Nat.lt_succ_self n)
    unfold tmF
    split <;> omega
/-- the repairer, its distance to a member -/
def rpM (V : Nat → Int32) (b : Nat) : Nat := vL V (rpK V b)
def dR (V : Nat → Int32) (b m : Nat) : Nat := dN (vP V m) (vP V (rpM V b))
def hrd (V : Nat → Int32) (b wa f : Nat) : Nat := hdF (ask V b wa f) (fun m => wt V b wa m + dR V b m) (wt V b wa f + dR V b f) (vN V)
def sent (V : Nat → Int32) (b wa f : Nat) : Nat := hrd V b wa f + toN (V 1) * rpK V b
def tim (V : Nat → Int32) (b wa f : Nat) : Nat := tmF (los V b) (fun m => sent V b wa f + dR V b m) (vN V)
/-- why a repair isn't possible: 0 it is -/
def hcd (V : Nat → Int32) (b : Nat) : Nat := if V 6 = 0 then 1 else if mk (los V b) (vN V) = 0 then 2 else if rpK V b < vZ V then 0 else 3
/-- what a plan holds of a repair that is possible: p its numbers, w the waits, a the times of coming; f asks first -/
def PlanOK (V : Nat → Int32) (b wa f : Nat) (p w a : Nat → Int32) : Prop :=
  frF (los V b) (wt V b wa) (vN V) = some f ∧ p 2 = mk (los V b) (vN V) ∧ p 3 = mk (ask V b wa f) (vN V) ∧ p 4 = mk (sil V b wa f) (vN V) ∧ p 5 = msF V (rpK V b) ∧ p 6 = nI f ∧ p 7 = nI (rpM V b) ∧ p 8 = nI (rpK V b) ∧ p 9 = nI (tim V b wa f) ∧
  (∀ m, m < vN V → los V b m = true → w m = nI (wt V b wa m) ∧ a m = nI (sent V b wa f + dR V b m))
/-- what working out a repair does to a memory -/
def RK (V : Nat → Int32) (b wa : Nat) (mem u : gM) : Prop :=
  ∃ p w a : Nat → Int32, u = gr (gr (gr mem 146 p) 148 w) 150 a ∧ p 0 = nI b ∧ p 1 = nI (hcd V b) ∧ (hcd V b = 0 → ∃ f, PlanOK V b wa f p w a)
theorem hc_0 {V : Nat → Int32} {b : Nat} (h : hcd V b = 0) : ¬ V 6 = 0 ∧ ¬ mk (los V b) (vN V) = 0 ∧ rpK V b < vZ V := by
  unfold hcd at h
  by_cases h1 : V 6 = 0
  · rw [if_pos h1] at h; omega
  · rw [if_neg h1] at h
    by_cases h2 : mk (los V b) (vN V) = 0
    · rw [if_pos h2] at h; omega
    · rw [if_neg h2] at h
      by_cases h3 : rpK V b < vZ V
      · exact ⟨h1, h2, h3⟩
      · rw [if_neg h3] at h; omega
theorem rp_lt {T : Nat} {V : Nat → Int32} {b : Nat} (g : Good T V) (h : rpK V b < vZ V) : rpM V b < vN V := (gd_l g h).2.1
theorem los_n {T : Nat} {V : Nat → Int32} {b m : Nat} (g : Good T V) (hb : b < 200) (h : los V b m = true) (hm : m < 32) : m < vN V := by
  apply Classical.not_not.mp
  intro q
  have := gd_lo g hb (i := m) (by omega) hm
  unfold los vLo at h
  rw [this] at h
  simp at h
theorem los_mk {T : Nat} {V : Nat → Int32} {b : Nat} (g : Good T V) (hb : b < 200) : mk (vLv V) (vN V) &&& V (150 + b) = mk (los V b) (vN V) := by
  rw [gd_lomk g hb, mk_and (by have := gd_n10 g; omega)]
  rfl
