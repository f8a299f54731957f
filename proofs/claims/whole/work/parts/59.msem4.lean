theorem fa_nf {p : Nat → Bool} {r : Nat} (h : ¬ fa_first p r < r) : fa_first p r = r := by
  have := fa_first_le p r
  omega
theorem fa_y {p : Nat → Bool} {r : Nat} (h : ¬ fa_first p r < r) (hG : p r = true) : fa_first p (r + 1) = r := by
  have e := fa_nf h
  exact fa_first_is (fun k hk => fa_first_no p r k (by omega)) hG (by omega)
theorem fa_n {p : Nat → Bool} {r : Nat} (h : ¬ fa_first p r < r) (hG : p r = false) : fa_first p (r + 1) = r + 1 := by
  have e := fa_nf h
  refine fa_first_all fun k hk => ?_
  by_cases q : k = r
  · rw [q]; exact hG
  · exact fa_first_no p r k (by omega)
theorem fa_w {p : Nat → Bool} {r n : Nat} (h : fa_first p r < r) (hn : r ≤ n) : fa_first p n = fa_first p r :=
  fa_first_is (fun k hk => fa_first_no p r k hk) (fa_first_yes p r h) (by omega)
def rpI (V : Nat → Int32) (b r : Nat) : Int32 := if fa_first (rpG V b) r < r then nI (vL V (fa_first (rpG V b) r)) else kNone
theorem rpI_y {V : Nat → Int32} {b r : Nat} (h : ¬ fa_first (rpG V b) r < r) (hG : rpG V b r = true) : nI (vL V r) = rpI V b (r + 1) := by
  unfold rpI
  rw [fa_y h hG, if_pos (by omega)]
theorem rpI_n {V : Nat → Int32} {b r : Nat} (h : ¬ fa_first (rpG V b) r < r) (hG : rpG V b r = false) : kNone = rpI V b (r + 1) := by
  unfold rpI
  rw [fa_n h hG, if_neg (by omega)]
theorem msA_y {V : Nat → Int32} {b r : Nat} (h : ¬ fa_first (rpG V b) r < r) (hG : rpG V b r = true) : msF V (fa_first (rpG V b) r) ||| nI 0 = msF V (fa_first (rpG V b) (r + 1)) := by
  rw [or_nil, fa_y h hG, fa_nf h]
theorem msA_n {V : Nat → Int32} {b r : Nat} (h : ¬ fa_first (rpG V b) r < r) (hG : rpG V b r = false) (hl : vLv V (vL V r) = true) : msF V (fa_first (rpG V b) r) ||| nI 0 = msF V (fa_first (rpG V b) (r + 1)) := by
  rw [or_nil, fa_n h hG, fa_nf h, ms_t hl]
theorem msA_d {V : Nat → Int32} {b r : Nat} (h : ¬ fa_first (rpG V b) r < r) (hG : rpG V b r = false) (hl : ¬ vLv V (vL V r) = true) : msF V (fa_first (rpG V b) r) ||| bit (vL V r) = msF V (fa_first (rpG V b) (r + 1)) := by
  rw [fa_n h hG, fa_nf h, ms_f hl]
theorem rpG_d {V : Nat → Int32} {b r : Nat} (hl : ¬ vLv V (vL V r) = true) : rpG V b r = false := by
  unfold rpG
  rw [(Bool.not_eq_true _).mp hl, Bool.false_and]
theorem rpG_n {V : Nat → Int32} {b r : Nat} (h : ¬ vLo V b (vL V r) = false) : rpG V b r = false := by
  unfold rpG
  rw [(Bool.not_eq_false _).mp h, Bool.not_true, Bool.and_false]
theorem rpG_y {V : Nat → Int32} {b r : Nat} (hl : vLv V (vL V r) = true) (h : vLo V b (vL V r) = false) : rpG V b r = true := by
  unfold rpG
  rw [hl, h]; rfl
theorem los_d {V : Nat → Int32} {b m : Nat} (hl : ¬ vLv V m = true) : los V b m = false := by
  unfold los
  rw [(Bool.not_eq_true _).mp hl, Bool.false_and]
theorem los_f {V : Nat → Int32} {b m : Nat} (h : vLo V b m = false) : los V b m = false := by
  unfold los
  rw [h, Bool.and_false]
theorem los_t {V : Nat → Int32} {b m : Nat} (hl : vLv V m = true) (h : ¬ vLo V b m = false) : los V b m = true := by
  unfold los
  rw [hl, (Bool.not_eq_false _).mp h]; rfl
/-- the model's plan of a repair that is possible -/
def MPl (V : Nat → Int32) (b wa f : Nat) (q w : Nat → Int32) : Prop :=
  frF (los V b) (wt V b wa) (vN V) = some f ∧ q 12 = mk (los V b) (vN V) ∧ q 14 = nI f ∧ q 15 = mk (ask V b wa f) (vN V) ∧ q 16 = mk (sil V b wa f) (vN V) ∧ q 17 = msF V (rpK V b) ∧ q 18 = nI (rpM V b) ∧ q 19 = nI (sent V b wa f) ∧ q 20 = nI (tim V b wa f) ∧ WL V b wa (vN V) w
/-- what works leaves -/
def WK (V : Nat → Int32) (b wa : Nat) (mem u : gM) : Prop :=
  ∃ q w : Nat → Int32, u = gr (gr mem 154 q) 160 w ∧ q 2 = mem 154 2 ∧ q 7 = mem 154 7 ∧ (hcd V b = 0 → ∃ f, MPl V b wa f q w)
theorem WK_no {V : Nat → Int32} {b wa : Nat} {mem : gM} {q : Nat → Int32} (h2 : q 2 = mem 154 2) (h7 : q 7 = mem 154 7) (hh : ¬ hcd V b = 0) : WK V b wa mem (gr mem 154 q) :=
  ⟨q, mem 160, (gr_self (gr mem 154 q) 160).symm, h2, h7, fun z => absurd z hh⟩
