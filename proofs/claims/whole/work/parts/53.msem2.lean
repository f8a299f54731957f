/-! the model's draw of lots: whom a lot draws, found by a walk over the members -/
def chF (p : Nat → Bool) (m : Nat) : Int32 := if fa_first p m < m then nI (fa_first p m) else kNone
theorem ch_keep {p : Nat → Bool} {m : Nat} (h : fa_first p m < m) : chF p (m + 1) = chF p m := by
  have e : fa_first p (m + 1) = fa_first p m := fa_first_is (fun k hk => fa_first_no p m k hk) (fa_first_yes p m h) (by omega)
  unfold chF
  rw [e, if_pos h, if_pos (by omega)]
theorem ch_new {p : Nat → Bool} {m : Nat} (h : ¬ fa_first p m < m) (h2 : p m = true) : chF p (m + 1) = nI m := by
  have h3 := fa_first_le p m
  have e0 : fa_first p m = m := by omega
  have e : fa_first p (m + 1) = m := fa_first_is (fun k hk => fa_first_no p m k (by omega)) h2 (by omega)
  unfold chF
  rw [e, if_pos (by omega)]
theorem ch_no {p : Nat → Bool} {m : Nat} (h2 : p m = false) : chF p (m + 1) = chF p m := by
  by_cases h : fa_first p m < m
  · exact ch_keep h
  · have h3 := fa_first_le p m
    have e0 : fa_first p m = m := by omega
    have e : fa_first p (m + 1) = m + 1 := fa_first_all fun k hk => by
      by_cases e : k = m
      · rw [e]; exact h2
      · exact fa_first_no p m k (by omega)
    unfold chF
    rw [e, e0, if_neg (by omega), if_neg (by omega)]
/-- what is left of a lot behind m members is below the next one's weight: the lot falls in its share -/
theorem rem_lt {a b c : Nat} (ha : a < 2 ^ 16) (hb : b < 2 ^ 16) (hc : c < 2 ^ 16) : (nI a - nI b < nI c) ↔ a < b + c := by
  rw [Int32.lt_iff_toInt_lt, pk_sub_toInt (by omega) (by omega), nI_toInt (by omega)]
  omega
theorem rem_s {a b c : Nat} : nI a - nI b - nI c = nI a - nI (b + c) := by
  rw [← nI_add]
  exact Int32.sub_sub _ _ _
theorem lf_0 (V : Nat → Int32) : lfP V (nI 0) = vRR V := by
  funext m
  unfold lfP
  rw [show bt (nI 0) m = false from b_0 m]
  cases vRR V m <;> rfl
theorem lf_hs {V : Nat → Int32} {l : Int32} {n m : Nat} (hn : n ≤ 10) (hm : m < n) : hs (mk (lfP V l) n) m ↔ (V (38 + 12 * m) = nI 2 ∧ ¬ hs l m) := by
  rw [mk_hs (by omega) hm, nhs_bt (by omega)]
  unfold lfP vRR
  rw [Bool.and_eq_true, Bool.not_eq_true', decide_eq_true_iff]
theorem lf_p {V : Nat → Int32} {l : Int32} {n m : Nat} (hn : n ≤ 10) (hm : m < n) : lfP V l m = true ↔ (V (38 + 12 * m) = nI 2 ∧ ¬ hs l m) := by
  rw [← mk_hs (n := n) (by omega) hm]
  exact lf_hs hn hm
theorem hs_bd {x : Int32} {m : Nat} (hm : m < 32) : (x >>> (nI m &&& 31)) &&& nI 1 = if bt x m = true then nI 1 else nI 0 := sh1_eq hm
