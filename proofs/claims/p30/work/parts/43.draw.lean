/-! a draw, number by number -/
theorem gd_W {T : Nat} {V : Nat → Int32} (g : Good T V) : ∀ m, m < vN V → 1 ≤ vW V m ∧ vW V m ≤ 9 := fun _ h => (gd_w g h).2
theorem nM_all {T : Nat} {V : Nat → Int32} (g : Good T V) (sd : Int32) : (∀ j, j < vN V → nM V sd j < vN V) ∧ (∀ i j, i < j → j < vN V → nM V sd i ≠ nM V sd j) := by
  have h := dr_all (W := vW V) (n := vN V) (by have := gd_n10 g; omega) (fun m hm => (gd_W g m hm).1) sd (vN V) (Nat.le_refl _)
  exact ⟨h.1, h.2.2.1⟩
theorem nM_inj {T : Nat} {V : Nat → Int32} (g : Good T V) (sd : Int32) {i j : Nat} (hi : i < vN V) (hj : j < vN V) (h : nM V sd i = nM V sd j) : i = j := by
  rcases Nat.lt_trichotomy i j with q | q | q
  · exact absurd h ((nM_all g sd).2 i j q hj)
  · exact q
  · exact absurd h.symm ((nM_all g sd).2 j i q hi)
theorem dr_vals {T : Nat} {V : Nat → Int32} (g : Good T V) (sd : Int32) : ∀ k, k ≤ vN V →
    (drF V sd k 6 = V 6 + nI 1 ∧ drF V sd k 10 = sd ∧ drF V sd k 11 = nI (vN V)) ∧
    (∀ r, r < 10 → drF V sd k (12 + r) = if r < k then nI (nM V sd r) else V (12 + r)) ∧
    (∀ m, m < 10 → drF V sd k (33 + 12 * m) = if m < k then crV V m else V (33 + 12 * m)) ∧
    (∀ m, m < 10 → drF V sd k (38 + 12 * m) = if m < k then nI 0 else V (38 + 12 * m)) ∧
    (∀ r, r < k → drF V sd k (34 + 12 * nM V sd r) = nI r) ∧
    (∀ i, i ≠ 6 → i ≠ 10 → i ≠ 11 → ¬ (12 ≤ i ∧ i < 22) → (∀ m, m < 10 → i ≠ 33 + 12 * m ∧ i ≠ 34 + 12 * m ∧ i ≠ 38 + 12 * m) → drF V sd k i = V i) := by
  have n10 := gd_n10 g
  intro k
  induction k with
  | zero =>
    intro _
    unfold drF
    refine ⟨⟨?_, ?_, upd_s _ _ _⟩, fun r hr => ?_, fun m hm => ?_, fun m hm => ?_, fun r hr => absurd hr (Nat.not_lt_zero r), fun i h6 h10 h11 _ _ => ?_⟩
    · rw [upd_n (by decide), upd_n (by decide), upd_s]
    · rw [upd_n (by decide), upd_s]
    · rw [upd_n (by omega), upd_n (by omega), upd_n (by omega), if_neg (Nat.not_lt_zero r)]
    · rw [upd_n (by omega), upd_n (by omega), upd_n (by omega), if_neg (Nat.not_lt_zero m)]
    · rw [upd_n (by omega), upd_n (by omega), upd_n (by omega), if_neg (Nat.not_lt_zero m)]
    · rw [upd_n h11, upd_n h10, upd_n h6]
  | succ k ih =>
    intro hk
    obtain ⟨⟨a1, a2, a3⟩, b, c, d, e, f⟩ := ih (by omega)
    have hM : nM V sd k < 10 := by have := (nM_all g sd).1 k hk; omega
    unfold drF
    refine ⟨⟨?_, ?_, ?_⟩, fun r hr => ?_, fun m hm => ?_, fun m hm => ?_, fun r hr => ?_, fun i h6 h10 h11 h12 hm => ?_⟩
    · rw [upd_n (by omega), upd_n (by omega), upd_n (by omega), upd_n (by omega)]; exact a1
    · rw [upd_n (by omega), upd_n (by omega), upd_n (by omega), upd_n (by omega)]; exact a2
    · rw [upd_n (by omega), upd_n (by omega), upd_n (by omega), upd_n (by omega)]; exact a3
    · rw [upd_n (by omega), upd_n (by omega), upd_n (by omega)]
      by_cases q : r = k
      · subst q; rw [upd_s, if_pos (Nat.lt_succ_self r)]
      · rw [upd_n (by omega), b r hr]
        by_cases q2 : r < k
        · rw [if_pos q2, if_pos (by omega)]
        · rw [if_neg q2, if_neg (by omega)]
    · rw [upd_n (by omega)]
      by_cases q : m = k
      · subst q; rw [upd_s, if_pos (Nat.lt_succ_self m)]
      · rw [upd_n (by omega), upd_n (by omega), upd_n (by omega), c m hm]
        by_cases q2 : m < k
        · rw [if_pos q2, if_pos (by omega)]
        · rw [if_neg q2, if_neg (by omega)]
    · by_cases q : m = k
      · subst q; rw [upd_s, if_pos (Nat.lt_succ_self m)]
      · rw [upd_n (by omega), upd_n (by omega), upd_n (by omega), upd_n (by omega), d m hm]
        by_cases q2 : m < k
        · rw [if_pos q2, if_pos (by omega)]
        · rw [if_neg q2, if_neg (by omega)]
    · rw [upd_n (by omega), upd_n (by omega)]
      by_cases q : r = k
      · subst q; rw [upd_s]
      · have hne : nM V sd r ≠ nM V sd k := (nM_all g sd).2 r k (by omega) hk
        have hr10 : nM V sd r < 10 := by have := (nM_all g sd).1 r (by omega); omega
        rw [upd_n (by omega), upd_n (by omega)]
        exact e r (by omega)
    · have h1 := hm k (by omega)
      have h2 := hm (nM V sd k) hM
      rw [upd_n h1.2.2, upd_n h1.1, upd_n h2.2.1, upd_n (by omega)]
      exact f i h6 h10 h11 h12 hm
theorem dr_rest {T : Nat} {V : Nat → Int32} (g : Good T V) (sd : Int32) {i : Nat} (h6 : i ≠ 6) (h10 : i ≠ 10) (h11 : i ≠ 11) (h12 : ¬ (12 ≤ i ∧ i < 22)) (hm : ∀ m, m < 10 → i ≠ 33 + 12 * m ∧ i ≠ 34 + 12 * m ∧ i ≠ 38 + 12 * m) : drV V sd i = V i := (dr_vals g sd _ (Nat.le_refl _)).2.2.2.2.2 i h6 h10 h11 h12 hm
theorem dr_nz {T : Nat} {V : Nat → Int32} (g : Good T V) (sd : Int32) : vN (drV V sd) = vN V ∧ vZ (drV V sd) = vN V := by
  refine ⟨congrArg toN (dr_rest g sd (by decide) (by decide) (by decide) (by decide) fun m _ => by omega), ?_⟩
  show toN (drV V sd 11) = _
  rw [show drV V sd 11 = nI (vN V) from (dr_vals g sd _ (Nat.le_refl _)).1.2.2, toN_nI (by have := gd_n10 g; omega)]
theorem good_draw {T : Nat} {V : Nat → Int32} (g : Good T V) (sd : Int32) : Good T (drV V sd) := by
  have n10 := gd_n10 g
  obtain ⟨eN, eZ⟩ := dr_nz g sd
  obtain ⟨⟨a1, a2, a3⟩, b, c, d, e, f⟩ := dr_vals g sd _ (Nat.le_refl _)
  have R : ∀ i, i ≠ 6 → i ≠ 10 → i ≠ 11 → ¬ (12 ≤ i ∧ i < 22) → (∀ m, m < 10 → i ≠ 33 + 12 * m ∧ i ≠ 34 + 12 * m ∧ i ≠ 38 + 12 * m) → drV V sd i = V i := f
  have eL : ∀ r, r < vN V → drV V sd (12 + r) = nI (nM V sd r) := fun r hr => (b r (by omega)).trans (if_pos hr)
  have vl : ∀ r, r < vN V → vL (drV V sd) r = nM V sd r := fun r hr => by
    show toN (drV V sd (12 + r)) = _
    rw [eL r hr, toN_nI (by have := (nM_all g sd).1 r hr; omega)]
  obtain ⟨⟨g1, g2⟩, g3, g6, g8, g11, ⟨g12, g13⟩, g14, g15, g16, g17, g19⟩ := g
  have g : Good T V := ⟨⟨g1, g2⟩, g3, g6, g8, g11, ⟨g12, g13⟩, g14, g15, g16, g17, g19⟩
  unfold Good
  rw [eN, eZ]
  refine ⟨⟨by rw [R 5 (by decide) (by decide) (by decide) (by decide) (fun m _ => by omega)]; exact g1, g2⟩, ?_, ?_, ?_, fun m hm => ?_, ⟨a3, Nat.le_refl _⟩, fun r hr => ⟨?_, ?_, ?_⟩, fun m hm hno => ?_, fun q hq i h1 h2 => ?_, ?_, ?_⟩
  · rw [R 0 (by decide) (by decide) (by decide) (by decide) (fun m _ => by omega)]; exact g3
  · rw [R 1 (by decide) (by decide) (by decide) (by decide) (fun m _ => by omega)]; exact g6
  · rw [R 2 (by decide) (by decide) (by decide) (by decide) (fun m _ => by omega)]; exact g8
  · have w := g11 m hm
    have q0 := R (30 + 12 * m) (by omega) (by omega) (by omega) (by omega) (fun m _ => by omega)
    have q1 := R (31 + 12 * m) (by omega) (by omega) (by omega) (by omega) (fun m _ => by omega)
    have q2 := R (32 + 12 * m) (by omega) (by omega) (by omega) (by omega) (fun m _ => by omega)
    show drV V sd (30 + 12 * m) = nI (toN (drV V sd (30 + 12 * m))) ∧ 1 ≤ toN (drV V sd (30 + 12 * m)) ∧ toN (drV V sd (30 + 12 * m)) ≤ 9 ∧ drV V sd (31 + 12 * m) = nI (toN (drV V sd (31 + 12 * m))) ∧ toN (drV V sd (31 + 12 * m)) ≤ 1000 ∧ _
    rw [q0, q1, q2]
    exact w
  · rw [vl r hr]; exact eL r hr
  · rw [vl r hr]; exact (nM_all g sd).1 r hr
  · rw [vl r hr]; exact e r hr
  · exfalso
    obtain ⟨r, hr, hrm⟩ := fb_onto (nM_all g sd).1 (nM_all g sd).2 hm
    exact hno r hr ((vl r hr).trans hrm)
  · rw [R (150 + q) (by omega) (by omega) (by omega) (by omega) (fun m _ => by omega)]; exact g16 q hq i h1 h2
  · rw [R 7 (by decide) (by decide) (by decide) (by decide) (fun m _ => by omega)]; exact g17
  · rw [R 8 (by decide) (by decide) (by decide) (by decide) (fun m _ => by omega), R 9 (by decide) (by decide) (by decide) (by decide) (fun m _ => by omega)]; exact g19
theorem sd_cong {rev : Int32} {f f2 : Nat → Int32} {s0 : Int32} : ∀ {n : Nat}, (∀ m, m < n → f m = f2 m) → sdF rev f s0 n = sdF rev f2 s0 n
  | 0, _ => rfl
  | n + 1, h => by unfold sdF; rw [sd_cong (n := n) fun m hm => h m (Nat.lt_succ_of_lt hm), h n (Nat.lt_succ_self n)]
theorem rs_draw {T : Nat} {V : Nat → Int32} {mem : gM} (g : Good T V) (r : Rel V mem) (sd : Int32) : Rel (drV V sd) (gr (gr (gr (gr mem 21 (upd (upd (upd (mem 21) 0 (V 6 + nI 1)) 1 sd) 2 (nI (vN V)))) 23 (cpy (vN V) (fun k => nI (nM V sd k)) (mem 23))) 16 (cpy (vN V) (fun _ => nI 0) (mem 16))) 10 (cpy (vN V) (elC (mem 16) (mem 10) (V 4)) (mem 10))) := by
  have n10 := gd_n10 g
  obtain ⟨eN, eZ⟩ := dr_nz g sd
  obtain ⟨⟨a1, a2, a3⟩, b, c, d, e, f⟩ := dr_vals g sd _ (Nat.le_refl _)
  have R : ∀ i, i ≠ 6 → i ≠ 10 → i ≠ 11 → ¬ (12 ≤ i ∧ i < 22) → (∀ m, m < 10 → i ≠ 33 + 12 * m ∧ i ≠ 34 + 12 * m ∧ i ≠ 38 + 12 * m) → drV V sd i = V i := f
  obtain ⟨r1, ⟨r2, r3⟩, r4, r5, ⟨r6, r7, r8⟩, r9, r10, ⟨r11, r12, r13⟩, r14⟩ := r
  refine ⟨fun k hk => by rw [R k (by omega) (by omega) (by omega) (by omega) (fun m _ => by omega)]; exact r1 k hk, ⟨by rw [R 5 (by decide) (by decide) (by decide) (by decide) (fun m _ => by omega)]; exact r2, ?_⟩, fun m hm => ?_, fun m h1 h2 => ?_, ⟨a1.symm, a2.symm, a3.symm⟩, fun q hq => ?_, fun q hq => by rw [R (150 + q) (by omega) (by omega) (by omega) (by omega) (fun m _ => by omega)]; exact r10 q hq, ⟨by rw [R 7 (by decide) (by decide) (by decide) (by decide) (fun m _ => by omega)]; exact r11, by rw [R 8 (by decide) (by decide) (by decide) (by decide) (fun m _ => by omega)]; exact r12, by rw [R 9 (by decide) (by decide) (by decide) (by decide) (fun m _ => by omega)]; exact r13⟩, fun q hq => by rw [R (360 + q) (by omega) (by omega) (by omega) (by omega) (fun m _ => by omega)]; exact r14 q hq⟩
  · rw [eN]
    refine (show mem 4 1 = _ from r3).trans (mk_cong fun m hm => ?_)
    unfold vLv
    rw [R (32 + 12 * m) (by omega) (by omega) (by omega) (by omega) (fun m _ => by omega)]
  · rw [eN] at hm
    obtain ⟨a0, a1, a2, a3, a4, a5, a6, a7⟩ := r4 m hm
    refine ⟨?_, ?_, ?_, ?_, ?_, ?_, ?_, ?_⟩
    · rw [R (30 + 12 * m) (by omega) (by omega) (by omega) (by omega) (fun m _ => by omega)]; exact a0
    · rw [R (31 + 12 * m) (by omega) (by omega) (by omega) (by omega) (fun m _ => by omega)]; exact a1
    · show cpy (vN V) _ _ m = _
      rw [cpy_in hm]
      refine Eq.trans ?_ ((c m (by omega)).trans (if_pos hm)).symm
      unfold elC crV
      rw [show mem 16 m = _ from a5, show mem 10 m = _ from a2]
    · rw [R (36 + 12 * m) (by omega) (by omega) (by omega) (by omega) (fun m _ => by omega)]; exact a3
    · rw [R (37 + 12 * m) (by omega) (by omega) (by omega) (by omega) (fun m _ => by omega)]; exact a4
    · show cpy (vN V) (fun _ => nI 0) (mem 16) m = _
      rw [cpy_in hm]
      exact ((d m (by omega)).trans (if_pos hm)).symm
    · rw [R (39 + 12 * m) (by omega) (by omega) (by omega) (by omega) (fun m _ => by omega)]; exact a6
    · rw [R (40 + 12 * m) (by omega) (by omega) (by omega) (by omega) (fun m _ => by omega)]; exact a7
  · rw [eN] at h1
    obtain ⟨a2, a3, a4, a5, a6, a7⟩ := r5 m h1 h2
    exact ⟨(cpy_out h1).trans a2, a3, a4, (show cpy (vN V) (fun _ => nI 0) (mem 16) m = 0 from (cpy_out h1).trans a5), a6, a7⟩
  · rw [eZ] at hq
    show cpy (vN V) (fun k => nI (nM V sd k)) (mem 23) q = _
    rw [cpy_in hq]
    exact ((b q (by omega)).trans (if_pos hq)).symm
