/-! a repair, number by number -/
theorem mkF_old {V : Nat → Int32} {b wa : Nat} : ∀ {k : Nat} {i : Nat}, i ≠ 150 + b → i ≠ 33 + 12 * rpM V b → i ≠ 36 + 12 * rpM V b → (∀ m, m < k → i ≠ 33 + 12 * m ∧ i ≠ 37 + 12 * m) → mkF V b wa k i = V i
  | 0, i, h1, h2, h3, _ => by unfold mkF mk0; rw [upd_n h3, upd_n h2, upd_n h1]
  | k + 1, i, h1, h2, h3, h4 => by
    have ih := mkF_old (V := V) (b := b) (wa := wa) (k := k) h1 h2 h3 fun m hm => h4 m (Nat.lt_succ_of_lt hm)
    have h5 := h4 k (Nat.lt_succ_self k)
    unfold mkF
    split
    · rw [upd_n h5.2, upd_n h5.1]; exact ih
    · exact ih
theorem mkF_n {V : Nat → Int32} {b wa k : Nat} : vN (mkF V b wa k) = vN V ∧ vZ (mkF V b wa k) = vZ V :=
  ⟨congrArg toN (mkF_old (by omega) (by omega) (by omega) fun m _ => by omega), congrArg toN (mkF_old (by omega) (by omega) (by omega) fun m _ => by omega)⟩
theorem gr4 (M : gM) (A B C D R1 : Nat → Int32) : gr (gr (gr (gr (gr M 25 A) 10 C) 12 B) 14 D) 10 R1 = gr (gr (gr (gr M 25 A) 10 R1) 12 B) 14 D := by
  rw [gr_comm _ (by decide : (14 : Nat) ≠ 10), gr_comm _ (by decide : (12 : Nat) ≠ 10), gr_gr]
/-- what carrying out a plan does to a memory -/
def coU (M : gM) (n b rp md : Nat) : gM :=
  gr (gr (gr (gr (gr (gr M 25 (upd (M 25) b (M 25 b &&& (M 146 2 ^^^ (-1 : Int32))))) 10 (cpy n (coC (M 146 5) (M 3 4) (upd (M 10) rp (M 10 rp + M 3 3))) (upd (M 10) rp (M 10 rp + M 3 3)))) 12 (upd (M 12) rp (M 12 rp + nI 1))) 14 (cpy n (coM (M 146 5) (M 14)) (M 14))) 28 (lay7 (M 28) (md % 20 * 7) (M 146 0) (M 21 0) (M 146 7) (M 146 3) (M 146 4) (M 146 5) (M 146 9))) 26 (upd (upd (upd (M 26) 0 (nI (md + 1))) 1 (M 26 1 + bcI (M 146 3))) 2 (M 26 2 + bcI (M 146 4)))
theorem rs_mkF {T : Nat} {V : Nat → Int32} {M : gM} {b wa f : Nat} {w a : Nat → Int32} (g : Good T V) (r : Rel V M) (hb : b < 200) (hk : PlanOK V b wa f (M 146) w a) (hrk : rpK V b < vZ V) : ∀ k, k ≤ vN V →
    Rel (mkF V b wa k) (gr (gr (gr (gr M 25 (upd (M 25) b (M 25 b &&& (M 146 2 ^^^ (-1 : Int32))))) 10 (cpy k (coC (M 146 5) (M 3 4) (upd (M 10) (rpM V b) (M 10 (rpM V b) + M 3 3))) (upd (M 10) (rpM V b) (M 10 (rpM V b) + M 3 3)))) 12 (upd (M 12) (rpM V b) (M 12 (rpM V b) + nI 1))) 14 (cpy k (coM (M 146 5) (M 14)) (M 14))) := by
  have n10 := gd_n10 g
  have z10 : vZ V ≤ 10 := by have := (gd_z g).2; omega
  have hrn := rp_lt g hrk
  obtain ⟨k1, k2, k3, k4, k5, k6, k7, k8, k9, -⟩ := hk
  intro k
  induction k with
  | zero =>
    intro _
    rw [cpy_0, cpy_0, show M 14 = (gr (gr (gr M 25 (upd (M 25) b (M 25 b &&& (M 146 2 ^^^ (-1 : Int32))))) 10 (upd (M 10) (rpM V b) (M 10 (rpM V b) + M 3 3))) 12 (upd (M 12) (rpM V b) (M 12 (rpM V b) + nI 1))) 14 from rfl, gr_self]
    unfold mkF mk0
    rw [r_lo r hb, k2, r_cr r hrn, r_mk r hrn, r_set r (by decide : 3 < 5)]
    have s1 := rs_lo r hb n10 z10 (V (150 + b) &&& (mk (los V b) (vN V) ^^^ (-1)))
    have s2 := rs_cr s1 (j := rpM V b) (by rw [vN_upd (by omega)]; exact hrn) (by rw [vN_upd (by omega)]; exact n10) (by rw [vZ_upd (by omega)]; exact z10) (V (33 + 12 * rpM V b) + V 3)
    exact rs_mk s2 (j := rpM V b) (by rw [vN_upd (by omega), vN_upd (by omega)]; exact hrn) (by rw [vN_upd (by omega), vN_upd (by omega)]; exact n10) (by rw [vZ_upd (by omega), vZ_upd (by omega)]; exact z10) (V (36 + 12 * rpM V b) + nI 1)
  | succ k ih =>
    intro hk
    have ih := ih (by omega)
    obtain ⟨e1, e2⟩ := mkF_n (V := V) (b := b) (wa := wa) (k := k)
    by_cases q : hs (msF V (rpK V b)) k
    · have c1 : upd (M 10) (rpM V b) (M 10 (rpM V b) + M 3 3) k = mkF V b wa k (33 + 12 * k) := by
        have := r_cr ih (m := k) (by rw [e1]; omega)
        rw [← this]
        exact (cpy_out (Nat.le_refl k)).symm
      have s1 := rs_cr ih (j := k) (by rw [e1]; omega) (by rw [e1]; exact n10) (by rw [e2]; exact z10) (mkF V b wa k (33 + 12 * k) + -(V 4))
      have s2 := rs_mi s1 (j := k) (by rw [vN_upd (by omega), e1]; omega) (by rw [vN_upd (by omega), e1]; exact n10) (by rw [vZ_upd (by omega), e2]; exact z10) (V (37 + 12 * k) + nI 1)
      have e : mkF V b wa (k + 1) = upd (upd (mkF V b wa k) (33 + 12 * k) (mkF V b wa k (33 + 12 * k) + -(V 4))) (37 + 12 * k) (V (37 + 12 * k) + nI 1) := by rw [mkF, if_pos q]
      rw [e]
      rw [gr4, gr_gr] at s2
      rw [← cpy_s (f := coC (M 146 5) (M 3 4) (upd (M 10) (rpM V b) (M 10 (rpM V b) + M 3 3))) (x := mkF V b wa k (33 + 12 * k) + -(V 4)) (by rw [coC, k5, if_pos q, c1, r_set r (by decide : 4 < 5)]), ← cpy_s (f := coM (M 146 5) (M 14)) (x := V (37 + 12 * k) + nI 1) (by rw [coM, k5, if_pos q, r_mi r (by omega)])]
      exact s2
    · rw [← cpy_k (f := coC (M 146 5) (M 3 4) (upd (M 10) (rpM V b) (M 10 (rpM V b) + M 3 3))) (by rw [coC, k5, if_neg q]), ← cpy_k (f := coM (M 146 5) (M 14)) (by rw [coM, k5, if_neg q])]
      rw [mkF, if_neg q]
      exact ih
theorem fF_eq {V : Nat → Int32} {b wa f : Nat} (h : frF (los V b) (wt V b wa) (vN V) = some f) : fF V b wa = f := by unfold fF; rw [h]; rfl
theorem rs_rep {T : Nat} {V : Nat → Int32} {M : gM} {b wa f : Nat} {w a : Nat → Int32} (g : Good T V) (hT : T < 2 ^ 20) (r : Rel V M) (hb : b < 200) (h0 : M 146 0 = nI b) (hk : PlanOK V b wa f (M 146) w a) (hrk : rpK V b < vZ V) : Rel (rpV V b wa) (coU M (vN V) b (rpM V b) (toN (V 7))) := by
  have n10 := gd_n10 g
  have z10 : vZ V ≤ 10 := by have := (gd_z g).2; omega
  have s := rs_mkF g r hb hk hrk (vN V) (Nat.le_refl _)
  obtain ⟨e1, e2⟩ := mkF_n (V := V) (b := b) (wa := wa) (k := vN V)
  obtain ⟨k1, k2, k3, k4, k5, k6, k7, k8, k9, -⟩ := hk
  rw [k5] at s
  have hm : toN (V 7) % 20 < 20 := Nat.mod_lt _ (by decide)
  unfold coU rpV
  rw [fF_eq k1]
  dsimp only
  rw [show 360 + 7 * (toN (V 7) % 20) = 360 + toN (V 7) % 20 * 7 by omega]
  rw [h0, show M 21 0 = V 6 from r_rd r, k7, k3, k4, k5, k9, r_ask r g, r_sil r g, bc_mk n10, bc_mk n10, nI_add, nI_add]
  have t0 := rs_nu s (j := toN (V 7) % 20 * 7) (by omega) (by rw [e1]; exact n10) (by rw [e2]; exact z10) (nI b)
  have t1 := rs_nu t0 (j := toN (V 7) % 20 * 7 + 1) (by omega) (by rw [vN_upd (by omega), e1]; exact n10) (by rw [vZ_upd (by omega), e2]; exact z10) (V 6)
  have t2 := rs_nu t1 (j := toN (V 7) % 20 * 7 + 2) (by omega) (by rw [vN_upd (by omega), vN_upd (by omega), e1]; exact n10) (by rw [vZ_upd (by omega), vZ_upd (by omega), e2]; exact z10) (nI (rpM V b))
  have t3 := rs_nu t2 (j := toN (V 7) % 20 * 7 + 3) (by omega) (by rw [vN_upd (by omega), vN_upd (by omega), vN_upd (by omega), e1]; exact n10) (by rw [vZ_upd (by omega), vZ_upd (by omega), vZ_upd (by omega), e2]; exact z10) (mk (ask V b wa f) (vN V))
  have t4 := rs_nu t3 (j := toN (V 7) % 20 * 7 + 4) (by omega) (by rw [vN_upd (by omega), vN_upd (by omega), vN_upd (by omega), vN_upd (by omega), e1]; exact n10) (by rw [vZ_upd (by omega), vZ_upd (by omega), vZ_upd (by omega), vZ_upd (by omega), e2]; exact z10) (mk (sil V b wa f) (vN V))
  have t5 := rs_nu t4 (j := toN (V 7) % 20 * 7 + 5) (by omega) (by rw [vN_upd (by omega), vN_upd (by omega), vN_upd (by omega), vN_upd (by omega), vN_upd (by omega), e1]; exact n10) (by rw [vZ_upd (by omega), vZ_upd (by omega), vZ_upd (by omega), vZ_upd (by omega), vZ_upd (by omega), e2]; exact z10) (msF V (rpK V b))
  have t6 := rs_nu t5 (j := toN (V 7) % 20 * 7 + 6) (by omega) (by rw [vN_upd (by omega), vN_upd (by omega), vN_upd (by omega), vN_upd (by omega), vN_upd (by omega), vN_upd (by omega), e1]; exact n10) (by rw [vZ_upd (by omega), vZ_upd (by omega), vZ_upd (by omega), vZ_upd (by omega), vZ_upd (by omega), vZ_upd (by omega), e2]; exact z10) (nI (tim V b wa f))
  rw [gr_s, gr_gr, gr_s, gr_gr, gr_s, gr_gr, gr_s, gr_gr, gr_s, gr_gr, gr_s, gr_gr] at t6
  have u0 := rs_ma t6 (by rw [vN_upd (by omega), vN_upd (by omega), vN_upd (by omega), vN_upd (by omega), vN_upd (by omega), vN_upd (by omega), vN_upd (by omega), e1]; exact n10) (by rw [vZ_upd (by omega), vZ_upd (by omega), vZ_upd (by omega), vZ_upd (by omega), vZ_upd (by omega), vZ_upd (by omega), vZ_upd (by omega), e2]; exact z10) (nI (toN (V 7) + 1))
  have u1 := rs_as u0 (by rw [vN_upd (by omega), vN_upd (by omega), vN_upd (by omega), vN_upd (by omega), vN_upd (by omega), vN_upd (by omega), vN_upd (by omega), vN_upd (by omega), e1]; exact n10) (by rw [vZ_upd (by omega), vZ_upd (by omega), vZ_upd (by omega), vZ_upd (by omega), vZ_upd (by omega), vZ_upd (by omega), vZ_upd (by omega), vZ_upd (by omega), e2]; exact z10) (nI (toN (V 8) + fa_cnt (ask V b wa f) (vN V)))
  have u2 := rs_si u1 (by rw [vN_upd (by omega), vN_upd (by omega), vN_upd (by omega), vN_upd (by omega), vN_upd (by omega), vN_upd (by omega), vN_upd (by omega), vN_upd (by omega), vN_upd (by omega), e1]; exact n10) (by rw [vZ_upd (by omega), vZ_upd (by omega), vZ_upd (by omega), vZ_upd (by omega), vZ_upd (by omega), vZ_upd (by omega), vZ_upd (by omega), vZ_upd (by omega), vZ_upd (by omega), e2]; exact z10) (nI (toN (V 9) + fa_cnt (sil V b wa f) (vN V)))
  rw [gr_s, gr_gr, gr_s, gr_gr] at u2
  simp only [← Nat.add_assoc] at u2
  exact u2
/-! Good, for the rest of the acts -/
theorem good_lo {T : Nat} {V : Nat → Int32} (g : Good T V) {b : Nat} (hb : b < 200) {x : Int32} (hx : ∀ i, vN V ≤ i → i < 32 → bt x i = false) : Good T (upd V (150 + b) x) := by
  obtain ⟨g1, g2, g3, g4, g5, g6, g7, g8, g9, g10, g11⟩ := g
  have n10 := g1.2
  have z10 := g6.2
  have eN : vN (upd V (150 + b) x) = vN V := vN_upd (by omega)
  have eZ : vZ (upd V (150 + b) x) = vZ V := vZ_upd (by omega)
  have R : ∀ i, i < 150 → upd V (150 + b) x i = V i := fun i hi => upd_n (by omega)
  unfold Good
  rw [eN, eZ]
  refine ⟨by rw [R 5 (by decide)]; exact g1, by rw [R 0 (by decide)]; exact g2, by rw [R 1 (by decide)]; exact g3, by rw [R 2 (by decide)]; exact g4, fun m hm => ?_, by rw [R 11 (by decide)]; exact g6, fun r hr => ?_, fun m hm hno => ?_, fun q hq i h1 h2 => ?_, by rw [R 7 (by decide)]; exact g10, by rw [R 8 (by decide), R 9 (by decide)]; exact g11⟩
  · have w := g5 m hm
    show upd V (150 + b) x (30 + 12 * m) = nI (toN (upd V (150 + b) x (30 + 12 * m))) ∧ 1 ≤ toN (upd V (150 + b) x (30 + 12 * m)) ∧ toN (upd V (150 + b) x (30 + 12 * m)) ≤ 9 ∧ upd V (150 + b) x (31 + 12 * m) = nI (toN (upd V (150 + b) x (31 + 12 * m))) ∧ toN (upd V (150 + b) x (31 + 12 * m)) ≤ 1000 ∧ _
    rw [R (30 + 12 * m) (by omega), R (31 + 12 * m) (by omega), R (32 + 12 * m) (by omega)]
    exact w
  · have w := g7 r hr
    have e : vL (upd V (150 + b) x) r = vL V r := congrArg toN (R (12 + r) (by omega))
    rw [e, R (12 + r) (by omega), R (34 + 12 * vL V r) (by have := w.2.1; omega)]
    exact w
  · rw [R (34 + 12 * m) (by omega)]
    exact g8 m hm fun r hr => by
      have w := hno r hr
      rw [show vL (upd V (150 + b) x) r = vL V r from congrArg toN (R (12 + r) (by omega))] at w
      exact w
  · by_cases e : q = b
    · subst e; rw [upd_s]; exact hx i h1 h2
    · rw [upd_n (by omega)]; exact g9 q hq i h1 h2
theorem good_cnt {T : Nat} {V : Nat → Int32} (g : Good T V) (hT : T < 2 ^ 20) {c1 c2 : Nat} (hc : c1 + c2 ≤ 10) : Good (T + 1) (upd (upd (upd V 7 (nI (toN (V 7) + 1))) 8 (nI (toN (V 8) + c1))) 9 (nI (toN (V 9) + c2))) := by
  have gm := gd_made g
  have ga := gd_asks g
  obtain ⟨g1, g2, g3, g4, g5, g6, g7, g8, g9, g10, g11⟩ := g
  have R : ∀ i, i ≠ 7 → i ≠ 8 → i ≠ 9 → upd (upd (upd V 7 (nI (toN (V 7) + 1))) 8 (nI (toN (V 8) + c1))) 9 (nI (toN (V 9) + c2)) i = V i := fun i h7 h8 h9 => by rw [upd_n h9, upd_n h8, upd_n h7]
  generalize hV2 : upd (upd (upd V 7 (nI (toN (V 7) + 1))) 8 (nI (toN (V 8) + c1))) 9 (nI (toN (V 9) + c2)) = V2 at R ⊢
  have v7 : V2 7 = nI (toN (V 7) + 1) := by rw [← hV2, upd_n (by decide), upd_n (by decide), upd_s]
  have v8 : V2 8 = nI (toN (V 8) + c1) := by rw [← hV2, upd_n (by decide), upd_s]
  have v9 : V2 9 = nI (toN (V 9) + c2) := by rw [← hV2, upd_s]
  have n10 := g1.2
  have z10 := g6.2
  have eN : vN V2 = vN V := congrArg toN (R 5 (by decide) (by decide) (by decide))
  have eZ : vZ V2 = vZ V := congrArg toN (R 11 (by decide) (by decide) (by decide))
  unfold Good
  rw [eN, eZ]
  refine ⟨by rw [R 5 (by decide) (by decide) (by decide)]; exact g1, by rw [R 0 (by decide) (by decide) (by decide)]; exact g2, by rw [R 1 (by decide) (by decide) (by decide)]; exact g3, by rw [R 2 (by decide) (by decide) (by decide)]; exact g4, fun m hm => ?_, by rw [R 11 (by decide) (by decide) (by decide)]; exact g6, fun r hr => ?_, fun m hm hno => ?_, fun q hq i h1 h2 => ?_, ?_, ?_⟩
  · have w := g5 m hm
    show V2 (30 + 12 * m) = nI (toN (V2 (30 + 12 * m))) ∧ 1 ≤ toN (V2 (30 + 12 * m)) ∧ toN (V2 (30 + 12 * m)) ≤ 9 ∧ V2 (31 + 12 * m) = nI (toN (V2 (31 + 12 * m))) ∧ toN (V2 (31 + 12 * m)) ≤ 1000 ∧ _
    rw [R (30 + 12 * m) (by omega) (by omega) (by omega), R (31 + 12 * m) (by omega) (by omega) (by omega), R (32 + 12 * m) (by omega) (by omega) (by omega)]
    exact w
  · have w := g7 r hr
    have e : vL V2 r = vL V r := congrArg toN (R (12 + r) (by omega) (by omega) (by omega))
    rw [e, R (12 + r) (by omega) (by omega) (by omega), R (34 + 12 * vL V r) (by omega) (by omega) (by omega)]
    exact w
  · rw [R (34 + 12 * m) (by omega) (by omega) (by omega)]
    exact g8 m hm fun r hr => by
      have w := hno r hr
      rw [show vL V2 r = vL V r from congrArg toN (R (12 + r) (by omega) (by omega) (by omega))] at w
      exact w
  · rw [R (150 + q) (by omega) (by omega) (by omega)]; exact g9 q hq i h1 h2
  · rw [v7, toN_nI (by omega)]; exact ⟨rfl, by omega⟩
  · rw [v8, v9, toN_nI (by omega), toN_nI (by omega)]; exact ⟨rfl, rfl, by omega⟩
theorem cnt_as {V : Nat → Int32} {b wa f : Nat} : ∀ n, fa_cnt (ask V b wa f) n + fa_cnt (sil V b wa f) n ≤ n
  | 0 => Nat.le_refl _
  | n + 1 => by
    have ih := cnt_as (V := V) (b := b) (wa := wa) (f := f) n
    by_cases h : ask V b wa f n = true
    · have h2 : sil V b wa f n = false := by unfold sil; rw [h]; simp
      rw [fa_cnt_yes h, fa_cnt_no h2]; omega
    · have h := (Bool.not_eq_true _).mp h
      rw [fa_cnt_no h]
      cases h2 : sil V b wa f n
      · rw [fa_cnt_no h2]; omega
      · rw [fa_cnt_yes h2]; omega
theorem lay7_out {f : Nat → Int32} {k i : Nat} {a0 a1 a2 a3 a4 a5 a6 : Int32} (h : i < k ∨ k + 7 ≤ i) : lay7 f k a0 a1 a2 a3 a4 a5 a6 i = f i := by
  unfold lay7
  rw [upd_n (by omega), upd_n (by omega), upd_n (by omega), upd_n (by omega), upd_n (by omega), upd_n (by omega), upd_n (by omega)]
theorem good_rep {T : Nat} {V : Nat → Int32} {b wa : Nat} (g : Good T V) (hT : T < 2 ^ 20) (hb : b < 200) (hrk : rpK V b < vZ V) : Good (T + 1) (rpV V b wa) := by
  have n10 := gd_n10 g
  have hrn := rp_lt g hrk
  have s1 := good_lo g hb (x := V (150 + b) &&& (mk (los V b) (vN V) ^^^ (-1))) fun i h1 h2 => by rw [b_and, gd_lo g hb h1 h2, Bool.false_and]
  have hm : toN (V 7) % 20 < 20 := Nat.mod_lt _ (by decide)
  have key : ∀ k, k ≤ vN V → ∀ i, (∀ m, m < 10 → i ≠ 33 + 12 * m ∧ i ≠ 36 + 12 * m ∧ i ≠ 37 + 12 * m) → mkF V b wa k i = upd V (150 + b) (V (150 + b) &&& (mk (los V b) (vN V) ^^^ (-1))) i := by
    intro k
    induction k with
    | zero =>
      intro _ i hi
      have h1 := hi (rpM V b) (by omega)
      unfold mkF mk0
      rw [upd_n h1.2.1, upd_n h1.1]
    | succ k ih =>
      intro hk i hi
      have h1 := hi k (by omega)
      unfold mkF
      split
      · rw [upd_n h1.2.2, upd_n h1.1]; exact ih (by omega) i hi
      · exact ih (by omega) i hi
  have s2 : Good T (lay7 (mkF V b wa (vN V)) (360 + 7 * (toN (V 7) % 20)) (nI b) (V 6) (nI (rpM V b)) (mk (ask V b wa (fF V b wa)) (vN V)) (mk (sil V b wa (fF V b wa)) (vN V)) (msF V (rpK V b)) (nI (tim V b wa (fF V b wa)))) := s1.irr fun i hi => by
    have hi2 : ∀ m, m < 10 → i ≠ 33 + 12 * m ∧ i ≠ 36 + 12 * m ∧ i ≠ 37 + 12 * m := fun m hm => by
      rcases hi with h | h | h | h | h | h | h | ⟨m2, h2, h⟩ <;> omega
    rw [lay7_out (by rcases hi with h | h | h | h | h | h | h | ⟨m2, h2, h⟩ <;> omega)]
    exact key _ (Nat.le_refl _) i hi2
  have s3 := good_cnt s2 hT (c1 := fa_cnt (ask V b wa (fF V b wa)) (vN V)) (c2 := fa_cnt (sil V b wa (fF V b wa)) (vN V)) (by have := cnt_as (V := V) (b := b) (wa := wa) (f := fF V b wa) (vN V); omega)
  have e : ∀ i, i < 30 → lay7 (mkF V b wa (vN V)) (360 + 7 * (toN (V 7) % 20)) (nI b) (V 6) (nI (rpM V b)) (mk (ask V b wa (fF V b wa)) (vN V)) (mk (sil V b wa (fF V b wa)) (vN V)) (msF V (rpK V b)) (nI (tim V b wa (fF V b wa))) i = V i := fun i hi => by
    rw [lay7_out (by omega), mkF_old (by omega) (by omega) (by omega) fun m _ => by omega]
  rw [e 7 (by decide), e 8 (by decide), e 9 (by decide)] at s3
  exact s3
theorem coU_out {M : gM} {n b rp md k : Nat} (h : k ≠ 25 ∧ k ≠ 10 ∧ k ≠ 12 ∧ k ≠ 14 ∧ k ≠ 28 ∧ k ≠ 26) : coU M n b rp md k = M k := by
  unfold coU
  rw [gr_n h.2.2.2.2.2, gr_n h.2.2.2.2.1, gr_n h.2.2.2.1, gr_n h.2.2.1, gr_n h.2.1, gr_n h.1]
theorem ra_cnt {V : Nat → Int32} {wa : Nat} : ∀ b, (raV V wa b).2 ≤ b
  | 0 => Nat.le_refl _
  | b + 1 => by
    have ih := ra_cnt (V := V) (wa := wa) b
    unfold raV
    dsimp only
    split
    · show (raV V wa b).2 + 1 ≤ b + 1; omega
    · omega
theorem ra_t {V : Nat → Int32} {wa b : Nat} (h : hcd (raV V wa b).1 b = 0) : raV V wa (b + 1) = (rpV (raV V wa b).1 b wa, (raV V wa b).2 + 1) := by rw [raV]; exact if_pos h
theorem ra_f {V : Nat → Int32} {wa b : Nat} (h : ¬ hcd (raV V wa b).1 b = 0) : raV V wa (b + 1) = raV V wa b := by rw [raV]; exact if_neg h
theorem rp_wait {V : Nat → Int32} {b wa : Nat} : rpV V b wa 0 = V 0 := by
  unfold rpV
  rw [upd_n (by decide), upd_n (by decide), upd_n (by decide), lay7_out (by omega), mkF_old (by omega) (by omega) (by omega) fun m _ => by omega]
theorem ra_wait {V : Nat → Int32} {wa : Nat} : ∀ b, (raV V wa b).1 0 = V 0
  | 0 => rfl
  | b + 1 => by
    by_cases h : hcd (raV V wa b).1 b = 0
    · rw [ra_t h]; exact rp_wait.trans (ra_wait b)
    · rw [ra_f h]; exact ra_wait b
theorem plan_at {V : Nat → Int32} {b wa f : Nat} {p w a q : Nat → Int32} (h : PlanOK V b wa f p w a) (e : q = p) : PlanOK V b wa f q w a := by rw [e]; exact h
