/-! what the law's repairs looks at -/
section RPL
variable {T : Nat} {V : Nat → Int32} {b : Nat}
abbrev rWA (V : Nat → Int32) : Nat := toN (V 0)
abbrev rF (V : Nat → Int32) (b : Nat) : Nat := fF V b (toN (V 0))
def mis (V : Nat → Int32) (b m : Nat) : Bool := bt (msF V (rpK V b)) m
theorem ms_dead (g : Good T V) {m : Nat} (hm : m < 32) : ∀ {k : Nat}, k ≤ vZ V → hs (msF V k) m → vLv V m = false ∧ m < vN V
  | 0, _, h => by
    rw [hs_bt hm] at h
    unfold msF at h
    rw [show (nI 0 : Int32) = 0 from rfl, b_0] at h
    cases h
  | k + 1, hk, h => by
    have hl := (gd_l g (show k < vZ V by omega)).2.1
    have n10 := gd_n10 g
    by_cases q : vLv V (vL V k) = true
    · rw [ms_t q] at h; exact ms_dead g hm (by omega) h
    · rw [ms_f q, hs_or (by omega) hm] at h
      rcases h with h | h
      · exact ms_dead g hm (by omega) h
      · rw [h]; exact ⟨(Bool.not_eq_true _).mp q, hl⟩
theorem mk_mis (g : Good T V) (h : rpK V b ≤ vZ V) : mk (mis V b) (vN V) = msF V (rpK V b) := (mk_ext (by have := gd_n10 g; omega) fun i hi => by
  by_cases e : i < vN V
  · rw [decide_eq_true e, Bool.true_and]; rfl
  · rw [decide_eq_false e, Bool.false_and]
    exact (nhs_bt hi).mp fun z => e (ms_dead g hi h z).2).symm
theorem rp_ok (h : rpK V b < vZ V) : vLv V (rpM V b) = true ∧ vLo V b (rpM V b) = false := by
  have q := fa_first_yes (rpG V b) (vZ V) h
  have q : rpG V b (rpK V b) = true := q
  unfold rpG at q
  rw [Bool.and_eq_true, Bool.not_eq_true'] at q
  exact q
theorem rF_ok (g : Good T V) (h0 : hcd V b = 0) : frF (los V b) (wt V b (rWA V)) (vN V) = some (rF V b) ∧ rF V b < vN V ∧ los V b (rF V b) = true := by
  obtain ⟨-, e2, -⟩ := hc_0 h0
  obtain ⟨f, hf⟩ := fr_ex (wa := toN (V 0)) (gd_n10 g) e2
  have e : rF V b = f := fF_eq hf
  rw [e]
  exact ⟨hf, (fr_some hf).1, (fr_some hf).2⟩
theorem rF_ask (g : Good T V) (h0 : hcd V b = 0) : ask V b (rWA V) (rF V b) (rF V b) = true := ask_t (rF_ok g h0).2.2 (Nat.le_add_right _ _)
theorem los_lv {m : Nat} (h : los V b m = true) : vLv V m = true ∧ vLo V b m = true := by
  unfold los at h
  rw [Bool.and_eq_true] at h
  exact h
theorem rp_nl (h : rpK V b < vZ V) : los V b (rpM V b) = false := by
  unfold los
  rw [(rp_ok h).2, Bool.and_false]
theorem sil_of {f m : Nat} (ha : ask V b (rWA V) f m = true) : sil V b (rWA V) f m = false := by unfold sil; rw [ha]; simp
theorem sil_nl {f m : Nat} (hl : los V b m = false) : sil V b (rWA V) f m = false := by unfold sil; rw [hl]; rfl
theorem sil_y {f m : Nat} (hl : los V b m = true) (ha : ask V b (rWA V) f m = false) : sil V b (rWA V) f m = true := by unfold sil; rw [hl, ha]; rfl
theorem mis_lv (g : Good T V) (hk : rpK V b < vZ V) {m : Nat} (hm : m < vN V) (h : vLv V m = true) : mis V b m = false := by
  have n10 := gd_n10 g
  refine (nhs_bt (by omega)).mp fun z => ?_
  rw [(ms_dead g (by omega) (by omega) z).1] at h
  cases h
/-- what a member is in a repair: k its role -/
def RC (V : Nat → Int32) (b m k : Nat) (a s i l : Bool) : Prop := role V b (rWA V) (rF V b) m = k ∧ ask V b (rWA V) (rF V b) m = a ∧ sil V b (rWA V) (rF V b) m = s ∧ mis V b m = i ∧ los V b m = l
theorem role_cases (g : Good T V) (h0 : hcd V b = 0) {m : Nat} (hm : m < vN V) :
    (m = rF V b ∧ m ≠ rpM V b ∧ RC V b m 1 true false false true) ∨ (m ≠ rF V b ∧ m ≠ rpM V b ∧ RC V b m 2 true false false true) ∨ (m ≠ rF V b ∧ m ≠ rpM V b ∧ RC V b m 3 false true false true) ∨
    (m ≠ rF V b ∧ m = rpM V b ∧ RC V b m 4 false false false false) ∨ (m ≠ rF V b ∧ m ≠ rpM V b ∧ RC V b m 5 false false true false) ∨ (m ≠ rF V b ∧ m ≠ rpM V b ∧ RC V b m 0 false false false false) := by
  have hk := (hc_0 h0).2.2
  have n10 := gd_n10 g
  have hrp := rp_nl hk
  by_cases hl : los V b m = true
  · have hne : m ≠ rpM V b := fun e => by rw [e, hrp] at hl; cases hl
    have hmi := mis_lv g hk hm (los_lv hl).1
    by_cases ef : m = rF V b
    · have ha : ask V b (rWA V) (rF V b) m = true := by rw [ef]; exact rF_ask g h0
      exact Or.inl ⟨ef, hne, by rw [role, if_pos ef], ha, sil_of ha, hmi, hl⟩
    · by_cases ha : ask V b (rWA V) (rF V b) m = true
      · exact Or.inr (Or.inl ⟨ef, hne, by rw [role, if_neg ef, if_pos ha], ha, sil_of ha, hmi, hl⟩)
      · have ha2 := (Bool.not_eq_true _).mp ha
        have hs := sil_y hl ha2
        exact Or.inr (Or.inr (Or.inl ⟨ef, hne, by rw [role, if_neg ef, if_neg ha, if_pos hs], ha2, hs, hmi, hl⟩))
  · have hl2 := (Bool.not_eq_true _).mp hl
    have ef : m ≠ rF V b := fun e => hl (by rw [e]; exact (rF_ok g h0).2.2)
    have ha := ask_f (wa := rWA V) (f := rF V b) hl2
    have hsl := sil_nl (f := rF V b) hl2
    have ha1 : ¬ ask V b (rWA V) (rF V b) m = true := by rw [ha]; decide
    have hs1 : ¬ sil V b (rWA V) (rF V b) m = true := by rw [hsl]; decide
    by_cases er : m = rpM V b
    · exact Or.inr (Or.inr (Or.inr (Or.inl ⟨ef, er, by rw [role, if_neg ef, if_neg ha1, if_neg hs1, if_pos er], ha, hsl, mis_lv g hk hm (by rw [er]; exact (rp_ok hk).1), hl2⟩)))
    · by_cases hi : hs (msF V (rpK V b)) m
      · exact Or.inr (Or.inr (Or.inr (Or.inr (Or.inl ⟨ef, er, by rw [role, if_neg ef, if_neg ha1, if_neg hs1, if_neg er, if_pos hi], ha, hsl, (hs_bt (by omega)).mp hi, hl2⟩))))
      · exact Or.inr (Or.inr (Or.inr (Or.inr (Or.inr ⟨ef, er, by rw [role, if_neg ef, if_neg ha1, if_neg hs1, if_neg er, if_neg hi], ha, hsl, (nhs_bt (by omega)).mp hi, hl2⟩))))
theorem look_n (g : Good T V) (hb : b < 200) (h0 : hcd V b = 0) {m w : Nat} (hm : m < vN V) (hw : w < 3) : lookR V (nI b) (nI m) (nI w) = lookN V b m w := by
  have n10 := gd_n10 g
  rw [lookR, if_pos ⟨⟨blkP_of hb, memP_of g hm⟩, nI_pos' (by omega), nI_le (by omega) (by omega)⟩, toN_nI (show b < 2 ^ 31 by omega), if_pos h0, toN_nI (by omega), toN_nI (by omega)]
theorem look_0 (g : Good T V) (hb : b < 200) (h0 : hcd V b = 0) {m k : Nat} (hm : m < vN V) (e : role V b (rWA V) (rF V b) m = k) : lookR V (nI b) (nI m) (nI 0) = nI k := by
  rw [look_n g hb h0 hm (by decide)]
  show nI (role V b (rWA V) (rF V b) m) = _
  rw [e]
theorem look_1 (g : Good T V) (hb : b < 200) (h0 : hcd V b = 0) {m : Nat} (hm : m < vN V) (h : los V b m = true) : lookR V (nI b) (nI m) (nI 1) = nI (wt V b (rWA V) m) := by
  rw [look_n g hb h0 hm (by decide), lookN]
  rw [if_neg (by decide), if_pos h, if_pos rfl]
theorem look_2 (g : Good T V) (hb : b < 200) (h0 : hcd V b = 0) {m : Nat} (hm : m < vN V) (h : los V b m = true) : lookR V (nI b) (nI m) (nI 2) = nI (sent V b (rWA V) (rF V b) + dR V b m) := by
  rw [look_n g hb h0 hm (by decide), lookN]
  rw [if_neg (by decide), if_pos h, if_neg (by decide)]
theorem look_nl (g : Good T V) (hb : b < 200) (h0 : hcd V b = 0) {m w : Nat} (hm : m < vN V) (hw : w < 3) (h1 : w ≠ 0) (h : los V b m = false) : lookR V (nI b) (nI m) (nI w) = kNone := by
  rw [look_n g hb h0 hm hw, lookN]
  rw [if_neg h1, if_neg (by rw [h]; decide)]
theorem look_no (g : Good T V) (hb : b < 200) (h0 : ¬ hcd V b = 0) (hn : 0 < vN V) : lookR V (nI b) (nI 0) (nI 0) = kState := by
  rw [lookR, if_pos ⟨⟨blkP_of hb, memP_of g hn⟩, by decide, by decide⟩, toN_nI (show b < 2 ^ 31 by omega), if_neg h0]
theorem why_n (hb : b < 200) : whyR V (nI b) = nI (hcd V b) := by rw [whyR, if_pos (blkP_of hb), toN_nI (by omega)]
theorem hcd_le : hcd V b ≤ 3 := by
  unfold hcd
  split
  · omega
  · split
    · omega
    · split <;> omega
theorem hcd_1 : hcd V b = 1 ↔ V 6 = 0 := by
  unfold hcd
  by_cases h : V 6 = 0
  · rw [if_pos h]; exact ⟨fun _ => h, fun _ => rfl⟩
  · rw [if_neg h]
    refine ⟨fun q => ?_, fun q => absurd q h⟩
    split at q
    · omega
    · split at q <;> omega
theorem or_0 {p : Nat → Bool} {m : Nat} (h : p m = false) : mk p m ||| nI 0 = mk p (m + 1) := by
  rw [mk_f h]
  exact Int32.or_zero
def rpI (V : Nat → Int32) (b m : Nat) : Int32 := if rpM V b < m then nI (rpM V b) else (-1 : Int32)
theorem rpI_y {m : Nat} (h : m = rpM V b) : nI m = rpI V b (m + 1) := by rw [rpI, if_pos (by omega), h]
theorem rpI_n {m : Nat} (h : m ≠ rpM V b) : rpI V b m = rpI V b (m + 1) := by
  unfold rpI
  by_cases q : rpM V b < m
  · rw [if_pos q, if_pos (by omega)]
  · rw [if_neg q, if_neg (by omega)]
theorem rpI_in {n : Nat} (h : rpM V b < n) : rpI V b n = nI (rpM V b) := if_pos h
def fsN (f m : Nat) : Nat := if f < m then 1 else 0
theorem fs_y {f m : Nat} (h : m = f) : nI (fsN f m + 1) = nI (fsN f (m + 1)) := by rw [fsN, fsN, if_neg (by omega), if_pos (by omega)]
theorem fs_n {f m : Nat} (h : m ≠ f) : nI (fsN f m + 0) = nI (fsN f (m + 1)) := by
  unfold fsN
  by_cases q : f < m
  · rw [if_pos q, if_pos (by omega)]
  · rw [if_neg q, if_neg (by omega)]
theorem fs_in {f n : Nat} (h : f < n) : nI (fsN f n) = nI 1 := by rw [fsN, if_pos h]
abbrev rX (V : Nat → Int32) (b q : Nat) : Nat := sent V b (rWA V) (rF V b) + dR V b q
theorem rX_le (g : Good T V) (h0 : hcd V b = 0) {m : Nat} (hm : m < vN V) : rX V b m ≤ 8000 := by
  have hk := (hc_0 h0).2.2
  have hw := gd_wait g
  have hw3 : rWA V ≤ 1000 := hw.2.2
  have h1 := hrd_le (wa := rWA V) g hw.2.1 (rF_ok g h0).2.1 hk
  have h2 := step_le (b := b) g hk
  have h3 := dR_le (b := b) g hk hm
  show hrd V b (rWA V) (rF V b) + _ + _ ≤ _
  omega
theorem tX_le (g : Good T V) (h0 : hcd V b = 0) {m : Nat} (hm : m ≤ vN V) : tmF (los V b) (rX V b) m ≤ 8000 := tm_le fun q hq => rX_le g h0 (by omega)
theorem tX_hi {m : Nat} (h : los V b m = true) (h2 : ¬ rX V b m ≤ tmF (los V b) (rX V b) m) : nI (rX V b m) = nI (tmF (los V b) (rX V b) (m + 1)) := by rw [tm_t h, show max (tmF (los V b) (rX V b) m) (rX V b m) = rX V b m by omega]
theorem tX_lo {m : Nat} (h : los V b m = true) (h2 : rX V b m ≤ tmF (los V b) (rX V b) m) : nI (tmF (los V b) (rX V b) m) = nI (tmF (los V b) (rX V b) (m + 1)) := by rw [tm_t h, show max (tmF (los V b) (rX V b) m) (rX V b m) = tmF (los V b) (rX V b) m by omega]
theorem tX_n {m : Nat} (h : los V b m = false) : nI (tmF (los V b) (rX V b) m) = nI (tmF (los V b) (rX V b) (m + 1)) := by rw [tm_f h]
theorem lo_lv {m : Nat} (h : los V b m = false) (h2 : (if vLo V b m = true then nI 1 else nI 0) = nI 1) : ¬ V (32 + 12 * m) = nI 1 := fun z => by
  have h3 : vLo V b m = true := by
    apply Classical.byContradiction
    intro q
    rw [if_neg q] at h2
    exact absurd h2 (by decide)
  unfold los at h
  rw [h3, Bool.and_true] at h
  exact of_decide_eq_false h z
theorem lv_1 {m : Nat} (h : vLv V m = true) : V (32 + 12 * m) = nI 1 := of_decide_eq_true h
theorem mis_dead (g : Good T V) (hk : rpK V b < vZ V) {m : Nat} (hm : m < 32) (h : mis V b m = true) : ¬ V (32 + 12 * m) = nI 1 := of_decide_eq_false (ms_dead g hm (by omega) ((hs_bt hm).mpr h)).1
theorem cnt_mk {p : Nat → Bool} {n : Nat} (h : n ≤ 10) : fa_cnt (bt (mk p n)) 10 = fa_cnt p n := by
  rw [fa_cnt_cong (q := fun i => decide (i < n) && p i) fun i hi => bt_mk p n (by omega) i (by omega)]
  exact fa_cnt_wide h
def dueV (V : Nat → Int32) (b j : Nat) : Int32 := if hs (msF V (rpK V b)) j then (if j = rpM V b then V (33 + 12 * j) + V 3 else V (33 + 12 * j)) + -(V 4) else (if j = rpM V b then V (33 + 12 * j) + V 3 else V (33 + 12 * j))
theorem due_11 {m : Nat} (h1 : m = rpM V b) (h2 : hs (msF V (rpK V b)) m) : V (33 + 12 * m) + V 3 - V 4 = dueV V b m := by rw [dueV, if_pos h2, if_pos h1, Int32.sub_eq_add_neg]
theorem due_01 {m : Nat} (h1 : ¬ m = rpM V b) (h2 : hs (msF V (rpK V b)) m) : V (33 + 12 * m) + nI 0 - V 4 = dueV V b m := by rw [dueV, if_pos h2, if_neg h1, Int32.sub_eq_add_neg, show V (33 + 12 * m) + nI 0 = V (33 + 12 * m) from Int32.add_zero _]
theorem due_10 {m : Nat} (h1 : m = rpM V b) (h2 : ¬ hs (msF V (rpK V b)) m) : V (33 + 12 * m) + V 3 - nI 0 = dueV V b m := by
  rw [dueV, if_neg h2, if_pos h1]
  exact Int32.sub_zero _
theorem due_00 {m : Nat} (h1 : ¬ m = rpM V b) (h2 : ¬ hs (msF V (rpK V b)) m) : V (33 + 12 * m) + nI 0 - nI 0 = dueV V b m := by
  rw [dueV, if_neg h2, if_neg h1]
  exact (Int32.sub_zero _).trans (Int32.add_zero _)
theorem past_k {wa : Nat} (g : Good T V) (hT : T < 2 ^ 20) {w : Nat} (hw : w < 7) : pastR (rpV V b wa) (nI 0) (nI w) = lay7 (mkF V b wa (vN V)) (360 + 7 * (toN (V 7) % 20)) (nI b) (V 6) (nI (rpM V b)) (mk (ask V b wa (fF V b wa)) (vN V)) (mk (sil V b wa (fF V b wa)) (vN V)) (msF V (rpK V b)) (nI (tim V b wa (fF V b wa))) (360 + 7 * (toN (V 7) % 20) + w) := by
  have gm := (gd_made g).2
  rw [past_n (by decide) hw, pastN, rp_7, toN_nI (by omega), if_pos (by omega)]
  rw [show 360 + ((toN (V 7) + 1 - 1 - 0) % 20 * 7 + w) = 360 + 7 * (toN (V 7) % 20) + w by rw [show toN (V 7) + 1 - 1 - 0 = toN (V 7) by omega]; omega]
  unfold rpV
  rw [upd_n (show 360 + 7 * (toN (V 7) % 20) + w ≠ 9 by omega), upd_n (show 360 + 7 * (toN (V 7) % 20) + w ≠ 8 by omega), upd_n (show 360 + 7 * (toN (V 7) % 20) + w ≠ 7 by omega)]
theorem l7_0 {f : Nat → Int32} {k : Nat} {a0 a1 a2 a3 a4 a5 a6 : Int32} : lay7 f k a0 a1 a2 a3 a4 a5 a6 (k + 0) = a0 := by
  unfold lay7
  rw [upd_n (by omega), upd_n (by omega), upd_n (by omega), upd_n (by omega), upd_n (by omega), upd_n (by omega)]
  exact upd_s _ _ _
theorem l7_1 {f : Nat → Int32} {k : Nat} {a0 a1 a2 a3 a4 a5 a6 : Int32} : lay7 f k a0 a1 a2 a3 a4 a5 a6 (k + 1) = a1 := by
  unfold lay7
  rw [upd_n (by omega), upd_n (by omega), upd_n (by omega), upd_n (by omega), upd_n (by omega), upd_s]
theorem l7_2 {f : Nat → Int32} {k : Nat} {a0 a1 a2 a3 a4 a5 a6 : Int32} : lay7 f k a0 a1 a2 a3 a4 a5 a6 (k + 2) = a2 := by
  unfold lay7
  rw [upd_n (by omega), upd_n (by omega), upd_n (by omega), upd_n (by omega), upd_s]
theorem l7_3 {f : Nat → Int32} {k : Nat} {a0 a1 a2 a3 a4 a5 a6 : Int32} : lay7 f k a0 a1 a2 a3 a4 a5 a6 (k + 3) = a3 := by
  unfold lay7
  rw [upd_n (by omega), upd_n (by omega), upd_n (by omega), upd_s]
theorem l7_4 {f : Nat → Int32} {k : Nat} {a0 a1 a2 a3 a4 a5 a6 : Int32} : lay7 f k a0 a1 a2 a3 a4 a5 a6 (k + 4) = a4 := by
  unfold lay7
  rw [upd_n (by omega), upd_n (by omega), upd_s]
theorem l7_5 {f : Nat → Int32} {k : Nat} {a0 a1 a2 a3 a4 a5 a6 : Int32} : lay7 f k a0 a1 a2 a3 a4 a5 a6 (k + 5) = a5 := by
  unfold lay7
  rw [upd_n (by omega), upd_s]
theorem l7_6 {f : Nat → Int32} {k : Nat} {a0 a1 a2 a3 a4 a5 a6 : Int32} : lay7 f k a0 a1 a2 a3 a4 a5 a6 (k + 6) = a6 := by
  unfold lay7
  rw [upd_s]
/-- what a repair leaves, as the law asks for it -/
theorem rp_law (g : Good T V) (x : Ex T V) (hT : T + 1 < 2 ^ 20) (hb : b < 200) (h0 : hcd V b = 0) {V2 : Nat → Int32} (e : V2 = rpV V b (toN (V 0))) :
    Good (T + 1) V2 ∧ Ex (T + 1) V2 ∧ vN V2 = vN V ∧ hcd V2 b = 2 ∧ V2 6 = V 6 ∧ V2 3 = V 3 ∧ V2 4 = V 4 ∧ V2 8 = V 8 + nI (fa_cnt (ask V b (rWA V) (rF V b)) (vN V)) ∧ V2 9 = V 9 + nI (fa_cnt (sil V b (rWA V) (rF V b)) (vN V)) ∧
    (pastR V2 (nI 0) (nI 0) = nI b ∧ pastR V2 (nI 0) (nI 1) = V 6 ∧ pastR V2 (nI 0) (nI 2) = nI (rpM V b) ∧ pastR V2 (nI 0) (nI 3) = mk (ask V b (rWA V) (rF V b)) (vN V) ∧ pastR V2 (nI 0) (nI 4) = mk (sil V b (rWA V) (rF V b)) (vN V) ∧ pastR V2 (nI 0) (nI 5) = msF V (rpK V b) ∧ pastR V2 (nI 0) (nI 6) = nI (tim V b (rWA V) (rF V b))) ∧
    (∀ m, m < vN V → V2 (33 + 12 * m) = dueV V b m) ∧ (∀ m, m < vN V → V2 (32 + 12 * m) = V (32 + 12 * m)) ∧ ∀ m, m < vN V → V (32 + 12 * m) = nI 1 → ¬ vLo V2 b m = true := by
  subst e
  have n10 := gd_n10 g
  have hk := (hc_0 h0).2.2
  have hrn := rp_lt g hk
  have ga := gd_asks g
  have h6 : rpV V b (toN (V 0)) 6 = V 6 := rp_old (by decide) (by decide) (by omega) fun m => by omega
  have h32 : ∀ m, m < vN V → rpV V b (toN (V 0)) (32 + 12 * m) = V (32 + 12 * m) := fun m hm => rp_old (by omega) (by omega) (by omega) fun m => by omega
  have h150 : rpV V b (toN (V 0)) (150 + b) = V (150 + b) &&& (mk (los V b) (vN V) ^^^ (-1)) := (rp_150 hb hb n10 (by omega)).trans (if_pos rfl)
  have hlo : ∀ m, m < vN V → V (32 + 12 * m) = nI 1 → ¬ vLo (rpV V b (toN (V 0))) b m = true := fun m hm hv q => by
    have q2 : bt (rpV V b (toN (V 0)) (150 + b)) m = true := q
    rw [h150, b_and, bt_not _ (by omega), bt_mk _ _ (by omega) m (by omega), decide_eq_true hm, Bool.true_and] at q2
    have hl : los V b m = bt (V (150 + b)) m := by
      unfold los
      rw [show vLv V m = true from decide_eq_true hv, Bool.true_and]
    rw [hl] at q2
    cases hbt : bt (V (150 + b)) m <;> rw [hbt] at q2 <;> cases q2
  have hcd2 : hcd (rpV V b (toN (V 0))) b = 2 := by
    unfold hcd
    rw [h6, if_neg (hc_0 h0).1, rp_n, if_pos]
    refine (mk_0 (by omega)).mpr fun m hm => ?_
    apply (Bool.not_eq_true _).mp
    intro q
    obtain ⟨q1, q2⟩ := los_lv q
    exact hlo m hm ((h32 m hm).symm.trans (lv_1 q1)) q2
  refine ⟨good_rep g (by omega) hb hk, ex_rep g x (by omega) hb hk, rp_n, hcd2, h6, rp_old (by decide) (by decide) (by omega) (fun m => by omega), rp_old (by decide) (by decide) (by omega) (fun m => by omega), ?_, ?_, ⟨?_, ?_, ?_, ?_, ?_, ?_, ?_⟩, fun m hm => rp_33 hb hm n10 (by omega), h32, hlo⟩
  · rw [rp_8, ← nI_add, ← ga.1]
  · rw [rp_9, ← nI_add, ← ga.2.1]
  · exact (past_k g (by omega) (by decide)).trans l7_0
  · exact (past_k g (by omega) (by decide)).trans l7_1
  · exact (past_k g (by omega) (by decide)).trans l7_2
  · exact (past_k g (by omega) (by decide)).trans l7_3
  · exact (past_k g (by omega) (by decide)).trans l7_4
  · exact (past_k g (by omega) (by decide)).trans l7_5
  · exact (past_k g (by omega) (by decide)).trans l7_6
theorem push_sm {h : Nat} (h4 : h ≤ 4) : pushN h - 1 < 2 ^ 31 := by unfold pushN; split <;> omega
end RPL
