/-! what the law knows of the object: it stands for V, its past, its text; the law's own rows of ten ints -/
theorem XP.more {T T2 : Nat} {V : Nat → Int32} {Vs : Nat → Nat → Int32} {h : Nat} {mem u : gM} (x : XP T V Vs h mem u) (ht : T ≤ T2) : XP T2 V Vs h mem u := by
  obtain ⟨r, ⟨o, hx⟩, f⟩ := x
  exact ⟨r, ⟨o, hx.more ht⟩, f⟩
def kLS (T : Nat) (V : Nat → Int32) (Vs : Nat → Nat → Int32) (h : Nat) (A B : Nat → Int32) (mem : gM) : Prop :=
  Rel V mem ∧ (∃ o, HX T Vs h o mem) ∧ (∃ (tx : Nat → Nat) (tl : Nat), TX tx tl mem) ∧ mem 154 = A ∧ mem 155 = B
section LSR
variable {T T2 : Nat} {V V2 : Nat → Int32} {Vs Vs2 : Nat → Nat → Int32} {h h2 : Nat} {A B A2 : Nat → Int32} {mem u : gM}
theorem kLS.more (L : kLS T V Vs h A B mem) (ht : T ≤ T2) : kLS T2 V Vs h A B mem := by
  obtain ⟨r, ⟨o, hx⟩, a⟩ := L
  exact ⟨r, ⟨o, hx.more ht⟩, a⟩
theorem tx_keep {tx : Nat → Nat} {tl : Nat} (t : TX tx tl mem) (e1 : u 143 = mem 143) (e2 : u 145 = mem 145) : TX tx tl u := by
  obtain ⟨t1, t2, t3⟩ := t
  exact ⟨by rw [e1]; exact t1, t2, fun i hi => by rw [e2]; exact t3 i hi⟩
theorem ls_xp (L : kLS T V Vs h A B mem) (x : XP T2 V2 Vs2 h2 mem u) : kLS T2 V2 Vs2 h2 A B u := by
  obtain ⟨-, -, ⟨tx, tl, t⟩, a, b⟩ := L
  obtain ⟨r, hx, f⟩ := x
  exact ⟨r, hx, ⟨tx, tl, tx_keep t (f 143 (by omega)) (f 145 (by omega))⟩, (f 154 (by omega)).trans a, (f 155 (by omega)).trans b⟩
theorem ls_fr (L : kLS T V Vs h A B mem) (f : ∀ k, (k < 146 ∨ 154 ≤ k) → u k = mem k) : kLS T V Vs h A B u := by
  obtain ⟨r, ⟨o, hx⟩, ⟨tx, tl, t⟩, a, b⟩ := L
  exact ⟨r.keep fun k _ h2 => f k (by omega), ⟨o, hx_keep hx fun k _ h2 => f k (by omega)⟩, ⟨tx, tl, tx_keep t (f 143 (by omega)) (f 145 (by omega))⟩, (f 154 (by omega)).trans a, (f 155 (by omega)).trans b⟩
theorem ls_ty (L : kLS T V Vs h A B mem) {tx : Nat → Nat} {tl : Nat} (t : TX tx tl u) (f : ∀ k, k ≠ 143 → k ≠ 145 → u k = mem k) : kLS T V Vs h A B u := by
  obtain ⟨r, ⟨o, hx⟩, -, a, b⟩ := L
  exact ⟨r.keep fun k _ h2 => f k (by omega) (by omega), ⟨o, hx_keep hx fun k _ h2 => f k (by omega) (by omega)⟩, ⟨tx, tl, t⟩, (f 154 (by decide) (by decide)).trans a, (f 155 (by decide) (by decide)).trans b⟩
theorem ls_a (L : kLS T V Vs h A B mem) (A2 : Nat → Int32) : kLS T V Vs h A2 B (gr mem 154 A2) := by
  obtain ⟨r, ⟨o, hx⟩, ⟨tx, tl, t⟩, a, b⟩ := L
  exact ⟨r_gr (by decide) r, ⟨o, hx_gr (by decide) hx⟩, ⟨tx, tl, tx_keep t (gr_n (by decide)) (gr_n (by decide))⟩, gr_s _ _ _, (gr_n (by decide)).trans b⟩
theorem ls_b (L : kLS T V Vs h A B mem) (B2 : Nat → Int32) : kLS T V Vs h A B2 (gr mem 155 B2) := by
  obtain ⟨r, ⟨o, hx⟩, ⟨tx, tl, t⟩, a, b⟩ := L
  exact ⟨r_gr (by decide) r, ⟨o, hx_gr (by decide) hx⟩, ⟨tx, tl, tx_keep t (gr_n (by decide)) (gr_n (by decide))⟩, (gr_n (by decide)).trans a, gr_s _ _ _⟩
theorem ax_no {ok : Prop} {res err r : Int32} {nV : Nat → Int32} (L : kLS T V Vs h A B mem) (a : AX T V Vs h mem u ok res err nV r) (hn : ¬ ok) : r = err ∧ kLS T V Vs h A B u := ⟨(a.2 hn).1, ls_xp L (a.2 hn).2⟩
theorem ax_ok {ok : Prop} {res err r : Int32} {nV : Nat → Int32} (L : kLS T V Vs h A B mem) (a : AX T V Vs h mem u ok res err nV r) (ho : ok) : r = res ∧ kLS T nV (pushV h Vs V) (pushN h) A B u := ⟨(a.1 ho).1, ls_xp L (a.1 ho).2⟩
theorem push_pos : 0 < pushN h := by unfold pushN; split <;> omega
theorem push_top (h4 : h ≤ 4) : pushV h Vs V (pushN h - 1) = V := by
  unfold pushV pushN
  by_cases q : h < 4
  · rw [if_pos q, if_pos q, Nat.add_sub_cancel, if_pos rfl]
  · rw [if_neg q, if_neg q, if_pos rfl]
theorem ls_h4 (L : kLS T V Vs h A B mem) : h ≤ 4 := by
  obtain ⟨-, ⟨o, hx⟩, -⟩ := L
  exact hx.1.2.1
/-- undo behind an act -/
theorem ux_top {V1 : Nat → Int32} {r : Int32} (L : kLS T V1 (pushV h Vs V) (pushN h) A B mem) (h4 : h ≤ 4) (a : UX T V1 (pushV h Vs V) (pushN h) mem u r) : r = nI (pushN h - 1) ∧ kLS T V (pushV h Vs V) (pushN h - 1) A B u := by
  obtain ⟨e, x⟩ := a.2 push_pos
  rw [push_top h4] at x
  exact ⟨e, ls_xp L x⟩
theorem ux_0 {r : Int32} (L : kLS T V Vs 0 A B mem) (a : UX T V Vs 0 mem u r) : r = kNone ∧ kLS T V Vs 0 A B u := ⟨(a.1 rfl).1, ls_xp L (a.1 rfl).2⟩
end LSR
/-! what holds of V beside Good -/
def sumI (f : Nat → Int32) : Nat → Int32
  | 0 => nI 0
  | n + 1 => sumI f n + f n
theorem sum_cong {f f2 : Nat → Int32} : ∀ {n : Nat}, (∀ m, m < n → f m = f2 m) → sumI f n = sumI f2 n
  | 0, _ => rfl
  | n + 1, h => by unfold sumI; rw [sum_cong (n := n) fun m hm => h m (Nat.lt_succ_of_lt hm), h n (Nat.lt_succ_self n)]
theorem sum_one {f f2 : Nat → Int32} {k : Nat} : ∀ {n : Nat}, k < n → f2 k = f k + nI 1 → (∀ m, m < n → m ≠ k → f2 m = f m) → sumI f2 n = sumI f n + nI 1
  | 0, h, _, _ => absurd h (Nat.not_lt_zero k)
  | n + 1, h, e, ho => by
    unfold sumI
    by_cases q : k = n
    · subst q
      rw [sum_cong (f := f2) (f2 := f) fun m hm => ho m (Nat.lt_succ_of_lt hm) (by omega), e, Int32.add_assoc]
    · rw [sum_one (n := n) (by omega) e fun m hm hk => ho m (Nat.lt_succ_of_lt hm) hk, ho n (Nat.lt_succ_self n) (Ne.symm q), Int32.add_assoc, Int32.add_comm (nI 1), ← Int32.add_assoc]
def stgP (x : Int32) : Prop := x = nI 0 ∨ x = nI 1 ∨ x = nI 2 ∨ x = nI 3
def Ex (T : Nat) (V : Nat → Int32) : Prop :=
  (V 6 = nI (toN (V 6)) ∧ toN (V 6) ≤ T ∧ (toN (V 6) = 0 ↔ vZ V = 0)) ∧ (∀ m, m < vN V → stgP (V (38 + 12 * m))) ∧ (∀ m, m < vN V → V (37 + 12 * m) = nI (toN (V (37 + 12 * m))) ∧ toN (V (37 + 12 * m)) ≤ T) ∧ sumI (fun m => V (36 + 12 * m)) (vN V) = V 7
theorem Ex.more {T T2 : Nat} {V : Nat → Int32} (x : Ex T V) (ht : T ≤ T2) : Ex T2 V :=
  ⟨⟨x.1.1, Nat.le_trans x.1.2.1 ht, x.1.2.2⟩, x.2.1, fun m hm => ⟨(x.2.2.1 m hm).1, Nat.le_trans (x.2.2.1 m hm).2 ht⟩, x.2.2.2⟩
theorem ex_keep {T : Nat} {V V2 : Nat → Int32} (x : Ex T V) (e5 : V2 5 = V 5) (e6 : V2 6 = V 6) (e7 : V2 7 = V 7) (e11 : V2 11 = V 11) (h36 : ∀ m, m < vN V → V2 (36 + 12 * m) = V (36 + 12 * m)) (h37 : ∀ m, m < vN V → V2 (37 + 12 * m) = V (37 + 12 * m)) (h38 : ∀ m, m < vN V → stgP (V2 (38 + 12 * m))) : Ex T V2 := by
  have en : vN V2 = vN V := congrArg toN e5
  have ez : vZ V2 = vZ V := congrArg toN e11
  unfold Ex
  rw [en, ez, e6, e7]
  exact ⟨x.1, h38, fun m hm => by rw [h37 m hm]; exact x.2.2.1 m hm, (sum_cong fun m hm => h36 m hm).trans x.2.2.2⟩
theorem ex_0 : Ex 0 set5 := by
  have en : vN set5 = 0 := by decide +kernel
  have ez : vZ set5 = 0 := by decide +kernel
  unfold Ex
  rw [en, ez]
  exact ⟨by decide +kernel, fun m hm => absurd hm (Nat.not_lt_zero m), fun m hm => absurd hm (Nat.not_lt_zero m), by decide +kernel⟩
theorem ex_join {T : Nat} {V : Nat → Int32} (g : Good T V) (x : Ex T V) (hn : vN V < 10) (w p : Int32) : Ex T (jnV V w p) := by
  obtain ⟨n1, n2, n3, n4, n5⟩ := jn_new (V := V) (w := w) (p := p)
  have o : ∀ {i : Nat}, i ≠ 5 → i < 30 + 12 * vN V ∨ 42 + 12 * vN V ≤ i → jnV V w p i = V i := fun h5 h => jn_old h5 h
  have en : vN (jnV V w p) = vN V + 1 := by show toN (jnV V w p 5) = _; rw [n5, toN_nI (by omega)]
  have ez : vZ (jnV V w p) = vZ V := congrArg toN (o (by decide) (by omega))
  obtain ⟨x1, x2, x3, x4⟩ := x
  unfold Ex
  rw [en, ez, o (i := 6) (by decide) (by omega), o (i := 7) (by decide) (by omega)]
  refine ⟨x1, fun m hm => ?_, fun m hm => ?_, ?_⟩
  · by_cases e : m = vN V
    · rw [e, jn_zero (by omega)]; exact Or.inl rfl
    · rw [o (by omega) (by omega)]; exact x2 m (by omega)
  · by_cases e : m = vN V
    · rw [e, jn_zero (by omega)]; exact ⟨rfl, Nat.zero_le _⟩
    · rw [o (by omega) (by omega)]; exact x3 m (by omega)
  · show sumI (fun m => jnV V w p (36 + 12 * m)) (vN V) + jnV V w p (36 + 12 * vN V) = V 7
    rw [jn_zero (by omega), sum_cong (f2 := fun m => V (36 + 12 * m)) fun m hm => o (by omega) (by omega), x4]
    exact Int32.add_zero _
theorem ex_upd {T : Nat} {V : Nat → Int32} (x : Ex T V) {i : Nat} {y : Int32} (h5 : i ≠ 5 ∧ i ≠ 6 ∧ i ≠ 7 ∧ i ≠ 11) (hm : ∀ m, m < vN V → i ≠ 36 + 12 * m ∧ i ≠ 37 + 12 * m ∧ i ≠ 38 + 12 * m) : Ex T (upd V i y) :=
  ex_keep x (upd_n (by omega)) (upd_n (by omega)) (upd_n (by omega)) (upd_n (by omega)) (fun m h => upd_n (hm m h).1.symm) (fun m h => upd_n (hm m h).2.1.symm) (fun m h => by rw [upd_n (hm m h).2.2.symm]; exact x.2.1 m h)
theorem ex_cm {T : Nat} {V : Nat → Int32} (x : Ex T V) (j : Nat) (y : Int32) : Ex T (cmV V j y) := by
  unfold cmV
  refine ex_keep x ?_ ?_ ?_ ?_ (fun m h => ?_) (fun m h => ?_) fun m h => ?_
  · rw [upd_n (by omega), upd_n (by omega)]
  · rw [upd_n (by omega), upd_n (by omega)]
  · rw [upd_n (by omega), upd_n (by omega)]
  · rw [upd_n (by omega), upd_n (by omega)]
  · rw [upd_n (by omega), upd_n (by omega)]
  · rw [upd_n (by omega), upd_n (by omega)]
  · rw [upd_n (by omega)]
    by_cases e : m = j
    · subst e; rw [upd_s]; exact Or.inr (Or.inl rfl)
    · rw [upd_n (by omega)]; exact x.2.1 m h
theorem ex_rv {T : Nat} {V : Nat → Int32} (x : Ex T V) (j : Nat) (y : Int32) : Ex T (rvV V j y) := by
  unfold rvV
  refine ex_keep x ?_ ?_ ?_ ?_ (fun m h => ?_) (fun m h => ?_) fun m h => ?_
  · rw [upd_n (by omega), upd_n (by omega)]
  · rw [upd_n (by omega), upd_n (by omega)]
  · rw [upd_n (by omega), upd_n (by omega)]
  · rw [upd_n (by omega), upd_n (by omega)]
  · rw [upd_n (by omega), upd_n (by omega)]
  · rw [upd_n (by omega), upd_n (by omega)]
  · rw [upd_n (by omega)]
    by_cases e : m = j
    · subst e; rw [upd_s]; split
      · exact Or.inr (Or.inr (Or.inl rfl))
      · exact Or.inr (Or.inr (Or.inr rfl))
    · rw [upd_n (by omega)]; exact x.2.1 m h
theorem ex_draw {T : Nat} {V : Nat → Int32} (g : Good T V) (x : Ex T V) (hn : 0 < vN V) (hT : T < 2 ^ 20) (sd : Int32) : Ex (T + 1) (drV V sd) := by
  have n10 := gd_n10 g
  obtain ⟨eN, eZ⟩ := dr_nz g sd
  obtain ⟨⟨a1, a2, a3⟩, b, c, d, e, f⟩ := dr_vals g sd _ (Nat.le_refl _)
  obtain ⟨⟨x1, x1b, x1c⟩, x2, x3, x4⟩ := x
  have e6 : drV V sd 6 = nI (toN (V 6) + 1) := by
    rw [show drV V sd 6 = V 6 + nI 1 from a1, x1, nI_add, toN_nI (by omega)]
  unfold Ex
  rw [eN, eZ, e6, toN_nI (by omega), dr_rest g sd (i := 7) (by decide) (by decide) (by decide) (by decide) (fun m _ => by omega)]
  refine ⟨⟨rfl, by omega, by omega⟩, fun m hm => ?_, fun m hm => ?_, ?_⟩
  · rw [show drV V sd (38 + 12 * m) = _ from d m (by omega), if_pos hm]; exact Or.inl rfl
  · rw [dr_rest g sd (by omega) (by omega) (by omega) (by omega) (fun m _ => by omega)]
    exact ⟨(x3 m hm).1, Nat.le_trans (x3 m hm).2 (Nat.le_succ T)⟩
  · exact (sum_cong fun m hm => dr_rest g sd (by omega) (by omega) (by omega) (by omega) (fun m _ => by omega)).trans x4
/-! a repair, number by number, as the law reads it -/
theorem mkF_33 {V : Nat → Int32} {b wa : Nat} (hb : b < 200) {j : Nat} (hj : j < 10) (hr : rpM V b < 10) : ∀ k, mkF V b wa k (33 + 12 * j) = if j < k ∧ hs (msF V (rpK V b)) j then mk0 V b wa (33 + 12 * j) + -(V 4) else mk0 V b wa (33 + 12 * j)
  | 0 => by rw [if_neg (fun q => absurd q.1 (Nat.not_lt_zero j))]; rfl
  | k + 1 => by
    have ih := mkF_33 (V := V) (b := b) (wa := wa) hb hj hr k
    rw [mkF]
    by_cases q : hs (msF V (rpK V b)) k
    · rw [if_pos q, upd_n (show 33 + 12 * j ≠ 37 + 12 * k by omega)]
      by_cases e : j = k
      · subst e
        rw [upd_s, ih, if_neg (fun z => absurd z.1 (Nat.lt_irrefl j)), if_pos ⟨Nat.lt_succ_self j, q⟩]
      · rw [upd_n (show 33 + 12 * j ≠ 33 + 12 * k by omega), ih]
        by_cases z : j < k ∧ hs (msF V (rpK V b)) j
        · rw [if_pos z, if_pos ⟨by omega, z.2⟩]
        · rw [if_neg z, if_neg fun y => z ⟨by omega, y.2⟩]
    · rw [if_neg q, ih]
      by_cases z : j < k ∧ hs (msF V (rpK V b)) j
      · rw [if_pos z, if_pos ⟨by omega, z.2⟩]
      · rw [if_neg z, if_neg fun y => z ⟨by have : j ≠ k := fun e => q (e ▸ y.2); omega, y.2⟩]
theorem mkF_37 {V : Nat → Int32} {b wa : Nat} (hb : b < 200) {j : Nat} (hj : j < 10) (hr : rpM V b < 10) : ∀ k, mkF V b wa k (37 + 12 * j) = if j < k ∧ hs (msF V (rpK V b)) j then V (37 + 12 * j) + nI 1 else V (37 + 12 * j)
  | 0 => by
    rw [if_neg (fun q => absurd q.1 (Nat.not_lt_zero j))]
    unfold mkF mk0
    rw [upd_n (by omega), upd_n (by omega), upd_n (by omega)]
  | k + 1 => by
    have ih := mkF_37 (V := V) (b := b) (wa := wa) hb hj hr k
    rw [mkF]
    by_cases q : hs (msF V (rpK V b)) k
    · rw [if_pos q]
      by_cases e : j = k
      · subst e
        rw [upd_s, if_pos ⟨Nat.lt_succ_self j, q⟩]
      · rw [upd_n (show 37 + 12 * j ≠ 37 + 12 * k by omega), upd_n (show 37 + 12 * j ≠ 33 + 12 * k by omega), ih]
        by_cases z : j < k ∧ hs (msF V (rpK V b)) j
        · rw [if_pos z, if_pos ⟨by omega, z.2⟩]
        · rw [if_neg z, if_neg fun y => z ⟨by omega, y.2⟩]
    · rw [if_neg q, ih]
      by_cases z : j < k ∧ hs (msF V (rpK V b)) j
      · rw [if_pos z, if_pos ⟨by omega, z.2⟩]
      · rw [if_neg z, if_neg fun y => z ⟨by have : j ≠ k := fun e => q (e ▸ y.2); omega, y.2⟩]
theorem mkF_out {V : Nat → Int32} {b wa : Nat} {i : Nat} : ∀ {k : Nat}, (∀ m, m < k → i ≠ 33 + 12 * m ∧ i ≠ 37 + 12 * m) → mkF V b wa k i = mk0 V b wa i
  | 0, _ => rfl
  | k + 1, h => by
    have ih := mkF_out (V := V) (b := b) (wa := wa) (k := k) fun m hm => h m (Nat.lt_succ_of_lt hm)
    rw [mkF]
    split
    · rw [upd_n (h k (Nat.lt_succ_self k)).2, upd_n (h k (Nat.lt_succ_self k)).1, ih]
    · exact ih
section REP
variable {T : Nat} {V : Nat → Int32} {b wa : Nat}
theorem rp_i {i : Nat} (h : i < 360) (h7 : i ≠ 7 ∧ i ≠ 8 ∧ i ≠ 9) : rpV V b wa i = mkF V b wa (vN V) i := by
  unfold rpV
  rw [upd_n h7.2.2, upd_n h7.2.1, upd_n h7.1, lay7_out (by omega)]
/-- what a repair leaves as it was -/
theorem rp_old {i : Nat} (h : i < 360) (h7 : i ≠ 7 ∧ i ≠ 8 ∧ i ≠ 9) (hb : i ≠ 150 + b) (hm : ∀ m, i ≠ 33 + 12 * m ∧ i ≠ 36 + 12 * m ∧ i ≠ 37 + 12 * m) : rpV V b wa i = V i := by
  rw [rp_i h h7, mkF_out fun m _ => ⟨(hm m).1, (hm m).2.2⟩, mk0, upd_n (hm _).2.1, upd_n (hm _).1, upd_n hb]
theorem rp_150 (hb : b < 200) {q : Nat} (hq : q < 200) (hn : vN V ≤ 10) (hr : rpM V b < 10) : rpV V b wa (150 + q) = if q = b then V (150 + b) &&& (mk (los V b) (vN V) ^^^ (-1)) else V (150 + q) := by
  rw [rp_i (by omega) (by omega), mkF_out (fun m hm => by omega), mk0, upd_n (by omega), upd_n (by omega)]
  by_cases e : q = b
  · rw [e, upd_s, if_pos rfl]
  · rw [upd_n (by omega), if_neg e]
theorem rp_36 (hb : b < 200) {j : Nat} (hj : j < 10) (hr : rpM V b < 10) : rpV V b wa (36 + 12 * j) = if j = rpM V b then V (36 + 12 * j) + nI 1 else V (36 + 12 * j) := by
  rw [rp_i (by omega) (by omega), mkF_out (fun m hm => by omega), mk0]
  by_cases e : j = rpM V b
  · rw [if_pos e, e, upd_s]
  · rw [upd_n (by omega), upd_n (by omega), upd_n (by omega), if_neg e]
theorem mk0_33 (hb : b < 200) {j : Nat} (hj : j < 10) (hr : rpM V b < 10) : mk0 V b wa (33 + 12 * j) = if j = rpM V b then V (33 + 12 * j) + V 3 else V (33 + 12 * j) := by
  rw [mk0, upd_n (by omega)]
  by_cases e : j = rpM V b
  · rw [if_pos e, e, upd_s]
  · rw [upd_n (by omega), upd_n (by omega), if_neg e]
theorem rp_33 (hb : b < 200) {j : Nat} (hj : j < vN V) (hn : vN V ≤ 10) (hr : rpM V b < 10) : rpV V b wa (33 + 12 * j) = if hs (msF V (rpK V b)) j then (if j = rpM V b then V (33 + 12 * j) + V 3 else V (33 + 12 * j)) + -(V 4) else (if j = rpM V b then V (33 + 12 * j) + V 3 else V (33 + 12 * j)) := by
  rw [rp_i (by omega) (by omega), mkF_33 hb (by omega) hr, mk0_33 hb (by omega) hr]
  by_cases q : hs (msF V (rpK V b)) j
  · rw [if_pos ⟨hj, q⟩, if_pos q]
  · rw [if_neg (fun z => q z.2), if_neg q]
theorem rp_37 (hb : b < 200) {j : Nat} (hj : j < vN V) (hn : vN V ≤ 10) (hr : rpM V b < 10) : rpV V b wa (37 + 12 * j) = if hs (msF V (rpK V b)) j then V (37 + 12 * j) + nI 1 else V (37 + 12 * j) := by
  rw [rp_i (by omega) (by omega), mkF_37 hb (by omega) hr]
  by_cases q : hs (msF V (rpK V b)) j
  · rw [if_pos ⟨hj, q⟩, if_pos q]
  · rw [if_neg (fun z => q z.2), if_neg q]
theorem rp_7 : rpV V b wa 7 = nI (toN (V 7) + 1) := by
  unfold rpV
  rw [upd_n (by decide), upd_n (by decide), upd_s]
theorem rp_8 : rpV V b wa 8 = nI (toN (V 8) + fa_cnt (ask V b wa (fF V b wa)) (vN V)) := by
  unfold rpV
  rw [upd_n (by decide), upd_s]
theorem rp_9 : rpV V b wa 9 = nI (toN (V 9) + fa_cnt (sil V b wa (fF V b wa)) (vN V)) := by
  unfold rpV
  rw [upd_s]
theorem rp_n : vN (rpV V b wa) = vN V := congrArg toN (rp_old (by decide) (by decide) (by omega) fun m => by omega)
theorem rp_z : vZ (rpV V b wa) = vZ V := congrArg toN (rp_old (by decide) (by decide) (by omega) fun m => by omega)
theorem ex_rep (g : Good T V) (x : Ex T V) (hT : T < 2 ^ 20) (hb : b < 200) (hrk : rpK V b < vZ V) : Ex (T + 1) (rpV V b wa) := by
  have n10 := gd_n10 g
  have hrn := rp_lt g hrk
  obtain ⟨⟨x1, x1b, x1c⟩, x2, x3, x4⟩ := x
  have gm := gd_made g
  unfold Ex
  rw [rp_n, rp_z, rp_7, rp_old (i := 6) (by decide) (by decide) (by omega) (fun m => by omega)]
  refine ⟨⟨x1, by omega, x1c⟩, fun m hm => ?_, fun m hm => ?_, ?_⟩
  · rw [rp_old (by omega) (by omega) (by omega) (fun m => by omega)]; exact x2 m hm
  · have w := x3 m hm
    rw [rp_37 hb hm n10 (by omega)]
    by_cases q : hs (msF V (rpK V b)) m
    · rw [if_pos q, w.1, nI_add, toN_nI (by omega)]; exact ⟨rfl, by omega⟩
    · rw [if_neg q]; exact ⟨w.1, by omega⟩
  · rw [sum_one (f := fun m => V (36 + 12 * m)) (k := rpM V b) hrn (by rw [rp_36 hb (by omega) (by omega), if_pos rfl]) (fun m hm hk => by rw [rp_36 hb (by omega) (by omega), if_neg hk]), x4, gm.1, nI_add, toN_nI (by omega)]
end REP
