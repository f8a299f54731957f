/-! what the calls answer and make of V, in one way for both sides -/
abbrev kBad : Int32 := (-1000001 : Int32)
abbrev kState : Int32 := (-1000002 : Int32)
abbrev kFull : Int32 := (-1000003 : Int32)
abbrev memP (V : Nat → Int32) (x : Int32) : Prop := 0 ≤ x ∧ x < nI (vN V)
abbrev blkP (x : Int32) : Prop := 0 ≤ x ∧ x < nI 200
abbrev wOK (x : Int32) : Prop := nI 1 ≤ x ∧ x ≤ nI 9
abbrev pOK (x : Int32) : Prop := 0 ≤ x ∧ x ≤ nI 1000
abbrev setP (s v : Int32) : Prop := (0 ≤ s ∧ s < nI 5) ∧ zLow (toN s) ≤ v ∧ v ≤ zHigh (toN s)
theorem lt_ex {x : Int32} {n : Nat} (hn : n < 2 ^ 31) (h : 0 ≤ x ∧ x < nI n) : ∃ j : Nat, j < n ∧ x = nI j := by
  obtain ⟨j, h1, h2⟩ := nI_of (Int32.not_lt.mpr h.1)
  refine ⟨j, ?_, h2⟩
  have := h.2
  rw [h2] at this
  exact (nI_ltI h1 hn).mp this
theorem lt_of {n j : Nat} (hn : n < 2 ^ 31) (h : j < n) : 0 ≤ nI j ∧ nI j < nI n := ⟨nI_pos' (by omega), nI_lt h hn⟩
theorem memP_ex {T : Nat} {V : Nat → Int32} (g : Good T V) {x : Int32} (h : memP V x) : ∃ j : Nat, j < vN V ∧ x = nI j := lt_ex (by have := gd_n10 g; omega) h
theorem memP_of {T : Nat} {V : Nat → Int32} (g : Good T V) {j : Nat} (h : j < vN V) : memP V (nI j) := lt_of (by have := gd_n10 g; omega) h
theorem blkP_ex {x : Int32} (h : blkP x) : ∃ j : Nat, j < 200 ∧ x = nI j := lt_ex (by decide) h
theorem blkP_of {j : Nat} (h : j < 200) : blkP (nI j) := lt_of (by decide) h
def zr (V : Nat → Int32) (n k : Nat) : Nat → Int32 := fun i => if 30 + 12 * n ≤ i ∧ i < 30 + 12 * n + k then nI 0 else V i
def jnV (V : Nat → Int32) (w p : Int32) : Nat → Int32 := upd (upd (upd (upd (upd (zr V (vN V) 12) (30 + 12 * vN V) w) (31 + 12 * vN V) p) (32 + 12 * vN V) (nI 1)) (34 + 12 * vN V) kNone) 5 (nI (vN V + 1))
def chI (m what : Int32) : Nat := 30 + 12 * toN m + toN what
def cmV (V : Nat → Int32) (j : Nat) (told : Int32) : Nat → Int32 := upd (upd V (38 + 12 * j) (nI 1)) (39 + 12 * j) told
def rvV (V : Nat → Int32) (j : Nat) (s : Int32) : Nat → Int32 := upd (upd V (38 + 12 * j) (if mixI s = V (39 + 12 * j) then nI 2 else nI 3)) (40 + 12 * j) s
/-- the seed of the next round, when the reveals rev count -/
def nSd (V : Nat → Int32) (rev : Int32) : Int32 := sdF rev (fun m => V (40 + 12 * m)) (V 6 + nI 1) (vN V)
/-- the member at rank k of the list of that seed -/
def nM (V : Nat → Int32) (sd : Int32) (k : Nat) : Nat := dM (vW V) (vN V) sd k
def crV (V : Nat → Int32) (m : Nat) : Int32 := if V (38 + 12 * m) = nI 1 ∨ V (38 + 12 * m) = nI 3 then V (33 + 12 * m) + -(V 4) else V (33 + 12 * m)
/-- a draw's first k members laid -/
def drF (V : Nat → Int32) (sd : Int32) : Nat → Nat → Int32
  | 0 => upd (upd (upd V 6 (V 6 + nI 1)) 10 sd) 11 (nI (vN V))
  | k + 1 => upd (upd (upd (upd (drF V sd k) (12 + k) (nI (nM V sd k))) (34 + 12 * nM V sd k) (nI k)) (33 + 12 * k) (crV V k)) (38 + 12 * k) (nI 0)
def drV (V : Nat → Int32) (sd : Int32) : Nat → Int32 := drF V sd (vN V)
def fF (V : Nat → Int32) (b wa : Nat) : Nat := (frF (los V b) (wt V b wa) (vN V)).getD 0
/-- a repair made: its first steps, then its misses, member by member -/
def mk0 (V : Nat → Int32) (b wa : Nat) : Nat → Int32 := upd (upd (upd V (150 + b) (V (150 + b) &&& (mk (los V b) (vN V) ^^^ (-1)))) (33 + 12 * rpM V b) (V (33 + 12 * rpM V b) + V 3)) (36 + 12 * rpM V b) (V (36 + 12 * rpM V b) + nI 1)
def mkF (V : Nat → Int32) (b wa : Nat) : Nat → Nat → Int32
  | 0 => mk0 V b wa
  | m + 1 => if hs (msF V (rpK V b)) m then upd (upd (mkF V b wa m) (33 + 12 * m) (mkF V b wa m (33 + 12 * m) + -(V 4))) (37 + 12 * m) (V (37 + 12 * m) + nI 1) else mkF V b wa m
def rpV (V : Nat → Int32) (b wa : Nat) : Nat → Int32 :=
  let f := fF V b wa
  let k := 360 + 7 * (toN (V 7) % 20)
  let v1 := lay7 (mkF V b wa (vN V)) k (nI b) (V 6) (nI (rpM V b)) (mk (ask V b wa f) (vN V)) (mk (sil V b wa f) (vN V)) (msF V (rpK V b)) (nI (tim V b wa f))
  upd (upd (upd v1 7 (nI (toN (V 7) + 1))) 8 (nI (toN (V 8) + fa_cnt (ask V b wa f) (vN V)))) 9 (nI (toN (V 9) + fa_cnt (sil V b wa f) (vN V)))
/-! the class's face: what an act leaves -/
def XP (T : Nat) (V : Nat → Int32) (Vs : Nat → Nat → Int32) (h : Nat) (mem u : gM) : Prop :=
  Rel V u ∧ (∃ o, HX T Vs h o u) ∧ ∀ k, ((143 ≤ k ∧ k < 146) ∨ 154 ≤ k) → u k = mem k
def AX (T : Nat) (V : Nat → Int32) (Vs : Nat → Nat → Int32) (h : Nat) (mem u : gM) (ok : Prop) (res err : Int32) (nV : Nat → Int32) (r : Int32) : Prop :=
  (ok → r = res ∧ XP T nV (pushV h Vs V) (pushN h) mem u) ∧ (¬ ok → r = err ∧ XP T V Vs h mem u)
theorem hx_gr {T : Nat} {Vs : Nat → Nat → Int32} {h o k : Nat} {mem : gM} {f : Nat → Int32} (hk : 143 ≤ k) (hx : HX T Vs h o mem) : HX T Vs h o (gr mem k f) := by
  obtain ⟨⟨x0, x1, x2, x3⟩, xs⟩ := hx
  have e : gr mem k f 29 = mem 29 := gr_n (by omega)
  refine ⟨⟨by rw [e]; exact x0, x1, by rw [e]; exact x2, x3⟩, fun j hj => ⟨(xs j hj).1.keep fun q q1 q2 => gr_n ?_, (xs j hj).2⟩⟩
  have : (o + j) % 4 < 4 := Nat.mod_lt _ (by decide)
  omega
theorem hx_lo {T : Nat} {Vs : Nat → Nat → Int32} {h o k : Nat} {mem : gM} {f : Nat → Int32} (hk : k < 29) (hx : HX T Vs h o mem) : HX T Vs h o (gr mem k f) := by
  obtain ⟨⟨x0, x1, x2, x3⟩, xs⟩ := hx
  have e : gr mem k f 29 = mem 29 := gr_n (by omega)
  refine ⟨⟨by rw [e]; exact x0, x1, by rw [e]; exact x2, x3⟩, fun j hj => ⟨(xs j hj).1.keep fun q q1 q2 => gr_n ?_, (xs j hj).2⟩⟩
  have : (o + j) % 4 < 4 := Nat.mod_lt _ (by decide)
  omega
theorem XP_same {T : Nat} {V : Nat → Int32} {Vs : Nat → Nat → Int32} {h o : Nat} {mem : gM} (r : Rel V mem) (hx : HX T Vs h o mem) : XP T V Vs h mem mem := ⟨r, ⟨o, hx⟩, fun _ _ => rfl⟩
theorem XP_gr {T : Nat} {V : Nat → Int32} {Vs : Nat → Nat → Int32} {h k : Nat} {mem u : gM} {f : Nat → Int32} (hk : 146 ≤ k ∧ k < 154) (x : XP T V Vs h mem u) : XP T V Vs h mem (gr u k f) := by
  obtain ⟨r, ⟨o, hx⟩, fr⟩ := x
  exact ⟨r_gr (by omega) r, ⟨o, hx_gr (by omega) hx⟩, fun q hq => by rw [gr_n (by omega)]; exact fr q hq⟩
theorem HX.more {T T2 : Nat} {Vs : Nat → Nat → Int32} {h o : Nat} {mem : gM} (hx : HX T Vs h o mem) (ht : T ≤ T2) : HX T2 Vs h o mem := ⟨hx.1, fun j hj => ⟨(hx.2 j hj).1, (hx.2 j hj).2.more ht⟩⟩
theorem bc_bt {T : Nat} {V : Nat → Int32} (g : Good T V) {x : Int32} (h : ∀ i, vN V ≤ i → i < 32 → bt x i = false) : bcI x = nI (fa_cnt (bt x) 10) := by
  have n10 := gd_n10 g
  have e : x = mk (bt x) (vN V) := mk_ext (by omega) fun i hi => by
    by_cases q : i < vN V
    · rw [decide_eq_true q, Bool.true_and]
    · rw [decide_eq_false q, Bool.false_and]; exact h i (by omega) hi
  have e2 : x = mk (bt x) 10 := mk_ext (by omega) fun i hi => by
    by_cases q : i < 10
    · rw [decide_eq_true q, Bool.true_and]
    · rw [decide_eq_false q, Bool.false_and]; exact h i (by omega) hi
  rw [← bc_10]
  exact congrArg bcI e2
theorem vN_upd {V : Nat → Int32} {i : Nat} {x : Int32} (h : i ≠ 5) : vN (upd V i x) = vN V := congrArg toN (upd_n (Ne.symm h))
theorem vZ_upd {V : Nat → Int32} {i : Nat} {x : Int32} (h : i ≠ 11) : vZ (upd V i x) = vZ V := congrArg toN (upd_n (Ne.symm h))
theorem rs_on {V : Nat → Int32} {mem : gM} (r : Rel V mem) {j : Nat} (hj : j < vN V) (hn10 : vN V ≤ 10) (hz10 : vZ V ≤ 10) : Rel (upd V (32 + 12 * j) (nI 1)) (gr mem 4 (upd (mem 4) 1 (mem 4 1 ||| bit j))) :=
  rs_lv r hj hn10 hz10 _ (by rw [r_lv r, mk_on (by omega) hj]; exact mk_cong fun m _ => by by_cases e : m = j <;> simp [e])
theorem rs_off {V : Nat → Int32} {mem : gM} (r : Rel V mem) {j : Nat} (hj : j < vN V) (hn10 : vN V ≤ 10) (hz10 : vZ V ≤ 10) : Rel (upd V (32 + 12 * j) (nI 0)) (gr mem 4 (upd (mem 4) 1 (mem 4 1 &&& (bit j ^^^ (-1))))) :=
  rs_lv r hj hn10 hz10 _ (by rw [r_lv r, mk_off (by omega) hj]; exact mk_cong fun m _ => by by_cases e : m = j <;> simp [e]; decide)
theorem jn_old {V : Nat → Int32} {w p : Int32} {i : Nat} (h5 : i ≠ 5) (h : i < 30 + 12 * vN V ∨ 42 + 12 * vN V ≤ i) : jnV V w p i = V i := by
  unfold jnV
  rw [upd_n h5, upd_n (by omega), upd_n (by omega), upd_n (by omega), upd_n (by omega), zr, if_neg (by omega)]
theorem jn_new {V : Nat → Int32} {w p : Int32} : jnV V w p (30 + 12 * vN V) = w ∧ jnV V w p (31 + 12 * vN V) = p ∧ jnV V w p (32 + 12 * vN V) = nI 1 ∧ jnV V w p (34 + 12 * vN V) = kNone ∧ jnV V w p 5 = nI (vN V + 1) := by
  unfold jnV
  refine ⟨?_, ?_, ?_, ?_, upd_s _ _ _⟩
  · rw [upd_n (by omega), upd_n (by omega), upd_n (by omega), upd_n (by omega), upd_s]
  · rw [upd_n (by omega), upd_n (by omega), upd_n (by omega), upd_s]
  · rw [upd_n (by omega), upd_n (by omega), upd_s]
  · rw [upd_n (by omega), upd_s]
theorem jn_zero {V : Nat → Int32} {w p : Int32} {c : Nat} (h : c = 33 ∨ c = 36 ∨ c = 37 ∨ c = 38 ∨ c = 39 ∨ c = 40) : jnV V w p (c + 12 * vN V) = nI 0 := by
  unfold jnV
  rw [upd_n (by omega), upd_n (by omega), upd_n (by omega), upd_n (by omega), upd_n (by omega), zr, if_pos (by omega)]
theorem rs_join {T : Nat} {V : Nat → Int32} {mem : gM} (g : Good T V) (r : Rel V mem) (hn : vN V < 10) (w p : Int32) : Rel (jnV V w p) (gr (gr (gr mem 6 (upd (mem 6) (vN V) w)) 8 (upd (mem 8) (vN V) p)) 4 (upd (upd (mem 4) 1 (mem 4 1 ||| bit (vN V))) 0 (nI (vN V + 1)))) := by
  obtain ⟨n1, n2, n3, n4, n5⟩ := jn_new (V := V) (w := w) (p := p)
  have hz : vZ (jnV V w p) = vZ V := congrArg toN (jn_old (by decide) (by omega))
  have hN : vN (jnV V w p) = vN V + 1 := by show toN (jnV V w p 5) = _; rw [n5, toN_nI (by omega)]
  have zz := (gd_z g).2
  obtain ⟨r1, ⟨r2, r3⟩, r4, r5, ⟨r6, r7, r8⟩, r9, r10, ⟨r11, r12, r13⟩, r14⟩ := r
  refine ⟨fun k hk => by rw [jn_old (by omega) (by omega)]; exact r1 k hk, ⟨by rw [n5]; show upd (upd (mem 4) 1 (mem 4 1 ||| bit (vN V))) 0 (nI (vN V + 1)) 0 = _; exact upd_s _ _ _, ?_⟩, fun m hm => ?_, fun m h1 h2 => ?_, ⟨by rw [jn_old (by omega) (by omega)]; exact r6, by rw [jn_old (by omega) (by omega)]; exact r7, by rw [jn_old (by omega) (by omega)]; exact r8⟩, fun q hq => ?_, fun q hq => by rw [jn_old (by omega) (by omega)]; exact r10 q hq, ⟨by rw [jn_old (by omega) (by omega)]; exact r11, by rw [jn_old (by omega) (by omega)]; exact r12, by rw [jn_old (by omega) (by omega)]; exact r13⟩, fun q hq => by rw [jn_old (by omega) (by omega)]; exact r14 q hq⟩
  · show upd (upd (mem 4) 1 (mem 4 1 ||| bit (vN V))) 0 (nI (vN V + 1)) 1 = _
    rw [upd_n (by decide), upd_s, hN, mk, show mem 4 1 = _ from r3]
    have e : vLv (jnV V w p) (vN V) = true := by unfold vLv; rw [n3]; rfl
    rw [if_pos e]
    exact congrArg (fun z => z ||| bit (vN V)) (mk_cong fun m hm => by unfold vLv; rw [jn_old (by omega) (by omega)])
  · rw [hN] at hm
    by_cases e : m = vN V
    · subst e
      obtain ⟨a2, a3, a4, a5, a6, a7⟩ := r5 (vN V) (Nat.le_refl _) hn
      refine ⟨?_, ?_, ?_, ?_, ?_, ?_, ?_, ?_⟩
      · rw [n1]; exact upd_s _ _ _
      · rw [n2]; exact upd_s _ _ _
      · rw [jn_zero (by omega)]; exact a2
      · rw [jn_zero (by omega)]; exact a3
      · rw [jn_zero (by omega)]; exact a4
      · rw [jn_zero (by omega)]; exact a5
      · rw [jn_zero (by omega)]; exact a6
      · rw [jn_zero (by omega)]; exact a7
    · obtain ⟨a0, a1, a2, a3, a4, a5, a6, a7⟩ := r4 m (by omega)
      rw [jn_old (by omega) (by omega), jn_old (by omega) (by omega), jn_old (by omega) (by omega), jn_old (by omega) (by omega), jn_old (by omega) (by omega), jn_old (by omega) (by omega), jn_old (by omega) (by omega), jn_old (by omega) (by omega)]
      exact ⟨(upd_n e).trans a0, (upd_n e).trans a1, a2, a3, a4, a5, a6, a7⟩
  · rw [hN] at h1
    exact r5 m (by omega) h2
  · rw [hz] at hq
    rw [jn_old (by omega) (by omega)]
    exact r9 q hq
/-! what the reads answer -/
def mbR (V : Nat → Int32) (j w : Nat) : Int32 := if w = 5 then nI (fa_cnt (fun b => vLo V b j) 200) else V (30 + 12 * j + w)
def memberR (V : Nat → Int32) (x y : Int32) : Int32 := if memP V x ∧ (0 ≤ y ∧ y < nI 9) then mbR V (toN x) (toN y) else kBad
def aboutR (V : Nat → Int32) (x : Int32) : Int32 := if 0 ≤ x ∧ x < nI 10 then V (toN x) else kBad
def seedR (V : Nat → Int32) : Int64 := if V 6 = 0 then (-4611686018427387905 : Int64) else (V 10).toInt64
def dutyR (V : Nat → Int32) (x : Int32) : Int32 := if x < 0 then kBad else if x < nI (vZ V) then V (12 + toN x) else kNone
def lfP (V : Nat → Int32) (l : Int32) (m : Nat) : Bool := vRR V m && !bt l m
def leftR (V : Nat → Int32) (l x : Int32) : Int32 :=
  if (0 ≤ l ∧ l ≤ nI 1023) ∧ 0 ≤ x then (if toN (V 2) ≤ fa_cnt (lfP V l) (vN V) then (if x < nI (vN V) then nI (nM V (nSd V (mk (lfP V l) (vN V))) (toN x)) else kNone) else kState) else kBad
def lostR (V : Nat → Int32) (x y : Int32) : Int32 := if memP V x ∧ blkP y then (if vLo V (toN y) (toN x) = true then nI 1 else nI 0) else kBad
def pastN (V : Nat → Int32) (i w : Nat) : Int32 := if i < min (toN (V 7)) 20 then V (360 + ((toN (V 7) - 1 - i) % 20 * 7 + w)) else kNone
def pastR (V : Nat → Int32) (x y : Int32) : Int32 := if 0 ≤ x ∧ (0 ≤ y ∧ y < nI 7) then pastN V (toN x) (toN y) else kBad
def whyR (V : Nat → Int32) (x : Int32) : Int32 := if blkP x then nI (hcd V (toN x)) else kBad
def lookN (V : Nat → Int32) (b m w : Nat) : Int32 :=
  let wa := toN (V 0)
  let f := fF V b wa
  if w = 0 then nI (role V b wa f m) else if los V b m = true then (if w = 1 then nI (wt V b wa m) else nI (sent V b wa f + dR V b m)) else kNone
def lookR (V : Nat → Int32) (x y z : Int32) : Int32 := if (blkP x ∧ memP V y) ∧ (0 ≤ z ∧ z ≤ nI 2) then (if hcd V (toN x) = 0 then lookN V (toN x) (toN y) (toN z) else kState) else kBad
/-- all that can be repaired, repaired, block by block -/
def raV (V : Nat → Int32) (wa : Nat) : Nat → (Nat → Int32) × Nat
  | 0 => (V, 0)
  | b + 1 => let q := raV V wa b; if hcd q.1 b = 0 then (rpV q.1 b wa, q.2 + 1) else q
theorem mk_left {T : Nat} {V : Nat → Int32} (g : Good T V) (l : Int32) : mk (vRR V) (vN V) &&& (l ^^^ (-1)) = mk (lfP V l) (vN V) := mk_ext (by have := gd_n10 g; omega) fun i hi => by
  rw [b_and, bt_not _ hi, bt_mk _ _ (by have := gd_n10 g; omega) i hi]
  unfold lfP
  cases decide (i < vN V) <;> simp
theorem hx_keep {T : Nat} {Vs : Nat → Nat → Int32} {h o : Nat} {mem u : gM} (hx : HX T Vs h o mem) (e : ∀ k, 29 ≤ k → k < 143 → u k = mem k) : HX T Vs h o u := by
  obtain ⟨⟨x0, x1, x2, x3⟩, xs⟩ := hx
  refine ⟨⟨by rw [e 29 (by omega) (by omega)]; exact x0, x1, by rw [e 29 (by omega) (by omega)]; exact x2, x3⟩, fun j hj => ⟨(xs j hj).1.keep fun q q1 q2 => e q (by omega) ?_, (xs j hj).2⟩⟩
  have : (o + j) % 4 < 4 := Nat.mod_lt _ (by decide)
  omega
