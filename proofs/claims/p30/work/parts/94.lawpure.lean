/-! what the law's own steps look at -/
theorem good_lvs {T : Nat} {V : Nat → Int32} (g : Good T V) {x : Int32} (z : Int32) (h : memP V x) : Good T (upd V (32 + 12 * toN x) (if z = 0 then nI 0 else nI 1)) := by
  obtain ⟨j, hj, rfl⟩ := memP_ex g h
  have n10 := gd_n10 g
  have ej : toN (nI j) = j := toN_nI (by omega)
  rw [ej]
  have hz : (if z = 0 then nI 0 else nI 1) = nI 0 ∨ (if z = 0 then nI 0 else nI 1) = nI 1 := by
    by_cases e : z = 0
    · rw [if_pos e]; exact Or.inl rfl
    · rw [if_neg e]; exact Or.inr rfl
  have := good_one (c := 2) g hj (by decide) ⟨fun q => absurd q (by decide), fun q => absurd q (by decide), fun _ => hz⟩
  rw [show 30 + 12 * j + 2 = 32 + 12 * j by omega] at this
  exact this
theorem good_sts {T : Nat} {V : Nat → Int32} (g : Good T V) {x y : Int32} (h : setP x y) : Good T (upd V (toN x) y) := by
  obtain ⟨j, hj, rfl⟩ := lt_ex (by decide) h.1
  rw [toN_nI (by omega)]
  exact good_set g hj h
theorem sil_nn {T : Nat} {V : Nat → Int32} (g : Good T V) (hT : T < 2 ^ 20) : vf_n32 (silR V) := by
  obtain ⟨a0, n0, ea, en, ha, hn⟩ := sil_b g hT
  unfold silR
  by_cases h : V 8 + V 9 = 0
  · rw [if_pos h]; unfold vf_n32; decide
  · rw [if_neg h, ea, en]
    exact fx_div (Nat.pos_of_ne_zero fun z => h (by rw [ea, z]; rfl)) ha hn
theorem fx_self {v : UInt32} (h : vf_n32 v) : FP.fcmp v v = some .eq := by
  have h1 : v.toNat % 2147483648 ≤ 2139095040 := by
    unfold vf_n32 at h
    rw [UInt32.le_iff_toNat_le, UInt32.toNat_and, show (0x7fffffff : UInt32).toNat = 2 ^ 31 - 1 by decide, Nat.and_two_pow_sub_one_eq_mod] at h
    exact h
  have h2 := fx_dec32 h1
  have cc : ∀ a : Int, compare a a = Ordering.eq := fun a => by
    show compareOfLessAndEq a a = _
    unfold compareOfLessAndEq
    rw [if_neg (by omega), if_pos rfl]
  show FP.Core.order (FP.Core.decode FP.Core.b32 v.toNat) (FP.Core.decode FP.Core.b32 v.toNat) = some .eq
  cases e : FP.Core.decode FP.Core.b32 v.toNat with
  | nan => exact absurd e h2
  | inf s => exact congrArg some (cc _)
  | fin s c q => exact congrArg some (cc _)
theorem sil_cmp {T : Nat} {V : Nat → Int32} (g : Good T V) (hT : T < 2 ^ 20) {y : UInt32} (e : silR V = y) : Op.cmpValue (FP.fcmp (silR V) y) CmpOp.l = 0 := by
  rw [← e, fx_self (sil_nn g hT)]
  rfl
theorem cnt_ge1 {p : Nat → Bool} {m : Nat} (h : p m = true) : ∀ {n : Nat}, m < n → 1 ≤ fa_cnt p n
  | 0, q => absurd q (Nat.not_lt_zero m)
  | n + 1, q => by
    by_cases e : m = n
    · subst e; rw [fa_cnt_yes h]; omega
    · have ih := cnt_ge1 (p := p) h (n := n) (by omega)
      unfold fa_cnt
      split <;> omega
theorem cnt_set {p p2 : Nat → Bool} {b : Nat} (h1 : p2 b = true) (h2 : ∀ q, q ≠ b → p2 q = p q) : ∀ n, fa_cnt p2 n = fa_cnt p n + (if b < n ∧ p b = false then 1 else 0)
  | 0 => by rw [if_neg (fun q => absurd q.1 (Nat.not_lt_zero b))]; rfl
  | n + 1 => by
    have ih := cnt_set h1 h2 n
    by_cases e : n = b
    · subst e
      rw [if_neg (fun q => absurd q.1 (Nat.lt_irrefl n))] at ih
      rw [fa_cnt_yes h1, ih]
      cases q : p n
      · rw [fa_cnt_no q, if_pos ⟨Nat.lt_succ_self n, rfl⟩]
      · rw [fa_cnt_yes q, if_neg (fun z => absurd z.2 (by decide))]
    · have e2 : (b < n + 1 ∧ p b = false) ↔ (b < n ∧ p b = false) := ⟨fun z => ⟨by omega, z.2⟩, fun z => ⟨by omega, z.2⟩⟩
      have e3 := h2 n e
      cases q : p n
      · rw [fa_cnt_no (e3.trans q), fa_cnt_no q, ih]
        by_cases z : b < n ∧ p b = false
        · rw [if_pos z, if_pos (e2.mpr z)]
        · rw [if_neg z, if_neg (fun y => z (e2.mp y))]
      · rw [fa_cnt_yes (e3.trans q), fa_cnt_yes q, ih]
        by_cases z : b < n ∧ p b = false
        · rw [if_pos z, if_pos (e2.mpr z)]
        · rw [if_neg z, if_neg (fun y => z (e2.mp y))]
theorem fa_first_cong {p q : Nat → Bool} {n : Nat} (h : ∀ k, k < n → p k = q k) : fa_first p n = fa_first q n := by
  by_cases e : fa_first p n < n
  · have h1 := fa_first_yes p n e
    have h2 := fa_first_no p n
    exact (fa_first_is (p := q) (fun k hk => by rw [← h k (by omega)]; exact h2 k hk) (by rw [← h _ e]; exact h1) e).symm
  · have e1 : fa_first p n = n := by have := fa_first_le p n; omega
    have h2 := fa_first_no p n
    rw [e1]
    exact (fa_first_all fun k hk => by rw [← h k hk]; exact h2 k (by omega)).symm
section LAWP
variable {T : Nat} {V : Nat → Int32}
abbrev lsV (V : Nat → Int32) (m b : Nat) : Nat → Int32 := upd V (150 + b) (V (150 + b) ||| bit m)
theorem ls_y {m b : Nat} (hm : m < 10) : vLo (lsV V m b) b m = true := by
  show bt (upd V (150 + b) (V (150 + b) ||| bit m) (150 + b)) m = true
  rw [upd_s, b_or, bt_bit (by omega) (by omega), decide_eq_true rfl, Bool.or_true]
theorem ls_o {m b q : Nat} (h : q ≠ b) : vLo (lsV V m b) q m = vLo V q m := by
  show bt (upd V (150 + b) (V (150 + b) ||| bit m) (150 + q)) m = _
  rw [upd_n (by omega)]
theorem ls_ge {m b : Nat} (hm : m < 10) : ¬ nI (fa_cnt (bt (V (150 + b) ||| bit m)) 10) < nI 1 := by
  have h1 := cnt_ge1 (p := bt (V (150 + b) ||| bit m)) (m := m) (by rw [b_or, bt_bit (by omega) (by omega), decide_eq_true rfl, Bool.or_true]) hm
  have h2 := fa_cnt_le (bt (V (150 + b) ||| bit m)) 10
  exact nI_nlt h1 (by omega)
theorem ls_cnt {m b : Nat} (hm : m < 10) (hb : b < 200) : nI (fa_cnt (fun q => vLo V q m) 200 + 1) - (if vLo V b m = true then nI 1 else nI 0) = nI (fa_cnt (fun q => vLo (lsV V m b) q m) 200) := by
  have h := cnt_set (p := fun q => vLo V q m) (p2 := fun q => vLo (lsV V m b) q m) (b := b) (ls_y hm) (fun q hq => ls_o hq) 200
  rw [h]
  by_cases z : vLo V b m = true
  · rw [if_pos z, if_neg (fun y => absurd y.2 (by show ¬ vLo V b m = false; rw [z]; decide)), pk_sub (by omega), Nat.add_sub_cancel, Nat.add_zero]
  · rw [if_neg z, if_pos ⟨hb, (Bool.not_eq_true _).mp z⟩, pk_sub (by omega), Nat.sub_zero]
theorem cm_n {m : Nat} {t : Int32} : vN (cmV V m t) = vN V := by
  show toN (cmV V m t 5) = _
  rw [cmV, upd_n (by omega), upd_n (by omega)]
theorem cm_38 {m : Nat} {t : Int32} : cmV V m t (38 + 12 * m) = nI 1 := by rw [cmV, upd_n (by omega), upd_s]
theorem cm_39 {m : Nat} {t : Int32} : cmV V m t (39 + 12 * m) = t := by rw [cmV, upd_s]
theorem cm_32 {m : Nat} {t : Int32} : cmV V m t (32 + 12 * m) = V (32 + 12 * m) := by rw [cmV, upd_n (by omega), upd_n (by omega)]
theorem rv_n {m : Nat} {t : Int32} : vN (rvV V m t) = vN V := by
  show toN (rvV V m t 5) = _
  rw [rvV, upd_n (by omega), upd_n (by omega)]
theorem rv_38 {m : Nat} {t : Int32} : rvV V m t (38 + 12 * m) = if mixI t = V (39 + 12 * m) then nI 2 else nI 3 := by rw [rvV, upd_n (by omega), upd_s]
/-! all repairs that are possible -/
def cnP (V : Nat → Int32) (q : Nat) : Bool := decide (hcd V q = 0)
theorem hcd_rp (g : Good T V) {b q wa : Nat} (hb : b < 200) (hq : q < 200) (h0 : hcd V b = 0) (hne : q ≠ b) : hcd (rpV V b wa) q = hcd V q := by
  have n10 := gd_n10 g
  have hk := (hc_0 h0).2.2
  have hz := (gd_z g).2
  have hrn := rp_lt g hk
  have h6 : rpV V b wa 6 = V 6 := rp_old (by decide) (by decide) (by omega) fun m => by omega
  have h32 : ∀ m, m < vN V → rpV V b wa (32 + 12 * m) = V (32 + 12 * m) := fun m hm => rp_old (by omega) (by omega) (by omega) fun m => by omega
  have h150 : rpV V b wa (150 + q) = V (150 + q) := (rp_150 hb hq n10 (by omega)).trans (if_neg hne)
  have hlv : ∀ m, m < vN V → vLv (rpV V b wa) m = vLv V m := fun m hm => by
    show decide (rpV V b wa (32 + 12 * m) = nI 1) = decide (V (32 + 12 * m) = nI 1)
    rw [h32 m hm]
  have hlo : ∀ m, vLo (rpV V b wa) q m = vLo V q m := fun m => by
    show bt (rpV V b wa (150 + q)) m = bt (V (150 + q)) m
    rw [h150]
  have hL : ∀ r, r < vZ V → vL (rpV V b wa) r = vL V r := fun r hr => congrArg toN (rp_old (by omega) (by omega) (by omega) fun m => by omega)
  have e1 : mk (los (rpV V b wa) q) (vN V) = mk (los V q) (vN V) := mk_cong fun m hm => by unfold los; rw [hlv m hm, hlo m]
  have e2 : rpK (rpV V b wa) q = rpK V q := by
    unfold rpK
    rw [rp_z]
    refine fa_first_cong fun r hr => ?_
    unfold rpG
    rw [hL r hr, hlv _ (gd_l g hr).2.1, hlo]
  unfold hcd
  rw [h6, rp_n, rp_z, e1, e2]
theorem ra_all (g : Good T V) (x : Ex T V) : ∀ b, b ≤ 200 → T + b < 2 ^ 20 → (Good (T + b) (raV V (rWA V) b).1 ∧ Ex (T + b) (raV V (rWA V) b).1 ∧ vN (raV V (rWA V) b).1 = vN V) ∧ (raV V (rWA V) b).2 = fa_cnt (cnP V) b ∧ (∀ q, b ≤ q → q < 200 → hcd (raV V (rWA V) b).1 q = hcd V q) ∧ ∀ q, q < b → ¬ hcd (raV V (rWA V) b).1 q = 0
  | 0, _, _ => ⟨⟨g, x, rfl⟩, rfl, fun _ _ _ => rfl, fun q hq => absurd hq (Nat.not_lt_zero q)⟩
  | b + 1, hb, hT => by
    obtain ⟨⟨g1, x1, n1⟩, c1, f1, d1⟩ := ra_all g x b (by omega) (by omega)
    have w1 : toN ((raV V (rWA V) b).1 0) = rWA V := congrArg toN (ra_wait b)
    generalize hS : (raV V (rWA V) b).1 = S at g1 x1 n1 f1 d1 w1
    have fb := f1 b (Nat.le_refl b) (by omega)
    by_cases h : hcd S b = 0
    · have e := ra_t (V := V) (wa := rWA V) (b := b) (by rw [hS]; exact h)
      rw [hS] at e
      rw [e]
      have hk := (hc_0 h).2.2
      refine ⟨⟨good_rep (T := T + b) g1 (by omega) (by omega) hk, ex_rep (T := T + b) g1 x1 (by omega) (by omega) hk, rp_n.trans n1⟩, ?_, fun q h1 h2 => ?_, fun q hq => ?_⟩
      · show (raV V (rWA V) b).2 + 1 = _
        rw [c1, fa_cnt_yes (decide_eq_true (fb.symm.trans h))]
      · exact (hcd_rp g1 (by omega) h2 h (by omega)).trans (f1 q (by omega) h2)
      · by_cases eq : q = b
        · rw [eq]
          have := (rp_law (T := T + b) g1 x1 (by omega) (by omega) h (V2 := rpV S b (rWA V)) (by rw [w1])).2.2.2.1
          rw [this]; decide
        · rw [hcd_rp g1 (by omega) (by omega) h eq]
          exact d1 q (by omega)
    · have e := ra_f (V := V) (wa := rWA V) (b := b) (by rw [hS]; exact h)
      rw [e, hS]
      refine ⟨⟨g1.more (by omega), x1.more (by omega), n1⟩, ?_, fun q h1 h2 => f1 q (by omega) h2, fun q hq => ?_⟩
      · rw [c1, fa_cnt_no (decide_eq_false fun z => h (fb.trans z))]
      · by_cases eq : q = b
        · rw [eq]; exact h
        · exact d1 q (by omega)
theorem st_cnt {wa : Nat} : ∀ b, (stF V wa b).2 = fa_cnt (cnP V) b
  | 0 => rfl
  | b + 1 => by
    have ih := st_cnt (wa := wa) b
    by_cases h : hcd V b = 0
    · rw [st_t h, fa_cnt_yes (decide_eq_true h)]; show (stF V wa b).2 + 1 = _; rw [ih]
    · rw [st_f h, fa_cnt_no (decide_eq_false h), ih]
theorem bw_z (h : fa_cnt (cnP V) 200 = 0) : ∀ k, bwF V k = none
  | 0 => rfl
  | k + 1 => by rw [bw_0 ((st_cnt 200).trans h), bw_z h k]
theorem bw_nz (h : ¬ fa_cnt (cnP V) 200 = 0) : ∀ k, ∃ q, bwF V (k + 1) = some q := fun k => by
  have hs : ¬ (stF V (tw k) 200).2 = 0 := by rw [st_cnt]; exact h
  cases hb : bwF V k with
  | none => exact ⟨_, bw_n hs hb⟩
  | some q =>
    by_cases h3 : (stF V (tw k) 200).1 < q.2
    · exact ⟨_, bw_lt hs hb h3⟩
    · exact ⟨_, bw_ge hs hb h3⟩
theorem bw_no (h : fa_cnt (cnP V) 200 = 0) : bwI (bwF V 6) = kNone := by rw [bw_z h]; rfl
theorem bw_yes (g : Good T V) (h : ¬ fa_cnt (cnP V) 200 = 0) : ¬ bwI (bwF V 6) = kNone := by
  obtain ⟨q, hq⟩ := bw_nz h 5
  have := bw_le g (k := 6) (by decide) hq
  rw [hq]
  exact nN_ne (f := q.1) (by omega)
theorem cnt_z {p : Nat → Bool} : ∀ {n : Nat}, (∀ q, q < n → p q = false) → fa_cnt p n = 0
  | 0, _ => rfl
  | n + 1, h => by rw [fa_cnt_no (h n (Nat.lt_succ_self n)), cnt_z fun q hq => h q (Nat.lt_succ_of_lt hq)]
theorem bw_after {S : Nat → Int32} (h : ∀ q, q < 200 → ¬ hcd S q = 0) : bwI (bwF S 6) = kNone := bw_no (cnt_z fun q hq => decide_eq_false (h q hq))
theorem cn_y {b : Nat} (h : nI (hcd V b) = 0) : nI (fa_cnt (cnP V) b + 1) = nI (fa_cnt (cnP V) (b + 1)) := by rw [fa_cnt_yes (decide_eq_true (hcd_0 h))]
theorem cn_n {b : Nat} (h : ¬ nI (hcd V b) = 0) : nI (fa_cnt (cnP V) b + 0) = nI (fa_cnt (cnP V) (b + 1)) := by rw [fa_cnt_no (decide_eq_false fun q => h (by rw [q]; rfl)), Nat.add_zero]
end LAWP
