/-! a text: naming members or not, how many digits so far; none where it is stuck -/
abbrev dgN (c : Nat) : Prop := 48 ≤ c ∧ c ≤ 57
def auT (n c : Nat) (s : Bool × Nat) : Option (Bool × Nat) :=
  if s.1 = true then (if 48 ≤ c ∧ c - 48 < n then some (true, s.2 + 1) else if c = 59 ∧ 0 < s.2 then some (false, 0) else none)
  else (if dgN c ∧ s.2 < 3 then some (false, s.2 + 1) else if c = 58 ∧ 0 < s.2 then some (true, 0) else none)
def auS (n : Nat) (tx : Nat → Nat) : Nat → Option (Bool × Nat)
  | 0 => some (false, 0)
  | i + 1 => (auS n tx i).bind (auT n (tx i))
theorem au_s {n i : Nat} {tx : Nat → Nat} {s : Bool × Nat} (h : auS n tx i = some s) : auS n tx (i + 1) = auT n (tx i) s := by
  rw [auS, h]; rfl
theorem au_td {n c d : Nat} (h1 : 48 ≤ c) (h2 : c - 48 < n) : auT n c (true, d) = some (true, d + 1) := by
  rw [auT, if_pos rfl, if_pos ⟨h1, h2⟩]
theorem au_ts {n c d : Nat} (hn : n ≤ 10) (h1 : c = 59) (h2 : 0 < d) : auT n c (true, d) = some (false, 0) := by
  rw [auT, if_pos rfl, if_neg (by omega), if_pos ⟨h1, h2⟩]
theorem au_tn {n c d : Nat} (h1 : ¬ (48 ≤ c ∧ c - 48 < n)) (h2 : ¬ (c = 59 ∧ 0 < d)) : auT n c (true, d) = none := by
  rw [auT, if_pos rfl, if_neg h1, if_neg h2]
theorem au_fd {n c d : Nat} (h1 : dgN c) (h2 : d < 3) : auT n c (false, d) = some (false, d + 1) := by
  rw [auT, if_neg Bool.false_ne_true, if_pos ⟨h1, h2⟩]
theorem au_fs {n c d : Nat} (h1 : c = 58) (h2 : 0 < d) : auT n c (false, d) = some (true, 0) := by
  rw [auT, if_neg Bool.false_ne_true, if_neg (by rw [h1]; exact fun q => absurd q.1.2 (by decide)), if_pos ⟨h1, h2⟩]
theorem au_fn {n c d : Nat} (h1 : ¬ (dgN c ∧ d < 3)) (h2 : ¬ (c = 58 ∧ 0 < d)) : auT n c (false, d) = none := by
  rw [auT, if_neg Bool.false_ne_true, if_neg h1, if_neg h2]
/-- what the automaton's next state tells of the character -/
theorem au_t {n c d : Nat} {s : Bool × Nat} (h : auT n c (true, d) = some s) : (48 ≤ c ∧ c - 48 < n ∧ s = (true, d + 1)) ∨ (c = 59 ∧ 0 < d ∧ s = (false, 0)) := by
  rw [auT, if_pos rfl] at h
  split at h
  · rename_i q; cases h; exact Or.inl ⟨q.1, q.2, rfl⟩
  · split at h
    · rename_i q; cases h; exact Or.inr ⟨q.1, q.2, rfl⟩
    · cases h
theorem au_f {n c d : Nat} {s : Bool × Nat} (h : auT n c (false, d) = some s) : (dgN c ∧ d < 3 ∧ s = (false, d + 1)) ∨ (c = 58 ∧ 0 < d ∧ s = (true, 0)) := by
  rw [auT, if_neg Bool.false_ne_true] at h
  split at h
  · rename_i q; cases h; exact Or.inl ⟨q.1, q.2, rfl⟩
  · split at h
    · rename_i q; cases h; exact Or.inr ⟨q.1, q.2, rfl⟩
    · cases h
theorem au_down {n i : Nat} {tx : Nat → Nat} (h : auS n tx i = none) : auS n tx (i + 1) = none := by rw [auS, h]; rfl
theorem au_dead {n i : Nat} {tx : Nat → Nat} (h : auS n tx i = none) : ∀ {j : Nat}, i ≤ j → auS n tx j = none
  | 0, hj => by rw [show 0 = i by omega]; exact h
  | j + 1, hj => by
    by_cases e : i = j + 1
    · rw [← e]; exact h
    · exact au_down (au_dead h (by omega))
theorem au_live {n i : Nat} {tx : Nat → Nat} {s : Bool × Nat} (h : auS n tx i = some s) {j : Nat} (hj : j ≤ i) : ∃ t, auS n tx j = some t := by
  cases e : auS n tx j with
  | none => rw [au_dead e hj] at h; cases h
  | some t => exact ⟨t, rfl⟩
theorem au_d {n : Nat} {tx : Nat → Nat} : ∀ {i : Nat} {s : Bool × Nat}, auS n tx i = some s → s.2 ≤ i
  | 0, s, h => by cases h; exact Nat.le_refl _
  | i + 1, s, h => by
    obtain ⟨t, ht⟩ := au_live h (Nat.le_succ i)
    have ih := au_d ht
    rw [au_s ht] at h
    obtain ⟨b, d⟩ := t
    have ih : d ≤ i := ih
    cases b with
    | true => rcases au_t h with ⟨_, _, rfl⟩ | ⟨_, _, rfl⟩ <;> (show _ ≤ _; simp only; omega)
    | false => rcases au_f h with ⟨_, _, rfl⟩ | ⟨_, _, rfl⟩ <;> (show _ ≤ _; simp only; omega)
def skT (n : Nat) (tx : Nat → Nat) (i : Nat) : Bool := (auS n tx (i + 1)).isNone
def okT (n : Nat) (tx : Nat → Nat) (tl : Nat) : Prop := ∃ d, auS n tx tl = some (true, d) ∧ 0 < d
def wsT (n : Nat) (tx : Nat → Nat) (tl : Nat) : Nat := fa_first (skT n tx) tl
theorem sk_no {n i : Nat} {tx : Nat → Nat} {s : Bool × Nat} (h : auS n tx i = some s) : ∀ k, k < i → skT n tx k = false := fun k hk => by
  obtain ⟨t, ht⟩ := au_live h (j := k + 1) hk
  unfold skT
  rw [ht]; rfl
/-- stuck within -/
theorem ws_in {n i tl : Nat} {tx : Nat → Nat} {s : Bool × Nat} (hi : i < tl) (h : auS n tx i = some s) (h2 : auT n (tx i) s = none) : ¬ okT n tx tl ∧ wsT n tx tl = i := by
  have e : auS n tx (i + 1) = none := by rw [au_s h]; exact h2
  refine ⟨fun ⟨d, hd, _⟩ => ?_, fa_first_is (sk_no h) (by unfold skT; rw [e]; rfl) hi⟩
  rw [au_dead e hi] at hd
  cases hd
/-- stuck at the end -/
theorem ws_end {n tl : Nat} {tx : Nat → Nat} {b : Bool} {d : Nat} (h : auS n tx tl = some (b, d)) (h2 : ¬ (b = true ∧ 0 < d)) : ¬ okT n tx tl ∧ wsT n tx tl = tl := by
  refine ⟨fun ⟨e, he, h0⟩ => ?_, fa_first_all (sk_no h)⟩
  rw [h] at he
  cases he
  exact h2 ⟨rfl, h0⟩
/-! groups -/
def gsT (tx : Nat → Nat) : Nat → Nat
  | 0 => 0
  | i + 1 => if tx i = 59 then i + 1 else gsT tx i
theorem gs_y {tx : Nat → Nat} {i : Nat} (h : tx i = 59) : gsT tx (i + 1) = i + 1 := by rw [gsT, if_pos h]
theorem gs_n {tx : Nat → Nat} {i : Nat} (h : ¬ tx i = 59) : gsT tx (i + 1) = gsT tx i := by rw [gsT, if_neg h]
theorem gs_le {tx : Nat → Nat} : ∀ i, gsT tx i ≤ i
  | 0 => Nat.le_refl _
  | i + 1 => by
    have ih := gs_le (tx := tx) i
    by_cases e : tx i = 59
    · rw [gs_y e]; exact Nat.le_refl _
    · rw [gs_n e]; omega
/-- the number that k characters from s on tell -/
def vlT (tx : Nat → Nat) (s : Nat) : Nat → Nat
  | 0 => 0
  | k + 1 => 10 * vlT tx s k + (tx (s + k) - 48)
theorem vl_3 {tx : Nat → Nat} {s k : Nat} (hk : k ≤ 3) (h : ∀ j, j < k → dgN (tx (s + j))) : vlT tx s k ≤ 999 := by
  match k, hk with
  | 0, _ => exact Nat.zero_le _
  | 1, _ => have := (h 0 (by omega)).2; simp only [vlT]; omega
  | 2, _ => have := (h 0 (by omega)).2; have := (h 1 (by omega)).2; simp only [vlT]; omega
  | 3, _ => have := (h 0 (by omega)).2; have := (h 1 (by omega)).2; have := (h 2 (by omega)).2; simp only [vlT]; omega
  | k + 4, h => omega
/-- how many digits stand from s on -/
def ndP (tx : Nat → Nat) (tl s j : Nat) : Bool := !decide (s + j < tl ∧ dgN (tx (s + j)))
def ndT (tx : Nat → Nat) (tl s : Nat) : Nat := fa_first (ndP tx tl s) (tl + 1)
def nfT (tx : Nat → Nat) (tl s : Nat) : Nat := vlT tx s (ndT tx tl s)
theorem nd_is {tx : Nat → Nat} {tl s k : Nat} (h1 : s + k ≤ tl) (h2 : ∀ j, j < k → dgN (tx (s + j))) (h3 : ¬ (s + k < tl ∧ dgN (tx (s + k)))) : ndT tx tl s = k :=
  fa_first_is (fun j hj => by unfold ndP; rw [decide_eq_true ⟨by omega, h2 j hj⟩]; rfl) (by unfold ndP; rw [decide_eq_false h3]; rfl) (by omega)
theorem nf_is {tx : Nat → Nat} {tl s k : Nat} (h1 : s + k ≤ tl) (h2 : ∀ j, j < k → dgN (tx (s + j))) (h3 : ¬ (s + k < tl ∧ dgN (tx (s + k)))) : nfT tx tl s = vlT tx s k := by
  unfold nfT; rw [nd_is h1 h2 h3]
/-- what a state of the automaton tells of the group so far -/
theorem au_g {n : Nat} {tx : Nat → Nat} (hn : n ≤ 10) : ∀ {i : Nat} {s : Bool × Nat}, auS n tx i = some s →
    (s.1 = false → gsT tx i + s.2 = i ∧ s.2 ≤ 3 ∧ ∀ j, j < s.2 → dgN (tx (gsT tx i + j))) ∧ (s.1 = true → ∃ p, p < i ∧ tx p = 58 ∧ gsT tx p = gsT tx i)
  | 0, s, h => by cases h; exact ⟨fun _ => ⟨rfl, by decide, fun j hj => absurd hj (Nat.not_lt_zero j)⟩, fun q => absurd q Bool.false_ne_true⟩
  | i + 1, s, h => by
    obtain ⟨t, ht⟩ := au_live h (Nat.le_succ i)
    obtain ⟨ih1, ih2⟩ := au_g hn ht
    rw [au_s ht] at h
    obtain ⟨b, d⟩ := t
    cases b with
    | true =>
      obtain ⟨p, hp1, hp2, hp3⟩ := ih2 rfl
      rcases au_t h with ⟨c1, c2, rfl⟩ | ⟨c1, c2, rfl⟩
      · exact ⟨fun q => absurd q.symm Bool.false_ne_true, fun _ => ⟨p, by omega, hp2, by rw [gs_n (by omega)]; exact hp3⟩⟩
      · exact ⟨fun _ => ⟨by rw [gs_y c1]; rfl, by decide, fun j hj => absurd hj (Nat.not_lt_zero j)⟩, fun q => absurd q Bool.false_ne_true⟩
    | false =>
      obtain ⟨a1, a2, a3⟩ := ih1 rfl
      have a1 : gsT tx i + d = i := a1
      rcases au_f h with ⟨c1, c2, rfl⟩ | ⟨c1, c2, rfl⟩
      · rw [gs_n (by omega)]
        refine ⟨fun _ => ⟨by show _ + (d + 1) = _; omega, c2, fun j hj => ?_⟩, fun q => absurd q Bool.false_ne_true⟩
        have hj : j < d + 1 := hj
        by_cases e : j = d
        · rw [e, a1]; exact c1
        · exact a3 j (by show j < d; omega)
      · exact ⟨fun q => absurd q.symm Bool.false_ne_true, fun _ => ⟨i, by omega, c1, by rw [gs_n (by omega)]⟩⟩
/-- where a ':' may stand, the block's number is what its digits tell -/
theorem nf_col {n : Nat} {tx : Nat → Nat} {tl i d : Nat} (hn : n ≤ 10) (h : auS n tx i = some (false, d)) (hi : i < tl) (hc : tx i = 58) : nfT tx tl (gsT tx i) = vlT tx (gsT tx i) d ∧ vlT tx (gsT tx i) d ≤ 999 := by
  obtain ⟨a1, a2, a3⟩ := (au_g hn h).1 rfl
  have a1 : gsT tx i + d = i := a1
  exact ⟨nf_is (by omega) a3 (by rw [a1, hc]; exact fun q => absurd q.2.2 (by decide)), vl_3 a2 a3⟩
/-- a group whose block is too great -/
def gbT (tx : Nat → Nat) (tl i : Nat) : Bool := decide (tx i = 58 ∧ 200 ≤ nfT tx tl (gsT tx i))
def wrT (tx : Nat → Nat) (tl i : Nat) : Int32 := if fa_first (gbT tx tl) i < i then nI (gsT tx (fa_first (gbT tx tl) i)) else (-1 : Int32)
theorem wr_keep {tx : Nat → Nat} {tl i : Nat} (h : fa_first (gbT tx tl) i < i) : wrT tx tl (i + 1) = wrT tx tl i := by
  have e : fa_first (gbT tx tl) (i + 1) = fa_first (gbT tx tl) i := fa_first_is (fun k hk => fa_first_no _ i k hk) (fa_first_yes _ i h) (by omega)
  unfold wrT
  rw [e, if_pos h, if_pos (by omega)]
theorem wr_new {tx : Nat → Nat} {tl i : Nat} (h : ¬ fa_first (gbT tx tl) i < i) (h2 : gbT tx tl i = true) : wrT tx tl (i + 1) = nI (gsT tx i) := by
  have h3 := fa_first_le (gbT tx tl) i
  have e : fa_first (gbT tx tl) (i + 1) = i := fa_first_is (fun k hk => fa_first_no _ i k (by omega)) h2 (by omega)
  unfold wrT
  rw [e, if_pos (by omega)]
theorem wr_no {tx : Nat → Nat} {tl i : Nat} (h2 : gbT tx tl i = false) : wrT tx tl (i + 1) = wrT tx tl i := by
  by_cases h : fa_first (gbT tx tl) i < i
  · exact wr_keep h
  · have h3 := fa_first_le (gbT tx tl) i
    have e : fa_first (gbT tx tl) (i + 1) = i + 1 := fa_first_all fun k hk => by
      by_cases e : k = i
      · rw [e]; exact h2
      · exact fa_first_no _ i k (by omega)
    unfold wrT
    rw [e, if_neg (by omega), if_neg h]
theorem wr_neg {tx : Nat → Nat} {tl i : Nat} (hi : i ≤ 60) : wrT tx tl i < 0 ↔ ¬ fa_first (gbT tx tl) i < i := by
  unfold wrT
  by_cases h : fa_first (gbT tx tl) i < i
  · rw [if_pos h]
    have h2 := gs_le (tx := tx) (fa_first (gbT tx tl) i)
    exact ⟨fun q => absurd q (nI_pos (by omega)), fun q => absurd h q⟩
  · rw [if_neg h]
    exact ⟨fun _ => h, fun _ => by decide⟩
theorem wr_none {tx : Nat → Nat} {tl i : Nat} (h : ¬ fa_first (gbT tx tl) i < i) : (∀ k, k < i → gbT tx tl k = false) ∧ wrT tx tl i = (-1 : Int32) := by
  have h3 := fa_first_le (gbT tx tl) i
  exact ⟨fun k hk => fa_first_no _ i k (by omega), by unfold wrT; rw [if_neg h]⟩
/-- the losses told up to a place: block and member -/
def lsT (n : Nat) (tx : Nat → Nat) (tl : Nat) : Nat → List (Nat × Nat)
  | 0 => []
  | i + 1 => match auS n tx i with
    | some (true, _) => if 48 ≤ tx i ∧ tx i - 48 < n then lsT n tx tl i ++ [(nfT tx tl (gsT tx i), tx i - 48)] else lsT n tx tl i
    | _ => lsT n tx tl i
theorem ls_y {n i tl d : Nat} {tx : Nat → Nat} (h : auS n tx i = some (true, d)) (h1 : 48 ≤ tx i) (h2 : tx i - 48 < n) : lsT n tx tl (i + 1) = lsT n tx tl i ++ [(nfT tx tl (gsT tx i), tx i - 48)] := by
  rw [lsT, h]; exact if_pos ⟨h1, h2⟩
theorem ls_f {n i tl d : Nat} {tx : Nat → Nat} (h : auS n tx i = some (false, d)) : lsT n tx tl (i + 1) = lsT n tx tl i := by rw [lsT, h]
theorem ls_n {n i tl d : Nat} {tx : Nat → Nat} (h : auS n tx i = some (true, d)) (h1 : ¬ (48 ≤ tx i ∧ tx i - 48 < n)) : lsT n tx tl (i + 1) = lsT n tx tl i := by
  rw [lsT, h]; exact if_neg h1
theorem ls_len {n tl : Nat} {tx : Nat → Nat} : ∀ i, (lsT n tx tl i).length ≤ i
  | 0 => Nat.le_refl _
  | i + 1 => by
    have ih := ls_len (n := n) (tl := tl) (tx := tx) i
    cases e : auS n tx i with
    | none => rw [lsT, e]; simp only; omega
    | some t =>
      obtain ⟨b, d⟩ := t
      cases b with
      | false => rw [ls_f e]; omega
      | true =>
        by_cases q : 48 ≤ tx i ∧ tx i - 48 < n
        · rw [ls_y e q.1 q.2, List.length_append]; simp only [List.length_cons, List.length_nil]; omega
        · rw [ls_n e q]; omega
theorem ls_ok {n tl : Nat} {tx : Nat → Nat} (hn : n ≤ 10) : ∀ {i : Nat}, (∀ k, k < i → gbT tx tl k = false) → ∀ x ∈ lsT n tx tl i, x.1 < 200 ∧ x.2 < n
  | 0, _, x, hx => by cases hx
  | i + 1, h, x, hx => by
    have ih := ls_ok hn (tx := tx) (tl := tl) (i := i) fun k hk => h k (Nat.lt_succ_of_lt hk)
    cases e : auS n tx i with
    | none => rw [lsT, e] at hx; exact ih x hx
    | some t =>
      obtain ⟨b, d⟩ := t
      cases b with
      | false => rw [ls_f e] at hx; exact ih x hx
      | true =>
        by_cases q : 48 ≤ tx i ∧ tx i - 48 < n
        · rw [ls_y e q.1 q.2] at hx
          rcases List.mem_append.mp hx with hx | hx
          · exact ih x hx
          · obtain rfl := List.mem_singleton.mp hx
            obtain ⟨p, hp1, hp2, hp3⟩ := (au_g hn e).2 rfl
            have := h p (by omega)
            unfold gbT at this
            have := of_decide_eq_false this
            rw [hp3] at this
            exact ⟨Nat.lt_of_not_le fun z => this ⟨hp2, z⟩, q.2⟩
        · rw [ls_n e q] at hx; exact ih x hx
/-! the losses made -/
def apS (s : (Nat → Int32) × Nat) (x : Nat × Nat) : (Nat → Int32) × Nat := (upd s.1 (150 + x.1) (s.1 (150 + x.1) ||| bit x.2), if bt (s.1 (150 + x.1)) x.2 = true then s.2 else s.2 + 1)
def apL (V : Nat → Int32) (l : List (Nat × Nat)) : (Nat → Int32) × Nat := l.foldl apS (V, 0)
theorem ap_s (V : Nat → Int32) (l : List (Nat × Nat)) (x : Nat × Nat) : apL V (l ++ [x]) = apS (apL V l) x := by
  unfold apL; rw [List.foldl_append]; rfl
theorem ap_lo {V : Nat → Int32} : ∀ {l : List (Nat × Nat)} {i : Nat}, i < 150 → (apL V l).1 i = V i := by
  intro l i hi
  have gen : ∀ (l : List (Nat × Nat)) (s : (Nat → Int32) × Nat), (l.foldl apS s).1 i = s.1 i := by
    intro l
    induction l with
    | nil => intro s; rfl
    | cons x t ih => intro s; rw [List.foldl_cons, ih]; exact upd_n (by omega)
  exact gen l (V, 0)
theorem ap_vN (V : Nat → Int32) (l : List (Nat × Nat)) : vN (apL V l).1 = vN V := congrArg toN (ap_lo (by decide))
theorem ap_vZ (V : Nat → Int32) (l : List (Nat × Nat)) : vZ (apL V l).1 = vZ V := congrArg toN (ap_lo (by decide))
theorem ap_cnt (V : Nat → Int32) (l : List (Nat × Nat)) : (apL V l).2 ≤ l.length := by
  have gen : ∀ (l : List (Nat × Nat)) (s : (Nat → Int32) × Nat), (l.foldl apS s).2 ≤ s.2 + l.length := by
    intro l
    induction l with
    | nil => intro s; exact Nat.le_refl _
    | cons x t ih =>
      intro s
      rw [List.foldl_cons]
      have := ih (apS s x)
      have h2 : (apS s x).2 ≤ s.2 + 1 := by unfold apS; simp only; split <;> omega
      rw [List.length_cons]
      omega
  have := gen l (V, 0)
  show (l.foldl apS (V, 0)).2 ≤ _
  simpa using this
theorem good_ap {T : Nat} {V : Nat → Int32} (g : Good T V) {l : List (Nat × Nat)} (h : ∀ x ∈ l, x.1 < 200 ∧ x.2 < vN V) : Good T (apL V l).1 := by
  have gen : ∀ (l : List (Nat × Nat)) (s : (Nat → Int32) × Nat), Good T s.1 → (∀ x ∈ l, x.1 < 200 ∧ x.2 < vN s.1) → Good T (l.foldl apS s).1 := by
    intro l
    induction l with
    | nil => intro s g _; exact g
    | cons x t ih =>
      intro s g h
      rw [List.foldl_cons]
      have hx := h x (List.mem_cons_self ..)
      exact ih (apS s x) (good_ls g hx.2 hx.1) fun y hy => by
        have := h y (List.mem_cons_of_mem _ hy)
        rw [show vN (apS s x).1 = vN s.1 from congrArg toN (upd_n (by omega))]
        exact this
  exact gen l (V, 0) g h
theorem or_bt {x : Int32} {m : Nat} (hm : m < 32) : x ||| bit m = x ↔ bt x m = true := by
  constructor
  · intro h
    have : bt (x ||| bit m) m = bt x m := by rw [h]
    rw [b_or, bt_bit hm hm, decide_eq_true rfl, Bool.or_true] at this
    exact this.symm
  · intro h
    refine b_ext fun i hi => ?_
    rw [b_or, bt_bit hm hi]
    by_cases e : i = m
    · subst e; rw [h]; rfl
    · rw [decide_eq_false e, Bool.or_false]
theorem dg_n {c : Nat} (h : c < 2 ^ 31) : dgP (nI c) ↔ dgN c := by
  unfold dgP dgN
  rw [nI_leI (by decide) h, nI_leI h (by decide)]
/-- the error place, or -1 -/
def epI (n : Nat) (tx : Nat → Nat) (tl : Nat) (e : Int32) : Prop := (okT n tx tl → e = wrT tx tl tl) ∧ (¬ okT n tx tl → e = nI (wsT n tx tl))
/-- what read takes when the text is right -/
def rdOK (n : Nat) (tx : Nat → Nat) (tl : Nat) : Prop := okT n tx tl ∧ ¬ fa_first (gbT tx tl) tl < tl
theorem ep_neg {n tl : Nat} {tx : Nat → Nat} {e : Int32} (ht : tl ≤ 60) (h : epI n tx tl e) : e < 0 ↔ rdOK n tx tl := by
  by_cases q : okT n tx tl
  · rw [h.1 q, wr_neg ht]; exact ⟨fun z => ⟨q, z⟩, fun z => z.2⟩
  · rw [h.2 q]
    have h3 := fa_first_le (skT n tx) tl
    exact ⟨fun z => absurd z (nI_pos (by unfold wsT; omega)), fun z => absurd z.1 q⟩
theorem ep_det {n tl : Nat} {tx : Nat → Nat} {e e2 : Int32} (h : epI n tx tl e) (h2 : epI n tx tl e2) : e = e2 := by
  by_cases q : okT n tx tl
  · rw [h.1 q, h2.1 q]
  · rw [h.2 q, h2.2 q]
theorem all_s {P : Nat → Prop} {k : Nat} (h : ∀ j, j < k → P j) (h2 : P k) : ∀ j, j < k + 1 → P j := fun j hj => by
  by_cases e : j = k
  · rw [e]; exact h2
  · exact h j (by omega)
theorem gb_n {tx : Nat → Nat} {tl i : Nat} (h : ¬ tx i = 58) : gbT tx tl i = false := decide_eq_false fun q => h q.1
theorem au_c58 {n i d : Nat} {tx : Nat → Nat} {b : Bool} {t : Bool × Nat} (hn : n ≤ 10) (h : auS n tx i = some (b, d)) (h1 : auS n tx (i + 1) = some t) (hc : tx i = 58) : b = false ∧ auS n tx (i + 1) = some (true, 0) := by
  have h2 := h1
  rw [au_s h] at h2
  cases b with
  | true => rcases au_t h2 with ⟨c1, c2, _⟩ | ⟨c1, _, _⟩ <;> omega
  | false => rcases au_f h2 with ⟨c1, _, _⟩ | ⟨_, _, e⟩
             · exact absurd c1.2 (by omega)
             · rw [e] at h1; exact ⟨rfl, h1⟩
theorem au_c59 {n i d : Nat} {tx : Nat → Nat} {b : Bool} {t : Bool × Nat} (h : auS n tx i = some (b, d)) (h1 : auS n tx (i + 1) = some t) (hn : n ≤ 10) (hc : tx i = 59) : b = true ∧ auS n tx (i + 1) = some (false, 0) := by
  have h2 := h1
  rw [au_s h] at h2
  cases b with
  | true => rcases au_t h2 with ⟨c1, c2, _⟩ | ⟨_, _, e⟩
            · omega
            · rw [e] at h1; exact ⟨rfl, h1⟩
  | false => rcases au_f h2 with ⟨c1, _, _⟩ | ⟨c1, _, _⟩
             · exact absurd c1.2 (by omega)
             · omega
theorem au_oth {n i d : Nat} {tx : Nat → Nat} {b : Bool} {t : Bool × Nat} (h : auS n tx i = some (b, d)) (h1 : auS n tx (i + 1) = some t) (hc : ¬ tx i = 58) (hc2 : ¬ tx i = 59) : auS n tx (i + 1) = some (b, d + 1) ∧ (b = true → 48 ≤ tx i ∧ tx i - 48 < n) := by
  have h2 := h1
  rw [au_s h] at h2
  cases b with
  | true => rcases au_t h2 with ⟨c1, c2, e⟩ | ⟨c1, _, _⟩
            · rw [e] at h1; exact ⟨h1, fun _ => ⟨c1, c2⟩⟩
            · exact absurd c1 hc2
  | false => rcases au_f h2 with ⟨c1, _, e⟩ | ⟨c1, _, _⟩
             · rw [e] at h1; exact ⟨h1, fun q => absurd q (by decide)⟩
             · exact absurd c1 hc
theorem ls_blk {n i tl d : Nat} {tx : Nat → Nat} (hn : n ≤ 10) (h : auS n tx i = some (true, d)) (hg : ∀ k, k < i → gbT tx tl k = false) : nfT tx tl (gsT tx i) < 200 := by
  obtain ⟨p, hp1, hp2, hp3⟩ := (au_g hn h).2 rfl
  have := of_decide_eq_false (hg p hp1)
  rw [hp3] at this
  exact Nat.lt_of_not_le fun z => this ⟨hp2, z⟩
theorem ap_1 (V : Nat → Int32) (l : List (Nat × Nat)) (b m : Nat) : (apL V (l ++ [(b, m)])).1 = upd (apL V l).1 (150 + b) ((apL V l).1 (150 + b) ||| bit m) := by rw [ap_s]; rfl
theorem ap_2y {V : Nat → Int32} {l : List (Nat × Nat)} {b m : Nat} (h : bt ((apL V l).1 (150 + b)) m = true) : (apL V (l ++ [(b, m)])).2 = (apL V l).2 := by rw [ap_s]; exact if_pos h
theorem ap_2n {V : Nat → Int32} {l : List (Nat × Nat)} {b m : Nat} (h : ¬ bt ((apL V l).1 (150 + b)) m = true) : (apL V (l ++ [(b, m)])).2 = (apL V l).2 + 1 := by rw [ap_s]; exact if_neg h
