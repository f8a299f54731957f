/-! the places of the world (by program, wip/whole/mk_layout.py): 0 rd; 1 now; 2 now_settings; 3 now_settings_a; 4 now_members; 5 now_weights; 6 now_weights_a; 7 now_positions; 8 now_positions_a; 9 now_credits; 10 now_credits_a; 11 now_repaired; 12 now_repaired_a; 13 now_missed; 14 now_missed_a; 15 now_stages; 16 now_stages_a; 17 now_told; 18 now_told_a; 19 now_secrets; 20 now_secrets_a; 21 now_duties; 22 now_duties_list; 23 now_duties_list_a; 24 now_lost; 25 now_lost_a; 26 now_log; 27 now_numbers; 28 now_numbers_a; 29 history; 30 states; 31 st0; 32 st0_settings; 33 st0_settings_a; 34 st0_members; 35 st0_weights; 36 st0_weights_a; 37 st0_positions; 38 st0_positions_a; 39 st0_credits; 40 st0_credits_a; 41 st0_repaired; 42 st0_repaired_a; 43 st0_missed; 44 st0_missed_a; 45 st0_stages; 46 st0_stages_a; 47 st0_told; 48 st0_told_a; 49 st0_secrets; 50 st0_secrets_a; 51 st0_duties; 52 st0_duties_list; 53 st0_duties_list_a; 54 st0_lost; 55 st0_lost_a; 56 st0_log; 57 st0_numbers; 58 st0_numbers_a; 59 st1; 60 st1_settings; 61 st1_settings_a; 62 st1_members; 63 st1_weights; 64 st1_weights_a; 65 st1_positions; 66 st1_positions_a; 67 st1_credits; 68 st1_credits_a; 69 st1_repaired; 70 st1_repaired_a; 71 st1_missed; 72 st1_missed_a; 73 st1_stages; 74 st1_stages_a; 75 st1_told; 76 st1_told_a; 77 st1_secrets; 78 st1_secrets_a; 79 st1_duties; 80 st1_duties_list; 81 st1_duties_list_a; 82 st1_lost; 83 st1_lost_a; 84 st1_log; 85 st1_numbers; 86 st1_numbers_a; 87 st2; 88 st2_settings; 89 st2_settings_a; 90 st2_members; 91 st2_weights; 92 st2_weights_a; 93 st2_positions; 94 st2_positions_a; 95 st2_credits; 96 st2_credits_a; 97 st2_repaired; 98 st2_repaired_a; 99 st2_missed; 100 st2_missed_a; 101 st2_stages; 102 st2_stages_a; 103 st2_told; 104 st2_told_a; 105 st2_secrets; 106 st2_secrets_a; 107 st2_duties; 108 st2_duties_list; 109 st2_duties_list_a; 110 st2_lost; 111 st2_lost_a; 112 st2_log; 113 st2_numbers; 114 st2_numbers_a; 115 st3; 116 st3_settings; 117 st3_settings_a; 118 st3_members; 119 st3_weights; 120 st3_weights_a; 121 st3_positions; 122 st3_positions_a; 123 st3_credits; 124 st3_credits_a; 125 st3_repaired; 126 st3_repaired_a; 127 st3_missed; 128 st3_missed_a; 129 st3_stages; 130 st3_stages_a; 131 st3_told; 132 st3_told_a; 133 st3_secrets; 134 st3_secrets_a; 135 st3_duties; 136 st3_duties_list; 137 st3_duties_list_a; 138 st3_lost; 139 st3_lost_a; 140 st3_log; 141 st3_numbers; 142 st3_numbers_a; 143 text; 144 signs; 145 signs_a; 146 plan; 147 waits; 148 waits_a; 149 arrivals; 150 arrivals_a; 151 guess; 152 guess_list; 153 guess_list_a -/
abbrev gSh : Type := Nat ⊕ ((Nat × List (Option Nat)) ⊕ List Nat)
def gsh_0 : List gSh := [.inr (.inl (8, [some 1, some 29, some 143, some 146, some 151])), .inr (.inl (6, [some 2, some 4, some 21, some 24, some 26])), .inr (.inl (5, [some 3])), .inl 5, .inr (.inl (3, [none, none, some 5, some 7, some 9, some 11, some 13, some 15, some 17, some 19])), .inr (.inl (5, [some 6])), .inl 10, .inr (.inl (5, [some 8])), .inl 10, .inr (.inl (5, [some 10])), .inl 10, .inr (.inl (5, [some 12])), .inl 10, .inr (.inl (5, [some 14])), .inl 10, .inr (.inl (5, [some 16])), .inl 10, .inr (.inl (5, [some 18])), .inl 10, .inr (.inl (5, [some 20])), .inl 10, .inr (.inl (0, [none, none, none, some 22])), .inr (.inl (5, [some 23])), .inl 10, .inr (.inl (5, [some 25])), .inl 200, .inr (.inl (2, [none, none, none, some 27])), .inr (.inl (5, [some 28])), .inl 140, .inr (.inl (1, [none, none, some 30])), .inr (.inr [31, 59, 87, 115]), .inr (.inl (6, [some 32, some 34, some 51, some 54, some 56])), .inr (.inl (5, [some 33])), .inl 5, .inr (.inl (3, [none, none, some 35, some 37, some 39, some 41, some 43, some 45, some 47, some 49])), .inr (.inl (5, [some 36])), .inl 10, .inr (.inl (5, [some 38])), .inl 10, .inr (.inl (5, [some 40]))]
def gsh_1 : List gSh := [.inl 10, .inr (.inl (5, [some 42])), .inl 10, .inr (.inl (5, [some 44])), .inl 10, .inr (.inl (5, [some 46])), .inl 10, .inr (.inl (5, [some 48])), .inl 10, .inr (.inl (5, [some 50])), .inl 10, .inr (.inl (0, [none, none, none, some 52])), .inr (.inl (5, [some 53])), .inl 10, .inr (.inl (5, [some 55])), .inl 200, .inr (.inl (2, [none, none, none, some 57])), .inr (.inl (5, [some 58])), .inl 140, .inr (.inl (6, [some 60, some 62, some 79, some 82, some 84])), .inr (.inl (5, [some 61])), .inl 5, .inr (.inl (3, [none, none, some 63, some 65, some 67, some 69, some 71, some 73, some 75, some 77])), .inr (.inl (5, [some 64])), .inl 10, .inr (.inl (5, [some 66])), .inl 10, .inr (.inl (5, [some 68])), .inl 10, .inr (.inl (5, [some 70])), .inl 10, .inr (.inl (5, [some 72])), .inl 10, .inr (.inl (5, [some 74])), .inl 10, .inr (.inl (5, [some 76])), .inl 10, .inr (.inl (5, [some 78])), .inl 10, .inr (.inl (0, [none, none, none, some 80]))]
def gsh_2 : List gSh := [.inr (.inl (5, [some 81])), .inl 10, .inr (.inl (5, [some 83])), .inl 200, .inr (.inl (2, [none, none, none, some 85])), .inr (.inl (5, [some 86])), .inl 140, .inr (.inl (6, [some 88, some 90, some 107, some 110, some 112])), .inr (.inl (5, [some 89])), .inl 5, .inr (.inl (3, [none, none, some 91, some 93, some 95, some 97, some 99, some 101, some 103, some 105])), .inr (.inl (5, [some 92])), .inl 10, .inr (.inl (5, [some 94])), .inl 10, .inr (.inl (5, [some 96])), .inl 10, .inr (.inl (5, [some 98])), .inl 10, .inr (.inl (5, [some 100])), .inl 10, .inr (.inl (5, [some 102])), .inl 10, .inr (.inl (5, [some 104])), .inl 10, .inr (.inl (5, [some 106])), .inl 10, .inr (.inl (0, [none, none, none, some 108])), .inr (.inl (5, [some 109])), .inl 10, .inr (.inl (5, [some 111])), .inl 200, .inr (.inl (2, [none, none, none, some 113])), .inr (.inl (5, [some 114])), .inl 140, .inr (.inl (6, [some 116, some 118, some 135, some 138, some 140])), .inr (.inl (5, [some 117])), .inl 5, .inr (.inl (3, [none, none, some 119, some 121, some 123, some 125, some 127, some 129, some 131, some 133])), .inr (.inl (5, [some 120]))]
def gsh_3 : List gSh := [.inl 10, .inr (.inl (5, [some 122])), .inl 10, .inr (.inl (5, [some 124])), .inl 10, .inr (.inl (5, [some 126])), .inl 10, .inr (.inl (5, [some 128])), .inl 10, .inr (.inl (5, [some 130])), .inl 10, .inr (.inl (5, [some 132])), .inl 10, .inr (.inl (5, [some 134])), .inl 10, .inr (.inl (0, [none, none, none, some 136])), .inr (.inl (5, [some 137])), .inl 10, .inr (.inl (5, [some 139])), .inl 200, .inr (.inl (2, [none, none, none, some 141])), .inr (.inl (5, [some 142])), .inl 140, .inr (.inl (7, [none, some 144])), .inr (.inl (5, [some 145])), .inl 60, .inr (.inl (4, [none, none, none, none, none, none, none, none, none, none, some 147, some 149])), .inr (.inl (5, [some 148])), .inl 10, .inr (.inl (5, [some 150])), .inl 10, .inr (.inl (0, [none, none, none, some 152])), .inr (.inl (5, [some 153])), .inl 10]
def gsh : List gSh := gsh_0 ++ (gsh_1 ++ (gsh_2 ++ (gsh_3)))
/-! the memory: the ints of every place; a place's row is a function -/
abbrev gM : Type := Nat → Nat → Int32
def gr (m : gM) (k : Nat) (f : Nat → Int32) : gM := fun q => if q = k then f else m q
theorem gr_s (m : gM) (k : Nat) (f : Nat → Int32) : gr m k f k = f := if_pos rfl
theorem gr_n {m : gM} {k q : Nat} {f : Nat → Int32} (h : q ≠ k) : gr m k f q = m q := if_neg h
theorem gr_self (m : gM) (k : Nat) : gr m k (m k) = m := by
  funext q
  by_cases h : q = k
  · rw [h, gr_s]
  · rw [gr_n h]
theorem gr_gr (m : gM) (k : Nat) (f g : Nat → Int32) : gr (gr m k f) k g = gr m k g := by
  funext q
  by_cases h : q = k
  · rw [h, gr_s, gr_s]
  · rw [gr_n h, gr_n h, gr_n h]
theorem gr_comm (m : gM) {k j : Nat} (h : k ≠ j) (f g : Nat → Int32) : gr (gr m k f) j g = gr (gr m j g) k f := by
  funext q
  by_cases h1 : q = j
  · subst h1; rw [gr_s, gr_n (Ne.symm h), gr_s]
  · rw [gr_n h1]
    by_cases h2 : q = k
    · subst h2; rw [gr_s, gr_s]
    · rw [gr_n h2, gr_n h2, gr_n h1]
def gFs (ad : Nat → Nat) (f : Nat → Int32) : Nat → List (Option Nat) → List Value
  | _, [] => []
  | i, none :: t => .int (f i) :: gFs ad f (i + 1) t
  | i, some q :: t => .ref (ad q) :: gFs ad f (i + 1) t
theorem gFs_i {ad : Nat → Nat} {f : Nat → Int32} : ∀ {l : List (Option Nat)} {i j : Nat}, l[j]? = some none → (gFs ad f i l)[j]? = some (.int (f (i + j)))
  | [], _, _, h => by simp at h
  | none :: t, i, 0, h => by simp [gFs]
  | some q :: t, i, 0, h => by simp at h
  | none :: t, i, j + 1, h => by
    rw [List.getElem?_cons_succ] at h
    rw [show i + (j + 1) = (i + 1) + j by omega]
    simpa [gFs] using gFs_i h
  | some q :: t, i, j + 1, h => by
    rw [List.getElem?_cons_succ] at h
    rw [show i + (j + 1) = (i + 1) + j by omega]
    simpa [gFs] using gFs_i h
theorem gFs_r {ad : Nat → Nat} {f : Nat → Int32} {q : Nat} : ∀ {l : List (Option Nat)} {i j : Nat}, l[j]? = some (some q) → (gFs ad f i l)[j]? = some (.ref (ad q))
  | [], _, _, h => by simp at h
  | some q :: t, i, 0, h => by simp at h; simp [gFs, h]
  | none :: t, i, 0, h => by simp at h
  | none :: t, i, j + 1, h => by
    rw [List.getElem?_cons_succ] at h
    simpa [gFs] using gFs_r h
  | some q :: t, i, j + 1, h => by
    rw [List.getElem?_cons_succ] at h
    simpa [gFs] using gFs_r h
theorem gFs_congr {ad : Nat → Nat} {f g : Nat → Int32} : ∀ {l : List (Option Nat)} {i : Nat}, (∀ q, i ≤ q → f q = g q) → gFs ad f i l = gFs ad g i l
  | [], _, _ => rfl
  | none :: t, i, h => by simp only [gFs]; rw [h i (Nat.le_refl _), gFs_congr (l := t) (i := i + 1) fun q hq => h q (by omega)]
  | some q :: t, i, h => by simp only [gFs]; rw [gFs_congr (l := t) (i := i + 1) fun q hq => h q (by omega)]
theorem gFs_len {ad : Nat → Nat} {f : Nat → Int32} : ∀ {l : List (Option Nat)} {i : Nat}, (gFs ad f i l).length = l.length
  | [], _ => rfl
  | none :: t, i => by simp [gFs, gFs_len (l := t)]
  | some q :: t, i => by simp [gFs, gFs_len (l := t)]
theorem gFs_set {ad : Nat → Nat} {f : Nat → Int32} {v : Int32} : ∀ {l : List (Option Nat)} {i j : Nat}, l[j]? = some none → (gFs ad f i l).set j (.int v) = gFs ad (upd f (i + j) v) i l
  | [], _, _, h => by simp at h
  | none :: t, i, 0, h => by
    simp only [gFs, List.set_cons_zero]
    rw [show upd f (i + 0) v i = v by simp [upd]]
    rw [gFs_congr (l := t) (f := f) (g := upd f (i + 0) v) fun q hq => by simp [upd]; omega]
  | some q :: t, i, 0, h => by simp at h
  | none :: t, i, j + 1, h => by
    rw [List.getElem?_cons_succ] at h
    simp only [gFs, List.set_cons_succ]
    rw [gFs_set h, show i + 1 + j = i + (j + 1) by omega]
    rw [show upd f (i + (j + 1)) v i = f i by simp [upd]]
  | some q :: t, i, j + 1, h => by
    rw [List.getElem?_cons_succ] at h
    simp only [gFs, List.set_cons_succ]
    rw [gFs_set h, show i + 1 + j = i + (j + 1) by omega]
def gE (cI cS : ClassId) (ad : Nat → Nat) (r : Nat → Int32) : gSh → va_E
  | .inl n => .inl (cI, (n, .inl r))
  | .inr (.inl o) => .inr (o.1, gFs ad r 0 o.2)
  | .inr (.inr l) => .inl (cS, (l.length, .inr (.inr (.inr (.inr (fun j => (l[j]?).map ad))))))
def gL (cI cS : ClassId) (ad : Nat → Nat) (m : gM) : Nat → List gSh → va_W
  | _, [] => []
  | k, s :: t => (ad k, gE cI cS ad (m k) s) :: gL cI cS ad m (k + 1) t
theorem gL_get {cI cS : ClassId} {ad : Nat → Nat} {m : gM} {s : gSh} : ∀ {l : List gSh} {k j : Nat}, l[j]? = some s → (gL cI cS ad m k l)[j]? = some (ad (k + j), gE cI cS ad (m (k + j)) s)
  | [], _, _, h => by simp at h
  | x :: t, k, 0, h => by simp at h; simp [gL, h]
  | x :: t, k, j + 1, h => by
    rw [List.getElem?_cons_succ] at h
    rw [show k + (j + 1) = (k + 1) + j by omega]
    simpa [gL] using gL_get h
theorem gL_congr {cI cS : ClassId} {ad : Nat → Nat} {m m2 : gM} : ∀ {l : List gSh} {k : Nat}, (∀ q, k ≤ q → m q = m2 q) → gL cI cS ad m k l = gL cI cS ad m2 k l
  | [], _, _ => rfl
  | x :: t, k, h => by simp only [gL]; rw [h k (Nat.le_refl _), gL_congr (l := t) (k := k + 1) fun q hq => h q (by omega)]
theorem gL_set {cI cS : ClassId} {ad : Nat → Nat} {m : gM} {s : gSh} {f : Nat → Int32} : ∀ {l : List gSh} {k j : Nat}, l[j]? = some s → (gL cI cS ad m k l).set j (ad (k + j), gE cI cS ad f s) = gL cI cS ad (gr m (k + j) f) k l
  | [], _, _, h => by simp at h
  | x :: t, k, 0, h => by
    simp at h
    subst h
    simp only [gL, List.set_cons_zero, Nat.add_zero]
    rw [gr_s, gL_congr (l := t) (k := k + 1) (m := m) (m2 := gr m k f) fun q hq => (gr_n (by omega)).symm]
  | x :: t, k, j + 1, h => by
    rw [List.getElem?_cons_succ] at h
    simp only [gL, List.set_cons_succ]
    rw [show k + (j + 1) = (k + 1) + j by omega, gL_set h, gr_n (show k ≠ k + 1 + j by omega)]
theorem gL_dist {cI cS : ClassId} {ad : Nat → Nat} {m m2 : gM} : ∀ {l : List gSh} {k j : Nat} {q : Nat × va_E}, (gL cI cS ad m2 k l)[j]? = some q → ∃ e, (gL cI cS ad m k l)[j]? = some (q.1, e)
  | [], _, _, _, h => by simp [gL] at h
  | x :: t, k, 0, q, h => by simp [gL] at h; exact ⟨_, by simp [gL, ← h]; rfl⟩
  | x :: t, k, j + 1, q, h => by
    simp only [gL, List.getElem?_cons_succ] at h ⊢
    exact gL_dist h
abbrev gG : Type := va_G × (Nat → Nat) × (ClassId × ClassId × Nat) × (Nat → Prop) × (Nat × Nat × Nat)
/-- the places of the class's objects, then the rows of ten ints that the law has made -/
def gshx (G : gG) : List gSh := gsh ++ List.replicate G.2.2.1.2.2 (.inl 10)
theorem gx (G : gG) {k : Nat} {s : gSh} (h : gsh[k]? = some s) : (gshx G)[k]? = some s := by
  unfold gshx
  rw [List.getElem?_append_left (List.getElem?_eq_some_iff.mp h).1]
  exact h
abbrev gad (G : gG) : Nat → Nat := G.2.1
abbrev gA (G : gG) : Nat → Prop := G.2.2.2.1
abbrev gT (G : gG) : List (ClassId × FieldType) := [(G.2.2.1.1, .int), (G.2.2.1.2.1, .object "RepairDuty$State")]
def gW (G : gG) (m : gM) : va_W := gL G.2.2.1.1 G.2.2.1.2.1 (gad G) m 0 (gshx G)
theorem gW_getx {G : gG} {m : gM} {k : Nat} {s : gSh} (h : (gshx G)[k]? = some s) : (gW G m)[k]? = some (gad G k, gE G.2.2.1.1 G.2.2.1.2.1 (gad G) (m k) s) := by
  have := gL_get (cI := G.2.2.1.1) (cS := G.2.2.1.2.1) (ad := gad G) (m := m) (k := 0) h
  simpa [gW] using this
theorem gW_setx {G : gG} {m : gM} {k : Nat} {s : gSh} {f : Nat → Int32} (h : (gshx G)[k]? = some s) : (gW G m).set k (gad G k, gE G.2.2.1.1 G.2.2.1.2.1 (gad G) f s) = gW G (gr m k f) := by
  have := gL_set (cI := G.2.2.1.1) (cS := G.2.2.1.2.1) (ad := gad G) (m := m) (k := 0) (f := f) h
  simpa [gW] using this
theorem gW_get {G : gG} {m : gM} {k : Nat} {s : gSh} (h : gsh[k]? = some s) : (gW G m)[k]? = some (gad G k, gE G.2.2.1.1 G.2.2.1.2.1 (gad G) (m k) s) := gW_getx (gx G h)
theorem gW_set {G : gG} {m : gM} {k : Nat} {s : gSh} {f : Nat → Int32} (h : gsh[k]? = some s) : (gW G m).set k (gad G k, gE G.2.2.1.1 G.2.2.1.2.1 (gad G) f s) = gW G (gr m k f) := gW_setx (gx G h)
theorem gD_any {G : gG} {m m2 : gM} (h : va_D (gA G) (gW G m)) : va_D (gA G) (gW G m2) := by
  refine ⟨fun i j p q hi hj hpq => ?_, fun k q hk => ?_⟩
  · obtain ⟨e1, h1⟩ := gL_dist (m := m) hi
    obtain ⟨e2, h2⟩ := gL_dist (m := m) hj
    exact h.1 i j _ _ h1 h2 hpq
  · obtain ⟨e1, h1⟩ := gL_dist (m := m) hk
    exact h.2 k (q.1, e1) h1
/-! the static rows -/
def zLow (j : Nat) : Int32 := ([1, 0, 1, 0, 0] : List Int32).getD j 0
def zHigh (j : Nat) : Int32 := ([1000, 500, 10, 100, 100] : List Int32).getD j 0
def zTry (j : Nat) : Int32 := ([1, 10, 30, 100, 300, 1000] : List Int32).getD j 0
def gZ1 (n : String) (t N : Nat) (f : Nat → Int32) (A : Nat → Prop) (U : State) (H : Heap) : Prop := va_Z RX9 n "[I" (.ref t) A U H ∧ va_T .int t N (fun j => .int (f j)) A U H
def gZ (G : gG) (U : State) (H : Heap) : Prop := gZ1 "LOWEST" G.2.2.2.2.1 5 zLow (gA G) U H ∧ gZ1 "HIGHEST" G.2.2.2.2.2.1 5 zHigh (gA G) U H ∧ gZ1 "WAITS_TO_TRY" G.2.2.2.2.2.2 6 zTry (gA G) U H
theorem gZ1.moved {n : String} {t N : Nat} {f : Nat → Int32} {A : Nat → Prop} {u U : State} {H : Heap} (hvm : u.vm.Alike U.vm) (h : gZ1 n t N f A u H) : gZ1 n t N f A U H := ⟨h.1.moved hvm, h.2.moved hvm⟩
theorem gZ1.kept {n : String} {t N : Nat} {f : Nat → Int32} {A : Nat → Prop} {U : State} {H H1 : Heap} (h : gZ1 n t N f A U H) (hq : ∀ a : Nat, a < H.size → ¬ A a → H1[a]? = H[a]?) : gZ1 n t N f A U H1 := ⟨h.1.kept hq, h.2.kept hq⟩
theorem gZ.moved {G : gG} {u U : State} {H : Heap} (hvm : u.vm.Alike U.vm) (h : gZ G u H) : gZ G U H := ⟨h.1.moved hvm, h.2.1.moved hvm, h.2.2.moved hvm⟩
theorem gZ.kept {G : gG} {U : State} {H H1 : Heap} (h : gZ G U H) (hq : ∀ a : Nat, a < H.size → ¬ gA G a → H1[a]? = H[a]?) : gZ G U H1 := ⟨h.1.kept hq, h.2.1.kept hq, h.2.2.kept hq⟩
/-- a truth as an int -/
def b2i (P : Prop) [h : Decidable P] : Int32 := if P then 1 else 0
theorem b2i_01 (P : Prop) {h : Decidable P} : b2i P = 0 ∨ b2i P = 1 := by
  unfold b2i
  by_cases hp : P
  · rw [if_pos hp]; exact Or.inr rfl
  · rw [if_neg hp]; exact Or.inl rfl
theorem b2i_t {P : Prop} {h : Decidable P} (hp : P) : b2i P = 1 := if_pos hp
theorem b2i_f {P : Prop} {h : Decidable P} (hp : ¬ P) : b2i P = 0 := if_neg hp
theorem b2i_eq0 {P : Prop} {h : Decidable P} : b2i P = 0 ↔ ¬ P := by
  unfold b2i
  by_cases hp : P
  · rw [if_pos hp]; exact ⟨fun q => absurd q (by decide), fun q => absurd hp q⟩
  · rw [if_neg hp]; exact ⟨fun _ => hp, fun _ => rfl⟩
theorem b2i_congr {P P2 : Prop} {h : Decidable P} {h2 : Decidable P2} (e : P ↔ P2) : b2i P = b2i P2 := by
  unfold b2i
  by_cases hp : P
  · rw [if_pos hp, if_pos (e.mp hp)]
  · rw [if_neg hp, if_neg (fun q => hp (e.mpr q))]
theorem gLc {i : Nat} {v w : Value} {L L2 : List (Nat × Value)} (h : v = w) (h2 : L = L2) : (i, v) :: L = (i, w) :: L2 := by rw [h, h2]
theorem tsw_cases (x : Int32) (n : Nat) (hn : n < 2 ^ 31) : (x.toInt < 0 ∨ (n : Int) ≤ x.toInt) ∨ ∃ j : Nat, j < n ∧ x = nI j := by
  by_cases h : x.toInt < 0 ∨ (n : Int) ≤ x.toInt
  · exact Or.inl h
  · refine Or.inr ⟨x.toInt.toNat, by omega, ?_⟩
    apply Int32.toInt_inj.mp
    rw [nI_toInt (by omega)]
    omega
theorem tsw_casesL (x : Int32) (lo n : Nat) (hn : lo + n < 2 ^ 31) : (x.toInt < (lo : Int) ∨ (lo : Int) + (n : Int) ≤ x.toInt) ∨ ∃ j : Nat, j < n ∧ x = nI (lo + j) := by
  by_cases h : x.toInt < (lo : Int) ∨ (lo : Int) + (n : Int) ≤ x.toInt
  · exact Or.inl h
  · refine Or.inr ⟨x.toInt.toNat - lo, by omega, ?_⟩
    apply Int32.toInt_inj.mp
    rw [nI_toInt (by omega)]
    omega
theorem tsw_outL {x : Int32} {lo n : Nat} {l hi : Int} (h : x.toInt < (lo : Int) ∨ (lo : Int) + (n : Int) ≤ x.toInt) (hh : (lo : Int) = l ∧ (lo : Int) + (n : Int) = hi + 1) : x.toInt < l ∨ hi < x.toInt := by omega
theorem tsw_out {x : Int32} {n : Nat} {hi : Int} (h : x.toInt < 0 ∨ (n : Int) ≤ x.toInt) (hh : (n : Int) = hi + 1) : x.toInt < 0 ∨ hi < x.toInt := by omega
/-! a state that holds a memory; a contract -/
def gB (G : gG) (m : gM) (U : State) : Prop := va_P G.1 vwCl (gW G m) U.heap ∧ va_K G.1 vwCl (gT G) U ∧ va_D (gA G) (gW G m) ∧ gZ G U U.heap
def gQ (G : gG) (post : Option Value → gM → Prop) : Array Value → State → Outcome → State → Prop := fun _ st oc t => (∃ (v : Option Value) (u : gM), oc = .returned v ∧ post v u ∧ gB G u t) ∧ va_F (gA G) st t
def gMet (l : Launch) (y : MethodName) (b : ByteArray) (maxL : Nat) (ret : Option FieldType) (rm : Room) (G : gG) (As : List Value) (m : gM) (post : Option Value → gM → Prop) : Prop :=
  Met l y (Cond.code y b maxL ret :: wG) rm (va_Pc As (gB G m)) (gQ G post) 0 0 (gA G)
/-- what the tables say of a method that is called -/
def gI (y : MethodName) (b : ByteArray) (maxL : Nat) (ret : Option FieldType) (n : Nat) : Prop := Cond.code y b maxL ret ∈ wG ∧ Cond.initialized y.cls ∈ wG ∧ (y.cls ≠ "java/lang/invoke/MethodHandle" ∧ y.cls ≠ "java/lang/invoke/VarHandle" ∧ (parseMethodDescriptor y.desc).map (fun d => d.parameters.length) = some n)
def gIv (y : MethodName) (b : ByteArray) (maxL : Nat) (ret : Option FieldType) (n : Nat) : Prop := gI y b maxL ret n ∧ Cond.instanceMethod y ∈ wG ∧ Cond.selects y.cls y y ∈ wG
def gIs (y : MethodName) (b : ByteArray) (maxL : Nat) (ret : Option FieldType) (n : Nat) : Prop := gI y b maxL ret n ∧ Cond.static y ∈ wG
theorem gI_good {y : MethodName} {b : ByteArray} {maxL n : Nat} {ret : Option FieldType} (h : gI y b maxL ret n) : GoodIn wG (Cond.code y b maxL ret :: wG) := by
  intro w hw
  rcases List.mem_cons.mp hw with rfl | hw
  · exact ⟨h.1, wG_good h.1⟩
  · exact ⟨hw, wG_good hw⟩
/-- place k holds an object of class Cn, its fields fl (none: an int; some q: place q) -/
def gO (k ci : Nat) (Cn : String) (T : u_T) (N : Nat) (fl : List (Option Nat)) : Prop := gsh[k]? = some (.inr (.inl (ci, fl))) ∧ vwCl[ci]? = some (Cn, T, N) ∧ (∀ w ∈ u_ws Cn T N, w ∈ wG) ∧ (∃ ty : Nat → FieldType, ∀ k, k < N → parseFieldDescriptor (T k).2.2.1 = some (ty k)) ∧ (∀ a, a < N → ∀ b, b < N → a ≠ b → (T a).2.1 ≠ (T b).2.1)
def gAr (k n : Nat) : Prop := gsh[k]? = some (.inl n)
theorem gB_blind {G : gG} {m : gM} {As : List Value} : FrameBlind (va_Pc As (gB G m)) := fun _ U _ _ q => ⟨q.1, q.2.1, va_K.moved (u := U) (Vm.Alike.refl U.vm) q.2.2.1, q.2.2.2.1, gZ.moved (u := U) (Vm.Alike.refl U.vm) q.2.2.2.2⟩
section GROWS
variable {p : Program} {l : Launch} {e : Env} {R : Room} {s : State} {m : MethodId} {args : Array Value} {below : List Frame} {meth : Method} {c : Code} {mc ms : Nat} {Q : State → Prop} {G : gG} {own : String} {cc : ByteArray} {ret : Option FieldType} {nL : Nat} {mem : gM} {pc : Nat} {L : List (Nat × Value)} {st : List Value}
/-- a method's start: the machine, the code, the words, the world's kind -/
def gC (G : gG) (own : String) (cc : ByteArray) (ret : Option FieldType) (nL : Nat) (p : Program) (R : Room) (s : State) (m : MethodId) (args : Array Value) (meth : Method) (c : Code) (mc ms : Nat) : Prop :=
  p.tables.exec = Jvm.exec ∧ c.code = cc ∧ meth.sig.returnType = ret ∧ c.maxLocals = nL ∧ s.vm.findClass own = some m.cls ∧ (∀ w ∈ wG, w.before args s = true) ∧ meth.locks = false ∧ va_K G.1 vwCl (gT G) s ∧ va_D (gA G) (gW G (fun _ _ => 0)) ∧ gZ G s s.heap ∧ mc ≤ R.cells ∧ ms ≤ R.slots
def gV (p : Program) (l : Launch) (e : Env) (R : Room) (s : State) (m : MethodId) (args : Array Value) (below : List Frame) (meth : Method) (c : Code) (mc ms : Nat) (Q : State → Prop) (G : gG) (nL : Nat) (mem : gM) (pc : Nat) (L : List (Nat × Value)) (st : List Value) : Prop :=
  ∀ (H : Heap) (locs : List Loc) (ls : Array Slot), va_P G.1 vwCl (gW G mem) H → va_S (gA G) s.heap H locs → lv_has ls nL L → W p l e R s m args below meth c H locs mc ms Q (F0 m pc ls st)
theorem gC.w (C : gC G own cc ret nL p R s m args meth c mc ms) {w : Cond} (h : w ∈ wG) : w.before args s = true := C.2.2.2.2.2.1 w h
theorem gC.K (C : gC G own cc ret nL p R s m args meth c mc ms) : va_K G.1 vwCl (gT G) s := C.2.2.2.2.2.2.2.1
theorem gC.D (C : gC G own cc ret nL p R s m args meth c mc ms) : va_D (gA G) (gW G mem) := gD_any C.2.2.2.2.2.2.2.2.1
theorem gC.o (C : gC G own cc ret nL p R s m args meth c mc ms) : s.vm.findClass own = some m.cls := C.2.2.2.2.1
theorem gC.Z (C : gC G own cc ret nL p R s m args meth c mc ms) : gZ G s s.heap := C.2.2.2.2.2.2.2.2.2.1
theorem g_of {y : MethodName} {b : ByteArray} {maxL : Nat} {rm : Room} {As : List Value} {post : Option Value → gM → Prop} {L0 : List (Nat × Value)} (hy : plainName y.cls = true) (ho : y.cls = own) (hn : (lg_sl As).length ≤ maxL) (hL : lv_args 0 As = L0)
    (body : ∀ (p : Program) (e : Env) (s : State) (m : MethodId) (args : Array Value) (below : List Frame) (meth : Method) (c : Code), gC G own b ret maxL p rm s m args meth c 0 0 → ∀ Q : State → Prop, Q = MQ below (gQ G post) args s 0 0 (gA G) → gV p l e rm s m args below meth c 0 0 Q G maxL mem 0 L0 []) : gMet l y b maxL ret rm G As mem post := by
  refine Met.ofW (cc := b) (maxL := maxL) (ret := ret) hy rfl ?_
  intro p e s m args below meth c s₁ B hml hv
  obtain ⟨rfl, hP, hK, hD, hZ⟩ := hv
  have hts := atoms_spec (ws := Cond.code y b maxL ret :: wG) B.pre
  have hown : s.vm.findClass own = some m.cls := ho ▸ findClass_of_methodNamed B.named
  have hl := lv_entry As (n := maxL) hn
  rw [hL] at hl
  rw [lg_entry_eq]
  exact body p e s m _ below meth c ⟨B.exec, B.bytes, B.returns, hml, hown, fun w hw => hts w (List.mem_cons_of_mem _ hw), B.notSynchronized, hK, gD_any hD, hZ, Nat.zero_le _, Nat.zero_le _⟩ _ rfl _ _ _ hP va_S.rf hl
theorem g_loc {L2 : List (Nat × Value)} (ks : List Nat) (hL : lv_pick L ks = L2) (h : gV p l e R s m args below meth c mc ms Q G nL mem pc L2 st) : gV p l e R s m args below meth c mc ms Q G nL mem pc L st :=
  fun H locs ls hP hS hl => h H locs ls hP hS (lv_sub hl ks hL)
theorem g_eq {mem2 : gM} {L2 : List (Nat × Value)} {st2 : List Value} (h : gV p l e R s m args below meth c mc ms Q G nL mem2 pc L2 st2) (e1 : mem = mem2) (e2 : L = L2) (e3 : st = st2) : gV p l e R s m args below meth c mc ms Q G nL mem pc L st := by
  rw [e1, e2, e3]; exact h
theorem gB_end (C : gC G own cc ret nL p R s m args meth c mc ms) {H : Heap} {locs : List Loc} {t : State} (hP : va_P G.1 vwCl (gW G mem) H) (hS : va_S (gA G) s.heap H locs) (ht : t.heap = H) (hW : s.WarmedH t.vm) : gB G mem t :=
  ⟨by rw [ht]; exact hP, va_K.moved hW.alike C.K, C.D, gZ.kept (gZ.moved hW.alike C.Z) (fun a h1 h2 => by rw [ht]; exact hS.2.1 a h1 h2)⟩
/-! ends -/
theorem g_iret (C : gC G own cc ret nL p R s m args meth c mc ms) {post : Option Value → gM → Prop} (hQ : Q = MQ below (gQ G post) args s mc ms (gA G)) {v : Int32} (hr : ret = some .int) (hd : decode cc pc = .ok (.ireturn, 1)) (hp : post (some (.int v)) mem) : gV p l e R s m args below meth c mc ms Q G nL mem pc L [.int v] := by
  subst hQ
  exact fun _ _ _ hP hS _ => W.iret C.1 C.2.1 (C.2.2.1.trans hr) (fun _ ht hW => ⟨⟨_, mem, rfl, hp, gB_end C hP hS ht hW⟩, hS.F ht⟩) hS.2.2 hd C.2.2.2.2.2.2.1
theorem g_zret (C : gC G own cc ret nL p R s m args meth c mc ms) {post : Option Value → gM → Prop} (hQ : Q = MQ below (gQ G post) args s mc ms (gA G)) {v : Int32} (hr : ret = some .boolean) (hn : v = 0 ∨ v = 1) (hd : decode cc pc = .ok (.ireturn, 1)) (hp : post (some (.int v)) mem) : gV p l e R s m args below meth c mc ms Q G nL mem pc L [.int v] := by
  subst hQ
  exact fun _ _ _ hP hS _ => W.zret (ty := .boolean) C.1 C.2.1 (C.2.2.1.trans hr) (by rcases hn with rfl | rfl <;> decide) (fun _ ht hW => ⟨⟨_, mem, rfl, hp, gB_end C hP hS ht hW⟩, hS.F ht⟩) hS.2.2 hd C.2.2.2.2.2.2.1
theorem g_vret (C : gC G own cc ret nL p R s m args meth c mc ms) {post : Option Value → gM → Prop} (hQ : Q = MQ below (gQ G post) args s mc ms (gA G)) (hr : ret = none) (hd : decode cc pc = .ok (.return_, 1)) (hp : post none mem) : gV p l e R s m args below meth c mc ms Q G nL mem pc L [] := by
  subst hQ
  exact fun _ _ _ hP hS _ => W.vret C.1 C.2.1 (C.2.2.1.trans hr) (fun _ ht hW => ⟨⟨_, mem, rfl, hp, gB_end C hP hS ht hW⟩, hS.F ht⟩) hS.2.2 hd C.2.2.2.2.2.2.1
theorem g_lret (C : gC G own cc ret nL p R s m args meth c mc ms) {post : Option Value → gM → Prop} (hQ : Q = MQ below (gQ G post) args s mc ms (gA G)) {v : Int64} (hr : ret = some .long) (hd : decode cc pc = .ok (.lreturn, 1)) (hp : post (some (.long v)) mem) : gV p l e R s m args below meth c mc ms Q G nL mem pc L [.long v] := by
  subst hQ
  exact fun _ _ _ hP hS _ => W.lret C.1 C.2.1 (C.2.2.1.trans hr) (fun _ ht hW => ⟨⟨_, mem, rfl, hp, gB_end C hP hS ht hW⟩, hS.F ht⟩) hS.2.2 hd C.2.2.2.2.2.2.1
theorem g_aret (C : gC G own cc ret nL p R s m args meth c mc ms) {post : Option Value → gM → Prop} (hQ : Q = MQ below (gQ G post) args s mc ms (gA G)) {v : Value} {n : String} (hr : ret = some (.object n)) (hv : v = .null ∨ ∃ a, v = .ref a) (hd : decode cc pc = .ok (.areturn, 1)) (hp : post (some v) mem) : gV p l e R s m args below meth c mc ms Q G nL mem pc L [v] := by
  subst hQ
  exact fun _ _ _ hP hS _ => W.aret C.1 C.2.1 (C.2.2.1.trans hr) (Or.inl ⟨n, rfl⟩) hv (fun _ ht hW => ⟨⟨_, mem, rfl, hp, gB_end C hP hS ht hW⟩, hS.F ht⟩) hS.2.2 hd C.2.2.2.2.2.2.1
/-! fields and rows -/
theorem g_get_i (C : gC G own cc ret nL p R s m args meth c mc ms) {k ci N idx : Nat} {Cn : String} {T : u_T} {fl : List (Option Nat)} (O : gO k ci Cn T N fl) (j : Nat) (hj : j < N) (hf : fl[j]? = some none) (hw : Cond.fieldLink own idx (T j).1 (T j).2.1 (T j).2.2.1 ∈ wG) (hd : decode cc pc = .ok (.getfield idx, 3)) (h : gV p l e R s m args below meth c mc ms Q G nL mem (pc + 3) L (.int (mem k j) :: st)) : gV p l e R s m args below meth c mc ms Q G nL mem pc L (.ref (gad G k) :: st) :=
  fun H locs ls hP hS hl => va_get (ws := gW G mem) C.1 C.2.1 C.2.2.2.2.2.1 O.2.2.1 C.o C.K hP k (gW_get O.1) O.2.1 j hj (C.w hw) (fun _ q => q) (by have := gFs_i (ad := gad G) (f := mem k) (i := 0) hf; simpa using this) hd (h H locs ls hP hS hl)
theorem g_get_r (C : gC G own cc ret nL p R s m args meth c mc ms) {k ci N idx q : Nat} {Cn : String} {T : u_T} {fl : List (Option Nat)} (O : gO k ci Cn T N fl) (j : Nat) (hj : j < N) (hf : fl[j]? = some (some q)) (hw : Cond.fieldLink own idx (T j).1 (T j).2.1 (T j).2.2.1 ∈ wG) (hd : decode cc pc = .ok (.getfield idx, 3)) (h : gV p l e R s m args below meth c mc ms Q G nL mem (pc + 3) L (.ref (gad G q) :: st)) : gV p l e R s m args below meth c mc ms Q G nL mem pc L (.ref (gad G k) :: st) :=
  fun H locs ls hP hS hl => va_get (ws := gW G mem) C.1 C.2.1 C.2.2.2.2.2.1 O.2.2.1 C.o C.K hP k (gW_get O.1) O.2.1 j hj (C.w hw) (fun _ q => q) (gFs_r (ad := gad G) (f := mem k) (i := 0) hf) hd (h H locs ls hP hS hl)
theorem g_put_i (C : gC G own cc ret nL p R s m args meth c mc ms) {k ci N idx : Nat} {Cn : String} {T : u_T} {fl : List (Option Nat)} {v : Int32} (O : gO k ci Cn T N fl) (j : Nat) (hj : j < N) (hf : fl[j]? = some none) (hw : Cond.fieldLink own idx (T j).1 (T j).2.1 (T j).2.2.1 ∈ wG) (hfin : (T j).2.2.2 = false) (hty : parseFieldDescriptor (T j).2.2.1 = some .int) (hd : decode cc pc = .ok (.putfield idx, 3)) (h : gV p l e R s m args below meth c mc ms Q G nL (gr mem k (upd (mem k) j v)) (pc + 3) L st) : gV p l e R s m args below meth c mc ms Q G nL mem pc L (.int v :: .ref (gad G k) :: st) := by
  intro H locs ls hP hS hl
  obtain ⟨ty, hty2⟩ := O.2.2.2.1
  have hlt : j < (gFs (gad G) (mem k) 0 fl).length := by rw [gFs_len]; exact (List.getElem?_eq_some_iff.mp hf).1
  refine va_put (ws := gW G mem) C.1 C.2.1 C.2.2.2.2.2.1 O.2.2.1 ty hty2 O.2.2.2.2 C.o C.K hP C.D hS k (gW_get O.1) O.2.1 j hj (C.w hw) (fun _ q => q) hfin hty rfl rfl hlt hd fun H1 locs1 hP1 _ hS1 => ?_
  have e := gFs_set (ad := gad G) (f := mem k) (v := v) (i := 0) hf
  rw [Nat.zero_add] at e
  rw [e] at hP1
  exact h H1 locs1 ls (by rw [← gW_set (f := upd (mem k) j v) O.1]; exact hP1) hS1 hl
theorem g_iald (C : gC G own cc ret nL p R s m args meth c mc ms) {k n : Nat} {i : Int32} (hk : gAr k n) (hin : vp_in i n) (hd : decode cc pc = .ok (.iaload, 1)) (h : gV p l e R s m args below meth c mc ms Q G nL mem (pc + 1) L (.int (mem k i.toNatClampNeg) :: st)) : gV p l e R s m args below meth c mc ms Q G nL mem pc L (.int i :: .ref (gad G k) :: st) :=
  fun H locs ls hP hS hl => va_iald (ws := gW G mem) (tys := gT G) C.1 C.2.1 C.K hP k 0 (gW_get hk) rfl hin hd (h H locs ls hP hS hl)
theorem g_iast (C : gC G own cc ret nL p R s m args meth c mc ms) {k n : Nat} {i v : Int32} (hk : gAr k n) (hin : vp_in i n) (hd : decode cc pc = .ok (.iastore, 1)) (h : gV p l e R s m args below meth c mc ms Q G nL (gr mem k (upd (mem k) i.toNatClampNeg v)) (pc + 1) L st) : gV p l e R s m args below meth c mc ms Q G nL mem pc L (.int v :: .int i :: .ref (gad G k) :: st) :=
  fun _ _ ls hP hS hl => va_iast (ws := gW G mem) (tys := gT G) C.1 C.2.1 C.K hP C.D hS k 0 (gW_get hk) rfl hin hd fun H1 locs1 hP1 _ hS1 => h H1 locs1 ls (by rw [← gW_set (f := upd (mem k) i.toNatClampNeg v) hk]; exact hP1) hS1 hl
theorem g_alen (C : gC G own cc ret nL p R s m args meth c mc ms) {k n : Nat} (hk : gAr k n) (hd : decode cc pc = .ok (.arraylength, 1)) (h : gV p l e R s m args below meth c mc ms Q G nL mem (pc + 1) L (.int (nI n) :: st)) : gV p l e R s m args below meth c mc ms Q G nL mem pc L (.ref (gad G k) :: st) :=
  fun H locs ls hP hS hl => va_alen (ws := gW G mem) (tys := gT G) C.1 C.2.1 C.K hP k 0 (gW_get hk) rfl rfl hd (h H locs ls hP hS hl)
theorem g_salen (C : gC G own cc ret nL p R s m args meth c mc ms) {k : Nat} {ps : List Nat} (hk : gsh[k]? = some (.inr (.inr ps))) (hd : decode cc pc = .ok (.arraylength, 1)) (h : gV p l e R s m args below meth c mc ms Q G nL mem (pc + 1) L (.int (nI ps.length) :: st)) : gV p l e R s m args below meth c mc ms Q G nL mem pc L (.ref (gad G k) :: st) :=
  fun H locs ls hP hS hl => va_alen (ws := gW G mem) (tys := gT G) C.1 C.2.1 C.K hP k 1 (gW_get hk) rfl rfl hd (h H locs ls hP hS hl)
theorem g_saald (C : gC G own cc ret nL p R s m args meth c mc ms) {k q : Nat} {ps : List Nat} {i : Int32} (hk : gsh[k]? = some (.inr (.inr ps))) (hin : vp_in i ps.length) (hq : ps[i.toNatClampNeg]? = some q) (hd : decode cc pc = .ok (.aaload, 1)) (h : gV p l e R s m args below meth c mc ms Q G nL mem (pc + 1) L (.ref (gad G q) :: st)) : gV p l e R s m args below meth c mc ms Q G nL mem pc L (.int i :: .ref (gad G k) :: st) :=
  fun H locs ls hP hS hl => va_aldq (ws := gW G mem) (tys := gT G) C.1 C.2.1 C.K hP k 1 (gW_get hk) rfl hin hd (by
    have e : va_rf ((ps[i.toNatClampNeg]?).map (gad G)) = .ref (gad G q) := by rw [hq]; rfl
    rw [e]
    exact h H locs ls hP hS hl)
theorem g_gets (C : gC G own cc ret nL p R s m args meth c mc ms) {n : String} {t N idx : Nat} {f : Nat → Int32} (hz : gZ1 n t N f (gA G) s s.heap) (hw : Cond.fieldLink own idx RX9 n "[I" ∈ wG) (hd : decode cc pc = .ok (.getstatic idx, 3)) (h : gV p l e R s m args below meth c mc ms Q G nL mem (pc + 3) L (.ref t :: st)) : gV p l e R s m args below meth c mc ms Q G nL mem pc L st :=
  fun H locs ls hP hS hl => va_gets C.1 C.2.1 hz.1 hS C.o (C.w hw) (fun _ q => q) hd (h H locs ls hP hS hl)
theorem g_tld (C : gC G own cc ret nL p R s m args meth c mc ms) {n : String} {t N : Nat} {f : Nat → Int32} {i : Int32} (hz : gZ1 n t N f (gA G) s s.heap) (hin : vp_in i N) (hd : decode cc pc = .ok (.iaload, 1)) (h : gV p l e R s m args below meth c mc ms Q G nL mem (pc + 1) L (.int (f i.toNatClampNeg) :: st)) : gV p l e R s m args below meth c mc ms Q G nL mem pc L (.int i :: .ref t :: st) :=
  fun H locs ls hP hS hl => va_ti C.1 C.2.1 hz.2 hS hin rfl hd (h H locs ls hP hS hl)
theorem g_tlen (C : gC G own cc ret nL p R s m args meth c mc ms) {n : String} {t N : Nat} {f : Nat → Int32} (hz : gZ1 n t N f (gA G) s s.heap) (hd : decode cc pc = .ok (.arraylength, 1)) (h : gV p l e R s m args below meth c mc ms Q G nL mem (pc + 1) L (.int (nI N) :: st)) : gV p l e R s m args below meth c mc ms Q G nL mem pc L (.ref t :: st) :=
  fun H locs ls hP hS hl => va_tlen C.1 C.2.1 hz.2 hS rfl hd (h H locs ls hP hS hl)
theorem g_copy (C : gC G own cc ret nL p R s m args meth c mc ms) {k k2 n n2 N idx : Nat} (hw : Cond.methodLink own idx arraycopyName ∈ wG) (hw2 : Cond.native arraycopyName ∈ wG) (hw3 : Cond.static arraycopyName ∈ wG) (hw4 : Cond.initialized "java/lang/System" ∈ wG) (hk : gAr k n) (hk2 : gAr k2 n2) (h1 : N ≤ n) (h2 : N ≤ n2) (h3 : N < 2 ^ 31) (hf : 1 ≤ R.frames) (hlo : (st.map fun v => v.category).sum + (nativeFrameWords "java/lang/System" "arraycopy" 5 + 11) ≤ R.locals) (hd : decode cc pc = .ok (.invokestatic idx, 3))
    (h : gV p l e R s m args below meth c mc ms Q G nL (gr mem k2 (va_cpy (mem k) (mem k2) 0 0 N)) (pc + 3) L st) : gV p l e R s m args below meth c mc ms Q G nL mem pc L (.int (nI N) :: .int 0 :: .ref (gad G k2) :: .int 0 :: .ref (gad G k) :: st) := by
  intro H locs ls hP hS hl
  have hc : (nI N).toNatClampNeg = N := nI_clamp h3
  have hc0 : (0 : Int32).toNatClampNeg = 0 := rfl
  refine va_copyi (ws := gW G mem) (tys := gT G) C.1 C.2.1 (C.2.2.2.1.trans hl.1.symm) C.o (C.w hw) (C.w hw2) (C.w hw3) (C.w hw4) C.K hP C.D hS k k2 0 0 (gW_get hk) (gW_get hk2) rfl rfl rfl (by decide) (by decide) (nI_pos h3) (by rw [hc, hc0]; omega) (by rw [hc, hc0]; omega) (fun _ _ => rfl) hf hlo hd fun H1 locs1 hP1 _ hS1 => ?_
  rw [hc, hc0] at hP1
  exact h H1 locs1 ls (by rw [← gW_set (f := va_cpy (mem k) (mem k2) 0 0 N) hk2]; exact hP1) hS1 hl
/-! calls -/
theorem g_run {g : JFrame} {rest : List Value} {post : Option Value → gM → Prop} {a : Array Value} {H : Heap} {locs : List Loc} {ls : Array Slot} (hr : va_Run p l e R s m args below meth c H locs mc ms 0 0 (F0 m pc ls st) rest (gQ G post a) (gA G)) (hS : va_S (gA G) s.heap H locs) (hl : lv_has ls nL L)
    (kk : ∀ (v : Option Value) (u : gM), post v u → gV p l e R s m args below meth c mc ms Q G nL u (pc + 3) L (v.toList ++ rest)) : W p l e R s m args below meth c H locs mc ms Q (F0 m pc ls st) := by
  intro T hT X
  obtain ⟨v, st₀, t, T', L2, h0, X', hL, e1, e2, ⟨⟨w, u, hv, hp, hb⟩, hz, hk⟩, stp⟩ := hr T hT X
  cases hv
  rw [h0] at hz hk
  obtain ⟨t2, a1, b1⟩ := kk v u hp T'.heap (locs ++ L2) ls (by rw [e1]; exact hb.1)
    ⟨Nat.le_trans hS.1 (by rw [e1]; exact hz), fun q h1 h2 => by rw [e1, hk q (Nat.lt_of_lt_of_le h1 hS.1) h2]; exact hS.2.1 q h1 h2, fun q hq => by
      rcases List.mem_append.mp hq with h | h
      · exact hS.2.2 q h
      · exact hL q h⟩ hl T' rfl X'
  exact ⟨t2, stp t2 a1, b1⟩
theorem gB_call (C : gC G own cc ret nL p R s m args meth c mc ms) {H : Heap} {locs : List Loc} (hP : va_P G.1 vwCl (gW G mem) H) (hS : va_S (gA G) s.heap H locs) (As : List Value) : ∀ U : State, U.heap = H → s.WarmedH U.vm → va_Pc As (gB G mem) As.toArray U :=
  fun _ hU hW => ⟨rfl, gB_end C hP hS hU hW⟩
theorem g_callV (C : gC G own cc ret nL p R s m args meth c mc ms) {y : MethodName} {b2 : ByteArray} {maxL2 n idx k ci N : Nat} {ret2 : Option FieldType} {rm2 : Room} {T : u_T} {fl : List (Option Nat)} {As rest : List Value} {post : Option Value → gM → Prop} (I : gIv y b2 maxL2 ret2 n) (hM : gMet l y b2 maxL2 ret2 rm2 G (.ref (gad G k) :: As) mem post) (hw : Cond.methodLink own idx y ∈ wG) (O : gO k ci y.cls T N fl) (hn : As.length = n) (hR : rm2.frames + 1 ≤ R.frames ∧ 8 + (maxL2 + 11) + rm2.locals ≤ R.locals) (hz : rm2.cells = 0 ∧ rm2.slots = 0) (hst : st = As.reverse ++ .ref (gad G k) :: rest) (hcat : (rest.map fun v => v.category).sum ≤ 8) (hd : decode cc pc = .ok (.invokevirtual idx, 3))
    (h : ∀ (v : Option Value) (u : gM), post v u → gV p l e R s m args below meth c mc ms Q G nL u (pc + 3) L (v.toList ++ rest)) : gV p l e R s m args below meth c mc ms Q G nL mem pc L st := by
  intro H locs ls hP hS hl
  have hts := C.2.2.2.2.2.1
  refine g_run (g := F0 m pc ls st) (va_runV (nL := nL) (own := own) (C := y.cls) (b := gad G k) (As := As) (rest := rest) ⟨C.1, C.2.1, C.2.2.2.1, C.o, hts⟩ hM ⟨callB_of n hts (gI_good I.1) rfl hz.1 hz.2 (C.w I.1.2.1) (C.w hw) I.1.2.2 hR, C.w I.2.1, C.w I.2.2⟩ ⟨gB_blind, va_recv C.K hP O.2.1 (gW_get O.1), gB_call C hP hS _⟩ rfl hn hl.1 hst (lv_room hcat) hd ⟨C.2.2.2.2.2.2.2.2.2.2.1, C.2.2.2.2.2.2.2.2.2.2.2⟩) hS hl h
theorem g_callS (C : gC G own cc ret nL p R s m args meth c mc ms) {y : MethodName} {b2 : ByteArray} {maxL2 n idx : Nat} {ret2 : Option FieldType} {rm2 : Room} {As rest : List Value} {post : Option Value → gM → Prop} (I : gIs y b2 maxL2 ret2 n) (hM : gMet l y b2 maxL2 ret2 rm2 G As mem post) (hw : Cond.methodLink own idx y ∈ wG) (hn : As.length = n) (hR : rm2.frames + 1 ≤ R.frames ∧ 8 + (maxL2 + 11) + rm2.locals ≤ R.locals) (hz : rm2.cells = 0 ∧ rm2.slots = 0) (hst : st = As.reverse ++ rest) (hcat : (rest.map fun v => v.category).sum ≤ 8) (hd : decode cc pc = .ok (.invokestatic idx, 3))
    (h : ∀ (v : Option Value) (u : gM), post v u → gV p l e R s m args below meth c mc ms Q G nL u (pc + 3) L (v.toList ++ rest)) : gV p l e R s m args below meth c mc ms Q G nL mem pc L st := by
  intro H locs ls hP hS hl
  have hts := C.2.2.2.2.2.1
  refine g_run (g := F0 m pc ls st) (va_runS (nL := nL) (own := own) (As := As) (rest := rest) ⟨C.1, C.2.1, C.2.2.2.1, C.o, hts⟩ hM ⟨callB_of n hts (gI_good I.1) rfl hz.1 hz.2 (C.w I.1.2.1) (C.w hw) I.1.2.2 hR, C.w I.2⟩ ⟨gB_blind, gB_call C hP hS _⟩ rfl hn hl.1 hst (lv_room hcat) hd ⟨C.2.2.2.2.2.2.2.2.2.2.1, C.2.2.2.2.2.2.2.2.2.2.2⟩) hS hl h
-- ROWS BY PROGRAM
theorem g_iload_n (C : gC G own cc ret nL p R s m args meth c mc ms) {k : Fin 4} {x : Int32} (q : Nat) (hd : decode cc pc = .ok (.iload_n k, 1)) (hq : L[q]? = some ((k : Nat), .int x)) (h : gV p l e R s m args below meth c mc ms Q G nL mem (pc + 1) L (.int x :: st)) : gV p l e R s m args below meth c mc ms Q G nL mem pc L st := fun H locs ls hP hS hl => lv_iload_n C.1 C.2.1 hd rfl (lv_at hl q hq) (h H locs ls hP hS hl)
theorem g_iload (C : gC G own cc ret nL p R s m args meth c mc ms) {i : Nat} {x : Int32} (q : Nat) (hd : decode cc pc = .ok (.iload i, 2)) (hq : L[q]? = some (i, .int x)) (h : gV p l e R s m args below meth c mc ms Q G nL mem (pc + 2) L (.int x :: st)) : gV p l e R s m args below meth c mc ms Q G nL mem pc L st := fun H locs ls hP hS hl => lv_iload C.1 C.2.1 hd (lv_at hl q hq) (h H locs ls hP hS hl)
theorem g_aload_n (C : gC G own cc ret nL p R s m args meth c mc ms) {k : Fin 4} {x : Nat} (q : Nat) (hd : decode cc pc = .ok (.aload_n k, 1)) (hq : L[q]? = some ((k : Nat), .ref x)) (h : gV p l e R s m args below meth c mc ms Q G nL mem (pc + 1) L (.ref x :: st)) : gV p l e R s m args below meth c mc ms Q G nL mem pc L st := fun H locs ls hP hS hl => lv_aload_n C.1 C.2.1 hd rfl (lv_at hl q hq) (h H locs ls hP hS hl)
theorem g_aload (C : gC G own cc ret nL p R s m args meth c mc ms) {i : Nat} {x : Nat} (q : Nat) (hd : decode cc pc = .ok (.aload i, 2)) (hq : L[q]? = some (i, .ref x)) (h : gV p l e R s m args below meth c mc ms Q G nL mem (pc + 2) L (.ref x :: st)) : gV p l e R s m args below meth c mc ms Q G nL mem pc L st := fun H locs ls hP hS hl => lv_aload C.1 C.2.1 hd (lv_at hl q hq) (h H locs ls hP hS hl)
theorem g_lload_n (C : gC G own cc ret nL p R s m args meth c mc ms) {k : Fin 4} {x : Int64} (q : Nat) (hd : decode cc pc = .ok (.lload_n k, 1)) (hq : L[q]? = some ((k : Nat), .long x)) (h : gV p l e R s m args below meth c mc ms Q G nL mem (pc + 1) L (.long x :: st)) : gV p l e R s m args below meth c mc ms Q G nL mem pc L st := fun H locs ls hP hS hl => lv_lload_n C.1 C.2.1 hd rfl (lv_at hl q hq) (h H locs ls hP hS hl)
theorem g_lload (C : gC G own cc ret nL p R s m args meth c mc ms) {i : Nat} {x : Int64} (q : Nat) (hd : decode cc pc = .ok (.lload i, 2)) (hq : L[q]? = some (i, .long x)) (h : gV p l e R s m args below meth c mc ms Q G nL mem (pc + 2) L (.long x :: st)) : gV p l e R s m args below meth c mc ms Q G nL mem pc L st := fun H locs ls hP hS hl => lv_lload C.1 C.2.1 hd (lv_at hl q hq) (h H locs ls hP hS hl)
theorem g_dload_n (C : gC G own cc ret nL p R s m args meth c mc ms) {k : Fin 4} {x : UInt64} (q : Nat) (hd : decode cc pc = .ok (.dload_n k, 1)) (hq : L[q]? = some ((k : Nat), .double x)) (h : gV p l e R s m args below meth c mc ms Q G nL mem (pc + 1) L (.double x :: st)) : gV p l e R s m args below meth c mc ms Q G nL mem pc L st := fun H locs ls hP hS hl => lv_dload_n C.1 C.2.1 hd rfl (lv_at hl q hq) (h H locs ls hP hS hl)
theorem g_dload (C : gC G own cc ret nL p R s m args meth c mc ms) {i : Nat} {x : UInt64} (q : Nat) (hd : decode cc pc = .ok (.dload i, 2)) (hq : L[q]? = some (i, .double x)) (h : gV p l e R s m args below meth c mc ms Q G nL mem (pc + 2) L (.double x :: st)) : gV p l e R s m args below meth c mc ms Q G nL mem pc L st := fun H locs ls hP hS hl => lv_dload C.1 C.2.1 hd (lv_at hl q hq) (h H locs ls hP hS hl)
theorem g_fload_n (C : gC G own cc ret nL p R s m args meth c mc ms) {k : Fin 4} {x : UInt32} (q : Nat) (hd : decode cc pc = .ok (.fload_n k, 1)) (hq : L[q]? = some ((k : Nat), .float x)) (h : gV p l e R s m args below meth c mc ms Q G nL mem (pc + 1) L (.float x :: st)) : gV p l e R s m args below meth c mc ms Q G nL mem pc L st := fun H locs ls hP hS hl => lv_fload_n C.1 C.2.1 hd rfl (lv_at hl q hq) (h H locs ls hP hS hl)
theorem g_fload (C : gC G own cc ret nL p R s m args meth c mc ms) {i : Nat} {x : UInt32} (q : Nat) (hd : decode cc pc = .ok (.fload i, 2)) (hq : L[q]? = some (i, .float x)) (h : gV p l e R s m args below meth c mc ms Q G nL mem (pc + 2) L (.float x :: st)) : gV p l e R s m args below meth c mc ms Q G nL mem pc L st := fun H locs ls hP hS hl => lv_fload C.1 C.2.1 hd (lv_at hl q hq) (h H locs ls hP hS hl)
theorem g_aload_nN (C : gC G own cc ret nL p R s m args meth c mc ms) {k : Fin 4} (q : Nat) (hd : decode cc pc = .ok (.aload_n k, 1)) (hq : L[q]? = some ((k : Nat), .null)) (h : gV p l e R s m args below meth c mc ms Q G nL mem (pc + 1) L (.null :: st)) : gV p l e R s m args below meth c mc ms Q G nL mem pc L st := fun H locs ls hP hS hl => lv_aload_nN C.1 C.2.1 hd rfl (lv_at hl q hq) (h H locs ls hP hS hl)
theorem g_istore_n (C : gC G own cc ret nL p R s m args meth c mc ms) {k : Fin 4} {x : Int32} {L2 : List (Nat × Value)} (hd : decode cc pc = .ok (.istore_n k, 1)) (hn : (k : Nat) < nL) (hL : ((k : Nat), Value.int x) :: L.filter (fun q => !(q.1 == (k : Nat)) && !(q.1 + 1 == (k : Nat) && q.2.category == 2)) = L2) (h : gV p l e R s m args below meth c mc ms Q G nL mem (pc + 1) L2 st) : gV p l e R s m args below meth c mc ms Q G nL mem pc L (.int x :: st) := fun H locs _ hP hS hl => lv_istore_n C.1 C.2.1 hd rfl hl hn hL fun ls2 hl2 => h H locs ls2 hP hS hl2
theorem g_istore (C : gC G own cc ret nL p R s m args meth c mc ms) {i : Nat} {x : Int32} {L2 : List (Nat × Value)} (hd : decode cc pc = .ok (.istore i, 2)) (hn : i < nL) (hL : (i, Value.int x) :: L.filter (fun q => !(q.1 == i) && !(q.1 + 1 == i && q.2.category == 2)) = L2) (h : gV p l e R s m args below meth c mc ms Q G nL mem (pc + 2) L2 st) : gV p l e R s m args below meth c mc ms Q G nL mem pc L (.int x :: st) := fun H locs _ hP hS hl => lv_istore C.1 C.2.1 hd hl hn hL fun ls2 hl2 => h H locs ls2 hP hS hl2
theorem g_astore_n (C : gC G own cc ret nL p R s m args meth c mc ms) {k : Fin 4} {x : Nat} {L2 : List (Nat × Value)} (hd : decode cc pc = .ok (.astore_n k, 1)) (hn : (k : Nat) < nL) (hL : ((k : Nat), Value.ref x) :: L.filter (fun q => !(q.1 == (k : Nat)) && !(q.1 + 1 == (k : Nat) && q.2.category == 2)) = L2) (h : gV p l e R s m args below meth c mc ms Q G nL mem (pc + 1) L2 st) : gV p l e R s m args below meth c mc ms Q G nL mem pc L (.ref x :: st) := fun H locs _ hP hS hl => lv_astore_n C.1 C.2.1 hd rfl hl hn hL fun ls2 hl2 => h H locs ls2 hP hS hl2
theorem g_astore (C : gC G own cc ret nL p R s m args meth c mc ms) {i : Nat} {x : Nat} {L2 : List (Nat × Value)} (hd : decode cc pc = .ok (.astore i, 2)) (hn : i < nL) (hL : (i, Value.ref x) :: L.filter (fun q => !(q.1 == i) && !(q.1 + 1 == i && q.2.category == 2)) = L2) (h : gV p l e R s m args below meth c mc ms Q G nL mem (pc + 2) L2 st) : gV p l e R s m args below meth c mc ms Q G nL mem pc L (.ref x :: st) := fun H locs _ hP hS hl => lv_astore C.1 C.2.1 hd hl hn hL fun ls2 hl2 => h H locs ls2 hP hS hl2
theorem g_fstore_n (C : gC G own cc ret nL p R s m args meth c mc ms) {k : Fin 4} {x : UInt32} {L2 : List (Nat × Value)} (hd : decode cc pc = .ok (.fstore_n k, 1)) (hn : (k : Nat) < nL) (hL : ((k : Nat), Value.float x) :: L.filter (fun q => !(q.1 == (k : Nat)) && !(q.1 + 1 == (k : Nat) && q.2.category == 2)) = L2) (h : gV p l e R s m args below meth c mc ms Q G nL mem (pc + 1) L2 st) : gV p l e R s m args below meth c mc ms Q G nL mem pc L (.float x :: st) := fun H locs _ hP hS hl => lv_fstore_n C.1 C.2.1 hd rfl hl hn hL fun ls2 hl2 => h H locs ls2 hP hS hl2
theorem g_fstore (C : gC G own cc ret nL p R s m args meth c mc ms) {i : Nat} {x : UInt32} {L2 : List (Nat × Value)} (hd : decode cc pc = .ok (.fstore i, 2)) (hn : i < nL) (hL : (i, Value.float x) :: L.filter (fun q => !(q.1 == i) && !(q.1 + 1 == i && q.2.category == 2)) = L2) (h : gV p l e R s m args below meth c mc ms Q G nL mem (pc + 2) L2 st) : gV p l e R s m args below meth c mc ms Q G nL mem pc L (.float x :: st) := fun H locs _ hP hS hl => lv_fstore C.1 C.2.1 hd hl hn hL fun ls2 hl2 => h H locs ls2 hP hS hl2
theorem g_lstore_n (C : gC G own cc ret nL p R s m args meth c mc ms) {k : Fin 4} {x : Int64} {L2 : List (Nat × Value)} (hd : decode cc pc = .ok (.lstore_n k, 1)) (hn : (k : Nat) + 1 < nL) (hL : ((k : Nat), Value.long x) :: L.filter (fun q => !(q.1 == (k : Nat)) && (!(q.1 == (k : Nat) + 1) && !(q.1 + 1 == (k : Nat) && q.2.category == 2))) = L2) (h : gV p l e R s m args below meth c mc ms Q G nL mem (pc + 1) L2 st) : gV p l e R s m args below meth c mc ms Q G nL mem pc L (.long x :: st) := fun H locs _ hP hS hl => lv_lstore_n C.1 C.2.1 hd rfl hl hn hL fun ls2 hl2 => h H locs ls2 hP hS hl2
theorem g_lstore (C : gC G own cc ret nL p R s m args meth c mc ms) {i : Nat} {x : Int64} {L2 : List (Nat × Value)} (hd : decode cc pc = .ok (.lstore i, 2)) (hn : i + 1 < nL) (hL : (i, Value.long x) :: L.filter (fun q => !(q.1 == i) && (!(q.1 == i + 1) && !(q.1 + 1 == i && q.2.category == 2))) = L2) (h : gV p l e R s m args below meth c mc ms Q G nL mem (pc + 2) L2 st) : gV p l e R s m args below meth c mc ms Q G nL mem pc L (.long x :: st) := fun H locs _ hP hS hl => lv_lstore C.1 C.2.1 hd hl hn hL fun ls2 hl2 => h H locs ls2 hP hS hl2
theorem g_dstore_n (C : gC G own cc ret nL p R s m args meth c mc ms) {k : Fin 4} {x : UInt64} {L2 : List (Nat × Value)} (hd : decode cc pc = .ok (.dstore_n k, 1)) (hn : (k : Nat) + 1 < nL) (hL : ((k : Nat), Value.double x) :: L.filter (fun q => !(q.1 == (k : Nat)) && (!(q.1 == (k : Nat) + 1) && !(q.1 + 1 == (k : Nat) && q.2.category == 2))) = L2) (h : gV p l e R s m args below meth c mc ms Q G nL mem (pc + 1) L2 st) : gV p l e R s m args below meth c mc ms Q G nL mem pc L (.double x :: st) := fun H locs _ hP hS hl => lv_dstore_n C.1 C.2.1 hd rfl hl hn hL fun ls2 hl2 => h H locs ls2 hP hS hl2
theorem g_dstore (C : gC G own cc ret nL p R s m args meth c mc ms) {i : Nat} {x : UInt64} {L2 : List (Nat × Value)} (hd : decode cc pc = .ok (.dstore i, 2)) (hn : i + 1 < nL) (hL : (i, Value.double x) :: L.filter (fun q => !(q.1 == i) && (!(q.1 == i + 1) && !(q.1 + 1 == i && q.2.category == 2))) = L2) (h : gV p l e R s m args below meth c mc ms Q G nL mem (pc + 2) L2 st) : gV p l e R s m args below meth c mc ms Q G nL mem pc L (.double x :: st) := fun H locs _ hP hS hl => lv_dstore C.1 C.2.1 hd hl hn hL fun ls2 hl2 => h H locs ls2 hP hS hl2
theorem g_iinc (C : gC G own cc ret nL p R s m args meth c mc ms) {i : Nat} {n : Int} {x v : Int32} {L2 : List (Nat × Value)} (k : Nat) (hd : decode cc pc = .ok (.iinc i n, 3)) (hk : L[k]? = some (i, .int x)) (hv : x + Int32.ofInt n = v) (hn : i < nL) (hL : (i, Value.int v) :: L.filter (fun q => !(q.1 == i) && !(q.1 + 1 == i && q.2.category == 2)) = L2) (h : gV p l e R s m args below meth c mc ms Q G nL mem (pc + 3) L2 st) : gV p l e R s m args below meth c mc ms Q G nL mem pc L st := fun H locs _ hP hS hl => lv_iinc C.1 C.2.1 hd hl hk hv hn hL fun ls2 hl2 => h H locs ls2 hP hS hl2
theorem g_iconst (C : gC G own cc ret nL p R s m args meth c mc ms) {n : Int} (v : Int32) (hd : decode cc pc = .ok (.iconst n, 1)) (hv : Int32.ofInt n = v) (h : gV p l e R s m args below meth c mc ms Q G nL mem (pc + 1) L (.int v :: st)) : gV p l e R s m args below meth c mc ms Q G nL mem pc L st := fun H locs ls hP hS hl => lv_iconst C.1 C.2.1 hd hv (h H locs ls hP hS hl)
theorem g_bipush (C : gC G own cc ret nL p R s m args meth c mc ms) {n : Int} (v : Int32) (hd : decode cc pc = .ok (.bipush n, 2)) (hv : (Int8.ofInt n).toInt32 = v) (h : gV p l e R s m args below meth c mc ms Q G nL mem (pc + 2) L (.int v :: st)) : gV p l e R s m args below meth c mc ms Q G nL mem pc L st := fun H locs ls hP hS hl => lv_bipush C.1 C.2.1 hd hv (h H locs ls hP hS hl)
theorem g_sipush (C : gC G own cc ret nL p R s m args meth c mc ms) {n : Int} (v : Int32) (hd : decode cc pc = .ok (.sipush n, 3)) (hv : (Int16.ofInt n).toInt32 = v) (h : gV p l e R s m args below meth c mc ms Q G nL mem (pc + 3) L (.int v :: st)) : gV p l e R s m args below meth c mc ms Q G nL mem pc L st := fun H locs ls hP hS hl => lv_sipush C.1 C.2.1 hd hv (h H locs ls hP hS hl)
theorem g_lconst (C : gC G own cc ret nL p R s m args meth c mc ms) {n : Fin 2} (v : Int64) (hd : decode cc pc = .ok (.lconst n, 1)) (hv : Int64.ofNat (n : Nat) = v) (h : gV p l e R s m args below meth c mc ms Q G nL mem (pc + 1) L (.long v :: st)) : gV p l e R s m args below meth c mc ms Q G nL mem pc L st := fun H locs ls hP hS hl => lv_lconst C.1 C.2.1 hd hv (h H locs ls hP hS hl)
theorem g_null (C : gC G own cc ret nL p R s m args meth c mc ms) (hd : decode cc pc = .ok (.aconst_null, 1)) (h : gV p l e R s m args below meth c mc ms Q G nL mem (pc + 1) L (.null :: st)) : gV p l e R s m args below meth c mc ms Q G nL mem pc L st := fun H locs ls hP hS hl => lv_null C.1 C.2.1 hd (h H locs ls hP hS hl)
theorem g_fconst0 (C : gC G own cc ret nL p R s m args meth c mc ms) (hd : decode cc pc = .ok (.fconst 0, 1)) (h : gV p l e R s m args below meth c mc ms Q G nL mem (pc + 1) L (.float 0 :: st)) : gV p l e R s m args below meth c mc ms Q G nL mem pc L st := fun H locs ls hP hS hl => lv_fconst0 C.1 C.2.1 hd (h H locs ls hP hS hl)
theorem g_ldc (C : gC G own cc ret nL p R s m args meth c mc ms) {idx : Nat} {v : Int32} (hw : Cond.constant own idx v ∈ wG) (hd : decode cc pc = .ok (.ldc idx, 2)) (h : gV p l e R s m args below meth c mc ms Q G nL mem (pc + 2) L (.int v :: st)) : gV p l e R s m args below meth c mc ms Q G nL mem pc L st := fun H locs ls hP hS hl => lv_ldc C.1 C.2.1 C.o (C.w hw) hd (h H locs ls hP hS hl)
theorem g_ldcw (C : gC G own cc ret nL p R s m args meth c mc ms) {idx : Nat} {v : Int32} (hw : Cond.constant own idx v ∈ wG) (hd : decode cc pc = .ok (.ldc_w idx, 3)) (h : gV p l e R s m args below meth c mc ms Q G nL mem (pc + 3) L (.int v :: st)) : gV p l e R s m args below meth c mc ms Q G nL mem pc L st := fun H locs ls hP hS hl => lv_ldcw C.1 C.2.1 C.o (C.w hw) hd (h H locs ls hP hS hl)
theorem g_ldc2 (C : gC G own cc ret nL p R s m args meth c mc ms) {idx : Nat} {v : Int64} (hw : Cond.constantLong own idx v ∈ wG) (hd : decode cc pc = .ok (.ldc2_w idx, 3)) (h : gV p l e R s m args below meth c mc ms Q G nL mem (pc + 3) L (.long v :: st)) : gV p l e R s m args below meth c mc ms Q G nL mem pc L st := fun H locs ls hP hS hl => lv_ldc2 C.1 C.2.1 C.o (C.w hw) hd (h H locs ls hP hS hl)
theorem g_iadd (C : gC G own cc ret nL p R s m args meth c mc ms) {x y : Int32} (hd : decode cc pc = .ok (.iadd, 1)) (h : gV p l e R s m args below meth c mc ms Q G nL mem (pc + 1) L (.int (x + y) :: st)) : gV p l e R s m args below meth c mc ms Q G nL mem pc L (.int y :: .int x :: st) := fun H locs ls hP hS hl => lv_iadd C.1 C.2.1 hd (h H locs ls hP hS hl)
theorem g_isub (C : gC G own cc ret nL p R s m args meth c mc ms) {x y : Int32} (hd : decode cc pc = .ok (.isub, 1)) (h : gV p l e R s m args below meth c mc ms Q G nL mem (pc + 1) L (.int (x - y) :: st)) : gV p l e R s m args below meth c mc ms Q G nL mem pc L (.int y :: .int x :: st) := fun H locs ls hP hS hl => lv_isub C.1 C.2.1 hd (h H locs ls hP hS hl)
theorem g_imul (C : gC G own cc ret nL p R s m args meth c mc ms) {x y : Int32} (hd : decode cc pc = .ok (.imul, 1)) (h : gV p l e R s m args below meth c mc ms Q G nL mem (pc + 1) L (.int (x * y) :: st)) : gV p l e R s m args below meth c mc ms Q G nL mem pc L (.int y :: .int x :: st) := fun H locs ls hP hS hl => lv_imul C.1 C.2.1 hd (h H locs ls hP hS hl)
theorem g_iand (C : gC G own cc ret nL p R s m args meth c mc ms) {x y : Int32} (hd : decode cc pc = .ok (.iand, 1)) (h : gV p l e R s m args below meth c mc ms Q G nL mem (pc + 1) L (.int (x &&& y) :: st)) : gV p l e R s m args below meth c mc ms Q G nL mem pc L (.int y :: .int x :: st) := fun H locs ls hP hS hl => lv_iand C.1 C.2.1 hd (h H locs ls hP hS hl)
theorem g_ior (C : gC G own cc ret nL p R s m args meth c mc ms) {x y : Int32} (hd : decode cc pc = .ok (.ior, 1)) (h : gV p l e R s m args below meth c mc ms Q G nL mem (pc + 1) L (.int (x ||| y) :: st)) : gV p l e R s m args below meth c mc ms Q G nL mem pc L (.int y :: .int x :: st) := fun H locs ls hP hS hl => lv_ior C.1 C.2.1 hd (h H locs ls hP hS hl)
theorem g_ixor (C : gC G own cc ret nL p R s m args meth c mc ms) {x y : Int32} (hd : decode cc pc = .ok (.ixor, 1)) (h : gV p l e R s m args below meth c mc ms Q G nL mem (pc + 1) L (.int (x ^^^ y) :: st)) : gV p l e R s m args below meth c mc ms Q G nL mem pc L (.int y :: .int x :: st) := fun H locs ls hP hS hl => lv_ixor C.1 C.2.1 hd (h H locs ls hP hS hl)
theorem g_ishl (C : gC G own cc ret nL p R s m args meth c mc ms) {x y : Int32} (hd : decode cc pc = .ok (.ishl, 1)) (h : gV p l e R s m args below meth c mc ms Q G nL mem (pc + 1) L (.int (x <<< (y &&& 31)) :: st)) : gV p l e R s m args below meth c mc ms Q G nL mem pc L (.int y :: .int x :: st) := fun H locs ls hP hS hl => lv_ishl C.1 C.2.1 hd (h H locs ls hP hS hl)
theorem g_ishr (C : gC G own cc ret nL p R s m args meth c mc ms) {x y : Int32} (hd : decode cc pc = .ok (.ishr, 1)) (h : gV p l e R s m args below meth c mc ms Q G nL mem (pc + 1) L (.int (x >>> (y &&& 31)) :: st)) : gV p l e R s m args below meth c mc ms Q G nL mem pc L (.int y :: .int x :: st) := fun H locs ls hP hS hl => lv_ishr C.1 C.2.1 hd (h H locs ls hP hS hl)
theorem g_ladd (C : gC G own cc ret nL p R s m args meth c mc ms) {x y : Int64} (hd : decode cc pc = .ok (.ladd, 1)) (h : gV p l e R s m args below meth c mc ms Q G nL mem (pc + 1) L (.long (x + y) :: st)) : gV p l e R s m args below meth c mc ms Q G nL mem pc L (.long y :: .long x :: st) := fun H locs ls hP hS hl => lv_ladd C.1 C.2.1 hd (h H locs ls hP hS hl)
theorem g_lsub (C : gC G own cc ret nL p R s m args meth c mc ms) {x y : Int64} (hd : decode cc pc = .ok (.lsub, 1)) (h : gV p l e R s m args below meth c mc ms Q G nL mem (pc + 1) L (.long (x - y) :: st)) : gV p l e R s m args below meth c mc ms Q G nL mem pc L (.long y :: .long x :: st) := fun H locs ls hP hS hl => lv_lsub C.1 C.2.1 hd (h H locs ls hP hS hl)
theorem g_lmul (C : gC G own cc ret nL p R s m args meth c mc ms) {x y : Int64} (hd : decode cc pc = .ok (.lmul, 1)) (h : gV p l e R s m args below meth c mc ms Q G nL mem (pc + 1) L (.long (x * y) :: st)) : gV p l e R s m args below meth c mc ms Q G nL mem pc L (.long y :: .long x :: st) := fun H locs ls hP hS hl => lv_lmul C.1 C.2.1 hd (h H locs ls hP hS hl)
def g_ushr (x y : Int32) : Int32 := (x.toUInt32 >>> (y.toUInt32 &&& Int32.toUInt32 31)).toInt32
theorem g_iushr (C : gC G own cc ret nL p R s m args meth c mc ms) {x y : Int32} (hd : decode cc pc = .ok (.iushr, 1)) (h : gV p l e R s m args below meth c mc ms Q G nL mem (pc + 1) L (.int (g_ushr x y) :: st)) : gV p l e R s m args below meth c mc ms Q G nL mem pc L (.int y :: .int x :: st) := fun H locs ls hP hS hl => lv_iushr C.1 C.2.1 hd rfl (h H locs ls hP hS hl)
theorem g_idiv (C : gC G own cc ret nL p R s m args meth c mc ms) {x y : Int32} (hne : ¬ y = 0) (hd : decode cc pc = .ok (.idiv, 1)) (h : gV p l e R s m args below meth c mc ms Q G nL mem (pc + 1) L (.int (x / y) :: st)) : gV p l e R s m args below meth c mc ms Q G nL mem pc L (.int y :: .int x :: st) := fun H locs ls hP hS hl => lv_idiv C.1 C.2.1 hd hne (h H locs ls hP hS hl)
theorem g_irem (C : gC G own cc ret nL p R s m args meth c mc ms) {x y : Int32} (hne : ¬ y = 0) (hd : decode cc pc = .ok (.irem, 1)) (h : gV p l e R s m args below meth c mc ms Q G nL mem (pc + 1) L (.int (x - x / y * y) :: st)) : gV p l e R s m args below meth c mc ms Q G nL mem pc L (.int y :: .int x :: st) := fun H locs ls hP hS hl => lv_irem C.1 C.2.1 hd hne (h H locs ls hP hS hl)
theorem g_ineg (C : gC G own cc ret nL p R s m args meth c mc ms) {x : Int32} (hd : decode cc pc = .ok (.ineg, 1)) (h : gV p l e R s m args below meth c mc ms Q G nL mem (pc + 1) L (.int (-x) :: st)) : gV p l e R s m args below meth c mc ms Q G nL mem pc L (.int x :: st) := fun H locs ls hP hS hl => lv_ineg C.1 C.2.1 hd (h H locs ls hP hS hl)
theorem g_i2l (C : gC G own cc ret nL p R s m args meth c mc ms) {x : Int32} (hd : decode cc pc = .ok (.i2l, 1)) (h : gV p l e R s m args below meth c mc ms Q G nL mem (pc + 1) L (.long x.toInt64 :: st)) : gV p l e R s m args below meth c mc ms Q G nL mem pc L (.int x :: st) := fun H locs ls hP hS hl => lv_i2l C.1 C.2.1 hd rfl (h H locs ls hP hS hl)
theorem g_lcmp (C : gC G own cc ret nL p R s m args meth c mc ms) {x y : Int64} (hd : decode cc pc = .ok (.lcmp, 1)) (h : gV p l e R s m args below meth c mc ms Q G nL mem (pc + 1) L (.int (lg_cmp x y) :: st)) : gV p l e R s m args below meth c mc ms Q G nL mem pc L (.long y :: .long x :: st) := fun H locs ls hP hS hl => W.lcmp C.1 C.2.1 hd (h H locs ls hP hS hl)
theorem g_dup (C : gC G own cc ret nL p R s m args meth c mc ms) {va : Value} (hd : decode cc pc = .ok (.dup, 1)) (ha : va.category = 1) (h : gV p l e R s m args below meth c mc ms Q G nL mem (pc + 1) L (va :: va :: st)) : gV p l e R s m args below meth c mc ms Q G nL mem pc L (va :: st) := fun H locs ls hP hS hl => lv_dup C.1 C.2.1 hd ha (h H locs ls hP hS hl)
theorem g_pop (C : gC G own cc ret nL p R s m args meth c mc ms) {va : Value} (hd : decode cc pc = .ok (.pop, 1)) (ha : va.category = 1) (h : gV p l e R s m args below meth c mc ms Q G nL mem (pc + 1) L st) : gV p l e R s m args below meth c mc ms Q G nL mem pc L (va :: st) := fun H locs ls hP hS hl => lv_pop C.1 C.2.1 hd ha (h H locs ls hP hS hl)
theorem g_dup2 (C : gC G own cc ret nL p R s m args meth c mc ms) {va vb : Value} (hd : decode cc pc = .ok (.dup2, 1)) (ha : va.category = 1) (hb : vb.category = 1) (h : gV p l e R s m args below meth c mc ms Q G nL mem (pc + 1) L (va :: vb :: va :: vb :: st)) : gV p l e R s m args below meth c mc ms Q G nL mem pc L (va :: vb :: st) := fun H locs ls hP hS hl => lv_dup2_11 C.1 C.2.1 hd ha hb (h H locs ls hP hS hl)
theorem g_dup_x1 (C : gC G own cc ret nL p R s m args meth c mc ms) {va vb : Value} (hd : decode cc pc = .ok (.dup_x1, 1)) (ha : va.category = 1) (hb : vb.category = 1) (h : gV p l e R s m args below meth c mc ms Q G nL mem (pc + 1) L (va :: vb :: va :: st)) : gV p l e R s m args below meth c mc ms Q G nL mem pc L (va :: vb :: st) := fun H locs ls hP hS hl => lv_dup_x1 C.1 C.2.1 hd ha hb (h H locs ls hP hS hl)
theorem g_dup_x2 (C : gC G own cc ret nL p R s m args meth c mc ms) {va vb vd : Value} (hd : decode cc pc = .ok (.dup_x2, 1)) (ha : va.category = 1) (hb : vb.category = 1) (hv : vd.category = 1) (h : gV p l e R s m args below meth c mc ms Q G nL mem (pc + 1) L (va :: vb :: vd :: va :: st)) : gV p l e R s m args below meth c mc ms Q G nL mem pc L (va :: vb :: vd :: st) := fun H locs ls hP hS hl => lv_dup_x2 C.1 C.2.1 hd ha hb hv (h H locs ls hP hS hl)
theorem g_if_eq (C : gC G own cc ret nL p R s m args meth c mc ms) {x : Int32} {off : Int} (tgt : Nat) (hd : decode cc pc = .ok (.ifCond .eq off, 3)) (ht : (pc : Int) + off = (tgt : Int)) (kt : x = 0 → gV p l e R s m args below meth c mc ms Q G nL mem tgt L st) (kf : ¬ x = 0 → gV p l e R s m args below meth c mc ms Q G nL mem (pc + 3) L st) : gV p l e R s m args below meth c mc ms Q G nL mem pc L (.int x :: st) := fun H locs ls hP hS hl => lv_if_eq C.1 C.2.1 hd ht (fun q => kt q H locs ls hP hS hl) (fun q => kf q H locs ls hP hS hl)
theorem g_if_eq_t (C : gC G own cc ret nL p R s m args meth c mc ms) {x : Int32} {off : Int} (tgt : Nat) (hc : x = 0) (hd : decode cc pc = .ok (.ifCond .eq off, 3)) (ht : (pc : Int) + off = (tgt : Int)) (h : gV p l e R s m args below meth c mc ms Q G nL mem tgt L st) : gV p l e R s m args below meth c mc ms Q G nL mem pc L (.int x :: st) := g_if_eq C tgt hd ht (fun _ => h) (fun q => absurd hc q)
theorem g_if_eq_f (C : gC G own cc ret nL p R s m args meth c mc ms) {x : Int32} {off : Int} (tgt : Nat) (hc : ¬ x = 0) (hd : decode cc pc = .ok (.ifCond .eq off, 3)) (ht : (pc : Int) + off = (tgt : Int)) (h : gV p l e R s m args below meth c mc ms Q G nL mem (pc + 3) L st) : gV p l e R s m args below meth c mc ms Q G nL mem pc L (.int x :: st) := g_if_eq C tgt hd ht (fun q => absurd q hc) (fun _ => h)
theorem g_icmp_eq (C : gC G own cc ret nL p R s m args meth c mc ms) {x y : Int32} {off : Int} (tgt : Nat) (hd : decode cc pc = .ok (.if_icmp .eq off, 3)) (ht : (pc : Int) + off = (tgt : Int)) (kt : x = y → gV p l e R s m args below meth c mc ms Q G nL mem tgt L st) (kf : ¬ x = y → gV p l e R s m args below meth c mc ms Q G nL mem (pc + 3) L st) : gV p l e R s m args below meth c mc ms Q G nL mem pc L (.int y :: .int x :: st) := fun H locs ls hP hS hl => lv_icmp_eq C.1 C.2.1 hd ht (fun q => kt q H locs ls hP hS hl) (fun q => kf q H locs ls hP hS hl)
theorem g_icmp_eq_t (C : gC G own cc ret nL p R s m args meth c mc ms) {x y : Int32} {off : Int} (tgt : Nat) (hc : x = y) (hd : decode cc pc = .ok (.if_icmp .eq off, 3)) (ht : (pc : Int) + off = (tgt : Int)) (h : gV p l e R s m args below meth c mc ms Q G nL mem tgt L st) : gV p l e R s m args below meth c mc ms Q G nL mem pc L (.int y :: .int x :: st) := g_icmp_eq C tgt hd ht (fun _ => h) (fun q => absurd hc q)
theorem g_icmp_eq_f (C : gC G own cc ret nL p R s m args meth c mc ms) {x y : Int32} {off : Int} (tgt : Nat) (hc : ¬ x = y) (hd : decode cc pc = .ok (.if_icmp .eq off, 3)) (ht : (pc : Int) + off = (tgt : Int)) (h : gV p l e R s m args below meth c mc ms Q G nL mem (pc + 3) L st) : gV p l e R s m args below meth c mc ms Q G nL mem pc L (.int y :: .int x :: st) := g_icmp_eq C tgt hd ht (fun q => absurd q hc) (fun _ => h)
theorem g_if_ne (C : gC G own cc ret nL p R s m args meth c mc ms) {x : Int32} {off : Int} (tgt : Nat) (hd : decode cc pc = .ok (.ifCond .ne off, 3)) (ht : (pc : Int) + off = (tgt : Int)) (kt : ¬ x = 0 → gV p l e R s m args below meth c mc ms Q G nL mem tgt L st) (kf : x = 0 → gV p l e R s m args below meth c mc ms Q G nL mem (pc + 3) L st) : gV p l e R s m args below meth c mc ms Q G nL mem pc L (.int x :: st) := fun H locs ls hP hS hl => lv_if_ne C.1 C.2.1 hd ht (fun q => kt q H locs ls hP hS hl) (fun q => kf q H locs ls hP hS hl)
theorem g_if_ne_t (C : gC G own cc ret nL p R s m args meth c mc ms) {x : Int32} {off : Int} (tgt : Nat) (hc : ¬ x = 0) (hd : decode cc pc = .ok (.ifCond .ne off, 3)) (ht : (pc : Int) + off = (tgt : Int)) (h : gV p l e R s m args below meth c mc ms Q G nL mem tgt L st) : gV p l e R s m args below meth c mc ms Q G nL mem pc L (.int x :: st) := g_if_ne C tgt hd ht (fun _ => h) (fun q => absurd q hc)
theorem g_if_ne_f (C : gC G own cc ret nL p R s m args meth c mc ms) {x : Int32} {off : Int} (tgt : Nat) (hc : x = 0) (hd : decode cc pc = .ok (.ifCond .ne off, 3)) (ht : (pc : Int) + off = (tgt : Int)) (h : gV p l e R s m args below meth c mc ms Q G nL mem (pc + 3) L st) : gV p l e R s m args below meth c mc ms Q G nL mem pc L (.int x :: st) := g_if_ne C tgt hd ht (fun q => absurd hc q) (fun _ => h)
theorem g_icmp_ne (C : gC G own cc ret nL p R s m args meth c mc ms) {x y : Int32} {off : Int} (tgt : Nat) (hd : decode cc pc = .ok (.if_icmp .ne off, 3)) (ht : (pc : Int) + off = (tgt : Int)) (kt : ¬ x = y → gV p l e R s m args below meth c mc ms Q G nL mem tgt L st) (kf : x = y → gV p l e R s m args below meth c mc ms Q G nL mem (pc + 3) L st) : gV p l e R s m args below meth c mc ms Q G nL mem pc L (.int y :: .int x :: st) := fun H locs ls hP hS hl => lv_icmp_ne C.1 C.2.1 hd ht (fun q => kt q H locs ls hP hS hl) (fun q => kf q H locs ls hP hS hl)
theorem g_icmp_ne_t (C : gC G own cc ret nL p R s m args meth c mc ms) {x y : Int32} {off : Int} (tgt : Nat) (hc : ¬ x = y) (hd : decode cc pc = .ok (.if_icmp .ne off, 3)) (ht : (pc : Int) + off = (tgt : Int)) (h : gV p l e R s m args below meth c mc ms Q G nL mem tgt L st) : gV p l e R s m args below meth c mc ms Q G nL mem pc L (.int y :: .int x :: st) := g_icmp_ne C tgt hd ht (fun _ => h) (fun q => absurd q hc)
theorem g_icmp_ne_f (C : gC G own cc ret nL p R s m args meth c mc ms) {x y : Int32} {off : Int} (tgt : Nat) (hc : x = y) (hd : decode cc pc = .ok (.if_icmp .ne off, 3)) (ht : (pc : Int) + off = (tgt : Int)) (h : gV p l e R s m args below meth c mc ms Q G nL mem (pc + 3) L st) : gV p l e R s m args below meth c mc ms Q G nL mem pc L (.int y :: .int x :: st) := g_icmp_ne C tgt hd ht (fun q => absurd hc q) (fun _ => h)
theorem g_if_lt (C : gC G own cc ret nL p R s m args meth c mc ms) {x : Int32} {off : Int} (tgt : Nat) (hd : decode cc pc = .ok (.ifCond .lt off, 3)) (ht : (pc : Int) + off = (tgt : Int)) (kt : x < 0 → gV p l e R s m args below meth c mc ms Q G nL mem tgt L st) (kf : ¬ x < 0 → gV p l e R s m args below meth c mc ms Q G nL mem (pc + 3) L st) : gV p l e R s m args below meth c mc ms Q G nL mem pc L (.int x :: st) := fun H locs ls hP hS hl => lv_if_lt C.1 C.2.1 hd ht (fun q => kt q H locs ls hP hS hl) (fun q => kf q H locs ls hP hS hl)
theorem g_if_lt_t (C : gC G own cc ret nL p R s m args meth c mc ms) {x : Int32} {off : Int} (tgt : Nat) (hc : x < 0) (hd : decode cc pc = .ok (.ifCond .lt off, 3)) (ht : (pc : Int) + off = (tgt : Int)) (h : gV p l e R s m args below meth c mc ms Q G nL mem tgt L st) : gV p l e R s m args below meth c mc ms Q G nL mem pc L (.int x :: st) := g_if_lt C tgt hd ht (fun _ => h) (fun q => absurd hc q)
theorem g_if_lt_f (C : gC G own cc ret nL p R s m args meth c mc ms) {x : Int32} {off : Int} (tgt : Nat) (hc : ¬ x < 0) (hd : decode cc pc = .ok (.ifCond .lt off, 3)) (ht : (pc : Int) + off = (tgt : Int)) (h : gV p l e R s m args below meth c mc ms Q G nL mem (pc + 3) L st) : gV p l e R s m args below meth c mc ms Q G nL mem pc L (.int x :: st) := g_if_lt C tgt hd ht (fun q => absurd q hc) (fun _ => h)
theorem g_icmp_lt (C : gC G own cc ret nL p R s m args meth c mc ms) {x y : Int32} {off : Int} (tgt : Nat) (hd : decode cc pc = .ok (.if_icmp .lt off, 3)) (ht : (pc : Int) + off = (tgt : Int)) (kt : x < y → gV p l e R s m args below meth c mc ms Q G nL mem tgt L st) (kf : ¬ x < y → gV p l e R s m args below meth c mc ms Q G nL mem (pc + 3) L st) : gV p l e R s m args below meth c mc ms Q G nL mem pc L (.int y :: .int x :: st) := fun H locs ls hP hS hl => lv_icmp_lt C.1 C.2.1 hd ht (fun q => kt q H locs ls hP hS hl) (fun q => kf q H locs ls hP hS hl)
theorem g_icmp_lt_t (C : gC G own cc ret nL p R s m args meth c mc ms) {x y : Int32} {off : Int} (tgt : Nat) (hc : x < y) (hd : decode cc pc = .ok (.if_icmp .lt off, 3)) (ht : (pc : Int) + off = (tgt : Int)) (h : gV p l e R s m args below meth c mc ms Q G nL mem tgt L st) : gV p l e R s m args below meth c mc ms Q G nL mem pc L (.int y :: .int x :: st) := g_icmp_lt C tgt hd ht (fun _ => h) (fun q => absurd hc q)
theorem g_icmp_lt_f (C : gC G own cc ret nL p R s m args meth c mc ms) {x y : Int32} {off : Int} (tgt : Nat) (hc : ¬ x < y) (hd : decode cc pc = .ok (.if_icmp .lt off, 3)) (ht : (pc : Int) + off = (tgt : Int)) (h : gV p l e R s m args below meth c mc ms Q G nL mem (pc + 3) L st) : gV p l e R s m args below meth c mc ms Q G nL mem pc L (.int y :: .int x :: st) := g_icmp_lt C tgt hd ht (fun q => absurd q hc) (fun _ => h)
theorem g_if_ge (C : gC G own cc ret nL p R s m args meth c mc ms) {x : Int32} {off : Int} (tgt : Nat) (hd : decode cc pc = .ok (.ifCond .ge off, 3)) (ht : (pc : Int) + off = (tgt : Int)) (kt : 0 ≤ x → gV p l e R s m args below meth c mc ms Q G nL mem tgt L st) (kf : ¬ 0 ≤ x → gV p l e R s m args below meth c mc ms Q G nL mem (pc + 3) L st) : gV p l e R s m args below meth c mc ms Q G nL mem pc L (.int x :: st) := fun H locs ls hP hS hl => lv_if_ge C.1 C.2.1 hd ht (fun q => kt q H locs ls hP hS hl) (fun q => kf q H locs ls hP hS hl)
theorem g_if_ge_t (C : gC G own cc ret nL p R s m args meth c mc ms) {x : Int32} {off : Int} (tgt : Nat) (hc : 0 ≤ x) (hd : decode cc pc = .ok (.ifCond .ge off, 3)) (ht : (pc : Int) + off = (tgt : Int)) (h : gV p l e R s m args below meth c mc ms Q G nL mem tgt L st) : gV p l e R s m args below meth c mc ms Q G nL mem pc L (.int x :: st) := g_if_ge C tgt hd ht (fun _ => h) (fun q => absurd hc q)
theorem g_if_ge_f (C : gC G own cc ret nL p R s m args meth c mc ms) {x : Int32} {off : Int} (tgt : Nat) (hc : ¬ 0 ≤ x) (hd : decode cc pc = .ok (.ifCond .ge off, 3)) (ht : (pc : Int) + off = (tgt : Int)) (h : gV p l e R s m args below meth c mc ms Q G nL mem (pc + 3) L st) : gV p l e R s m args below meth c mc ms Q G nL mem pc L (.int x :: st) := g_if_ge C tgt hd ht (fun q => absurd q hc) (fun _ => h)
theorem g_icmp_ge (C : gC G own cc ret nL p R s m args meth c mc ms) {x y : Int32} {off : Int} (tgt : Nat) (hd : decode cc pc = .ok (.if_icmp .ge off, 3)) (ht : (pc : Int) + off = (tgt : Int)) (kt : y ≤ x → gV p l e R s m args below meth c mc ms Q G nL mem tgt L st) (kf : ¬ y ≤ x → gV p l e R s m args below meth c mc ms Q G nL mem (pc + 3) L st) : gV p l e R s m args below meth c mc ms Q G nL mem pc L (.int y :: .int x :: st) := fun H locs ls hP hS hl => lv_icmp_ge C.1 C.2.1 hd ht (fun q => kt q H locs ls hP hS hl) (fun q => kf q H locs ls hP hS hl)
theorem g_icmp_ge_t (C : gC G own cc ret nL p R s m args meth c mc ms) {x y : Int32} {off : Int} (tgt : Nat) (hc : y ≤ x) (hd : decode cc pc = .ok (.if_icmp .ge off, 3)) (ht : (pc : Int) + off = (tgt : Int)) (h : gV p l e R s m args below meth c mc ms Q G nL mem tgt L st) : gV p l e R s m args below meth c mc ms Q G nL mem pc L (.int y :: .int x :: st) := g_icmp_ge C tgt hd ht (fun _ => h) (fun q => absurd hc q)
theorem g_icmp_ge_f (C : gC G own cc ret nL p R s m args meth c mc ms) {x y : Int32} {off : Int} (tgt : Nat) (hc : ¬ y ≤ x) (hd : decode cc pc = .ok (.if_icmp .ge off, 3)) (ht : (pc : Int) + off = (tgt : Int)) (h : gV p l e R s m args below meth c mc ms Q G nL mem (pc + 3) L st) : gV p l e R s m args below meth c mc ms Q G nL mem pc L (.int y :: .int x :: st) := g_icmp_ge C tgt hd ht (fun q => absurd q hc) (fun _ => h)
theorem g_if_gt (C : gC G own cc ret nL p R s m args meth c mc ms) {x : Int32} {off : Int} (tgt : Nat) (hd : decode cc pc = .ok (.ifCond .gt off, 3)) (ht : (pc : Int) + off = (tgt : Int)) (kt : 0 < x → gV p l e R s m args below meth c mc ms Q G nL mem tgt L st) (kf : ¬ 0 < x → gV p l e R s m args below meth c mc ms Q G nL mem (pc + 3) L st) : gV p l e R s m args below meth c mc ms Q G nL mem pc L (.int x :: st) := fun H locs ls hP hS hl => lv_if_gt C.1 C.2.1 hd ht (fun q => kt q H locs ls hP hS hl) (fun q => kf q H locs ls hP hS hl)
theorem g_if_gt_t (C : gC G own cc ret nL p R s m args meth c mc ms) {x : Int32} {off : Int} (tgt : Nat) (hc : 0 < x) (hd : decode cc pc = .ok (.ifCond .gt off, 3)) (ht : (pc : Int) + off = (tgt : Int)) (h : gV p l e R s m args below meth c mc ms Q G nL mem tgt L st) : gV p l e R s m args below meth c mc ms Q G nL mem pc L (.int x :: st) := g_if_gt C tgt hd ht (fun _ => h) (fun q => absurd hc q)
theorem g_if_gt_f (C : gC G own cc ret nL p R s m args meth c mc ms) {x : Int32} {off : Int} (tgt : Nat) (hc : ¬ 0 < x) (hd : decode cc pc = .ok (.ifCond .gt off, 3)) (ht : (pc : Int) + off = (tgt : Int)) (h : gV p l e R s m args below meth c mc ms Q G nL mem (pc + 3) L st) : gV p l e R s m args below meth c mc ms Q G nL mem pc L (.int x :: st) := g_if_gt C tgt hd ht (fun q => absurd q hc) (fun _ => h)
theorem g_icmp_gt (C : gC G own cc ret nL p R s m args meth c mc ms) {x y : Int32} {off : Int} (tgt : Nat) (hd : decode cc pc = .ok (.if_icmp .gt off, 3)) (ht : (pc : Int) + off = (tgt : Int)) (kt : y < x → gV p l e R s m args below meth c mc ms Q G nL mem tgt L st) (kf : ¬ y < x → gV p l e R s m args below meth c mc ms Q G nL mem (pc + 3) L st) : gV p l e R s m args below meth c mc ms Q G nL mem pc L (.int y :: .int x :: st) := fun H locs ls hP hS hl => lv_icmp_gt C.1 C.2.1 hd ht (fun q => kt q H locs ls hP hS hl) (fun q => kf q H locs ls hP hS hl)
theorem g_icmp_gt_t (C : gC G own cc ret nL p R s m args meth c mc ms) {x y : Int32} {off : Int} (tgt : Nat) (hc : y < x) (hd : decode cc pc = .ok (.if_icmp .gt off, 3)) (ht : (pc : Int) + off = (tgt : Int)) (h : gV p l e R s m args below meth c mc ms Q G nL mem tgt L st) : gV p l e R s m args below meth c mc ms Q G nL mem pc L (.int y :: .int x :: st) := g_icmp_gt C tgt hd ht (fun _ => h) (fun q => absurd hc q)
theorem g_icmp_gt_f (C : gC G own cc ret nL p R s m args meth c mc ms) {x y : Int32} {off : Int} (tgt : Nat) (hc : ¬ y < x) (hd : decode cc pc = .ok (.if_icmp .gt off, 3)) (ht : (pc : Int) + off = (tgt : Int)) (h : gV p l e R s m args below meth c mc ms Q G nL mem (pc + 3) L st) : gV p l e R s m args below meth c mc ms Q G nL mem pc L (.int y :: .int x :: st) := g_icmp_gt C tgt hd ht (fun q => absurd q hc) (fun _ => h)
theorem g_if_le (C : gC G own cc ret nL p R s m args meth c mc ms) {x : Int32} {off : Int} (tgt : Nat) (hd : decode cc pc = .ok (.ifCond .le off, 3)) (ht : (pc : Int) + off = (tgt : Int)) (kt : x ≤ 0 → gV p l e R s m args below meth c mc ms Q G nL mem tgt L st) (kf : ¬ x ≤ 0 → gV p l e R s m args below meth c mc ms Q G nL mem (pc + 3) L st) : gV p l e R s m args below meth c mc ms Q G nL mem pc L (.int x :: st) := fun H locs ls hP hS hl => lv_if_le C.1 C.2.1 hd ht (fun q => kt q H locs ls hP hS hl) (fun q => kf q H locs ls hP hS hl)
theorem g_if_le_t (C : gC G own cc ret nL p R s m args meth c mc ms) {x : Int32} {off : Int} (tgt : Nat) (hc : x ≤ 0) (hd : decode cc pc = .ok (.ifCond .le off, 3)) (ht : (pc : Int) + off = (tgt : Int)) (h : gV p l e R s m args below meth c mc ms Q G nL mem tgt L st) : gV p l e R s m args below meth c mc ms Q G nL mem pc L (.int x :: st) := g_if_le C tgt hd ht (fun _ => h) (fun q => absurd hc q)
theorem g_if_le_f (C : gC G own cc ret nL p R s m args meth c mc ms) {x : Int32} {off : Int} (tgt : Nat) (hc : ¬ x ≤ 0) (hd : decode cc pc = .ok (.ifCond .le off, 3)) (ht : (pc : Int) + off = (tgt : Int)) (h : gV p l e R s m args below meth c mc ms Q G nL mem (pc + 3) L st) : gV p l e R s m args below meth c mc ms Q G nL mem pc L (.int x :: st) := g_if_le C tgt hd ht (fun q => absurd q hc) (fun _ => h)
theorem g_icmp_le (C : gC G own cc ret nL p R s m args meth c mc ms) {x y : Int32} {off : Int} (tgt : Nat) (hd : decode cc pc = .ok (.if_icmp .le off, 3)) (ht : (pc : Int) + off = (tgt : Int)) (kt : x ≤ y → gV p l e R s m args below meth c mc ms Q G nL mem tgt L st) (kf : ¬ x ≤ y → gV p l e R s m args below meth c mc ms Q G nL mem (pc + 3) L st) : gV p l e R s m args below meth c mc ms Q G nL mem pc L (.int y :: .int x :: st) := fun H locs ls hP hS hl => lv_icmp_le C.1 C.2.1 hd ht (fun q => kt q H locs ls hP hS hl) (fun q => kf q H locs ls hP hS hl)
theorem g_icmp_le_t (C : gC G own cc ret nL p R s m args meth c mc ms) {x y : Int32} {off : Int} (tgt : Nat) (hc : x ≤ y) (hd : decode cc pc = .ok (.if_icmp .le off, 3)) (ht : (pc : Int) + off = (tgt : Int)) (h : gV p l e R s m args below meth c mc ms Q G nL mem tgt L st) : gV p l e R s m args below meth c mc ms Q G nL mem pc L (.int y :: .int x :: st) := g_icmp_le C tgt hd ht (fun _ => h) (fun q => absurd hc q)
theorem g_icmp_le_f (C : gC G own cc ret nL p R s m args meth c mc ms) {x y : Int32} {off : Int} (tgt : Nat) (hc : ¬ x ≤ y) (hd : decode cc pc = .ok (.if_icmp .le off, 3)) (ht : (pc : Int) + off = (tgt : Int)) (h : gV p l e R s m args below meth c mc ms Q G nL mem (pc + 3) L st) : gV p l e R s m args below meth c mc ms Q G nL mem pc L (.int y :: .int x :: st) := g_icmp_le C tgt hd ht (fun q => absurd q hc) (fun _ => h)
theorem g_goto (C : gC G own cc ret nL p R s m args meth c mc ms) {off : Int} (tgt : Nat) (hd : decode cc pc = .ok (.goto off, 3)) (ht : (pc : Int) + off = (tgt : Int)) (h : gV p l e R s m args below meth c mc ms Q G nL mem tgt L st) : gV p l e R s m args below meth c mc ms Q G nL mem pc L st := fun H locs ls hP hS hl => lv_goto C.1 C.2.1 hd ht (h H locs ls hP hS hl)
theorem g_ifnonnull (C : gC G own cc ret nL p R s m args meth c mc ms) {x : Nat} {off : Int} (tgt : Nat) (hd : decode cc pc = .ok (.ifnonnull off, 3)) (ht : (pc : Int) + off = (tgt : Int)) (h : gV p l e R s m args below meth c mc ms Q G nL mem tgt L st) : gV p l e R s m args below meth c mc ms Q G nL mem pc L (.ref x :: st) := fun H locs ls hP hS hl => lv_ifnonnull C.1 C.2.1 hd ht (h H locs ls hP hS hl)
theorem g_ifnull (C : gC G own cc ret nL p R s m args meth c mc ms) {x : Nat} {off : Int} (hd : decode cc pc = .ok (.ifnull off, 3)) (h : gV p l e R s m args below meth c mc ms Q G nL mem (pc + 3) L st) : gV p l e R s m args below meth c mc ms Q G nL mem pc L (.ref x :: st) := fun H locs ls hP hS hl => lv_ifnull C.1 C.2.1 hd (h H locs ls hP hS hl)
theorem g_ifnullN (C : gC G own cc ret nL p R s m args meth c mc ms) {off : Int} (tgt : Nat) (hd : decode cc pc = .ok (.ifnull off, 3)) (ht : (pc : Int) + off = (tgt : Int)) (h : gV p l e R s m args below meth c mc ms Q G nL mem tgt L st) : gV p l e R s m args below meth c mc ms Q G nL mem pc L (.null :: st) := fun H locs ls hP hS hl => lv_ifnullN C.1 C.2.1 hd ht (h H locs ls hP hS hl)
theorem g_tswOut (C : gC G own cc ret nL p R s m args meth c mc ms) {dflt lo hi : Int} {offs : Array Int} {len : Nat} {x : Int32} (tgt : Nat) (hd : decode cc pc = .ok (.tableswitch dflt lo hi offs, len)) (hx : x.toInt < lo ∨ hi < x.toInt) (ht : (pc : Int) + dflt = (tgt : Int)) (h : gV p l e R s m args below meth c mc ms Q G nL mem tgt L st) : gV p l e R s m args below meth c mc ms Q G nL mem pc L (.int x :: st) := fun H locs ls hP hS hl => lv_tableOut C.1 C.2.1 hd hx ht (h H locs ls hP hS hl)
theorem g_tswIn (C : gC G own cc ret nL p R s m args meth c mc ms) {dflt lo hi off : Int} {offs : Array Int} {len : Nat} {x : Int32} (tgt : Nat) (hd : decode cc pc = .ok (.tableswitch dflt lo hi offs, len)) (h1 : ¬ x.toInt < lo) (h2 : ¬ hi < x.toInt) (ho : offs[(x.toInt - lo).toNat]? = some off) (ht : (pc : Int) + off = (tgt : Int)) (h : gV p l e R s m args below meth c mc ms Q G nL mem tgt L st) : gV p l e R s m args below meth c mc ms Q G nL mem pc L (.int x :: st) := fun H locs ls hP hS hl => lv_tableIn C.1 C.2.1 hd h1 h2 ho ht (h H locs ls hP hS hl)
theorem g_mmax (C : gC G own cc ret nL p R s m args meth c mc ms) {x y : Int32} {idx : Nat} (hw : Cond.methodLink own idx Lib.Math.max.name ∈ wG) (hw2 : Cond.static Lib.Math.max.name ∈ wG) (hw3 : Cond.initialized "java/lang/Math" ∈ wG) (hw4 : Cond.code Lib.Math.max.name Lib.Math.max.code 2 (some .int) ∈ wG) (hf : 1 ≤ R.frames) (hlo : (st.map fun v => v.category).sum + 13 ≤ R.locals) (hd : decode cc pc = .ok (.invokestatic idx, 3)) (h : gV p l e R s m args below meth c mc ms Q G nL mem (pc + 3) L (.int (if x < y then y else x) :: st)) : gV p l e R s m args below meth c mc ms Q G nL mem pc L (.int y :: .int x :: st) := fun H locs ls hP hS hl => va_mmax C.1 C.2.1 (C.2.2.2.1.trans hl.1.symm) C.o (C.w hw) (C.w hw2) (C.w hw3) (C.w hw4) hf hlo C.2.2.2.2.2.2.2.2.2.2.1 C.2.2.2.2.2.2.2.2.2.2.2 hd (h H locs ls hP hS hl)
theorem g_mmin (C : gC G own cc ret nL p R s m args meth c mc ms) {x y : Int32} {idx : Nat} (hw : Cond.methodLink own idx Lib.Math.min.name ∈ wG) (hw2 : Cond.static Lib.Math.min.name ∈ wG) (hw3 : Cond.initialized "java/lang/Math" ∈ wG) (hw4 : Cond.code Lib.Math.min.name Lib.Math.min.code 2 (some .int) ∈ wG) (hf : 1 ≤ R.frames) (hlo : (st.map fun v => v.category).sum + 13 ≤ R.locals) (hd : decode cc pc = .ok (.invokestatic idx, 3)) (h : gV p l e R s m args below meth c mc ms Q G nL mem (pc + 3) L (.int (if y < x then y else x) :: st)) : gV p l e R s m args below meth c mc ms Q G nL mem pc L (.int y :: .int x :: st) := fun H locs ls hP hS hl => va_mmin C.1 C.2.1 (C.2.2.2.1.trans hl.1.symm) C.o (C.w hw) (C.w hw2) (C.w hw3) (C.w hw4) hf hlo C.2.2.2.2.2.2.2.2.2.2.1 C.2.2.2.2.2.2.2.2.2.2.2 hd (h H locs ls hP hS hl)
theorem g_mabs (C : gC G own cc ret nL p R s m args meth c mc ms) {x : Int32} {idx : Nat} (hw : Cond.methodLink own idx Lib.Math.abs.name ∈ wG) (hw2 : Cond.static Lib.Math.abs.name ∈ wG) (hw3 : Cond.initialized "java/lang/Math" ∈ wG) (hw4 : Cond.code Lib.Math.abs.name Lib.Math.abs.code 1 (some .int) ∈ wG) (hf : 1 ≤ R.frames) (hlo : (st.map fun v => v.category).sum + 13 ≤ R.locals) (hd : decode cc pc = .ok (.invokestatic idx, 3)) (h : gV p l e R s m args below meth c mc ms Q G nL mem (pc + 3) L (.int (if 0 ≤ x then x else 0 - x) :: st)) : gV p l e R s m args below meth c mc ms Q G nL mem pc L (.int x :: st) := fun H locs ls hP hS hl => va_mabs C.1 C.2.1 (C.2.2.2.1.trans hl.1.symm) C.o (C.w hw) (C.w hw2) (C.w hw3) (C.w hw4) hf hlo C.2.2.2.2.2.2.2.2.2.2.1 C.2.2.2.2.2.2.2.2.2.2.2 hd (h H locs ls hP hS hl)
theorem g_iadd_n (C : gC G own cc ret nL p R s m args meth c mc ms) {a b d : Nat} (hd : decode cc pc = .ok (.iadd, 1)) (hc : a + b = d) (h : gV p l e R s m args below meth c mc ms Q G nL mem (pc + 1) L (.int (nI d) :: st)) : gV p l e R s m args below meth c mc ms Q G nL mem pc L (.int (nI b) :: .int (nI a) :: st) := g_iadd C hd (by rw [nI_add, hc]; exact h)
theorem g_imul_n (C : gC G own cc ret nL p R s m args meth c mc ms) {a b d : Nat} (hd : decode cc pc = .ok (.imul, 1)) (hc : a * b = d) (h : gV p l e R s m args below meth c mc ms Q G nL mem (pc + 1) L (.int (nI d) :: st)) : gV p l e R s m args below meth c mc ms Q G nL mem pc L (.int (nI b) :: .int (nI a) :: st) := g_imul C hd (by rw [pk_mul, hc]; exact h)
theorem g_ifb_eq (C : gC G own cc ret nL p R s m args meth c mc ms) {P : Prop} {hP : Decidable P} {off : Int} (tgt : Nat) (hd : decode cc pc = .ok (.ifCond .eq off, 3)) (ht : (pc : Int) + off = (tgt : Int)) (kt : ¬ P → gV p l e R s m args below meth c mc ms Q G nL mem tgt L st) (kf : P → gV p l e R s m args below meth c mc ms Q G nL mem (pc + 3) L st) : gV p l e R s m args below meth c mc ms Q G nL mem pc L (.int (b2i P) :: st) := g_if_eq C tgt hd ht (fun q => kt (b2i_eq0.mp q)) (fun q => kf (Decidable.not_not.mp fun z => q (b2i_eq0.mpr z)))
theorem g_ifb_eq_t (C : gC G own cc ret nL p R s m args meth c mc ms) {P : Prop} {hP : Decidable P} {off : Int} (tgt : Nat) (hc : ¬ P) (hd : decode cc pc = .ok (.ifCond .eq off, 3)) (ht : (pc : Int) + off = (tgt : Int)) (h : gV p l e R s m args below meth c mc ms Q G nL mem tgt L st) : gV p l e R s m args below meth c mc ms Q G nL mem pc L (.int (b2i P) :: st) := g_ifb_eq C tgt hd ht (fun _ => h) (fun q => absurd q hc)
theorem g_ifb_eq_f (C : gC G own cc ret nL p R s m args meth c mc ms) {P : Prop} {hP : Decidable P} {off : Int} (tgt : Nat) (hc : P) (hd : decode cc pc = .ok (.ifCond .eq off, 3)) (ht : (pc : Int) + off = (tgt : Int)) (h : gV p l e R s m args below meth c mc ms Q G nL mem (pc + 3) L st) : gV p l e R s m args below meth c mc ms Q G nL mem pc L (.int (b2i P) :: st) := g_ifb_eq C tgt hd ht (fun q => absurd hc q) (fun _ => h)
theorem g_ifb_ne (C : gC G own cc ret nL p R s m args meth c mc ms) {P : Prop} {hP : Decidable P} {off : Int} (tgt : Nat) (hd : decode cc pc = .ok (.ifCond .ne off, 3)) (ht : (pc : Int) + off = (tgt : Int)) (kt : P → gV p l e R s m args below meth c mc ms Q G nL mem tgt L st) (kf : ¬ P → gV p l e R s m args below meth c mc ms Q G nL mem (pc + 3) L st) : gV p l e R s m args below meth c mc ms Q G nL mem pc L (.int (b2i P) :: st) := g_if_ne C tgt hd ht (fun q => kt (Decidable.not_not.mp fun z => q (b2i_eq0.mpr z))) (fun q => kf (b2i_eq0.mp q))
theorem g_ifb_ne_t (C : gC G own cc ret nL p R s m args meth c mc ms) {P : Prop} {hP : Decidable P} {off : Int} (tgt : Nat) (hc : P) (hd : decode cc pc = .ok (.ifCond .ne off, 3)) (ht : (pc : Int) + off = (tgt : Int)) (h : gV p l e R s m args below meth c mc ms Q G nL mem tgt L st) : gV p l e R s m args below meth c mc ms Q G nL mem pc L (.int (b2i P) :: st) := g_ifb_ne C tgt hd ht (fun _ => h) (fun q => absurd hc q)
theorem g_ifb_ne_f (C : gC G own cc ret nL p R s m args meth c mc ms) {P : Prop} {hP : Decidable P} {off : Int} (tgt : Nat) (hc : ¬ P) (hd : decode cc pc = .ok (.ifCond .ne off, 3)) (ht : (pc : Int) + off = (tgt : Int)) (h : gV p l e R s m args below meth c mc ms Q G nL mem (pc + 3) L st) : gV p l e R s m args below meth c mc ms Q G nL mem pc L (.int (b2i P) :: st) := g_ifb_ne C tgt hd ht (fun q => absurd q hc) (fun _ => h)
theorem g_top {x y : Int32} (e1 : x = y) (h : gV p l e R s m args below meth c mc ms Q G nL mem pc L (.int y :: st)) : gV p l e R s m args below meth c mc ms Q G nL mem pc L (.int x :: st) := by rw [e1]; exact h
theorem g_topl {x y : Int64} (e1 : x = y) (h : gV p l e R s m args below meth c mc ms Q G nL mem pc L (.long y :: st)) : gV p l e R s m args below meth c mc ms Q G nL mem pc L (.long x :: st) := by rw [e1]; exact h
theorem g_mem {mem2 : gM} (e1 : mem = mem2) (h : gV p l e R s m args below meth c mc ms Q G nL mem2 pc L st) : gV p l e R s m args below meth c mc ms Q G nL mem pc L st := by rw [e1]; exact h
theorem g_iald_n (C : gC G own cc ret nL p R s m args meth c mc ms) {k n j : Nat} {i : Int32} (hk : gAr k n) (hi : i = nI j) (hj : j < n) (hn : n < 2 ^ 31) (hd : decode cc pc = .ok (.iaload, 1)) (h : gV p l e R s m args below meth c mc ms Q G nL mem (pc + 1) L (.int (mem k j) :: st)) : gV p l e R s m args below meth c mc ms Q G nL mem pc L (.int i :: .ref (gad G k) :: st) := by
  subst hi
  refine g_iald C hk (vp_in_nI hj hn) hd ?_
  rw [nI_clamp (Nat.lt_trans hj hn)]
  exact h
theorem g_iast_n (C : gC G own cc ret nL p R s m args meth c mc ms) {k n j : Nat} {i w : Int32} (hk : gAr k n) (hi : i = nI j) (hj : j < n) (hn : n < 2 ^ 31) (hd : decode cc pc = .ok (.iastore, 1)) (h : gV p l e R s m args below meth c mc ms Q G nL (gr mem k (upd (mem k) j w)) (pc + 1) L st) : gV p l e R s m args below meth c mc ms Q G nL mem pc L (.int w :: .int i :: .ref (gad G k) :: st) := by
  subst hi
  refine g_iast C hk (vp_in_nI hj hn) hd ?_
  rw [nI_clamp (Nat.lt_trans hj hn)]
  exact h
theorem g_tld_n (C : gC G own cc ret nL p R s m args meth c mc ms) {n : String} {t N j : Nat} {f : Nat → Int32} (hz : gZ1 n t N f (gA G) s s.heap) (hj : j < N) (hn : N < 2 ^ 31) (hd : decode cc pc = .ok (.iaload, 1)) (h : gV p l e R s m args below meth c mc ms Q G nL mem (pc + 1) L (.int (f j) :: st)) : gV p l e R s m args below meth c mc ms Q G nL mem pc L (.int (nI j) :: .ref t :: st) := by
  refine g_tld C hz (vp_in_nI hj hn) hd ?_
  rw [nI_clamp (Nat.lt_trans hj hn)]
  exact h
theorem g_cV1 (C : gC G own cc ret nL p R s m args meth c mc ms) {y : MethodName} {b2 : ByteArray} {maxL2 n idx k ci N : Nat} {ret2 : Option FieldType} {rm2 : Room} {T : u_T} {fl : List (Option Nat)} {As rest : List Value} {v w : Value} {mem2 mem3 : gM} (I : gIv y b2 maxL2 ret2 n) (hM : gMet l y b2 maxL2 ret2 rm2 G (.ref (gad G k) :: As) mem (fun a u => a = some v ∧ u = mem2)) (hw : Cond.methodLink own idx y ∈ wG) (O : gO k ci y.cls T N fl) (hn : As.length = n) (hR : rm2.frames + 1 ≤ R.frames ∧ 8 + (maxL2 + 11) + rm2.locals ≤ R.locals) (hz : rm2.cells = 0 ∧ rm2.slots = 0) (hst : st = As.reverse ++ .ref (gad G k) :: rest) (hcat : (rest.map fun v => v.category).sum ≤ 8) (hd : decode cc pc = .ok (.invokevirtual idx, 3)) (hv : v = w) (hm : mem2 = mem3) (h : gV p l e R s m args below meth c mc ms Q G nL mem3 (pc + 3) L (w :: rest)) : gV p l e R s m args below meth c mc ms Q G nL mem pc L st :=
  g_callV C I hM hw O hn hR hz hst hcat hd fun a u q => by obtain ⟨rfl, rfl⟩ := q; rw [hv, hm]; exact h
theorem g_cV0 (C : gC G own cc ret nL p R s m args meth c mc ms) {y : MethodName} {b2 : ByteArray} {maxL2 n idx k ci N : Nat} {ret2 : Option FieldType} {rm2 : Room} {T : u_T} {fl : List (Option Nat)} {As rest : List Value} {mem2 mem3 : gM} (I : gIv y b2 maxL2 ret2 n) (hM : gMet l y b2 maxL2 ret2 rm2 G (.ref (gad G k) :: As) mem (fun a u => a = none ∧ u = mem2)) (hw : Cond.methodLink own idx y ∈ wG) (O : gO k ci y.cls T N fl) (hn : As.length = n) (hR : rm2.frames + 1 ≤ R.frames ∧ 8 + (maxL2 + 11) + rm2.locals ≤ R.locals) (hz : rm2.cells = 0 ∧ rm2.slots = 0) (hst : st = As.reverse ++ .ref (gad G k) :: rest) (hcat : (rest.map fun v => v.category).sum ≤ 8) (hd : decode cc pc = .ok (.invokevirtual idx, 3)) (hm : mem2 = mem3) (h : gV p l e R s m args below meth c mc ms Q G nL mem3 (pc + 3) L rest) : gV p l e R s m args below meth c mc ms Q G nL mem pc L st :=
  g_callV C I hM hw O hn hR hz hst hcat hd fun a u q => by obtain ⟨rfl, rfl⟩ := q; rw [hm]; exact h
theorem g_cVr (C : gC G own cc ret nL p R s m args meth c mc ms) {y : MethodName} {b2 : ByteArray} {maxL2 n idx k ci N : Nat} {ret2 : Option FieldType} {rm2 : Room} {T : u_T} {fl : List (Option Nat)} {As rest : List Value} {P : Int32 → gM → Prop} (I : gIv y b2 maxL2 ret2 n) (hM : gMet l y b2 maxL2 ret2 rm2 G (.ref (gad G k) :: As) mem (fun a u => ∃ r : Int32, a = some (.int r) ∧ P r u)) (hw : Cond.methodLink own idx y ∈ wG) (O : gO k ci y.cls T N fl) (hn : As.length = n) (hR : rm2.frames + 1 ≤ R.frames ∧ 8 + (maxL2 + 11) + rm2.locals ≤ R.locals) (hz : rm2.cells = 0 ∧ rm2.slots = 0) (hst : st = As.reverse ++ .ref (gad G k) :: rest) (hcat : (rest.map fun v => v.category).sum ≤ 8) (hd : decode cc pc = .ok (.invokevirtual idx, 3)) (h : ∀ (r : Int32) (u : gM), P r u → gV p l e R s m args below meth c mc ms Q G nL u (pc + 3) L (.int r :: rest)) : gV p l e R s m args below meth c mc ms Q G nL mem pc L st :=
  g_callV C I hM hw O hn hR hz hst hcat hd fun a u q => by obtain ⟨r, rfl, hP⟩ := q; exact h r u hP
theorem g_cVq (C : gC G own cc ret nL p R s m args meth c mc ms) {y : MethodName} {b2 : ByteArray} {maxL2 n idx k ci N : Nat} {ret2 : Option FieldType} {rm2 : Room} {T : u_T} {fl : List (Option Nat)} {As rest : List Value} {P : gM → Prop} (I : gIv y b2 maxL2 ret2 n) (hM : gMet l y b2 maxL2 ret2 rm2 G (.ref (gad G k) :: As) mem (fun a u => a = none ∧ P u)) (hw : Cond.methodLink own idx y ∈ wG) (O : gO k ci y.cls T N fl) (hn : As.length = n) (hR : rm2.frames + 1 ≤ R.frames ∧ 8 + (maxL2 + 11) + rm2.locals ≤ R.locals) (hz : rm2.cells = 0 ∧ rm2.slots = 0) (hst : st = As.reverse ++ .ref (gad G k) :: rest) (hcat : (rest.map fun v => v.category).sum ≤ 8) (hd : decode cc pc = .ok (.invokevirtual idx, 3)) (h : ∀ (u : gM), P u → gV p l e R s m args below meth c mc ms Q G nL u (pc + 3) L rest) : gV p l e R s m args below meth c mc ms Q G nL mem pc L st :=
  g_callV C I hM hw O hn hR hz hst hcat hd fun a u q => by obtain ⟨rfl, hP⟩ := q; exact h u hP
theorem g_cS1 (C : gC G own cc ret nL p R s m args meth c mc ms) {y : MethodName} {b2 : ByteArray} {maxL2 n idx : Nat} {ret2 : Option FieldType} {rm2 : Room} {As rest : List Value} {v w : Value} {mem2 mem3 : gM} (I : gIs y b2 maxL2 ret2 n) (hM : gMet l y b2 maxL2 ret2 rm2 G As mem (fun a u => a = some v ∧ u = mem2)) (hw : Cond.methodLink own idx y ∈ wG) (hn : As.length = n) (hR : rm2.frames + 1 ≤ R.frames ∧ 8 + (maxL2 + 11) + rm2.locals ≤ R.locals) (hz : rm2.cells = 0 ∧ rm2.slots = 0) (hst : st = As.reverse ++ rest) (hcat : (rest.map fun v => v.category).sum ≤ 8) (hd : decode cc pc = .ok (.invokestatic idx, 3)) (hv : v = w) (hm : mem2 = mem3) (h : gV p l e R s m args below meth c mc ms Q G nL mem3 (pc + 3) L (w :: rest)) : gV p l e R s m args below meth c mc ms Q G nL mem pc L st :=
  g_callS C I hM hw hn hR hz hst hcat hd fun a u q => by obtain ⟨rfl, rfl⟩ := q; rw [hv, hm]; exact h
theorem g_cS0 (C : gC G own cc ret nL p R s m args meth c mc ms) {y : MethodName} {b2 : ByteArray} {maxL2 n idx : Nat} {ret2 : Option FieldType} {rm2 : Room} {As rest : List Value} {mem2 mem3 : gM} (I : gIs y b2 maxL2 ret2 n) (hM : gMet l y b2 maxL2 ret2 rm2 G As mem (fun a u => a = none ∧ u = mem2)) (hw : Cond.methodLink own idx y ∈ wG) (hn : As.length = n) (hR : rm2.frames + 1 ≤ R.frames ∧ 8 + (maxL2 + 11) + rm2.locals ≤ R.locals) (hz : rm2.cells = 0 ∧ rm2.slots = 0) (hst : st = As.reverse ++ rest) (hcat : (rest.map fun v => v.category).sum ≤ 8) (hd : decode cc pc = .ok (.invokestatic idx, 3)) (hm : mem2 = mem3) (h : gV p l e R s m args below meth c mc ms Q G nL mem3 (pc + 3) L rest) : gV p l e R s m args below meth c mc ms Q G nL mem pc L st :=
  g_callS C I hM hw hn hR hz hst hcat hd fun a u q => by obtain ⟨rfl, rfl⟩ := q; rw [hm]; exact h
theorem g_cSr (C : gC G own cc ret nL p R s m args meth c mc ms) {y : MethodName} {b2 : ByteArray} {maxL2 n idx : Nat} {ret2 : Option FieldType} {rm2 : Room} {As rest : List Value} {P : Int32 → gM → Prop} (I : gIs y b2 maxL2 ret2 n) (hM : gMet l y b2 maxL2 ret2 rm2 G As mem (fun a u => ∃ r : Int32, a = some (.int r) ∧ P r u)) (hw : Cond.methodLink own idx y ∈ wG) (hn : As.length = n) (hR : rm2.frames + 1 ≤ R.frames ∧ 8 + (maxL2 + 11) + rm2.locals ≤ R.locals) (hz : rm2.cells = 0 ∧ rm2.slots = 0) (hst : st = As.reverse ++ rest) (hcat : (rest.map fun v => v.category).sum ≤ 8) (hd : decode cc pc = .ok (.invokestatic idx, 3)) (h : ∀ (r : Int32) (u : gM), P r u → gV p l e R s m args below meth c mc ms Q G nL u (pc + 3) L (.int r :: rest)) : gV p l e R s m args below meth c mc ms Q G nL mem pc L st :=
  g_callS C I hM hw hn hR hz hst hcat hd fun a u q => by obtain ⟨r, rfl, hP⟩ := q; exact h r u hP
theorem g_cSq (C : gC G own cc ret nL p R s m args meth c mc ms) {y : MethodName} {b2 : ByteArray} {maxL2 n idx : Nat} {ret2 : Option FieldType} {rm2 : Room} {As rest : List Value} {P : gM → Prop} (I : gIs y b2 maxL2 ret2 n) (hM : gMet l y b2 maxL2 ret2 rm2 G As mem (fun a u => a = none ∧ P u)) (hw : Cond.methodLink own idx y ∈ wG) (hn : As.length = n) (hR : rm2.frames + 1 ≤ R.frames ∧ 8 + (maxL2 + 11) + rm2.locals ≤ R.locals) (hz : rm2.cells = 0 ∧ rm2.slots = 0) (hst : st = As.reverse ++ rest) (hcat : (rest.map fun v => v.category).sum ≤ 8) (hd : decode cc pc = .ok (.invokestatic idx, 3)) (h : ∀ (u : gM), P u → gV p l e R s m args below meth c mc ms Q G nL u (pc + 3) L rest) : gV p l e R s m args below meth c mc ms Q G nL mem pc L st :=
  g_callS C I hM hw hn hR hz hst hcat hd fun a u q => by obtain ⟨rfl, hP⟩ := q; exact h u hP

end GROWS
theorem gO_X0 {k : Nat} {fl : List (Option Nat)} (h : gsh[k]? = some (.inr (.inl (0, fl)))) : gO k 0 RX0 TX0 4 fl := ⟨h, rfl, wi_X0, ⟨tyX0, tyX0_ok⟩, nmX0⟩
theorem gO_X1 {k : Nat} {fl : List (Option Nat)} (h : gsh[k]? = some (.inr (.inl (1, fl)))) : gO k 1 RX1 TX1 3 fl := ⟨h, rfl, wi_X1, ⟨tyX1, tyX1_ok⟩, nmX1⟩
theorem gO_X2 {k : Nat} {fl : List (Option Nat)} (h : gsh[k]? = some (.inr (.inl (2, fl)))) : gO k 2 RX2 TX2 4 fl := ⟨h, rfl, wi_X2, ⟨tyX2, tyX2_ok⟩, nmX2⟩
theorem gO_X3 {k : Nat} {fl : List (Option Nat)} (h : gsh[k]? = some (.inr (.inl (3, fl)))) : gO k 3 RX3 TX3 10 fl := ⟨h, rfl, wi_X3, ⟨tyX3, tyX3_ok⟩, nmX3⟩
theorem gO_X5 {k : Nat} {fl : List (Option Nat)} (h : gsh[k]? = some (.inr (.inl (4, fl)))) : gO k 4 RX5 TX5 12 fl := ⟨h, rfl, wi_X5, ⟨tyX5, tyX5_ok⟩, nmX5⟩
theorem gO_X6 {k : Nat} {fl : List (Option Nat)} (h : gsh[k]? = some (.inr (.inl (5, fl)))) : gO k 5 RX6 TX6 1 fl := ⟨h, rfl, wi_X6, ⟨tyX6, tyX6_ok⟩, nmX6⟩
theorem gO_X7 {k : Nat} {fl : List (Option Nat)} (h : gsh[k]? = some (.inr (.inl (6, fl)))) : gO k 6 RX7 TX7 5 fl := ⟨h, rfl, wi_X7, ⟨tyX7, tyX7_ok⟩, nmX7⟩
theorem gO_X8 {k : Nat} {fl : List (Option Nat)} (h : gsh[k]? = some (.inr (.inl (7, fl)))) : gO k 7 RX8 TX8 2 fl := ⟨h, rfl, wi_X8, ⟨tyX8, tyX8_ok⟩, nmX8⟩
theorem gO_X9 {k : Nat} {fl : List (Option Nat)} (h : gsh[k]? = some (.inr (.inl (8, fl)))) : gO k 8 RX9 TX9 5 fl := ⟨h, rfl, wi_X9, ⟨tyX9, tyX9_ok⟩, nmX9⟩
theorem ob_0 : gO 0 8 RX9 TX9 5 [some 1, some 29, some 143, some 146, some 151] := gO_X9 rfl
theorem ob_1 : gO 1 6 RX7 TX7 5 [some 2, some 4, some 21, some 24, some 26] := gO_X7 rfl
theorem ob_2 : gO 2 5 RX6 TX6 1 [some 3] := gO_X6 rfl
theorem ar_3 : gAr 3 5 := rfl
theorem ob_4 : gO 4 3 RX3 TX3 10 [none, none, some 5, some 7, some 9, some 11, some 13, some 15, some 17, some 19] := gO_X3 rfl
theorem ob_5 : gO 5 5 RX6 TX6 1 [some 6] := gO_X6 rfl
theorem ar_6 : gAr 6 10 := rfl
theorem ob_7 : gO 7 5 RX6 TX6 1 [some 8] := gO_X6 rfl
theorem ar_8 : gAr 8 10 := rfl
theorem ob_9 : gO 9 5 RX6 TX6 1 [some 10] := gO_X6 rfl
theorem ar_10 : gAr 10 10 := rfl
theorem ob_11 : gO 11 5 RX6 TX6 1 [some 12] := gO_X6 rfl
theorem ar_12 : gAr 12 10 := rfl
theorem ob_13 : gO 13 5 RX6 TX6 1 [some 14] := gO_X6 rfl
theorem ar_14 : gAr 14 10 := rfl
theorem ob_15 : gO 15 5 RX6 TX6 1 [some 16] := gO_X6 rfl
theorem ar_16 : gAr 16 10 := rfl
theorem ob_17 : gO 17 5 RX6 TX6 1 [some 18] := gO_X6 rfl
theorem ar_18 : gAr 18 10 := rfl
theorem ob_19 : gO 19 5 RX6 TX6 1 [some 20] := gO_X6 rfl
theorem ar_20 : gAr 20 10 := rfl
theorem ob_21 : gO 21 0 RX0 TX0 4 [none, none, none, some 22] := gO_X0 rfl
theorem ob_22 : gO 22 5 RX6 TX6 1 [some 23] := gO_X6 rfl
theorem ar_23 : gAr 23 10 := rfl
theorem ob_24 : gO 24 5 RX6 TX6 1 [some 25] := gO_X6 rfl
theorem ar_25 : gAr 25 200 := rfl
theorem ob_26 : gO 26 2 RX2 TX2 4 [none, none, none, some 27] := gO_X2 rfl
theorem ob_27 : gO 27 5 RX6 TX6 1 [some 28] := gO_X6 rfl
theorem ar_28 : gAr 28 140 := rfl
theorem ob_29 : gO 29 1 RX1 TX1 3 [none, none, some 30] := gO_X1 rfl
theorem ob_31 : gO 31 6 RX7 TX7 5 [some 32, some 34, some 51, some 54, some 56] := gO_X7 rfl
theorem ob_32 : gO 32 5 RX6 TX6 1 [some 33] := gO_X6 rfl
theorem ar_33 : gAr 33 5 := rfl
theorem ob_34 : gO 34 3 RX3 TX3 10 [none, none, some 35, some 37, some 39, some 41, some 43, some 45, some 47, some 49] := gO_X3 rfl
theorem ob_35 : gO 35 5 RX6 TX6 1 [some 36] := gO_X6 rfl
theorem ar_36 : gAr 36 10 := rfl
theorem ob_37 : gO 37 5 RX6 TX6 1 [some 38] := gO_X6 rfl
theorem ar_38 : gAr 38 10 := rfl
theorem ob_39 : gO 39 5 RX6 TX6 1 [some 40] := gO_X6 rfl
theorem ar_40 : gAr 40 10 := rfl
theorem ob_41 : gO 41 5 RX6 TX6 1 [some 42] := gO_X6 rfl
theorem ar_42 : gAr 42 10 := rfl
theorem ob_43 : gO 43 5 RX6 TX6 1 [some 44] := gO_X6 rfl
theorem ar_44 : gAr 44 10 := rfl
theorem ob_45 : gO 45 5 RX6 TX6 1 [some 46] := gO_X6 rfl
theorem ar_46 : gAr 46 10 := rfl
theorem ob_47 : gO 47 5 RX6 TX6 1 [some 48] := gO_X6 rfl
theorem ar_48 : gAr 48 10 := rfl
theorem ob_49 : gO 49 5 RX6 TX6 1 [some 50] := gO_X6 rfl
theorem ar_50 : gAr 50 10 := rfl
theorem ob_51 : gO 51 0 RX0 TX0 4 [none, none, none, some 52] := gO_X0 rfl
theorem ob_52 : gO 52 5 RX6 TX6 1 [some 53] := gO_X6 rfl
theorem ar_53 : gAr 53 10 := rfl
theorem ob_54 : gO 54 5 RX6 TX6 1 [some 55] := gO_X6 rfl
theorem ar_55 : gAr 55 200 := rfl
theorem ob_56 : gO 56 2 RX2 TX2 4 [none, none, none, some 57] := gO_X2 rfl
theorem ob_57 : gO 57 5 RX6 TX6 1 [some 58] := gO_X6 rfl
theorem ar_58 : gAr 58 140 := rfl
theorem ob_59 : gO 59 6 RX7 TX7 5 [some 60, some 62, some 79, some 82, some 84] := gO_X7 rfl
theorem ob_60 : gO 60 5 RX6 TX6 1 [some 61] := gO_X6 rfl
theorem ar_61 : gAr 61 5 := rfl
theorem ob_62 : gO 62 3 RX3 TX3 10 [none, none, some 63, some 65, some 67, some 69, some 71, some 73, some 75, some 77] := gO_X3 rfl
theorem ob_63 : gO 63 5 RX6 TX6 1 [some 64] := gO_X6 rfl
theorem ar_64 : gAr 64 10 := rfl
theorem ob_65 : gO 65 5 RX6 TX6 1 [some 66] := gO_X6 rfl
theorem ar_66 : gAr 66 10 := rfl
theorem ob_67 : gO 67 5 RX6 TX6 1 [some 68] := gO_X6 rfl
theorem ar_68 : gAr 68 10 := rfl
theorem ob_69 : gO 69 5 RX6 TX6 1 [some 70] := gO_X6 rfl
theorem ar_70 : gAr 70 10 := rfl
theorem ob_71 : gO 71 5 RX6 TX6 1 [some 72] := gO_X6 rfl
theorem ar_72 : gAr 72 10 := rfl
theorem ob_73 : gO 73 5 RX6 TX6 1 [some 74] := gO_X6 rfl
theorem ar_74 : gAr 74 10 := rfl
theorem ob_75 : gO 75 5 RX6 TX6 1 [some 76] := gO_X6 rfl
theorem ar_76 : gAr 76 10 := rfl
theorem ob_77 : gO 77 5 RX6 TX6 1 [some 78] := gO_X6 rfl
theorem ar_78 : gAr 78 10 := rfl
theorem ob_79 : gO 79 0 RX0 TX0 4 [none, none, none, some 80] := gO_X0 rfl
theorem ob_80 : gO 80 5 RX6 TX6 1 [some 81] := gO_X6 rfl
theorem ar_81 : gAr 81 10 := rfl
theorem ob_82 : gO 82 5 RX6 TX6 1 [some 83] := gO_X6 rfl
theorem ar_83 : gAr 83 200 := rfl
theorem ob_84 : gO 84 2 RX2 TX2 4 [none, none, none, some 85] := gO_X2 rfl
theorem ob_85 : gO 85 5 RX6 TX6 1 [some 86] := gO_X6 rfl
theorem ar_86 : gAr 86 140 := rfl
theorem ob_87 : gO 87 6 RX7 TX7 5 [some 88, some 90, some 107, some 110, some 112] := gO_X7 rfl
theorem ob_88 : gO 88 5 RX6 TX6 1 [some 89] := gO_X6 rfl
theorem ar_89 : gAr 89 5 := rfl
theorem ob_90 : gO 90 3 RX3 TX3 10 [none, none, some 91, some 93, some 95, some 97, some 99, some 101, some 103, some 105] := gO_X3 rfl
theorem ob_91 : gO 91 5 RX6 TX6 1 [some 92] := gO_X6 rfl
theorem ar_92 : gAr 92 10 := rfl
theorem ob_93 : gO 93 5 RX6 TX6 1 [some 94] := gO_X6 rfl
theorem ar_94 : gAr 94 10 := rfl
theorem ob_95 : gO 95 5 RX6 TX6 1 [some 96] := gO_X6 rfl
theorem ar_96 : gAr 96 10 := rfl
theorem ob_97 : gO 97 5 RX6 TX6 1 [some 98] := gO_X6 rfl
theorem ar_98 : gAr 98 10 := rfl
theorem ob_99 : gO 99 5 RX6 TX6 1 [some 100] := gO_X6 rfl
theorem ar_100 : gAr 100 10 := rfl
theorem ob_101 : gO 101 5 RX6 TX6 1 [some 102] := gO_X6 rfl
theorem ar_102 : gAr 102 10 := rfl
theorem ob_103 : gO 103 5 RX6 TX6 1 [some 104] := gO_X6 rfl
theorem ar_104 : gAr 104 10 := rfl
theorem ob_105 : gO 105 5 RX6 TX6 1 [some 106] := gO_X6 rfl
theorem ar_106 : gAr 106 10 := rfl
theorem ob_107 : gO 107 0 RX0 TX0 4 [none, none, none, some 108] := gO_X0 rfl
theorem ob_108 : gO 108 5 RX6 TX6 1 [some 109] := gO_X6 rfl
theorem ar_109 : gAr 109 10 := rfl
theorem ob_110 : gO 110 5 RX6 TX6 1 [some 111] := gO_X6 rfl
theorem ar_111 : gAr 111 200 := rfl
theorem ob_112 : gO 112 2 RX2 TX2 4 [none, none, none, some 113] := gO_X2 rfl
theorem ob_113 : gO 113 5 RX6 TX6 1 [some 114] := gO_X6 rfl
theorem ar_114 : gAr 114 140 := rfl
theorem ob_115 : gO 115 6 RX7 TX7 5 [some 116, some 118, some 135, some 138, some 140] := gO_X7 rfl
theorem ob_116 : gO 116 5 RX6 TX6 1 [some 117] := gO_X6 rfl
theorem ar_117 : gAr 117 5 := rfl
theorem ob_118 : gO 118 3 RX3 TX3 10 [none, none, some 119, some 121, some 123, some 125, some 127, some 129, some 131, some 133] := gO_X3 rfl
theorem ob_119 : gO 119 5 RX6 TX6 1 [some 120] := gO_X6 rfl
theorem ar_120 : gAr 120 10 := rfl
theorem ob_121 : gO 121 5 RX6 TX6 1 [some 122] := gO_X6 rfl
theorem ar_122 : gAr 122 10 := rfl
theorem ob_123 : gO 123 5 RX6 TX6 1 [some 124] := gO_X6 rfl
theorem ar_124 : gAr 124 10 := rfl
theorem ob_125 : gO 125 5 RX6 TX6 1 [some 126] := gO_X6 rfl
theorem ar_126 : gAr 126 10 := rfl
theorem ob_127 : gO 127 5 RX6 TX6 1 [some 128] := gO_X6 rfl
theorem ar_128 : gAr 128 10 := rfl
theorem ob_129 : gO 129 5 RX6 TX6 1 [some 130] := gO_X6 rfl
theorem ar_130 : gAr 130 10 := rfl
theorem ob_131 : gO 131 5 RX6 TX6 1 [some 132] := gO_X6 rfl
theorem ar_132 : gAr 132 10 := rfl
theorem ob_133 : gO 133 5 RX6 TX6 1 [some 134] := gO_X6 rfl
theorem ar_134 : gAr 134 10 := rfl
theorem ob_135 : gO 135 0 RX0 TX0 4 [none, none, none, some 136] := gO_X0 rfl
theorem ob_136 : gO 136 5 RX6 TX6 1 [some 137] := gO_X6 rfl
theorem ar_137 : gAr 137 10 := rfl
theorem ob_138 : gO 138 5 RX6 TX6 1 [some 139] := gO_X6 rfl
theorem ar_139 : gAr 139 200 := rfl
theorem ob_140 : gO 140 2 RX2 TX2 4 [none, none, none, some 141] := gO_X2 rfl
theorem ob_141 : gO 141 5 RX6 TX6 1 [some 142] := gO_X6 rfl
theorem ar_142 : gAr 142 140 := rfl
theorem ob_143 : gO 143 7 RX8 TX8 2 [none, some 144] := gO_X8 rfl
theorem ob_144 : gO 144 5 RX6 TX6 1 [some 145] := gO_X6 rfl
theorem ar_145 : gAr 145 60 := rfl
theorem ob_146 : gO 146 4 RX5 TX5 12 [none, none, none, none, none, none, none, none, none, none, some 147, some 149] := gO_X5 rfl
theorem ob_147 : gO 147 5 RX6 TX6 1 [some 148] := gO_X6 rfl
theorem ar_148 : gAr 148 10 := rfl
theorem ob_149 : gO 149 5 RX6 TX6 1 [some 150] := gO_X6 rfl
theorem ar_150 : gAr 150 10 := rfl
theorem ob_151 : gO 151 0 RX0 TX0 4 [none, none, none, some 152] := gO_X0 rfl
theorem ob_152 : gO 152 5 RX6 TX6 1 [some 153] := gO_X6 rfl
theorem ar_153 : gAr 153 10 := rfl
