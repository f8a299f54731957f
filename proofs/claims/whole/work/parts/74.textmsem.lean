/-! the model's reading: the memory M at place q of the text, over mem -/
def RG (n : Nat) (tx : Nat → Nat) (tl : Nat) (mem M : gM) (q : Nat) : Prop :=
  M 154 8 = nI q ∧ M 154 9 = wrT tx tl q ∧ M 154 11 = nI (lsT n tx tl q).length ∧ (∀ k b m, (lsT n tx tl q)[k]? = some (b, m) → M 159 k = nI (10 * b + m)) ∧ (∀ j, j ≠ 8 → j ≠ 9 → j ≠ 11 → M 154 j = mem 154 j) ∧ ∀ k, k ≠ 154 → k ≠ 159 → M k = mem k
theorem rg_0 (n : Nat) (tx : Nat → Nat) (tl : Nat) (mem : gM) : RG n tx tl mem (gr mem 154 (upd (upd (upd (mem 154) 8 (nI 0)) 11 (nI 0)) 9 (-1 : Int32))) 0 :=
  ⟨rfl, rfl, rfl, fun k b m h => by simp [lsT] at h, fun j h1 h2 h3 => by rw [gr_s, upd_n h2, upd_n h3, upd_n h1], fun k h1 _ => gr_n h1⟩
theorem rg_tx {n : Nat} {tx : Nat → Nat} {tl : Nat} {mem M : gM} {q : Nat} (tX : TXM tx tl mem) (rg : RG n tx tl mem M q) : TXM tx tl M := by
  obtain ⟨t1, t2, t3⟩ := tX
  refine ⟨by rw [rg.2.2.2.2.1 7 (by decide) (by decide) (by decide)]; exact t1, t2, fun i hi => ?_⟩
  rw [rg.2.2.2.2.2 158 (by decide) (by decide)]
  exact t3 i hi
theorem rg_txd {n : Nat} {tx : Nat → Nat} {tl : Nat} {mem M M2 : gM} {q p : Nat} (tX : TXM tx tl M) (rg : RG n tx tl mem M p) (rg2 : RG n tx tl mem M2 q) : TXM tx tl M2 := by
  obtain ⟨t1, t2, t3⟩ := tX
  refine ⟨by rw [rg2.2.2.2.2.1 7 (by decide) (by decide) (by decide), ← rg.2.2.2.2.1 7 (by decide) (by decide) (by decide)]; exact t1, t2, fun i hi => ?_⟩
  rw [rg2.2.2.2.2.2 158 (by decide) (by decide), ← rg.2.2.2.2.2 158 (by decide) (by decide)]
  exact t3 i hi
theorem rg_155 {n : Nat} {tx : Nat → Nat} {tl : Nat} {mem M M2 : gM} {q p : Nat} (rg : RG n tx tl mem M p) (rg2 : RG n tx tl mem M2 q) : M2 155 = M 155 := by
  rw [rg2.2.2.2.2.2 155 (by decide) (by decide), rg.2.2.2.2.2 155 (by decide) (by decide)]
/-- the place moves on, nothing else is told -/
theorem rg_pl {n : Nat} {tx : Nat → Nat} {tl : Nat} {mem M : gM} {q q2 : Nat} (rg : RG n tx tl mem M q) (e1 : lsT n tx tl q2 = lsT n tx tl q) (e2 : wrT tx tl q2 = wrT tx tl q) : RG n tx tl mem (gr M 154 (upd (M 154) 8 (nI q2))) q2 := by
  obtain ⟨r1, r2, r3, r4, r5, r6⟩ := rg
  unfold RG
  rw [e1, e2]
  exact ⟨rfl, r2, r3, r4, fun j h1 h2 h3 => by rw [gr_s, upd_n h1]; exact r5 j h1 h2 h3, fun k h1 h2 => by rw [gr_n h1]; exact r6 k h1 h2⟩
/-- behind a ':' -/
theorem rg_col {n : Nat} {tx : Nat → Nat} {tl : Nat} {mem M : gM} {q : Nat} (rg : RG n tx tl mem M q) (e1 : lsT n tx tl (q + 1) = lsT n tx tl q) : RG n tx tl mem (gr M 154 (upd (upd (M 154) 8 (nI (q + 1))) 9 (wrT tx tl (q + 1)))) (q + 1) := by
  obtain ⟨r1, r2, r3, r4, r5, r6⟩ := rg
  unfold RG
  rw [e1]
  exact ⟨rfl, rfl, r3, r4, fun j h1 h2 h3 => by rw [gr_s, upd_n h2, upd_n h1]; exact r5 j h1 h2 h3, fun k h1 h2 => by rw [gr_n h1]; exact r6 k h1 h2⟩
/-- a member named -/
theorem rg_mem {n : Nat} {tx : Nat → Nat} {tl : Nat} {mem M : gM} {q b m v : Nat} (rg : RG n tx tl mem M q) (e1 : lsT n tx tl (q + 1) = lsT n tx tl q ++ [(b, m)]) (e2 : wrT tx tl (q + 1) = wrT tx tl q) (hv : v = 10 * b + m) :
    RG n tx tl mem (gr (gr M 159 (upd (M 159) (lsT n tx tl q).length (nI v))) 154 (upd (upd (M 154) 11 (nI ((lsT n tx tl q).length + 1))) 8 (nI (q + 1)))) (q + 1) := by
  obtain ⟨r1, r2, r3, r4, r5, r6⟩ := rg
  unfold RG
  rw [e1, e2]
  refine ⟨rfl, r2, ?_, fun k b2 m2 h => ?_, fun j h1 h2 h3 => by rw [gr_s, upd_n h1, upd_n h3]; exact r5 j h1 h2 h3, fun k h1 h2 => by rw [gr_n h1, gr_n h2]; exact r6 k h1 h2⟩
  · rw [List.length_append]; rfl
  · rw [gr_n (by decide), gr_s]
    by_cases e : k = (lsT n tx tl q).length
    · rw [e, upd_s]
      rw [e, List.getElem?_append_right (Nat.le_refl _), Nat.sub_self] at h
      have h : some (b, m) = some (b2, m2) := h
      cases h
      rw [hv]
    · rw [upd_n e]
      have hk : k < (lsT n tx tl q ++ [(b, m)]).length := (List.getElem?_eq_some_iff.mp h).1
      rw [List.length_append] at hk
      have hk : k < (lsT n tx tl q).length + 1 := hk
      rw [List.getElem?_append_left (by omega)] at h
      exact r4 k b2 m2 h
/-- the sign at a place -/
theorem sg_dg {tx : Nat → Nat} {tl p : Nat} {M : gM} (tX : TXM tx tl M) : (nI 48 ≤ sgI tx tl p ∧ sgI tx tl p ≤ nI 57) ↔ (p < tl ∧ dgN (tx p)) := by
  unfold sgI
  by_cases h : p < tl
  · rw [if_pos h]
    have := (tX.2.2 p h).2.2
    exact ⟨fun q => ⟨h, (dg_n (by omega)).mp q⟩, fun q => (dg_n (by omega)).mpr q.2⟩
  · rw [if_neg h]
    exact ⟨fun q => absurd q.1 (by decide), fun q => absurd q.1 h⟩
theorem sg_eq {tx : Nat → Nat} {tl p c : Nat} {M : gM} (tX : TXM tx tl M) (hc : c < 2 ^ 30) : sgI tx tl p = nI c ↔ (p < tl ∧ tx p = c) := by
  unfold sgI
  by_cases h : p < tl
  · rw [if_pos h]
    have := (tX.2.2 p h).2.2
    exact ⟨fun q => ⟨h, (nI_iff (by omega) (by omega)).mp q⟩, fun q => by rw [q.2]⟩
  · rw [if_neg h]
    refine ⟨fun q => ?_, fun q => absurd q.1 h⟩
    have e : (nI c).toInt = (c : Int) := nI_toInt (by omega)
    rw [← q] at e
    have e2 : ((-1 : Int32)).toInt = -1 := rfl
    omega
theorem sg_mem {tx : Nat → Nat} {tl p n : Nat} {M : gM} (tX : TXM tx tl M) (hn : n ≤ 10) : (nI 0 ≤ sgI tx tl p - nI 48 ∧ sgI tx tl p - nI 48 ≤ nI n - nI 1) ↔ (p < tl ∧ (48 ≤ tx p ∧ tx p - 48 < n)) := by
  have en : (nI n - nI 1).toInt = (n : Int) - 1 := pk_sub_toInt (by omega) (by decide)
  unfold sgI
  by_cases h : p < tl
  · rw [if_pos h]
    have := (tX.2.2 p h).2.2
    have e : (nI (tx p) - nI 48).toInt = (tx p : Int) - 48 := pk_sub_toInt (by omega) (by decide)
    rw [Int32.le_iff_toInt_le, Int32.le_iff_toInt_le, e, en, nI_toInt (by decide)]
    omega
  · rw [if_neg h]
    have e : ((-1 : Int32) - nI 48).toInt = -49 := rfl
    rw [Int32.le_iff_toInt_le, e, nI_toInt (by decide)]
    omega
/-- where the walk is stuck -/
theorem sk_f {n q k tl : Nat} {tx : Nat → Nat} (hq : q ≤ tl) (h : auS n tx q = some (false, k)) (h1 : ¬ (q < tl ∧ dgN (tx q) ∧ k < 3)) (h2 : ¬ (q < tl ∧ tx q = 58 ∧ 0 < k)) : ¬ okT n tx tl ∧ wsT n tx tl = q := by
  by_cases e : q < tl
  · exact ws_in e h (au_fn (fun z => h1 ⟨e, z⟩) (fun z => h2 ⟨e, z⟩))
  · have e2 : q = tl := by omega
    rw [e2] at h ⊢
    exact ws_end h fun z => absurd z.1 Bool.false_ne_true
theorem sk_t {n q d tl : Nat} {tx : Nat → Nat} (hq : q ≤ tl) (h : auS n tx q = some (true, d)) (h1 : ¬ (q < tl ∧ (48 ≤ tx q ∧ tx q - 48 < n))) (h2 : ¬ 0 < d) : ¬ okT n tx tl ∧ wsT n tx tl = q := by
  by_cases e : q < tl
  · exact ws_in e h (au_tn (fun z => h1 ⟨e, z⟩) (fun z => h2 z.2))
  · have e2 : q = tl := by omega
    rw [e2] at h ⊢
    exact ws_end h fun z => h2 z.2
theorem tk_s {l : List (Nat × Nat)} {k : Nat} {x : Nat × Nat} (h : l[k]? = some x) : l.take (k + 1) = l.take k ++ [x] := by rw [List.take_succ, h]; rfl
/-- more to read, or the walk's end -/
def WAS (n : Nat) (tx : Nat → Nat) (tl p : Nat) (f : Bool) : Prop :=
  (f = true → auS n tx p = some (false, 0) ∧ gsT tx p = p) ∧ (f = false → ∃ d, auS n tx p = some (true, d) ∧ 0 < d ∧ ¬ (p < tl ∧ (48 ≤ tx p ∧ tx p - 48 < n)) ∧ ¬ (p < tl ∧ tx p = 59))
/-- what readsGroup answers and leaves -/
def RGP (n : Nat) (tx : Nat → Nat) (tl : Nat) (m0 u : gM) (p : Nat) (r : Int32) : Prop :=
  (r = nI 0 ∧ ∃ q, RG n tx tl m0 u q ∧ q ≤ tl ∧ ¬ okT n tx tl ∧ wsT n tx tl = q) ∨
  (r = nI 1 ∧ ∃ q d, p < q ∧ q ≤ tl ∧ auS n tx q = some (true, d) ∧ 0 < d ∧ ¬ (q < tl ∧ (48 ≤ tx q ∧ tx q - 48 < n)) ∧ RG n tx tl m0 u q)
/-- what the model's read answers and leaves -/
def RDM (h n : Nat) (tx : Nat → Nat) (tl : Nat) (mem u : gM) (r : Int32) : Prop :=
  (rdOK n tx tl → r = nI (apL (mem 155) (lsT n tx tl tl)).2 ∧ u 155 = (apL (mem 155) (lsT n tx tl tl)).1 ∧ u 156 = pshP h (mem 155) (mem 156) ∧ u 154 2 = nI (pushN h) ∧ u 154 7 = nI 0 ∧ ∀ k, k < 154 → u k = mem k) ∧
  (¬ rdOK n tx tl → (∃ e, epI n tx tl e ∧ r = (-100 : Int32) - e) ∧ MN mem u)
