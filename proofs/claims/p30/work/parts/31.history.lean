/-- the class's history: the j-th state kept stands for Vs j -/
def HX (T : Nat) (Vs : Nat → Nat → Int32) (h o : Nat) (mem : gM) : Prop :=
  (mem 29 0 = nI h ∧ h ≤ 4 ∧ mem 29 1 = nI o ∧ o < 4) ∧ ∀ j, j < h → RelS (31 + 28 * ((o + j) % 4)) (Vs j) mem ∧ Good T (Vs j)
def pushN (h : Nat) : Nat := if h < 4 then h + 1 else 4
def pushV (h : Nat) (Vs : Nat → Nat → Int32) (V : Nat → Int32) (j : Nat) : Nat → Int32 := if h < 4 then (if j = h then V else Vs j) else (if j = 3 then V else Vs (j + 1))
theorem sts_get {i : Nat} (h : i < 4) : ([31, 59, 87, 115] : List Nat)[i]? = some (31 + 28 * i) := by
  match i, h with
  | 0, _ => rfl
  | 1, _ => rfl
  | 2, _ => rfl
  | 3, _ => rfl
  | k + 4, h => omega
theorem four {i : Nat} (h : i < 4) : i = 0 ∨ i = 1 ∨ i = 2 ∨ i = 3 := by omega

def rm_X1_stateAt : Room := { frames := 0, cells := 0, slots := 0, locals := 0 }
theorem iX1_stateAt : gIv yX1_stateAt cX1_stateAt 3 (some (.object "RepairDuty$State")) 1 := ⟨⟨wd_314, wd_10, by decide +kernel, by decide +kernel, by decide +kernel⟩, wd_312, wd_313⟩
set_option maxRecDepth 100000 in
set_option maxHeartbeats 4000000 in
theorem c_X1_stateAt (l : Launch) (G : gG) (mem : gM) {o k : Nat} (ho : mem 29 1 = nI o) (ho4 : o < 4) (hk : k < 1000) : gMet l yX1_stateAt cX1_stateAt 3 (some (.object "RepairDuty$State")) rm_X1_stateAt G [.ref (gad G 29), .int (nI k)] mem (fun a u => a = some (.ref (gad G (31 + 28 * ((o + k) % 4)))) ∧ u = mem) := by
  refine g_of (own := RX1) (L0 := [(0, .ref (gad G 29)), (1, .int (nI k))]) (by decide +kernel) rfl (Nat.le_of_ble_eq_true rfl) rfl ?_
  intro p e s m args below meth c C Q hQ
  have hm4 : (o + k) % 4 < 4 := Nat.mod_lt _ (by decide)
  refine g_aload_n C 0 dX1_stateAt_0 rfl ?_
  refine g_get_i C ob_29 1 (by decide) rfl wd_192 dX1_stateAt_1 ?_
  refine g_top (y := nI o) (ho) ?_
  refine g_iload_n C 1 dX1_stateAt_4 rfl ?_
  refine g_iadd_n C (d := o + k) dX1_stateAt_5 rfl ?_
  refine g_iconst C (nI 4) dX1_stateAt_6 (by decide) ?_
  refine g_irem C (by decide) dX1_stateAt_7 ?_
  refine g_top (y := nI ((o + k) % 4)) (pk_rem (by omega) (by decide) (by decide)) ?_
  refine g_istore_n C (L2 := [(2, .int (nI ((o + k) % 4))), (0, .ref (gad G 29)), (1, .int (nI k))]) dX1_stateAt_8 (by decide) rfl ?_
  refine g_iload_n C 0 dX1_stateAt_9 rfl ?_
  refine g_if_lt_f C 31 (nI_pos (by omega)) dX1_stateAt_10 (by decide) ?_
  refine g_iload_n C 0 dX1_stateAt_13 rfl ?_
  refine g_aload_n C 1 dX1_stateAt_14 rfl ?_
  refine g_get_r C ob_29 2 (by decide) rfl wd_193 dX1_stateAt_15 ?_
  refine g_salen C (k := 30) (ps := [31, 59, 87, 115]) rfl dX1_stateAt_18 ?_
  refine g_icmp_ge_f C 31 (nI_ge hm4 (by decide)) dX1_stateAt_19 (by decide) ?_
  refine g_aload_n C 1 dX1_stateAt_22 rfl ?_
  refine g_get_r C ob_29 2 (by decide) rfl wd_193 dX1_stateAt_23 ?_
  refine g_iload_n C 0 dX1_stateAt_26 rfl ?_
  refine g_saald C (k := 30) (q := 31 + 28 * ((o + k) % 4)) rfl (vp_in_nI hm4 (by decide)) (by rw [nI_clamp (by omega)]; exact sts_get hm4) dX1_stateAt_27 ?_
  refine g_goto C 32 dX1_stateAt_28 (by decide) ?_
  refine g_aret C hQ rfl (Or.inr ⟨_, rfl⟩) dX1_stateAt_32 ?_
  exact ⟨rfl, rfl⟩

theorem HX_push {T : Nat} {Vs : Nat → Nat → Int32} {h o : Nat} {V : Nat → Int32} {mem cu u : gM} (g : Good T V) (r : Rel V mem) (hx : HX T Vs h o mem) (hc : CopyS (31 + 28 * ((o + h) % 4)) 1 mem cu) (hu : ∀ k, k ≠ 29 → u k = cu k) (h0 : u 29 0 = nI (pushN h)) (h1 : u 29 1 = nI (if h < 4 then o else (o + 1) % 4)) : HX T (pushV h Vs V) (pushN h) (if h < 4 then o else (o + 1) % 4) u := by
  obtain ⟨⟨x0, x1, x2, x3⟩, xs⟩ := hx
  have m4 : (o + h) % 4 < 4 := Nat.mod_lt _ (by decide)
  have new : RelS (31 + 28 * ((o + h) % 4)) V u := (hc.rel g r).keep fun k k1 k2 => hu k (by omega)
  have old : ∀ j, j < h → (o + j) % 4 ≠ (o + h) % 4 → RelS (31 + 28 * ((o + j) % 4)) (Vs j) u := fun j hj hne => by
    have j4 : (o + j) % 4 < 4 := Nat.mod_lt _ (by decide)
    exact (xs j hj).1.keep fun k k1 k2 => (hu k (by omega)).trans (hc.1 k (by omega))
  by_cases hh : h < 4
  · rw [if_pos hh] at h1 ⊢
    have e : pushN h = h + 1 := if_pos hh
    rw [e] at h0 ⊢
    refine ⟨⟨h0, by omega, h1, x3⟩, fun j hj => ?_⟩
    unfold pushV
    rw [if_pos hh]
    by_cases ej : j = h
    · subst ej; rw [if_pos rfl]; exact ⟨new, g⟩
    · rw [if_neg ej]
      exact ⟨old j (by omega) (by omega), (xs j (by omega)).2⟩
  · rw [if_neg hh] at h1 ⊢
    have e : pushN h = 4 := if_neg hh
    have h4 : h = 4 := by omega
    subst h4
    rw [e] at h0 ⊢
    refine ⟨⟨h0, by omega, h1, Nat.mod_lt _ (by decide)⟩, fun j hj => ?_⟩
    unfold pushV
    rw [if_neg hh]
    by_cases ej : j = 3
    · subst ej; rw [if_pos rfl, show ((o + 1) % 4 + 3) % 4 = (o + 4) % 4 by omega]; exact ⟨new, g⟩
    · rw [if_neg ej, show ((o + 1) % 4 + j) % 4 = (o + (j + 1)) % 4 by omega]
      exact ⟨old (j + 1) (by omega) (by omega), (xs (j + 1) (by omega)).2⟩
/-- what keep does -/
def KP (T : Nat) (Vs : Nat → Nat → Int32) (h : Nat) (V : Nat → Int32) (mem u : gM) : Prop :=
  (∀ k, (k < 29 ∨ 143 ≤ k) → u k = mem k) ∧ ∃ o, HX T (pushV h Vs V) (pushN h) o u

def rm_X1_keep : Room := { frames := 4, cells := 0, slots := 0, locals := 104 }
theorem iX1_keep : gIv yX1_keep cX1_keep 3 none 1 := ⟨⟨wd_310, wd_10, by decide +kernel, by decide +kernel, by decide +kernel⟩, wd_308, wd_309⟩
set_option maxRecDepth 100000 in
set_option maxHeartbeats 4000000 in
theorem c_X1_keep (l : Launch) (G : gG) {T : Nat} {V : Nat → Int32} (g : Good T V) (mem : gM) (r : Rel V mem) {Vs : Nat → Nat → Int32} {h o : Nat} (hx : HX T Vs h o mem) : gMet l yX1_keep cX1_keep 3 none rm_X1_keep G [.ref (gad G 29), .ref (gad G 1)] mem (fun a u => a = none ∧ KP T Vs h V mem u) := by
  refine g_of (own := RX1) (L0 := [(0, .ref (gad G 29)), (1, .ref (gad G 1))]) (by decide +kernel) rfl (Nat.le_of_ble_eq_true rfl) rfl ?_
  intro p e s m args below meth c C Q hQ
  obtain ⟨⟨x0, x1, x2, x3⟩, xs⟩ := id hx
  have hm4 : (o + h) % 4 < 4 := Nat.mod_lt _ (by decide)
  refine g_aload_n C 0 dX1_keep_0 rfl ?_
  refine g_aload_n C 0 dX1_keep_1 rfl ?_
  refine g_get_i C ob_29 0 (by decide) rfl wd_190 dX1_keep_2 ?_
  refine g_top (y := nI h) (x0) ?_
  refine g_cV1 C (As := [.int (nI h)]) (w := .ref (gad G (31 + 28 * ((o + h) % 4)))) (mem3 := mem) iX1_stateAt (c_X1_stateAt l G mem (o := o) (k := h) (x2) (x3) (by omega)) wd_311 ob_29 rfl ⟨Nat.le_of_ble_eq_true rfl, Nat.le_of_ble_eq_true rfl⟩ ⟨rfl, rfl⟩ rfl (Nat.le_of_ble_eq_true rfl) dX1_keep_5 (rfl) (rfl) ?_
  rcases four hm4 with hj4 | hj4 | hj4 | hj4
  · rw [hj4]
    refine g_astore_n C (L2 := [(2, .ref (gad G 31)), (0, .ref (gad G 29)), (1, .ref (gad G 1))]) dX1_keep_8 (by decide) rfl ?_
    refine g_aload_n C 0 dX1_keep_9 rfl ?_
    refine g_ifnull C dX1_keep_10 ?_
    refine g_aload_n C 0 dX1_keep_13 rfl ?_
    refine g_aload_n C 2 dX1_keep_14 rfl ?_
    refine g_cVq C (As := [.ref (gad G 1)]) iX7_copy (c_X7_copy_31_1 l G mem) wd_315 ob_31 rfl ⟨Nat.le_of_ble_eq_true rfl, Nat.le_of_ble_eq_true rfl⟩ ⟨rfl, rfl⟩ rfl (Nat.le_of_ble_eq_true rfl) dX1_keep_15 (fun cu0 hq => ?_)
    have hcp := hq
    have y0 : cu0 29 0 = nI h := (congrArg (fun z => z 0) (hcp.1 29 (by decide))).trans x0
    have y1 : cu0 29 1 = nI o := (congrArg (fun z => z 1) (hcp.1 29 (by decide))).trans x2
    refine g_aload_n C 1 dX1_keep_18 rfl ?_
    refine g_get_i C ob_29 0 (by decide) rfl wd_190 dX1_keep_19 ?_
    refine g_top (y := nI h) (y0) ?_
    refine g_iconst C (nI 4) dX1_keep_22 (by decide) ?_
    refine g_icmp_ge C 39 dX1_keep_23 (by decide) (fun c_23 => ?_) (fun c_23 => ?_)
    · have c_23 : ¬ h < 4 := by have q := (nI_leI (a := 4) (b := h) (by omega) (by omega)).mp c_23; omega
      refine g_aload_n C 1 dX1_keep_39 rfl ?_
      refine g_aload_n C 1 dX1_keep_40 rfl ?_
      refine g_get_i C ob_29 1 (by decide) rfl wd_192 dX1_keep_41 ?_
      refine g_top (y := nI o) (y1) ?_
      refine g_iconst C (nI 1) dX1_keep_44 (by decide) ?_
      refine g_iadd_n C (d := o + 1) dX1_keep_45 rfl ?_
      refine g_iconst C (nI 4) dX1_keep_46 (by decide) ?_
      refine g_irem C (by decide) dX1_keep_47 ?_
      refine g_top (y := nI ((o + 1) % 4)) (pk_rem (by omega) (by decide) (by decide)) ?_
      refine g_put_i C ob_29 1 (by decide) rfl wd_192 rfl rfl dX1_keep_48 ?_
      refine g_vret C hQ rfl dX1_keep_51 ?_
      refine ⟨rfl, fun k hk => by rw [gr_n (by omega)]; exact hcp.1 k (by omega), _, HX_push g r hx (cu := cu0) (by rw [hj4]; exact hcp) (fun k hk => gr_n hk) ?_ ?_⟩
      · first | (rw [pushN, if_pos c_23]; rfl) | (rw [pushN, if_neg c_23, show (4 : Nat) = h by omega]; exact y0)
      · first | (rw [if_pos c_23]; exact y1) | (rw [if_neg c_23]; rfl)
    · have c_23 : h < 4 := by have q := mt (nI_leI (a := 4) (b := h) (by omega) (by omega)).mpr c_23; omega
      refine g_aload_n C 1 dX1_keep_26 rfl ?_
      refine g_dup C dX1_keep_27 rfl ?_
      refine g_get_i C ob_29 0 (by decide) rfl wd_190 dX1_keep_28 ?_
      refine g_top (y := nI h) (y0) ?_
      refine g_iconst C (nI 1) dX1_keep_31 (by decide) ?_
      refine g_iadd_n C (d := h + 1) dX1_keep_32 rfl ?_
      refine g_put_i C ob_29 0 (by decide) rfl wd_190 rfl rfl dX1_keep_33 ?_
      refine g_goto C 51 dX1_keep_36 (by decide) ?_
      refine g_vret C hQ rfl dX1_keep_51 ?_
      refine ⟨rfl, fun k hk => by rw [gr_n (by omega)]; exact hcp.1 k (by omega), _, HX_push g r hx (cu := cu0) (by rw [hj4]; exact hcp) (fun k hk => gr_n hk) ?_ ?_⟩
      · first | (rw [pushN, if_pos c_23]; rfl) | (rw [pushN, if_neg c_23, show (4 : Nat) = h by omega]; exact y0)
      · first | (rw [if_pos c_23]; exact y1) | (rw [if_neg c_23]; rfl)
  · rw [hj4]
    refine g_astore_n C (L2 := [(2, .ref (gad G 59)), (0, .ref (gad G 29)), (1, .ref (gad G 1))]) dX1_keep_8 (by decide) rfl ?_
    refine g_aload_n C 0 dX1_keep_9 rfl ?_
    refine g_ifnull C dX1_keep_10 ?_
    refine g_aload_n C 0 dX1_keep_13 rfl ?_
    refine g_aload_n C 2 dX1_keep_14 rfl ?_
    refine g_cVq C (As := [.ref (gad G 1)]) iX7_copy (c_X7_copy_59_1 l G mem) wd_315 ob_59 rfl ⟨Nat.le_of_ble_eq_true rfl, Nat.le_of_ble_eq_true rfl⟩ ⟨rfl, rfl⟩ rfl (Nat.le_of_ble_eq_true rfl) dX1_keep_15 (fun cu0 hq => ?_)
    have hcp := hq
    have y0 : cu0 29 0 = nI h := (congrArg (fun z => z 0) (hcp.1 29 (by decide))).trans x0
    have y1 : cu0 29 1 = nI o := (congrArg (fun z => z 1) (hcp.1 29 (by decide))).trans x2
    refine g_aload_n C 1 dX1_keep_18 rfl ?_
    refine g_get_i C ob_29 0 (by decide) rfl wd_190 dX1_keep_19 ?_
    refine g_top (y := nI h) (y0) ?_
    refine g_iconst C (nI 4) dX1_keep_22 (by decide) ?_
    refine g_icmp_ge C 39 dX1_keep_23 (by decide) (fun c_23 => ?_) (fun c_23 => ?_)
    · have c_23 : ¬ h < 4 := by have q := (nI_leI (a := 4) (b := h) (by omega) (by omega)).mp c_23; omega
      refine g_aload_n C 1 dX1_keep_39 rfl ?_
      refine g_aload_n C 1 dX1_keep_40 rfl ?_
      refine g_get_i C ob_29 1 (by decide) rfl wd_192 dX1_keep_41 ?_
      refine g_top (y := nI o) (y1) ?_
      refine g_iconst C (nI 1) dX1_keep_44 (by decide) ?_
      refine g_iadd_n C (d := o + 1) dX1_keep_45 rfl ?_
      refine g_iconst C (nI 4) dX1_keep_46 (by decide) ?_
      refine g_irem C (by decide) dX1_keep_47 ?_
      refine g_top (y := nI ((o + 1) % 4)) (pk_rem (by omega) (by decide) (by decide)) ?_
      refine g_put_i C ob_29 1 (by decide) rfl wd_192 rfl rfl dX1_keep_48 ?_
      refine g_vret C hQ rfl dX1_keep_51 ?_
      refine ⟨rfl, fun k hk => by rw [gr_n (by omega)]; exact hcp.1 k (by omega), _, HX_push g r hx (cu := cu0) (by rw [hj4]; exact hcp) (fun k hk => gr_n hk) ?_ ?_⟩
      · first | (rw [pushN, if_pos c_23]; rfl) | (rw [pushN, if_neg c_23, show (4 : Nat) = h by omega]; exact y0)
      · first | (rw [if_pos c_23]; exact y1) | (rw [if_neg c_23]; rfl)
    · have c_23 : h < 4 := by have q := mt (nI_leI (a := 4) (b := h) (by omega) (by omega)).mpr c_23; omega
      refine g_aload_n C 1 dX1_keep_26 rfl ?_
      refine g_dup C dX1_keep_27 rfl ?_
      refine g_get_i C ob_29 0 (by decide) rfl wd_190 dX1_keep_28 ?_
      refine g_top (y := nI h) (y0) ?_
      refine g_iconst C (nI 1) dX1_keep_31 (by decide) ?_
      refine g_iadd_n C (d := h + 1) dX1_keep_32 rfl ?_
      refine g_put_i C ob_29 0 (by decide) rfl wd_190 rfl rfl dX1_keep_33 ?_
      refine g_goto C 51 dX1_keep_36 (by decide) ?_
      refine g_vret C hQ rfl dX1_keep_51 ?_
      refine ⟨rfl, fun k hk => by rw [gr_n (by omega)]; exact hcp.1 k (by omega), _, HX_push g r hx (cu := cu0) (by rw [hj4]; exact hcp) (fun k hk => gr_n hk) ?_ ?_⟩
      · first | (rw [pushN, if_pos c_23]; rfl) | (rw [pushN, if_neg c_23, show (4 : Nat) = h by omega]; exact y0)
      · first | (rw [if_pos c_23]; exact y1) | (rw [if_neg c_23]; rfl)
  · rw [hj4]
    refine g_astore_n C (L2 := [(2, .ref (gad G 87)), (0, .ref (gad G 29)), (1, .ref (gad G 1))]) dX1_keep_8 (by decide) rfl ?_
    refine g_aload_n C 0 dX1_keep_9 rfl ?_
    refine g_ifnull C dX1_keep_10 ?_
    refine g_aload_n C 0 dX1_keep_13 rfl ?_
    refine g_aload_n C 2 dX1_keep_14 rfl ?_
    refine g_cVq C (As := [.ref (gad G 1)]) iX7_copy (c_X7_copy_87_1 l G mem) wd_315 ob_87 rfl ⟨Nat.le_of_ble_eq_true rfl, Nat.le_of_ble_eq_true rfl⟩ ⟨rfl, rfl⟩ rfl (Nat.le_of_ble_eq_true rfl) dX1_keep_15 (fun cu0 hq => ?_)
    have hcp := hq
    have y0 : cu0 29 0 = nI h := (congrArg (fun z => z 0) (hcp.1 29 (by decide))).trans x0
    have y1 : cu0 29 1 = nI o := (congrArg (fun z => z 1) (hcp.1 29 (by decide))).trans x2
    refine g_aload_n C 1 dX1_keep_18 rfl ?_
    refine g_get_i C ob_29 0 (by decide) rfl wd_190 dX1_keep_19 ?_
    refine g_top (y := nI h) (y0) ?_
    refine g_iconst C (nI 4) dX1_keep_22 (by decide) ?_
    refine g_icmp_ge C 39 dX1_keep_23 (by decide) (fun c_23 => ?_) (fun c_23 => ?_)
    · have c_23 : ¬ h < 4 := by have q := (nI_leI (a := 4) (b := h) (by omega) (by omega)).mp c_23; omega
      refine g_aload_n C 1 dX1_keep_39 rfl ?_
      refine g_aload_n C 1 dX1_keep_40 rfl ?_
      refine g_get_i C ob_29 1 (by decide) rfl wd_192 dX1_keep_41 ?_
      refine g_top (y := nI o) (y1) ?_
      refine g_iconst C (nI 1) dX1_keep_44 (by decide) ?_
      refine g_iadd_n C (d := o + 1) dX1_keep_45 rfl ?_
      refine g_iconst C (nI 4) dX1_keep_46 (by decide) ?_
      refine g_irem C (by decide) dX1_keep_47 ?_
      refine g_top (y := nI ((o + 1) % 4)) (pk_rem (by omega) (by decide) (by decide)) ?_
      refine g_put_i C ob_29 1 (by decide) rfl wd_192 rfl rfl dX1_keep_48 ?_
      refine g_vret C hQ rfl dX1_keep_51 ?_
      refine ⟨rfl, fun k hk => by rw [gr_n (by omega)]; exact hcp.1 k (by omega), _, HX_push g r hx (cu := cu0) (by rw [hj4]; exact hcp) (fun k hk => gr_n hk) ?_ ?_⟩
      · first | (rw [pushN, if_pos c_23]; rfl) | (rw [pushN, if_neg c_23, show (4 : Nat) = h by omega]; exact y0)
      · first | (rw [if_pos c_23]; exact y1) | (rw [if_neg c_23]; rfl)
    · have c_23 : h < 4 := by have q := mt (nI_leI (a := 4) (b := h) (by omega) (by omega)).mpr c_23; omega
      refine g_aload_n C 1 dX1_keep_26 rfl ?_
      refine g_dup C dX1_keep_27 rfl ?_
      refine g_get_i C ob_29 0 (by decide) rfl wd_190 dX1_keep_28 ?_
      refine g_top (y := nI h) (y0) ?_
      refine g_iconst C (nI 1) dX1_keep_31 (by decide) ?_
      refine g_iadd_n C (d := h + 1) dX1_keep_32 rfl ?_
      refine g_put_i C ob_29 0 (by decide) rfl wd_190 rfl rfl dX1_keep_33 ?_
      refine g_goto C 51 dX1_keep_36 (by decide) ?_
      refine g_vret C hQ rfl dX1_keep_51 ?_
      refine ⟨rfl, fun k hk => by rw [gr_n (by omega)]; exact hcp.1 k (by omega), _, HX_push g r hx (cu := cu0) (by rw [hj4]; exact hcp) (fun k hk => gr_n hk) ?_ ?_⟩
      · first | (rw [pushN, if_pos c_23]; rfl) | (rw [pushN, if_neg c_23, show (4 : Nat) = h by omega]; exact y0)
      · first | (rw [if_pos c_23]; exact y1) | (rw [if_neg c_23]; rfl)
  · rw [hj4]
    refine g_astore_n C (L2 := [(2, .ref (gad G 115)), (0, .ref (gad G 29)), (1, .ref (gad G 1))]) dX1_keep_8 (by decide) rfl ?_
    refine g_aload_n C 0 dX1_keep_9 rfl ?_
    refine g_ifnull C dX1_keep_10 ?_
    refine g_aload_n C 0 dX1_keep_13 rfl ?_
    refine g_aload_n C 2 dX1_keep_14 rfl ?_
    refine g_cVq C (As := [.ref (gad G 1)]) iX7_copy (c_X7_copy_115_1 l G mem) wd_315 ob_115 rfl ⟨Nat.le_of_ble_eq_true rfl, Nat.le_of_ble_eq_true rfl⟩ ⟨rfl, rfl⟩ rfl (Nat.le_of_ble_eq_true rfl) dX1_keep_15 (fun cu0 hq => ?_)
    have hcp := hq
    have y0 : cu0 29 0 = nI h := (congrArg (fun z => z 0) (hcp.1 29 (by decide))).trans x0
    have y1 : cu0 29 1 = nI o := (congrArg (fun z => z 1) (hcp.1 29 (by decide))).trans x2
    refine g_aload_n C 1 dX1_keep_18 rfl ?_
    refine g_get_i C ob_29 0 (by decide) rfl wd_190 dX1_keep_19 ?_
    refine g_top (y := nI h) (y0) ?_
    refine g_iconst C (nI 4) dX1_keep_22 (by decide) ?_
    refine g_icmp_ge C 39 dX1_keep_23 (by decide) (fun c_23 => ?_) (fun c_23 => ?_)
    · have c_23 : ¬ h < 4 := by have q := (nI_leI (a := 4) (b := h) (by omega) (by omega)).mp c_23; omega
      refine g_aload_n C 1 dX1_keep_39 rfl ?_
      refine g_aload_n C 1 dX1_keep_40 rfl ?_
      refine g_get_i C ob_29 1 (by decide) rfl wd_192 dX1_keep_41 ?_
      refine g_top (y := nI o) (y1) ?_
      refine g_iconst C (nI 1) dX1_keep_44 (by decide) ?_
      refine g_iadd_n C (d := o + 1) dX1_keep_45 rfl ?_
      refine g_iconst C (nI 4) dX1_keep_46 (by decide) ?_
      refine g_irem C (by decide) dX1_keep_47 ?_
      refine g_top (y := nI ((o + 1) % 4)) (pk_rem (by omega) (by decide) (by decide)) ?_
      refine g_put_i C ob_29 1 (by decide) rfl wd_192 rfl rfl dX1_keep_48 ?_
      refine g_vret C hQ rfl dX1_keep_51 ?_
      refine ⟨rfl, fun k hk => by rw [gr_n (by omega)]; exact hcp.1 k (by omega), _, HX_push g r hx (cu := cu0) (by rw [hj4]; exact hcp) (fun k hk => gr_n hk) ?_ ?_⟩
      · first | (rw [pushN, if_pos c_23]; rfl) | (rw [pushN, if_neg c_23, show (4 : Nat) = h by omega]; exact y0)
      · first | (rw [if_pos c_23]; exact y1) | (rw [if_neg c_23]; rfl)
    · have c_23 : h < 4 := by have q := mt (nI_leI (a := 4) (b := h) (by omega) (by omega)).mpr c_23; omega
      refine g_aload_n C 1 dX1_keep_26 rfl ?_
      refine g_dup C dX1_keep_27 rfl ?_
      refine g_get_i C ob_29 0 (by decide) rfl wd_190 dX1_keep_28 ?_
      refine g_top (y := nI h) (y0) ?_
      refine g_iconst C (nI 1) dX1_keep_31 (by decide) ?_
      refine g_iadd_n C (d := h + 1) dX1_keep_32 rfl ?_
      refine g_put_i C ob_29 0 (by decide) rfl wd_190 rfl rfl dX1_keep_33 ?_
      refine g_goto C 51 dX1_keep_36 (by decide) ?_
      refine g_vret C hQ rfl dX1_keep_51 ?_
      refine ⟨rfl, fun k hk => by rw [gr_n (by omega)]; exact hcp.1 k (by omega), _, HX_push g r hx (cu := cu0) (by rw [hj4]; exact hcp) (fun k hk => gr_n hk) ?_ ?_⟩
      · first | (rw [pushN, if_pos c_23]; rfl) | (rw [pushN, if_neg c_23, show (4 : Nat) = h by omega]; exact y0)
      · first | (rw [if_pos c_23]; exact y1) | (rw [if_neg c_23]; rfl)

/-- what giveBack does -/
def GB (T : Nat) (Vs : Nat → Nat → Int32) (h : Nat) (mem u : gM) : Prop :=
  (∀ k, (k < 1 ∨ 30 ≤ k) → u k = mem k) ∧ Rel (Vs (h - 1)) u ∧ ∃ o, HX T Vs (h - 1) o u
theorem HX_pop {T : Nat} {Vs : Nat → Nat → Int32} {h o : Nat} {mem cu u : gM} (h1 : 0 < h) (hx : HX T Vs h o mem) (hc : CopyS 1 (31 + 28 * ((o + (h - 1)) % 4)) mem cu) (hu : ∀ k, k ≠ 29 → u k = cu k) (h0 : u 29 0 = nI (h - 1)) (h2 : u 29 1 = nI o) : GB T Vs h mem u := by
  obtain ⟨⟨x0, x1, x2, x3⟩, xs⟩ := hx
  refine ⟨fun k hk => (hu k (by omega)).trans (hc.1 k (by omega)), (hc.rel (xs (h - 1) (by omega)).2 (xs (h - 1) (by omega)).1).keep fun k k1 k2 => hu k (by omega), o, ⟨h0, by omega, h2, x3⟩, fun j hj => ⟨?_, (xs j (by omega)).2⟩⟩
  exact (xs j (by omega)).1.keep fun k k1 k2 => (hu k (by omega)).trans (hc.1 k (by omega))

def rm_X1_giveBack : Room := { frames := 4, cells := 0, slots := 0, locals := 104 }
theorem iX1_giveBack : gIv yX1_giveBack cX1_giveBack 3 none 1 := ⟨⟨wd_579, wd_10, by decide +kernel, by decide +kernel, by decide +kernel⟩, wd_577, wd_578⟩
set_option maxRecDepth 100000 in
set_option maxHeartbeats 4000000 in
theorem c_X1_giveBack (l : Launch) (G : gG) {T : Nat} (mem : gM) {Vs : Nat → Nat → Int32} {h o : Nat} (h1 : 0 < h) (hx : HX T Vs h o mem) : gMet l yX1_giveBack cX1_giveBack 3 none rm_X1_giveBack G [.ref (gad G 29), .ref (gad G 1)] mem (fun a u => a = none ∧ GB T Vs h mem u) := by
  refine g_of (own := RX1) (L0 := [(0, .ref (gad G 29)), (1, .ref (gad G 1))]) (by decide +kernel) rfl (Nat.le_of_ble_eq_true rfl) rfl ?_
  intro p e s m args below meth c C Q hQ
  obtain ⟨⟨x0, x1, x2, x3⟩, xs⟩ := id hx
  have hm4 : (o + (h - 1)) % 4 < 4 := Nat.mod_lt _ (by decide)
  refine g_aload_n C 0 dX1_giveBack_0 rfl ?_
  refine g_aload_n C 0 dX1_giveBack_1 rfl ?_
  refine g_get_i C ob_29 0 (by decide) rfl wd_190 dX1_giveBack_2 ?_
  refine g_top (y := nI h) (x0) ?_
  refine g_iconst C (nI 1) dX1_giveBack_5 (by decide) ?_
  refine g_isub C dX1_giveBack_6 ?_
  refine g_top (pk_sub (by omega)) ?_
  refine g_cV1 C (As := [.int (nI (h - 1))]) (w := .ref (gad G (31 + 28 * ((o + (h - 1)) % 4)))) (mem3 := mem) iX1_stateAt (c_X1_stateAt l G mem (o := o) (k := (h - 1)) (x2) (x3) (by omega)) wd_311 ob_29 rfl ⟨Nat.le_of_ble_eq_true rfl, Nat.le_of_ble_eq_true rfl⟩ ⟨rfl, rfl⟩ rfl (Nat.le_of_ble_eq_true rfl) dX1_giveBack_7 (rfl) (rfl) ?_
  rcases four hm4 with hj4 | hj4 | hj4 | hj4
  · rw [hj4]
    refine g_astore_n C (L2 := [(2, .ref (gad G 31)), (0, .ref (gad G 29)), (1, .ref (gad G 1))]) dX1_giveBack_10 (by decide) rfl ?_
    refine g_aload_n C 0 dX1_giveBack_11 rfl ?_
    refine g_ifnull C dX1_giveBack_12 ?_
    refine g_aload_n C 2 dX1_giveBack_15 rfl ?_
    refine g_aload_n C 0 dX1_giveBack_16 rfl ?_
    refine g_cVq C (As := [.ref (gad G 31)]) iX7_copy (c_X7_copy_1_31 l G mem) wd_315 ob_1 rfl ⟨Nat.le_of_ble_eq_true rfl, Nat.le_of_ble_eq_true rfl⟩ ⟨rfl, rfl⟩ rfl (Nat.le_of_ble_eq_true rfl) dX1_giveBack_17 (fun cu0 hq => ?_)
    have hcp := hq
    have y0 : cu0 29 0 = nI h := (congrArg (fun z => z 0) (hcp.1 29 (by decide))).trans x0
    have y1 : cu0 29 1 = nI o := (congrArg (fun z => z 1) (hcp.1 29 (by decide))).trans x2
    refine g_aload_n C 1 dX1_giveBack_20 rfl ?_
    refine g_dup C dX1_giveBack_21 rfl ?_
    refine g_get_i C ob_29 0 (by decide) rfl wd_190 dX1_giveBack_22 ?_
    refine g_top (y := nI h) (y0) ?_
    refine g_iconst C (nI 1) dX1_giveBack_25 (by decide) ?_
    refine g_isub C dX1_giveBack_26 ?_
    refine g_top (pk_sub (by omega)) ?_
    refine g_put_i C ob_29 0 (by decide) rfl wd_190 rfl rfl dX1_giveBack_27 ?_
    refine g_vret C hQ rfl dX1_giveBack_30 ?_
    exact ⟨rfl, HX_pop h1 hx (cu := cu0) (by rw [hj4]; exact hcp) (fun k hk => gr_n hk) rfl y1⟩
  · rw [hj4]
    refine g_astore_n C (L2 := [(2, .ref (gad G 59)), (0, .ref (gad G 29)), (1, .ref (gad G 1))]) dX1_giveBack_10 (by decide) rfl ?_
    refine g_aload_n C 0 dX1_giveBack_11 rfl ?_
    refine g_ifnull C dX1_giveBack_12 ?_
    refine g_aload_n C 2 dX1_giveBack_15 rfl ?_
    refine g_aload_n C 0 dX1_giveBack_16 rfl ?_
    refine g_cVq C (As := [.ref (gad G 59)]) iX7_copy (c_X7_copy_1_59 l G mem) wd_315 ob_1 rfl ⟨Nat.le_of_ble_eq_true rfl, Nat.le_of_ble_eq_true rfl⟩ ⟨rfl, rfl⟩ rfl (Nat.le_of_ble_eq_true rfl) dX1_giveBack_17 (fun cu0 hq => ?_)
    have hcp := hq
    have y0 : cu0 29 0 = nI h := (congrArg (fun z => z 0) (hcp.1 29 (by decide))).trans x0
    have y1 : cu0 29 1 = nI o := (congrArg (fun z => z 1) (hcp.1 29 (by decide))).trans x2
    refine g_aload_n C 1 dX1_giveBack_20 rfl ?_
    refine g_dup C dX1_giveBack_21 rfl ?_
    refine g_get_i C ob_29 0 (by decide) rfl wd_190 dX1_giveBack_22 ?_
    refine g_top (y := nI h) (y0) ?_
    refine g_iconst C (nI 1) dX1_giveBack_25 (by decide) ?_
    refine g_isub C dX1_giveBack_26 ?_
    refine g_top (pk_sub (by omega)) ?_
    refine g_put_i C ob_29 0 (by decide) rfl wd_190 rfl rfl dX1_giveBack_27 ?_
    refine g_vret C hQ rfl dX1_giveBack_30 ?_
    exact ⟨rfl, HX_pop h1 hx (cu := cu0) (by rw [hj4]; exact hcp) (fun k hk => gr_n hk) rfl y1⟩
  · rw [hj4]
    refine g_astore_n C (L2 := [(2, .ref (gad G 87)), (0, .ref (gad G 29)), (1, .ref (gad G 1))]) dX1_giveBack_10 (by decide) rfl ?_
    refine g_aload_n C 0 dX1_giveBack_11 rfl ?_
    refine g_ifnull C dX1_giveBack_12 ?_
    refine g_aload_n C 2 dX1_giveBack_15 rfl ?_
    refine g_aload_n C 0 dX1_giveBack_16 rfl ?_
    refine g_cVq C (As := [.ref (gad G 87)]) iX7_copy (c_X7_copy_1_87 l G mem) wd_315 ob_1 rfl ⟨Nat.le_of_ble_eq_true rfl, Nat.le_of_ble_eq_true rfl⟩ ⟨rfl, rfl⟩ rfl (Nat.le_of_ble_eq_true rfl) dX1_giveBack_17 (fun cu0 hq => ?_)
    have hcp := hq
    have y0 : cu0 29 0 = nI h := (congrArg (fun z => z 0) (hcp.1 29 (by decide))).trans x0
    have y1 : cu0 29 1 = nI o := (congrArg (fun z => z 1) (hcp.1 29 (by decide))).trans x2
    refine g_aload_n C 1 dX1_giveBack_20 rfl ?_
    refine g_dup C dX1_giveBack_21 rfl ?_
    refine g_get_i C ob_29 0 (by decide) rfl wd_190 dX1_giveBack_22 ?_
    refine g_top (y := nI h) (y0) ?_
    refine g_iconst C (nI 1) dX1_giveBack_25 (by decide) ?_
    refine g_isub C dX1_giveBack_26 ?_
    refine g_top (pk_sub (by omega)) ?_
    refine g_put_i C ob_29 0 (by decide) rfl wd_190 rfl rfl dX1_giveBack_27 ?_
    refine g_vret C hQ rfl dX1_giveBack_30 ?_
    exact ⟨rfl, HX_pop h1 hx (cu := cu0) (by rw [hj4]; exact hcp) (fun k hk => gr_n hk) rfl y1⟩
  · rw [hj4]
    refine g_astore_n C (L2 := [(2, .ref (gad G 115)), (0, .ref (gad G 29)), (1, .ref (gad G 1))]) dX1_giveBack_10 (by decide) rfl ?_
    refine g_aload_n C 0 dX1_giveBack_11 rfl ?_
    refine g_ifnull C dX1_giveBack_12 ?_
    refine g_aload_n C 2 dX1_giveBack_15 rfl ?_
    refine g_aload_n C 0 dX1_giveBack_16 rfl ?_
    refine g_cVq C (As := [.ref (gad G 115)]) iX7_copy (c_X7_copy_1_115 l G mem) wd_315 ob_1 rfl ⟨Nat.le_of_ble_eq_true rfl, Nat.le_of_ble_eq_true rfl⟩ ⟨rfl, rfl⟩ rfl (Nat.le_of_ble_eq_true rfl) dX1_giveBack_17 (fun cu0 hq => ?_)
    have hcp := hq
    have y0 : cu0 29 0 = nI h := (congrArg (fun z => z 0) (hcp.1 29 (by decide))).trans x0
    have y1 : cu0 29 1 = nI o := (congrArg (fun z => z 1) (hcp.1 29 (by decide))).trans x2
    refine g_aload_n C 1 dX1_giveBack_20 rfl ?_
    refine g_dup C dX1_giveBack_21 rfl ?_
    refine g_get_i C ob_29 0 (by decide) rfl wd_190 dX1_giveBack_22 ?_
    refine g_top (y := nI h) (y0) ?_
    refine g_iconst C (nI 1) dX1_giveBack_25 (by decide) ?_
    refine g_isub C dX1_giveBack_26 ?_
    refine g_top (pk_sub (by omega)) ?_
    refine g_put_i C ob_29 0 (by decide) rfl wd_190 rfl rfl dX1_giveBack_27 ?_
    refine g_vret C hQ rfl dX1_giveBack_30 ?_
    exact ⟨rfl, HX_pop h1 hx (cu := cu0) (by rw [hj4]; exact hcp) (fun k hk => gr_n hk) rfl y1⟩
