/-! pure: MIX, lots, sets of members as ints -/
def cpy (n : Nat) (f g : Nat → Int32) : Nat → Int32 := fun j => if j < n then f j else g j
theorem cpy_eq (n : Nat) (f g : Nat → Int32) : va_cpy f g 0 0 n = cpy n f g := by
  funext j
  unfold va_cpy cpy
  by_cases h : j < n
  · rw [if_pos h, if_pos ⟨Nat.zero_le _, by omega⟩, show 0 + (j - 0) = j by omega]
  · rw [if_neg h, if_neg (by omega)]
def mixI (x : Int32) : Int32 := ((x * 1103515245 + 12345) ^^^ g_ushr (x * 1103515245 + 12345) (nI 15)) * 1103515245 + 12345
def lotI (s m : Int32) : Int32 := if 0 < m then g_ushr s (nI 16) - g_ushr s (nI 16) / m * m else 0
/-- member m is in the set -/
abbrev hs (set : Int32) (m : Nat) : Prop := (set >>> (nI m &&& 31)) &&& nI 1 = nI 1

section
def rm_X4_mixed : Room := { frames := 0, cells := 0, slots := 0, locals := 0 }
theorem iX4_mixed : gIs yX4_mixed cX4_mixed 2 (some .int) 1 := ⟨⟨wd_411, wd_16, by decide +kernel, by decide +kernel, by decide +kernel⟩, wd_410⟩
set_option maxRecDepth 100000 in
set_option maxHeartbeats 4000000 in
theorem c_X4_mixed (l : Launch) (G : gG) (mem : gM) (x : Int32) : gMet l yX4_mixed cX4_mixed 2 (some .int) rm_X4_mixed G [.int x] mem (fun a u => a = some (.int (mixI x)) ∧ u = mem) := by
  refine g_of (own := RX4) (L0 := [(0, .int x)]) (by decide +kernel) rfl (Nat.le_of_ble_eq_true rfl) rfl ?_
  intro p e s m args below meth c C Q hQ
  refine g_iload_n C 0 dX4_mixed_0 rfl ?_
  refine g_ldc C wd_412 dX4_mixed_1 ?_
  refine g_imul C dX4_mixed_3 ?_
  refine g_sipush C (nI 12345) dX4_mixed_4 (by decide) ?_
  refine g_iadd C dX4_mixed_7 ?_
  refine g_istore_n C (L2 := [(1, .int ((x * (1103515245 : Int32)) + (nI 12345))), (0, .int x)]) dX4_mixed_8 (by decide) rfl ?_
  refine g_iload_n C 0 dX4_mixed_9 rfl ?_
  refine g_iload_n C 0 dX4_mixed_10 rfl ?_
  refine g_bipush C (nI 15) dX4_mixed_11 (by decide) ?_
  refine g_iushr C dX4_mixed_13 ?_
  refine g_ixor C dX4_mixed_14 ?_
  refine g_ldc C wd_412 dX4_mixed_15 ?_
  refine g_imul C dX4_mixed_17 ?_
  refine g_sipush C (nI 12345) dX4_mixed_18 (by decide) ?_
  refine g_iadd C dX4_mixed_21 ?_
  refine g_iret C hQ rfl dX4_mixed_22 ?_
  exact ⟨rfl, rfl⟩
end

def rm_X4_lot : Room := { frames := 0, cells := 0, slots := 0, locals := 0 }
theorem iX4_lot : gIs yX4_lot cX4_lot 2 (some .int) 2 := ⟨⟨wd_457, wd_16, by decide +kernel, by decide +kernel, by decide +kernel⟩, wd_456⟩
set_option maxRecDepth 100000 in
set_option maxHeartbeats 4000000 in
theorem c_X4_lot (l : Launch) (G : gG) (mem : gM) (x y : Int32) : gMet l yX4_lot cX4_lot 2 (some .int) rm_X4_lot G [.int x, .int y] mem (fun a u => a = some (.int (lotI x y)) ∧ u = mem) := by
  refine g_of (own := RX4) (L0 := [(0, .int x), (1, .int y)]) (by decide +kernel) rfl (Nat.le_of_ble_eq_true rfl) rfl ?_
  intro p e s m args below meth c C Q hQ
  refine g_iload_n C 1 dX4_lot_0 rfl ?_
  refine g_if_le C 13 dX4_lot_1 (by decide) (fun c_1 => ?_) (fun c_1 => ?_)
  · refine g_iconst C (nI 0) dX4_lot_13 (by decide) ?_
    refine g_iret C hQ rfl dX4_lot_14 ?_
    first | exact ⟨by rw [lotI, if_pos c_1], rfl⟩ | exact ⟨by rw [lotI, if_neg (Int32.not_lt.mpr c_1)]; rfl, rfl⟩
  · have c_1 : 0 < y := Int32.not_le.mp c_1
    refine g_iload_n C 0 dX4_lot_4 rfl ?_
    refine g_bipush C (nI 16) dX4_lot_5 (by decide) ?_
    refine g_iushr C dX4_lot_7 ?_
    refine g_iload_n C 1 dX4_lot_8 rfl ?_
    refine g_irem C (fun q => absurd c_1 (by rw [q]; decide)) dX4_lot_9 ?_
    refine g_goto C 14 dX4_lot_10 (by decide) ?_
    refine g_iret C hQ rfl dX4_lot_14 ?_
    first | exact ⟨by rw [lotI, if_pos c_1], rfl⟩ | exact ⟨by rw [lotI, if_neg (Int32.not_lt.mpr c_1)]; rfl, rfl⟩

def rm_X4_has : Room := { frames := 0, cells := 0, slots := 0, locals := 0 }
theorem iX4_has : gIs yX4_has cX4_has 2 (some .boolean) 2 := ⟨⟨wd_363, wd_16, by decide +kernel, by decide +kernel, by decide +kernel⟩, wd_362⟩
set_option maxRecDepth 100000 in
set_option maxHeartbeats 4000000 in
theorem c_X4_has (l : Launch) (G : gG) (mem : gM) (x : Int32) (m1 : Nat) : gMet l yX4_has cX4_has 2 (some .boolean) rm_X4_has G [.int x, .int (nI m1)] mem (fun a u => a = some (.int (b2i (hs x m1))) ∧ u = mem) := by
  refine g_of (own := RX4) (L0 := [(0, .int x), (1, .int (nI m1))]) (by decide +kernel) rfl (Nat.le_of_ble_eq_true rfl) rfl ?_
  intro p e s m args below meth c C Q hQ
  refine g_iload_n C 0 dX4_has_0 rfl ?_
  refine g_iload_n C 1 dX4_has_1 rfl ?_
  refine g_ishr C dX4_has_2 ?_
  refine g_iconst C (nI 1) dX4_has_3 (by decide) ?_
  refine g_iand C dX4_has_4 ?_
  refine g_iconst C (nI 1) dX4_has_5 (by decide) ?_
  refine g_icmp_ne C 13 dX4_has_6 (by decide) (fun c_6 => ?_) (fun c_6 => ?_)
  · refine g_iconst C (nI 0) dX4_has_13 (by decide) ?_
    refine g_zret C hQ rfl (Or.inl rfl) dX4_has_14 ?_
    first | exact ⟨by rw [b2i_t c_6]; rfl, rfl⟩ | exact ⟨by rw [b2i_f c_6]; rfl, rfl⟩
  · refine g_iconst C (nI 1) dX4_has_9 (by decide) ?_
    refine g_goto C 14 dX4_has_10 (by decide) ?_
    refine g_zret C hQ rfl (Or.inr rfl) dX4_has_14 ?_
    first | exact ⟨by rw [b2i_t c_6]; rfl, rfl⟩ | exact ⟨by rw [b2i_f c_6]; rfl, rfl⟩

def rm_X6_at : Room := { frames := 0, cells := 0, slots := 0, locals := 0 }
theorem iX6_at : gIv yX6_at cX6_at 2 (some .int) 1 := ⟨⟨wd_371, wd_6, by decide +kernel, by decide +kernel, by decide +kernel⟩, wd_369, wd_370⟩
set_option maxRecDepth 100000 in
set_option maxHeartbeats 4000000 in
theorem c_X6_at (l : Launch) (G : gG) (mem : gM) {k n : Nat} (hk : gO k 5 RX6 TX6 1 [some (k + 1)]) (hn : gAr (k + 1) n) (h31 : n < 2 ^ 31) {j : Nat} (hj : j < n) : gMet l yX6_at cX6_at 2 (some .int) rm_X6_at G [.ref (gad G k), .int (nI j)] mem (fun a u => a = some (.int (mem (k + 1) j)) ∧ u = mem) := by
  refine g_of (own := RX6) (L0 := [(0, .ref (gad G k)), (1, .int (nI j))]) (by decide +kernel) rfl (Nat.le_of_ble_eq_true rfl) rfl ?_
  intro p e s m args below meth c C Q hQ
  refine g_iload_n C 1 dX6_at_0 rfl ?_
  refine g_if_lt_f C 22 (nI_pos (by omega)) dX6_at_1 (by decide) ?_
  refine g_iload_n C 1 dX6_at_4 rfl ?_
  refine g_aload_n C 0 dX6_at_5 rfl ?_
  refine g_get_r C hk 0 (by decide) rfl wd_37 dX6_at_6 ?_
  refine g_alen C hn dX6_at_9 ?_
  refine g_icmp_ge_f C 22 (nI_ge hj h31) dX6_at_10 (by decide) ?_
  refine g_aload_n C 0 dX6_at_13 rfl ?_
  refine g_get_r C hk 0 (by decide) rfl wd_37 dX6_at_14 ?_
  refine g_iload_n C 1 dX6_at_17 rfl ?_
  refine g_iald_n C (j := j) hn rfl (hj) h31 dX6_at_18 ?_
  refine g_goto C 23 dX6_at_19 (by decide) ?_
  refine g_iret C hQ rfl dX6_at_23 ?_
  exact ⟨rfl, rfl⟩

def rm_X6_put : Room := { frames := 0, cells := 0, slots := 0, locals := 0 }
theorem iX6_put : gIv yX6_put cX6_put 3 none 2 := ⟨⟨wd_155, wd_6, by decide +kernel, by decide +kernel, by decide +kernel⟩, wd_153, wd_154⟩
set_option maxRecDepth 100000 in
set_option maxHeartbeats 4000000 in
theorem c_X6_put (l : Launch) (G : gG) (mem : gM) {k n : Nat} (hk : gO k 5 RX6 TX6 1 [some (k + 1)]) (hn : gAr (k + 1) n) (h31 : n < 2 ^ 31) {j : Nat} (hj : j < n) (v : Int32) : gMet l yX6_put cX6_put 3 none rm_X6_put G [.ref (gad G k), .int (nI j), .int v] mem (fun a u => a = none ∧ u = gr mem (k + 1) (upd (mem (k + 1)) j v)) := by
  refine g_of (own := RX6) (L0 := [(0, .ref (gad G k)), (1, .int (nI j)), (2, .int v)]) (by decide +kernel) rfl (Nat.le_of_ble_eq_true rfl) rfl ?_
  intro p e s m args below meth c C Q hQ
  refine g_iload_n C 1 dX6_put_0 rfl ?_
  refine g_if_lt_f C 20 (nI_pos (by omega)) dX6_put_1 (by decide) ?_
  refine g_iload_n C 1 dX6_put_4 rfl ?_
  refine g_aload_n C 0 dX6_put_5 rfl ?_
  refine g_get_r C hk 0 (by decide) rfl wd_37 dX6_put_6 ?_
  refine g_alen C hn dX6_put_9 ?_
  refine g_icmp_ge_f C 20 (nI_ge hj h31) dX6_put_10 (by decide) ?_
  refine g_aload_n C 0 dX6_put_13 rfl ?_
  refine g_get_r C hk 0 (by decide) rfl wd_37 dX6_put_14 ?_
  refine g_iload_n C 1 dX6_put_17 rfl ?_
  refine g_iload_n C 2 dX6_put_18 rfl ?_
  refine g_iast_n C (j := j) hn rfl (hj) h31 dX6_put_19 ?_
  refine g_vret C hQ rfl dX6_put_20 ?_
  exact ⟨rfl, rfl⟩

def rm_X6_add : Room := { frames := 1, cells := 0, slots := 0, locals := 22 }
theorem iX6_add : gIv yX6_add cX6_add 3 none 2 := ⟨⟨wd_470, wd_6, by decide +kernel, by decide +kernel, by decide +kernel⟩, wd_468, wd_469⟩
set_option maxRecDepth 100000 in
set_option maxHeartbeats 4000000 in
theorem c_X6_add (l : Launch) (G : gG) (mem : gM) {k n : Nat} (hk : gO k 5 RX6 TX6 1 [some (k + 1)]) (hn : gAr (k + 1) n) (h31 : n < 2 ^ 31) {j : Nat} (hj : j < n) (v : Int32) : gMet l yX6_add cX6_add 3 none rm_X6_add G [.ref (gad G k), .int (nI j), .int v] mem (fun a u => a = none ∧ u = gr mem (k + 1) (upd (mem (k + 1)) j (mem (k + 1) j + v))) := by
  refine g_of (own := RX6) (L0 := [(0, .ref (gad G k)), (1, .int (nI j)), (2, .int v)]) (by decide +kernel) rfl (Nat.le_of_ble_eq_true rfl) rfl ?_
  intro p e s m args below meth c C Q hQ
  refine g_aload_n C 0 dX6_add_0 rfl ?_
  refine g_iload_n C 1 dX6_add_1 rfl ?_
  refine g_aload_n C 0 dX6_add_2 rfl ?_
  refine g_iload_n C 1 dX6_add_3 rfl ?_
  refine g_cV1 C (As := [.int (nI j)]) (w := .int (mem (k + 1) j)) (mem3 := mem) iX6_at (c_X6_at l G mem hk hn h31 (by omega)) wd_399 hk rfl ⟨Nat.le_of_ble_eq_true rfl, Nat.le_of_ble_eq_true rfl⟩ ⟨rfl, rfl⟩ rfl (Nat.le_of_ble_eq_true rfl) dX6_add_4 (rfl) (rfl) ?_
  refine g_iload_n C 2 dX6_add_7 rfl ?_
  refine g_iadd C dX6_add_8 ?_
  refine g_cV0 C (As := [.int (nI j), .int ((mem (k + 1) j) + v)]) (mem3 := gr mem (k + 1) (upd (mem (k + 1)) j ((mem (k + 1) j) + v))) iX6_put (c_X6_put l G mem hk hn h31 (by omega) ((mem (k + 1) j) + v)) wd_400 hk rfl ⟨Nat.le_of_ble_eq_true rfl, Nat.le_of_ble_eq_true rfl⟩ ⟨rfl, rfl⟩ rfl (Nat.le_of_ble_eq_true rfl) dX6_add_9 (rfl) ?_
  refine g_vret C hQ rfl dX6_add_12 ?_
  exact ⟨rfl, rfl⟩

def rm_X6_swap : Room := { frames := 1, cells := 0, slots := 0, locals := 22 }
theorem iX6_swap : gIv yX6_swap cX6_swap 4 (some .int) 2 := ⟨⟨wd_398, wd_6, by decide +kernel, by decide +kernel, by decide +kernel⟩, wd_396, wd_397⟩
set_option maxRecDepth 100000 in
set_option maxHeartbeats 4000000 in
theorem c_X6_swap (l : Launch) (G : gG) (mem : gM) {k n : Nat} (hk : gO k 5 RX6 TX6 1 [some (k + 1)]) (hn : gAr (k + 1) n) (h31 : n < 2 ^ 31) {j : Nat} (hj : j < n) (v : Int32) : gMet l yX6_swap cX6_swap 4 (some .int) rm_X6_swap G [.ref (gad G k), .int (nI j), .int v] mem (fun a u => a = some (.int (mem (k + 1) j)) ∧ u = gr mem (k + 1) (upd (mem (k + 1)) j v)) := by
  refine g_of (own := RX6) (L0 := [(0, .ref (gad G k)), (1, .int (nI j)), (2, .int v)]) (by decide +kernel) rfl (Nat.le_of_ble_eq_true rfl) rfl ?_
  intro p e s m args below meth c C Q hQ
  refine g_aload_n C 0 dX6_swap_0 rfl ?_
  refine g_iload_n C 1 dX6_swap_1 rfl ?_
  refine g_cV1 C (As := [.int (nI j)]) (w := .int (mem (k + 1) j)) (mem3 := mem) iX6_at (c_X6_at l G mem hk hn h31 (by omega)) wd_399 hk rfl ⟨Nat.le_of_ble_eq_true rfl, Nat.le_of_ble_eq_true rfl⟩ ⟨rfl, rfl⟩ rfl (Nat.le_of_ble_eq_true rfl) dX6_swap_2 (rfl) (rfl) ?_
  refine g_istore_n C (L2 := [(3, .int (mem (k + 1) j)), (0, .ref (gad G k)), (1, .int (nI j)), (2, .int v)]) dX6_swap_5 (by decide) rfl ?_
  refine g_aload_n C 1 dX6_swap_6 rfl ?_
  refine g_iload_n C 2 dX6_swap_7 rfl ?_
  refine g_iload_n C 3 dX6_swap_8 rfl ?_
  refine g_cV0 C (As := [.int (nI j), .int v]) (mem3 := gr mem (k + 1) (upd (mem (k + 1)) j v)) iX6_put (c_X6_put l G mem hk hn h31 (by omega) v) wd_400 hk rfl ⟨Nat.le_of_ble_eq_true rfl, Nat.le_of_ble_eq_true rfl⟩ ⟨rfl, rfl⟩ rfl (Nat.le_of_ble_eq_true rfl) dX6_swap_9 (rfl) ?_
  refine g_iload_n C 0 dX6_swap_12 rfl ?_
  refine g_iret C hQ rfl dX6_swap_13 ?_
  exact ⟨rfl, rfl⟩

def rm_X6_copy : Room := { frames := 1, cells := 0, slots := 0, locals := 40 }
theorem iX6_copy : gIv yX6_copy cX6_copy 3 none 1 := ⟨⟨wd_322, wd_6, by decide +kernel, by decide +kernel, by decide +kernel⟩, wd_320, wd_321⟩
set_option maxRecDepth 100000 in
set_option maxHeartbeats 4000000 in
theorem c_X6_copy (l : Launch) (G : gG) (mem : gM) {k k2 n : Nat} (hk : gO k 5 RX6 TX6 1 [some (k + 1)]) (hn : gAr (k + 1) n) (hk2 : gO k2 5 RX6 TX6 1 [some (k2 + 1)]) (hn2 : gAr (k2 + 1) n) (h31 : n < 2 ^ 31) : gMet l yX6_copy cX6_copy 3 none rm_X6_copy G [.ref (gad G k), .ref (gad G k2)] mem (fun a u => a = none ∧ u = gr mem (k + 1) (cpy n (mem (k2 + 1)) (mem (k + 1)))) := by
  refine g_of (own := RX6) (L0 := [(0, .ref (gad G k)), (1, .ref (gad G k2))]) (by decide +kernel) rfl (Nat.le_of_ble_eq_true rfl) rfl ?_
  intro p e s m args below meth c C Q hQ
  refine g_aload_n C 0 dX6_copy_0 rfl ?_
  refine g_get_r C hk 0 (by decide) rfl wd_37 dX6_copy_1 ?_
  refine g_alen C hn dX6_copy_4 ?_
  refine g_aload_n C 1 dX6_copy_5 rfl ?_
  refine g_get_r C hk2 0 (by decide) rfl wd_37 dX6_copy_6 ?_
  refine g_alen C hn2 dX6_copy_9 ?_
  refine g_mmin C wd_323 wd_324 wd_13 wd_325 (by decide) (Nat.le_of_ble_eq_true rfl) dX6_copy_10 ?_
  refine g_top (y := nI n) (if_neg (fun q => absurd (Int32.le_refl _) (Int32.not_le.mpr q))) ?_
  refine g_istore_n C (L2 := [(2, .int (nI n)), (0, .ref (gad G k)), (1, .ref (gad G k2))]) dX6_copy_13 (by decide) rfl ?_
  refine g_aload_n C 2 dX6_copy_14 rfl ?_
  refine g_get_r C hk2 0 (by decide) rfl wd_37 dX6_copy_15 ?_
  refine g_iconst C (nI 0) dX6_copy_18 (by decide) ?_
  refine g_aload_n C 1 dX6_copy_19 rfl ?_
  refine g_get_r C hk 0 (by decide) rfl wd_37 dX6_copy_20 ?_
  refine g_iconst C (nI 0) dX6_copy_23 (by decide) ?_
  refine g_iload_n C 0 dX6_copy_24 rfl ?_
  refine g_copy C (N := n) wd_326 wd_328 wd_327 wd_14 hn2 hn (Nat.le_refl _) (Nat.le_refl _) (h31) (by decide) (Nat.le_of_ble_eq_true rfl) dX6_copy_25 ?_
  refine g_vret C hQ rfl dX6_copy_28 ?_
  exact ⟨rfl, by rw [cpy_eq]⟩
