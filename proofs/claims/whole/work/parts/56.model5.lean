/-- the model's text -/
def TXM (tx : Nat → Nat) (tl : Nat) (mem : gM) : Prop := mem 154 7 = nI tl ∧ tl ≤ 60 ∧ ∀ i, i < tl → mem 158 i = nI (tx i) ∧ 32 ≤ tx i ∧ tx i ≤ 126
def MT (mem u : gM) : Prop := u 155 = mem 155 ∧ u 156 = mem 156 ∧ u 154 2 = mem 154 2 ∧ ∀ k, k < 154 → u k = mem k
theorem MT.rf (mem : gM) : MT mem mem := ⟨rfl, rfl, rfl, fun _ _ => rfl⟩
theorem neg_n {a b : Nat} (ha : a < 2 ^ 30) (hb : b < 2 ^ 30) (h : a < b) : -(nI a - nI b) = nI (dN a b) := by
  rw [Int32.neg_sub, pk_sub (by omega), dN, if_pos (by omega)]
theorem pos_n {a b : Nat} (h : ¬ a < b) : nI a - nI b = nI (dN a b) := by
  rw [pk_sub (by omega), dN]
  by_cases e : a ≤ b
  · rw [if_pos e, show a = b by omega]
  · rw [if_neg e]
theorem sub_neg {a b : Nat} (ha : a < 2 ^ 30) (hb : b < 2 ^ 30) : nI a - nI b < 0 ↔ a < b := by
  rw [Int32.lt_iff_toInt_lt, pk_sub_toInt ha hb, Int32.toInt_zero]
  omega

def rm_X10_distance : Room := { frames := 1, cells := 0, slots := 0, locals := 21 }
theorem iX10_distance : gIv yX10_distance cX10_distance 4 (some .int) 2 := ⟨⟨wd_924, wd_32, by decide +kernel, by decide +kernel, by decide +kernel⟩, wd_923, wd_18⟩
set_option maxRecDepth 100000 in
set_option maxHeartbeats 4000000 in
theorem c_X10_distance (l : Launch) (G : gG) {T : Nat} (mem : gM) (g : Good T (mem 155)) {m1 m2 : Nat} (h1 : m1 < vN (mem 155)) (h2 : m2 < vN (mem 155)) : gMet l yX10_distance cX10_distance 4 (some .int) rm_X10_distance G [.ref (gad G 154), .int (nI m1), .int (nI m2)] mem (fun a u => a = some (.int (nI (dN (vP (mem 155) m1) (vP (mem 155) m2)))) ∧ u = mem) := by
  refine g_of (own := RX10) (L0 := [(0, .ref (gad G 154)), (1, .int (nI m1)), (2, .int (nI m2))]) (by decide +kernel) rfl (Nat.le_of_ble_eq_true rfl) rfl ?_
  intro p e s m args below meth c C Q hQ
  have hn10 := gd_n10 g
  have hp1 := (gd_p g h1).2
  have hp2 := (gd_p g h2).2
  refine g_aload_n C 0 dX10_distance_0 rfl ?_
  refine g_get_r C ob_154 0 (by decide) rfl wd_703 dX10_distance_1 ?_
  refine g_iload_n C 1 dX10_distance_4 rfl ?_
  refine g_iconst C (nI 1) dX10_distance_5 (by decide) ?_
  refine g_cS1 C (As := [.int (nI m1), .int (nI 1)]) (w := .int (nI (31 + 12 * m1))) (mem3 := mem) iX10_at (c_X10_at l G mem m1 1) wd_780 rfl ⟨Nat.le_of_ble_eq_true rfl, Nat.le_of_ble_eq_true rfl⟩ ⟨rfl, rfl⟩ rfl (Nat.le_of_ble_eq_true rfl) dX10_distance_6 (congrArg Value.int (congrArg nI (by omega))) (rfl) ?_
  refine g_iald_n C (j := 31 + 12 * m1) ar_155 rfl (by omega) (by decide) dX10_distance_9 ?_
  refine g_top (y := nI (vP (mem 155) m1)) ((gd_p g h1).1) ?_
  refine g_aload_n C 0 dX10_distance_10 rfl ?_
  refine g_get_r C ob_154 0 (by decide) rfl wd_703 dX10_distance_11 ?_
  refine g_iload_n C 2 dX10_distance_14 rfl ?_
  refine g_iconst C (nI 1) dX10_distance_15 (by decide) ?_
  refine g_cS1 C (As := [.int (nI m2), .int (nI 1)]) (w := .int (nI (31 + 12 * m2))) (mem3 := mem) iX10_at (c_X10_at l G mem m2 1) wd_780 rfl ⟨Nat.le_of_ble_eq_true rfl, Nat.le_of_ble_eq_true rfl⟩ ⟨rfl, rfl⟩ rfl (Nat.le_of_ble_eq_true rfl) dX10_distance_16 (congrArg Value.int (congrArg nI (by omega))) (rfl) ?_
  refine g_iald_n C (j := 31 + 12 * m2) ar_155 rfl (by omega) (by decide) dX10_distance_19 ?_
  refine g_top (y := nI (vP (mem 155) m2)) ((gd_p g h2).1) ?_
  refine g_isub C dX10_distance_20 ?_
  refine g_istore_n C (L2 := [(3, .int ((nI (vP (mem 155) m1)) - (nI (vP (mem 155) m2)))), (0, .ref (gad G 154)), (1, .int (nI m1)), (2, .int (nI m2))]) dX10_distance_21 (by decide) rfl ?_
  refine g_iload_n C 0 dX10_distance_22 rfl ?_
  refine g_if_ge C 31 dX10_distance_23 (by decide) (fun c_23 => ?_) (fun c_23 => ?_)
  · refine g_iload_n C 0 dX10_distance_31 rfl ?_
    refine g_iret C hQ rfl dX10_distance_32 ?_
    first
      | exact ⟨congrArg (fun z => some (Value.int z)) (neg_n (by omega) (by omega) ((sub_neg (by omega) (by omega)).mp (Int32.not_le.mp c_23))), rfl⟩
      | exact ⟨congrArg (fun z => some (Value.int z)) (pos_n (fun q => absurd ((sub_neg (by omega) (by omega)).mpr q) (Int32.not_lt.mpr c_23))), rfl⟩
  · refine g_iload_n C 0 dX10_distance_26 rfl ?_
    refine g_ineg C dX10_distance_27 ?_
    refine g_goto C 32 dX10_distance_28 (by decide) ?_
    refine g_iret C hQ rfl dX10_distance_32 ?_
    first
      | exact ⟨congrArg (fun z => some (Value.int z)) (neg_n (by omega) (by omega) ((sub_neg (by omega) (by omega)).mp (Int32.not_le.mp c_23))), rfl⟩
      | exact ⟨congrArg (fun z => some (Value.int z)) (pos_n (fun q => absurd ((sub_neg (by omega) (by omega)).mpr q) (Int32.not_lt.mpr c_23))), rfl⟩

def rm_X10_clear : Room := { frames := 0, cells := 0, slots := 0, locals := 0 }
theorem iX10_clear : gIv yX10_clear cX10_clear 2 (some .int) 0 := ⟨⟨wd_884, wd_32, by decide +kernel, by decide +kernel, by decide +kernel⟩, wd_882, wd_883⟩
set_option maxRecDepth 100000 in
set_option maxHeartbeats 4000000 in
theorem c_X10_clear (l : Launch) (G : gG) (mem : gM) {tx : Nat → Nat} {tl : Nat} (tX : TXM tx tl mem) : gMet l yX10_clear cX10_clear 2 (some .int) rm_X10_clear G [.ref (gad G 154)] mem (fun a u => a = some (.int (nI tl)) ∧ u = gr mem 154 (upd (mem 154) 7 (nI 0))) := by
  refine g_of (own := RX10) (L0 := [(0, .ref (gad G 154))]) (by decide +kernel) rfl (Nat.le_of_ble_eq_true rfl) rfl ?_
  intro p e s m args below meth c C Q hQ
  refine g_aload_n C 0 dX10_clear_0 rfl ?_
  refine g_get_i C ob_154 7 (by decide) rfl wd_710 dX10_clear_1 ?_
  refine g_top (y := nI tl) (tX.1) ?_
  refine g_istore_n C (L2 := [(1, .int (nI tl)), (0, .ref (gad G 154))]) dX10_clear_4 (by decide) rfl ?_
  refine g_aload_n C 1 dX10_clear_5 rfl ?_
  refine g_iconst C (nI 0) dX10_clear_6 (by decide) ?_
  refine g_put_i C ob_154 7 (by decide) rfl wd_710 rfl rfl dX10_clear_7 ?_
  refine g_iload_n C 0 dX10_clear_10 rfl ?_
  refine g_iret C hQ rfl dX10_clear_11 ?_
  exact ⟨rfl, rfl⟩

def rm_X10_type : Room := { frames := 1, cells := 0, slots := 0, locals := 22 }
theorem iX10_type : gIv yX10_type cX10_type 2 (some .int) 1 := ⟨⟨wd_880, wd_32, by decide +kernel, by decide +kernel, by decide +kernel⟩, wd_878, wd_879⟩
set_option maxRecDepth 100000 in
set_option maxHeartbeats 4000000 in
theorem c_X10_type (l : Launch) (G : gG) (mem : gM) {tx : Nat → Nat} {tl : Nat} (tX : TXM tx tl mem) (x : Int32) : gMet l yX10_type cX10_type 2 (some .int) rm_X10_type G [.ref (gad G 154), .int x] mem (fun a u => ∃ rr : Int32, a = some (.int rr) ∧ ((∃ tx2 tl2, TYX tx tl x rr tx2 tl2 ∧ TXM tx2 tl2 u) ∧ MT mem u)) := by
  refine g_of (own := RX10) (L0 := [(0, .ref (gad G 154)), (1, .int x)]) (by decide +kernel) rfl (Nat.le_of_ble_eq_true rfl) rfl ?_
  intro p e s m args below meth c C Q hQ
  have ht60 := tX.2.1
  refine g_iload_n C 1 dX10_type_0 rfl ?_
  refine g_bipush C (nI 32) dX10_type_1 (by decide) ?_
  refine g_bipush C (nI 126) dX10_type_3 (by decide) ?_
  refine g_cS1 C (As := [.int x, .int (nI 32), .int (nI 126)]) (w := .int (b2i (chP x))) (mem3 := mem) iX10_in (c_X10_in l G mem x (nI 32) (nI 126)) wd_771 rfl ⟨Nat.le_of_ble_eq_true rfl, Nat.le_of_ble_eq_true rfl⟩ ⟨rfl, rfl⟩ rfl (Nat.le_of_ble_eq_true rfl) dX10_type_5 (congrArg Value.int (b2i_congr (Iff.rfl))) (rfl) ?_
  refine g_ifb_ne C 14 dX10_type_8 (by decide) (fun c_8 => ?_) (fun c_8 => ?_)
  · refine g_aload_n C 0 dX10_type_14 rfl ?_
    refine g_get_i C ob_154 7 (by decide) rfl wd_710 dX10_type_15 ?_
    refine g_top (y := nI tl) (tX.1) ?_
    refine g_bipush C (nI 60) dX10_type_18 (by decide) ?_
    refine g_icmp_ne C 26 dX10_type_20 (by decide) (fun c_20 => ?_) (fun c_20 => ?_)
    · have c_20 : tl < 60 := by have q : ¬ tl = 60 := fun q => c_20 (by rw [q]); omega
      refine g_aload_n C 0 dX10_type_26 rfl ?_
      refine g_get_r C ob_154 6 (by decide) rfl wd_709 dX10_type_27 ?_
      refine g_aload_n C 0 dX10_type_30 rfl ?_
      refine g_get_i C ob_154 7 (by decide) rfl wd_710 dX10_type_31 ?_
      refine g_top (y := nI tl) (tX.1) ?_
      refine g_iload_n C 1 dX10_type_34 rfl ?_
      refine g_iast_n C (j := tl) ar_158 rfl (by omega) (by decide) dX10_type_35 ?_
      refine g_aload_n C 0 dX10_type_36 rfl ?_
      refine g_dup C dX10_type_37 rfl ?_
      refine g_get_i C ob_154 7 (by decide) rfl wd_710 dX10_type_38 ?_
      refine g_top (y := mem 154 7) (rfl) ?_
      refine g_top (y := nI tl) (tX.1) ?_
      refine g_iconst C (nI 1) dX10_type_41 (by decide) ?_
      refine g_iadd_n C (d := tl + 1) dX10_type_42 rfl ?_
      refine g_put_i C ob_154 7 (by decide) rfl wd_710 rfl rfl dX10_type_43 ?_
      refine g_aload_n C 0 dX10_type_46 rfl ?_
      refine g_get_i C ob_154 7 (by decide) rfl wd_710 dX10_type_47 ?_
      refine g_top (y := nI (tl + 1)) (rfl) ?_
      refine g_iret C hQ rfl dX10_type_50 ?_
      refine ⟨_, rfl, ⟨tyT tx tl (toN x), tl + 1, ⟨fun q => absurd c_8 q, fun _ q => absurd q (by omega), fun _ _ => ⟨rfl, rfl, rfl⟩⟩, rfl, by omega, fun i hi => ?_⟩, rfl, rfl, rfl, fun k hk => by rw [gr_n (by omega), gr_n (by omega)]⟩
      have hr := nI_range (a := 32) (b := 126) (by decide) (by decide) c_8.1 c_8.2
      show upd (mem 158) tl x i = nI (tyT tx tl (toN x) i) ∧ 32 ≤ tyT tx tl (toN x) i ∧ tyT tx tl (toN x) i ≤ 126
      unfold tyT
      by_cases e : i = tl
      · rw [e, upd_s, if_pos rfl]; exact hr
      · rw [upd_n e, if_neg e]; exact tX.2.2 i (by omega)
    · have c_20 : tl = 60 := (nI_iff (by omega) (by decide)).mp c_20
      refine g_ldc C wd_775 dX10_type_23 ?_
      refine g_iret C hQ rfl dX10_type_25 ?_
      exact ⟨_, rfl, ⟨tx, tl, ⟨fun q => absurd c_8 q, fun _ _ => ⟨rfl, rfl, rfl⟩, fun _ q => absurd q (by omega)⟩, tX⟩, MT.rf mem⟩
  · refine g_ldc C wd_774 dX10_type_11 ?_
    refine g_iret C hQ rfl dX10_type_13 ?_
    exact ⟨_, rfl, ⟨tx, tl, ⟨fun _ => ⟨rfl, rfl, rfl⟩, fun q => absurd q c_8, fun q => absurd q c_8⟩, tX⟩, MT.rf mem⟩

def rm_X10_waitOf : Room := { frames := 0, cells := 0, slots := 0, locals := 0 }
theorem iX10_waitOf : gIs yX10_waitOf cX10_waitOf 1 (some .int) 1 := ⟨⟨wd_966, wd_32, by decide +kernel, by decide +kernel, by decide +kernel⟩, wd_965⟩
set_option maxRecDepth 100000 in
set_option maxHeartbeats 4000000 in
theorem c_X10_waitOf (l : Launch) (G : gG) (mem : gM) {j : Nat} (hj : j < 6) : gMet l yX10_waitOf cX10_waitOf 1 (some .int) rm_X10_waitOf G [.int (nI j)] mem (fun a u => a = some (.int (nI (tw j))) ∧ u = mem) := by
  refine g_of (own := RX10) (L0 := [(0, .int (nI j))]) (by decide +kernel) rfl (Nat.le_of_ble_eq_true rfl) rfl ?_
  intro p e s m args below meth c C Q hQ
  refine g_iload_n C 0 dX10_waitOf_0 rfl ?_
  refine g_if_ne C 8 dX10_waitOf_1 (by decide) (fun c_1 => ?_) (fun c_1 => ?_)
  · have c_1 : ¬ j = 0 := fun q => c_1 (by rw [q]; rfl)
    refine g_iload_n C 0 dX10_waitOf_8 rfl ?_
    refine g_iconst C (nI 1) dX10_waitOf_9 (by decide) ?_
    refine g_icmp_ne C 18 dX10_waitOf_10 (by decide) (fun c_10 => ?_) (fun c_10 => ?_)
    · have c_10 : ¬ j = 1 := fun q => c_10 (by rw [q])
      refine g_iload_n C 0 dX10_waitOf_18 rfl ?_
      refine g_iconst C (nI 2) dX10_waitOf_19 (by decide) ?_
      refine g_icmp_ne C 28 dX10_waitOf_20 (by decide) (fun c_20 => ?_) (fun c_20 => ?_)
      · have c_20 : ¬ j = 2 := fun q => c_20 (by rw [q])
        refine g_iload_n C 0 dX10_waitOf_28 rfl ?_
        refine g_iconst C (nI 3) dX10_waitOf_29 (by decide) ?_
        refine g_icmp_ne C 38 dX10_waitOf_30 (by decide) (fun c_30 => ?_) (fun c_30 => ?_)
        · have c_30 : ¬ j = 3 := fun q => c_30 (by rw [q])
          refine g_iload_n C 0 dX10_waitOf_38 rfl ?_
          refine g_iconst C (nI 4) dX10_waitOf_39 (by decide) ?_
          refine g_icmp_ne C 49 dX10_waitOf_40 (by decide) (fun c_40 => ?_) (fun c_40 => ?_)
          · have c_40 : ¬ j = 4 := fun q => c_40 (by rw [q])
            refine g_sipush C (nI 1000) dX10_waitOf_49 (by decide) ?_
            refine g_iret C hQ rfl dX10_waitOf_52 ?_
            first
              | exact ⟨rfl, rfl⟩
              | exact ⟨congrArg (fun z => some (Value.int (nI (tw z)))) (show 5 = j by omega), rfl⟩
          · obtain rfl : j = 4 := (nI_iff (b := 4) (by omega) (by decide)).mp c_40
            refine g_sipush C (nI 300) dX10_waitOf_43 (by decide) ?_
            refine g_goto C 52 dX10_waitOf_46 (by decide) ?_
            refine g_iret C hQ rfl dX10_waitOf_52 ?_
            first
              | exact ⟨rfl, rfl⟩
              | exact ⟨congrArg (fun z => some (Value.int (nI (tw z)))) (show 5 = j by omega), rfl⟩
        · obtain rfl : j = 3 := (nI_iff (b := 3) (by omega) (by decide)).mp c_30
          refine g_bipush C (nI 100) dX10_waitOf_33 (by decide) ?_
          refine g_goto C 52 dX10_waitOf_35 (by decide) ?_
          refine g_iret C hQ rfl dX10_waitOf_52 ?_
          first
            | exact ⟨rfl, rfl⟩
            | exact ⟨congrArg (fun z => some (Value.int (nI (tw z)))) (show 5 = j by omega), rfl⟩
      · obtain rfl : j = 2 := (nI_iff (b := 2) (by omega) (by decide)).mp c_20
        refine g_bipush C (nI 30) dX10_waitOf_23 (by decide) ?_
        refine g_goto C 52 dX10_waitOf_25 (by decide) ?_
        refine g_iret C hQ rfl dX10_waitOf_52 ?_
        first
          | exact ⟨rfl, rfl⟩
          | exact ⟨congrArg (fun z => some (Value.int (nI (tw z)))) (show 5 = j by omega), rfl⟩
    · obtain rfl : j = 1 := (nI_iff (b := 1) (by omega) (by decide)).mp c_10
      refine g_bipush C (nI 10) dX10_waitOf_13 (by decide) ?_
      refine g_goto C 52 dX10_waitOf_15 (by decide) ?_
      refine g_iret C hQ rfl dX10_waitOf_52 ?_
      first
        | exact ⟨rfl, rfl⟩
        | exact ⟨congrArg (fun z => some (Value.int (nI (tw z)))) (show 5 = j by omega), rfl⟩
  · obtain rfl : j = 0 := (nI_iff (b := 0) (by omega) (by decide)).mp c_1
    refine g_iconst C (nI 1) dX10_waitOf_4 (by decide) ?_
    refine g_goto C 52 dX10_waitOf_5 (by decide) ?_
    refine g_iret C hQ rfl dX10_waitOf_52 ?_
    first
      | exact ⟨rfl, rfl⟩
      | exact ⟨congrArg (fun z => some (Value.int (nI (tw z)))) (show 5 = j by omega), rfl⟩

def rm_X10_fingerprint : Room := { frames := 2, cells := 0, slots := 0, locals := 46 }
theorem iX10_fingerprint : gIv yX10_fingerprint cX10_fingerprint 5 (some .long) 0 := ⟨⟨wd_974, wd_32, by decide +kernel, by decide +kernel, by decide +kernel⟩, wd_972, wd_973⟩
set_option maxRecDepth 100000 in
set_option maxHeartbeats 4000000 in
theorem c_X10_fingerprint (l : Launch) (G : gG) {T : Nat} (mem : gM) (g : Good T (mem 155)) (hT : T < 2 ^ 19) : gMet l yX10_fingerprint cX10_fingerprint 5 (some .long) rm_X10_fingerprint G [.ref (gad G 154)] mem (fun a u => a = some (.long (fpR (mem 155))) ∧ u = mem) := by
  refine g_of (own := RX10) (L0 := [(0, .ref (gad G 154))]) (by decide +kernel) rfl (Nat.le_of_ble_eq_true rfl) rfl ?_
  intro p e s m args below meth c C Q hQ
  have hn10 := gd_n10 g
  have hgm := (gd_made g).2
  have hzn := (gd_z g).2
  refine g_ldc2 C wd_975 dX10_fingerprint_0 ?_
  refine g_lstore_n C (L2 := [(1, .long (197 : Int64)), (0, .ref (gad G 154))]) dX10_fingerprint_3 (by decide) rfl ?_
  refine g_iconst C (nI 0) dX10_fingerprint_4 (by decide) ?_
  refine g_istore_n C (L2 := [(3, .int (nI 0)), (1, .long (197 : Int64)), (0, .ref (gad G 154))]) dX10_fingerprint_5 (by decide) rfl ?_
  have lp_6 : ∀ (fu : Nat) (i : Nat), (i ≤ 10) → 10 - i < fu → gV p l e rm_X10_fingerprint s m args below meth c 0 0 Q G 5 mem 6 [(0, .ref (gad G 154)), (1, .long (f31 (fun kk => (mem 155 kk).toInt64) (197 : Int64) i)), (3, .int (nI i))] [] := by
    intro fu
    induction fu with
    | zero => intro i _ hfu; exact absurd hfu (Nat.not_lt_zero _)
    | succ fu ih_6 =>
      intro i hle_i hfu_6
      refine g_iload_n C 2 dX10_fingerprint_6 rfl ?_
      refine g_bipush C (nI 10) dX10_fingerprint_7 (by decide) ?_
      refine g_icmp_ge C 32 dX10_fingerprint_9 (by decide) (fun c_9 => ?_) (fun c_9 => ?_)
      · have hin : i = 10 := by have q := (nI_leI (a := 10) (b := i) (by omega) (by omega)).mp c_9; omega
        rw [hin]
        refine g_iconst C (nI 0) dX10_fingerprint_32 (by decide) ?_
        refine g_istore_n C (L2 := [(3, .int (nI 0)), (0, .ref (gad G 154)), (1, .long (f31 (fun kk => (mem 155 kk).toInt64) (197 : Int64) 10))]) dX10_fingerprint_33 (by decide) rfl ?_
        have lp_34 : ∀ (fu : Nat) (m1 : Nat), (m1 ≤ vN (mem 155)) → vN (mem 155) - m1 < fu → gV p l e rm_X10_fingerprint s m args below meth c 0 0 Q G 5 mem 34 [(0, .ref (gad G 154)), (1, .long (fpM (mem 155) m1)), (3, .int (nI m1))] [] := by
          intro fu
          induction fu with
          | zero => intro m1 _ hfu; exact absurd hfu (Nat.not_lt_zero _)
          | succ fu ih_34 =>
            intro m1 hle_m1 hfu_34
            refine g_iload_n C 2 dX10_fingerprint_34 rfl ?_
            refine g_aload_n C 0 dX10_fingerprint_35 rfl ?_
            refine g_get_r C ob_154 0 (by decide) rfl wd_703 dX10_fingerprint_36 ?_
            refine g_iconst C (nI 5) dX10_fingerprint_39 (by decide) ?_
            refine g_iald_n C (j := 5) ar_155 rfl (by omega) (by decide) dX10_fingerprint_40 ?_
            refine g_top (y := nI (vN (mem 155))) (gd_n g) ?_
            refine g_icmp_ge C 81 dX10_fingerprint_41 (by decide) (fun c_41 => ?_) (fun c_41 => ?_)
            · have hin2 : m1 = vN (mem 155) := by have q := (nI_leI (a := vN (mem 155)) (b := m1) (by omega) (by omega)).mp c_41; omega
              rw [hin2]
              refine g_ldc2 C wd_976 dX10_fingerprint_81 ?_
              refine g_lload_n C 1 dX10_fingerprint_84 rfl ?_
              refine g_lmul C dX10_fingerprint_85 ?_
              refine g_aload_n C 0 dX10_fingerprint_86 rfl ?_
              refine g_get_r C ob_154 0 (by decide) rfl wd_703 dX10_fingerprint_87 ?_
              refine g_bipush C (nI 6) dX10_fingerprint_90 (by decide) ?_
              refine g_iald_n C (j := 6) ar_155 rfl (by omega) (by decide) dX10_fingerprint_92 ?_
              refine g_if_ne C 102 dX10_fingerprint_93 (by decide) (fun c_93 => ?_) (fun c_93 => ?_)
              · refine g_aload_n C 0 dX10_fingerprint_102 rfl ?_
                refine g_get_r C ob_154 0 (by decide) rfl wd_703 dX10_fingerprint_103 ?_
                refine g_bipush C (nI 10) dX10_fingerprint_106 (by decide) ?_
                refine g_iald_n C (j := 10) ar_155 rfl (by omega) (by decide) dX10_fingerprint_108 ?_
                refine g_i2l C dX10_fingerprint_109 ?_
                refine g_ladd C dX10_fingerprint_110 ?_
                refine g_lstore_n C (L2 := [(1, .long (((31 : Int64) * (fpM (mem 155) (vN (mem 155)))) + ((mem 155 10).toInt64))), (0, .ref (gad G 154)), (3, .int (nI (vN (mem 155))))]) dX10_fingerprint_111 (by decide) rfl ?_
                refine g_iconst C (nI 0) dX10_fingerprint_112 (by decide) ?_
                refine g_istore_n C (L2 := [(3, .int (nI 0)), (1, .long (((31 : Int64) * (fpM (mem 155) (vN (mem 155)))) + ((mem 155 10).toInt64))), (0, .ref (gad G 154))]) dX10_fingerprint_113 (by decide) rfl ?_
                have lp_114 : ∀ (fu : Nat) (i : Nat), (i ≤ vZ (mem 155)) → vZ (mem 155) - i < fu → gV p l e rm_X10_fingerprint s m args below meth c 0 0 Q G 5 mem 114 [(0, .ref (gad G 154)), (1, .long (f31 (fun kk => (mem 155 (12 + kk)).toInt64) (fp3 (mem 155)) i)), (3, .int (nI i))] [] := by
                  intro fu
                  induction fu with
                  | zero => intro i _ hfu; exact absurd hfu (Nat.not_lt_zero _)
                  | succ fu ih_114 =>
                    intro i hle_i hfu_114
                    refine g_iload_n C 2 dX10_fingerprint_114 rfl ?_
                    refine g_aload_n C 0 dX10_fingerprint_115 rfl ?_
                    refine g_get_r C ob_154 0 (by decide) rfl wd_703 dX10_fingerprint_116 ?_
                    refine g_bipush C (nI 11) dX10_fingerprint_119 (by decide) ?_
                    refine g_iald_n C (j := 11) ar_155 rfl (by omega) (by decide) dX10_fingerprint_121 ?_
                    refine g_top (y := nI (vZ (mem 155))) ((gd_z g).1) ?_
                    refine g_icmp_ge C 148 dX10_fingerprint_122 (by decide) (fun c_122 => ?_) (fun c_122 => ?_)
                    · have hin : i = vZ (mem 155) := by have q := (nI_leI (a := vZ (mem 155)) (b := i) (by omega) (by omega)).mp c_122; omega
                      rw [hin]
                      refine g_iconst C (nI 0) dX10_fingerprint_148 (by decide) ?_
                      refine g_istore_n C (L2 := [(3, .int (nI 0)), (0, .ref (gad G 154)), (1, .long (f31 (fun kk => (mem 155 (12 + kk)).toInt64) (fp3 (mem 155)) (vZ (mem 155))))]) dX10_fingerprint_149 (by decide) rfl ?_
                      have lp_150 : ∀ (fu : Nat) (i : Nat), (i ≤ 200) → 200 - i < fu → gV p l e rm_X10_fingerprint s m args below meth c 0 0 Q G 5 mem 150 [(0, .ref (gad G 154)), (1, .long (fpB (mem 155) i)), (3, .int (nI i))] [] := by
                        intro fu
                        induction fu with
                        | zero => intro i _ hfu; exact absurd hfu (Nat.not_lt_zero _)
                        | succ fu ih_150 =>
                          intro i hle_i hfu_150
                          refine g_iload_n C 2 dX10_fingerprint_150 rfl ?_
                          refine g_sipush C (nI 200) dX10_fingerprint_151 (by decide) ?_
                          refine g_icmp_ge C 201 dX10_fingerprint_154 (by decide) (fun c_154 => ?_) (fun c_154 => ?_)
                          · have hin : i = 200 := by have q := (nI_leI (a := 200) (b := i) (by omega) (by omega)).mp c_154; omega
                            rw [hin]
                            refine g_iconst C (nI 0) dX10_fingerprint_201 (by decide) ?_
                            refine g_istore_n C (L2 := [(3, .int (nI 0)), (0, .ref (gad G 154)), (1, .long (fpB (mem 155) 200))]) dX10_fingerprint_202 (by decide) rfl ?_
                            have lp_203 : ∀ (fu : Nat) (i : Nat), (i ≤ min (toN (mem 155 7)) 20) → min (toN (mem 155 7)) 20 - i < fu → gV p l e rm_X10_fingerprint s m args below meth c 0 0 Q G 5 mem 203 [(0, .ref (gad G 154)), (1, .long (fpP (mem 155) i)), (3, .int (nI i))] [] := by
                              intro fu
                              induction fu with
                              | zero => intro i _ hfu; exact absurd hfu (Nat.not_lt_zero _)
                              | succ fu ih_203 =>
                                intro i hle_i hfu_203
                                refine g_iload_n C 2 dX10_fingerprint_203 rfl ?_
                                refine g_bipush C (nI 20) dX10_fingerprint_204 (by decide) ?_
                                refine g_icmp_ge C 257 dX10_fingerprint_206 (by decide) (fun c_206 => ?_) (fun c_206 => ?_)
                                · have hin : i = min (toN (mem 155 7)) 20 := by have q := (nI_leI (a := 20) (b := i) (by omega) (by omega)).mp c_206; omega
                                  refine g_lload_n C 1 dX10_fingerprint_257 rfl ?_
                                  refine g_lret C hQ rfl dX10_fingerprint_258 ?_
                                  exact ⟨by rw [hin]; rfl, rfl⟩
                                · have hi20 : i < 20 := by have q := mt (nI_leI (a := 20) (b := i) (by omega) (by omega)).mpr c_206; omega
                                  refine g_iload_n C 2 dX10_fingerprint_209 rfl ?_
                                  refine g_aload_n C 0 dX10_fingerprint_210 rfl ?_
                                  refine g_get_r C ob_154 0 (by decide) rfl wd_703 dX10_fingerprint_211 ?_
                                  refine g_bipush C (nI 7) dX10_fingerprint_214 (by decide) ?_
                                  refine g_iald_n C (j := 7) ar_155 rfl (by omega) (by decide) dX10_fingerprint_216 ?_
                                  refine g_top (y := nI (toN (mem 155 7))) ((gd_made g).1) ?_
                                  refine g_icmp_ge C 257 dX10_fingerprint_217 (by decide) (fun c_217 => ?_) (fun c_217 => ?_)
                                  · have hin : i = min (toN (mem 155 7)) 20 := by have q := (nI_leI (a := toN (mem 155 7)) (b := i) (by omega) (by omega)).mp c_217; omega
                                    refine g_lload_n C 1 dX10_fingerprint_257 rfl ?_
                                    refine g_lret C hQ rfl dX10_fingerprint_258 ?_
                                    exact ⟨by rw [hin]; rfl, rfl⟩
                                  · have hi2 : i < min (toN (mem 155 7)) 20 := by have q := mt (nI_leI (a := toN (mem 155 7)) (b := i) (by omega) (by omega)).mpr c_217; omega
                                    refine g_iconst C (nI 0) dX10_fingerprint_220 (by decide) ?_
                                    refine g_istore C (L2 := [(4, .int (nI 0)), (0, .ref (gad G 154)), (1, .long (fpP (mem 155) i)), (3, .int (nI i))]) dX10_fingerprint_221 (by decide) rfl ?_
                                    have lp_223 : ∀ (fu : Nat) (k : Nat), (k ≤ 7) → 7 - k < fu → gV p l e rm_X10_fingerprint s m args below meth c 0 0 Q G 5 mem 223 [(0, .ref (gad G 154)), (1, .long (f31 (fun kk => (pastN (mem 155) i kk).toInt64) (fpP (mem 155) i) k)), (3, .int (nI i)), (4, .int (nI k))] [] := by
                                      intro fu
                                      induction fu with
                                      | zero => intro k _ hfu; exact absurd hfu (Nat.not_lt_zero _)
                                      | succ fu ih_223 =>
                                        intro k hle_k hfu_223
                                        refine g_iload C 3 dX10_fingerprint_223 rfl ?_
                                        refine g_bipush C (nI 7) dX10_fingerprint_225 (by decide) ?_
                                        refine g_icmp_ge C 251 dX10_fingerprint_227 (by decide) (fun c_227 => ?_) (fun c_227 => ?_)
                                        · have hin3 : k = 7 := by have q := (nI_leI (a := 7) (b := k) (by omega) (by omega)).mp c_227; omega
                                          rw [hin3]
                                          refine g_iinc C (v := nI (i + 1)) (L2 := [(3, .int (nI (i + 1))), (0, .ref (gad G 154)), (1, .long (f31 (fun kk => (pastN (mem 155) i kk).toInt64) (fpP (mem 155) i) 7)), (4, .int (nI 7))]) 2 dX10_fingerprint_251 rfl (nI_1 _) (by decide) rfl ?_
                                          refine g_goto C 203 dX10_fingerprint_254 (by decide) ?_
                                          refine g_loc (L2 := [(0, .ref (gad G 154)), (1, .long (f31 (fun kk => (pastN (mem 155) i kk).toInt64) (fpP (mem 155) i) 7)), (3, .int (nI (i + 1)))]) [1, 2, 0] rfl ?_
                                          exact g_eq (ih_203 (i + 1) (hi2) (by omega)) (rfl) (gLc rfl (gLc (congrArg Value.long (rfl)) (rfl))) rfl
                                        · have hk2 : k < 7 := by have q := mt (nI_leI (a := 7) (b := k) (by omega) (by omega)).mpr c_227; omega
                                          refine g_ldc2 C wd_976 dX10_fingerprint_230 ?_
                                          refine g_lload_n C 1 dX10_fingerprint_233 rfl ?_
                                          refine g_lmul C dX10_fingerprint_234 ?_
                                          refine g_aload_n C 0 dX10_fingerprint_235 rfl ?_
                                          refine g_iload_n C 2 dX10_fingerprint_236 rfl ?_
                                          refine g_iload C 3 dX10_fingerprint_237 rfl ?_
                                          refine g_cV1 C (As := [.int (nI i), .int (nI k)]) (w := .int (pastN (mem 155) i k)) (mem3 := mem) iX10_pastOf (c_X10_pastOf l G mem g hT (i := i) (k := k) (by omega) (by omega)) wd_948 ob_154 rfl ⟨Nat.le_of_ble_eq_true rfl, Nat.le_of_ble_eq_true rfl⟩ ⟨rfl, rfl⟩ rfl (Nat.le_of_ble_eq_true rfl) dX10_fingerprint_239 (rfl) (rfl) ?_
                                          refine g_i2l C dX10_fingerprint_242 ?_
                                          refine g_ladd C dX10_fingerprint_243 ?_
                                          refine g_lstore_n C (L2 := [(1, .long (((31 : Int64) * (f31 (fun kk => (pastN (mem 155) i kk).toInt64) (fpP (mem 155) i) k)) + ((pastN (mem 155) i k).toInt64))), (0, .ref (gad G 154)), (3, .int (nI i)), (4, .int (nI k))]) dX10_fingerprint_244 (by decide) rfl ?_
                                          refine g_iinc C (v := nI (k + 1)) (L2 := [(4, .int (nI (k + 1))), (1, .long (((31 : Int64) * (f31 (fun kk => (pastN (mem 155) i kk).toInt64) (fpP (mem 155) i) k)) + ((pastN (mem 155) i k).toInt64))), (0, .ref (gad G 154)), (3, .int (nI i))]) 3 dX10_fingerprint_245 rfl (nI_1 _) (by decide) rfl ?_
                                          refine g_goto C 223 dX10_fingerprint_248 (by decide) ?_
                                          refine g_loc (L2 := [(0, .ref (gad G 154)), (1, .long (((31 : Int64) * (f31 (fun kk => (pastN (mem 155) i kk).toInt64) (fpP (mem 155) i) k)) + ((pastN (mem 155) i k).toInt64))), (3, .int (nI i)), (4, .int (nI (k + 1)))]) [2, 1, 3, 0] rfl ?_
                                          exact g_eq (ih_223 (k + 1) (hk2) (by omega)) (rfl) (gLc rfl (gLc (congrArg Value.long (rfl)) (rfl))) rfl
                                    refine g_loc (L2 := [(0, .ref (gad G 154)), (1, .long (fpP (mem 155) i)), (3, .int (nI i)), (4, .int (nI 0))]) [1, 2, 3, 0] rfl ?_
                                    exact g_eq (lp_223 (_ + 1) 0 (Nat.zero_le _) (Nat.lt_succ_self _)) (rfl) (gLc rfl (gLc (congrArg Value.long (rfl)) (rfl))) rfl
                            refine g_loc (L2 := [(0, .ref (gad G 154)), (1, .long (fpB (mem 155) 200)), (3, .int (nI 0))]) [1, 2, 0] rfl ?_
                            exact g_eq (lp_203 (_ + 1) 0 (Nat.zero_le _) (Nat.lt_succ_self _)) (rfl) (gLc rfl (gLc (congrArg Value.long (rfl)) (rfl))) rfl
                          · have hi2 : i < 200 := by have q := mt (nI_leI (a := 200) (b := i) (by omega) (by omega)).mpr c_154; omega
                            refine g_aload_n C 0 dX10_fingerprint_157 rfl ?_
                            refine g_get_r C ob_154 0 (by decide) rfl wd_703 dX10_fingerprint_158 ?_
                            refine g_sipush C (nI 150) dX10_fingerprint_161 (by decide) ?_
                            refine g_iload_n C 2 dX10_fingerprint_164 rfl ?_
                            refine g_iadd_n C (d := 150 + i) dX10_fingerprint_165 rfl ?_
                            refine g_iald_n C (j := 150 + i) ar_155 rfl (by omega) (by decide) dX10_fingerprint_166 ?_
                            refine g_if_eq C 195 dX10_fingerprint_167 (by decide) (fun c_167 => ?_) (fun c_167 => ?_)
                            · refine g_iinc C (v := nI (i + 1)) (L2 := [(3, .int (nI (i + 1))), (0, .ref (gad G 154)), (1, .long (fpB (mem 155) i))]) 2 dX10_fingerprint_195 rfl (nI_1 _) (by decide) rfl ?_
                              refine g_goto C 150 dX10_fingerprint_198 (by decide) ?_
                              refine g_loc (L2 := [(0, .ref (gad G 154)), (1, .long (fpB (mem 155) i)), (3, .int (nI (i + 1)))]) [1, 2, 0] rfl ?_
                              exact g_eq (ih_150 (i + 1) (hi2) (by omega)) (rfl) (gLc rfl (gLc (congrArg Value.long (by first | rw [fpB_0 c_167] | rw [fpB_n c_167])) (rfl))) rfl
                            · refine g_ldc2 C wd_976 dX10_fingerprint_170 ?_
                              refine g_ldc2 C wd_976 dX10_fingerprint_173 ?_
                              refine g_lload_n C 1 dX10_fingerprint_176 rfl ?_
                              refine g_lmul C dX10_fingerprint_177 ?_
                              refine g_iload_n C 2 dX10_fingerprint_178 rfl ?_
                              refine g_i2l C dX10_fingerprint_179 ?_
                              refine g_ladd C dX10_fingerprint_180 ?_
                              refine g_lmul C dX10_fingerprint_181 ?_
                              refine g_aload_n C 0 dX10_fingerprint_182 rfl ?_
                              refine g_get_r C ob_154 0 (by decide) rfl wd_703 dX10_fingerprint_183 ?_
                              refine g_sipush C (nI 150) dX10_fingerprint_186 (by decide) ?_
                              refine g_iload_n C 2 dX10_fingerprint_189 rfl ?_
                              refine g_iadd_n C (d := 150 + i) dX10_fingerprint_190 rfl ?_
                              refine g_iald_n C (j := 150 + i) ar_155 rfl (by omega) (by decide) dX10_fingerprint_191 ?_
                              refine g_i2l C dX10_fingerprint_192 ?_
                              refine g_ladd C dX10_fingerprint_193 ?_
                              refine g_lstore_n C (L2 := [(1, .long (((31 : Int64) * (((31 : Int64) * (fpB (mem 155) i)) + ((nI i).toInt64))) + ((mem 155 (150 + i)).toInt64))), (0, .ref (gad G 154)), (3, .int (nI i))]) dX10_fingerprint_194 (by decide) rfl ?_
                              refine g_iinc C (v := nI (i + 1)) (L2 := [(3, .int (nI (i + 1))), (1, .long (((31 : Int64) * (((31 : Int64) * (fpB (mem 155) i)) + ((nI i).toInt64))) + ((mem 155 (150 + i)).toInt64))), (0, .ref (gad G 154))]) 2 dX10_fingerprint_195 rfl (nI_1 _) (by decide) rfl ?_
                              refine g_goto C 150 dX10_fingerprint_198 (by decide) ?_
                              refine g_loc (L2 := [(0, .ref (gad G 154)), (1, .long (((31 : Int64) * (((31 : Int64) * (fpB (mem 155) i)) + ((nI i).toInt64))) + ((mem 155 (150 + i)).toInt64))), (3, .int (nI (i + 1)))]) [2, 1, 0] rfl ?_
                              exact g_eq (ih_150 (i + 1) (hi2) (by omega)) (rfl) (gLc rfl (gLc (congrArg Value.long (by first | rw [fpB_0 c_167] | rw [fpB_n c_167])) (rfl))) rfl
                      refine g_loc (L2 := [(0, .ref (gad G 154)), (1, .long (f31 (fun kk => (mem 155 (12 + kk)).toInt64) (fp3 (mem 155)) (vZ (mem 155)))), (3, .int (nI 0))]) [1, 2, 0] rfl ?_
                      exact g_eq (lp_150 (_ + 1) 0 (Nat.zero_le _) (Nat.lt_succ_self _)) (rfl) (gLc rfl (gLc (congrArg Value.long (rfl)) (rfl))) rfl
                    · have hi2 : i < vZ (mem 155) := by have q := mt (nI_leI (a := vZ (mem 155)) (b := i) (by omega) (by omega)).mpr c_122; omega
                      refine g_ldc2 C wd_976 dX10_fingerprint_125 ?_
                      refine g_lload_n C 1 dX10_fingerprint_128 rfl ?_
                      refine g_lmul C dX10_fingerprint_129 ?_
                      refine g_aload_n C 0 dX10_fingerprint_130 rfl ?_
                      refine g_get_r C ob_154 0 (by decide) rfl wd_703 dX10_fingerprint_131 ?_
                      refine g_bipush C (nI 12) dX10_fingerprint_134 (by decide) ?_
                      refine g_iload_n C 2 dX10_fingerprint_136 rfl ?_
                      refine g_iadd_n C (d := 12 + i) dX10_fingerprint_137 rfl ?_
                      refine g_iald_n C (j := 12 + i) ar_155 rfl (by omega) (by decide) dX10_fingerprint_138 ?_
                      refine g_i2l C dX10_fingerprint_139 ?_
                      refine g_ladd C dX10_fingerprint_140 ?_
                      refine g_lstore_n C (L2 := [(1, .long (((31 : Int64) * (f31 (fun kk => (mem 155 (12 + kk)).toInt64) (fp3 (mem 155)) i)) + ((mem 155 (12 + i)).toInt64))), (0, .ref (gad G 154)), (3, .int (nI i))]) dX10_fingerprint_141 (by decide) rfl ?_
                      refine g_iinc C (v := nI (i + 1)) (L2 := [(3, .int (nI (i + 1))), (1, .long (((31 : Int64) * (f31 (fun kk => (mem 155 (12 + kk)).toInt64) (fp3 (mem 155)) i)) + ((mem 155 (12 + i)).toInt64))), (0, .ref (gad G 154))]) 2 dX10_fingerprint_142 rfl (nI_1 _) (by decide) rfl ?_
                      refine g_goto C 114 dX10_fingerprint_145 (by decide) ?_
                      refine g_loc (L2 := [(0, .ref (gad G 154)), (1, .long (((31 : Int64) * (f31 (fun kk => (mem 155 (12 + kk)).toInt64) (fp3 (mem 155)) i)) + ((mem 155 (12 + i)).toInt64))), (3, .int (nI (i + 1)))]) [2, 1, 0] rfl ?_
                      exact g_eq (ih_114 (i + 1) (hi2) (by omega)) (rfl) (gLc rfl (gLc (congrArg Value.long (rfl)) (rfl))) rfl
                refine g_loc (L2 := [(0, .ref (gad G 154)), (1, .long (((31 : Int64) * (fpM (mem 155) (vN (mem 155)))) + ((mem 155 10).toInt64))), (3, .int (nI 0))]) [2, 1, 0] rfl ?_
                exact g_eq (lp_114 (_ + 1) 0 (Nat.zero_le _) (Nat.lt_succ_self _)) (rfl) (gLc rfl (gLc (congrArg Value.long (by first | (show _ = fp3 (mem 155); rw [fp3, seedR, if_pos c_93]; done) | (show _ = fp3 (mem 155); rw [fp3, seedR, if_neg c_93]; done))) (rfl))) rfl
              · refine g_ldc2 C wd_861 dX10_fingerprint_96 ?_
                refine g_goto C 110 dX10_fingerprint_99 (by decide) ?_
                refine g_ladd C dX10_fingerprint_110 ?_
                refine g_lstore_n C (L2 := [(1, .long (((31 : Int64) * (fpM (mem 155) (vN (mem 155)))) + ((-4611686018427387905) : Int64))), (0, .ref (gad G 154)), (3, .int (nI (vN (mem 155))))]) dX10_fingerprint_111 (by decide) rfl ?_
                refine g_iconst C (nI 0) dX10_fingerprint_112 (by decide) ?_
                refine g_istore_n C (L2 := [(3, .int (nI 0)), (1, .long (((31 : Int64) * (fpM (mem 155) (vN (mem 155)))) + ((-4611686018427387905) : Int64))), (0, .ref (gad G 154))]) dX10_fingerprint_113 (by decide) rfl ?_
                have lp_114 : ∀ (fu : Nat) (i : Nat), (i ≤ vZ (mem 155)) → vZ (mem 155) - i < fu → gV p l e rm_X10_fingerprint s m args below meth c 0 0 Q G 5 mem 114 [(0, .ref (gad G 154)), (1, .long (f31 (fun kk => (mem 155 (12 + kk)).toInt64) (fp3 (mem 155)) i)), (3, .int (nI i))] [] := by
                  intro fu
                  induction fu with
                  | zero => intro i _ hfu; exact absurd hfu (Nat.not_lt_zero _)
                  | succ fu ih_114 =>
                    intro i hle_i hfu_114
                    refine g_iload_n C 2 dX10_fingerprint_114 rfl ?_
                    refine g_aload_n C 0 dX10_fingerprint_115 rfl ?_
                    refine g_get_r C ob_154 0 (by decide) rfl wd_703 dX10_fingerprint_116 ?_
                    refine g_bipush C (nI 11) dX10_fingerprint_119 (by decide) ?_
                    refine g_iald_n C (j := 11) ar_155 rfl (by omega) (by decide) dX10_fingerprint_121 ?_
                    refine g_top (y := nI (vZ (mem 155))) ((gd_z g).1) ?_
                    refine g_icmp_ge C 148 dX10_fingerprint_122 (by decide) (fun c_122 => ?_) (fun c_122 => ?_)
                    · have hin : i = vZ (mem 155) := by have q := (nI_leI (a := vZ (mem 155)) (b := i) (by omega) (by omega)).mp c_122; omega
                      rw [hin]
                      refine g_iconst C (nI 0) dX10_fingerprint_148 (by decide) ?_
                      refine g_istore_n C (L2 := [(3, .int (nI 0)), (0, .ref (gad G 154)), (1, .long (f31 (fun kk => (mem 155 (12 + kk)).toInt64) (fp3 (mem 155)) (vZ (mem 155))))]) dX10_fingerprint_149 (by decide) rfl ?_
                      have lp_150 : ∀ (fu : Nat) (i : Nat), (i ≤ 200) → 200 - i < fu → gV p l e rm_X10_fingerprint s m args below meth c 0 0 Q G 5 mem 150 [(0, .ref (gad G 154)), (1, .long (fpB (mem 155) i)), (3, .int (nI i))] [] := by
                        intro fu
                        induction fu with
                        | zero => intro i _ hfu; exact absurd hfu (Nat.not_lt_zero _)
                        | succ fu ih_150 =>
                          intro i hle_i hfu_150
                          refine g_iload_n C 2 dX10_fingerprint_150 rfl ?_
                          refine g_sipush C (nI 200) dX10_fingerprint_151 (by decide) ?_
                          refine g_icmp_ge C 201 dX10_fingerprint_154 (by decide) (fun c_154 => ?_) (fun c_154 => ?_)
                          · have hin : i = 200 := by have q := (nI_leI (a := 200) (b := i) (by omega) (by omega)).mp c_154; omega
                            rw [hin]
                            refine g_iconst C (nI 0) dX10_fingerprint_201 (by decide) ?_
                            refine g_istore_n C (L2 := [(3, .int (nI 0)), (0, .ref (gad G 154)), (1, .long (fpB (mem 155) 200))]) dX10_fingerprint_202 (by decide) rfl ?_
                            have lp_203 : ∀ (fu : Nat) (i : Nat), (i ≤ min (toN (mem 155 7)) 20) → min (toN (mem 155 7)) 20 - i < fu → gV p l e rm_X10_fingerprint s m args below meth c 0 0 Q G 5 mem 203 [(0, .ref (gad G 154)), (1, .long (fpP (mem 155) i)), (3, .int (nI i))] [] := by
                              intro fu
                              induction fu with
                              | zero => intro i _ hfu; exact absurd hfu (Nat.not_lt_zero _)
                              | succ fu ih_203 =>
                                intro i hle_i hfu_203
                                refine g_iload_n C 2 dX10_fingerprint_203 rfl ?_
                                refine g_bipush C (nI 20) dX10_fingerprint_204 (by decide) ?_
                                refine g_icmp_ge C 257 dX10_fingerprint_206 (by decide) (fun c_206 => ?_) (fun c_206 => ?_)
                                · have hin : i = min (toN (mem 155 7)) 20 := by have q := (nI_leI (a := 20) (b := i) (by omega) (by omega)).mp c_206; omega
                                  refine g_lload_n C 1 dX10_fingerprint_257 rfl ?_
                                  refine g_lret C hQ rfl dX10_fingerprint_258 ?_
                                  exact ⟨by rw [hin]; rfl, rfl⟩
                                · have hi20 : i < 20 := by have q := mt (nI_leI (a := 20) (b := i) (by omega) (by omega)).mpr c_206; omega
                                  refine g_iload_n C 2 dX10_fingerprint_209 rfl ?_
                                  refine g_aload_n C 0 dX10_fingerprint_210 rfl ?_
                                  refine g_get_r C ob_154 0 (by decide) rfl wd_703 dX10_fingerprint_211 ?_
                                  refine g_bipush C (nI 7) dX10_fingerprint_214 (by decide) ?_
                                  refine g_iald_n C (j := 7) ar_155 rfl (by omega) (by decide) dX10_fingerprint_216 ?_
                                  refine g_top (y := nI (toN (mem 155 7))) ((gd_made g).1) ?_
                                  refine g_icmp_ge C 257 dX10_fingerprint_217 (by decide) (fun c_217 => ?_) (fun c_217 => ?_)
                                  · have hin : i = min (toN (mem 155 7)) 20 := by have q := (nI_leI (a := toN (mem 155 7)) (b := i) (by omega) (by omega)).mp c_217; omega
                                    refine g_lload_n C 1 dX10_fingerprint_257 rfl ?_
                                    refine g_lret C hQ rfl dX10_fingerprint_258 ?_
                                    exact ⟨by rw [hin]; rfl, rfl⟩
                                  · have hi2 : i < min (toN (mem 155 7)) 20 := by have q := mt (nI_leI (a := toN (mem 155 7)) (b := i) (by omega) (by omega)).mpr c_217; omega
                                    refine g_iconst C (nI 0) dX10_fingerprint_220 (by decide) ?_
                                    refine g_istore C (L2 := [(4, .int (nI 0)), (0, .ref (gad G 154)), (1, .long (fpP (mem 155) i)), (3, .int (nI i))]) dX10_fingerprint_221 (by decide) rfl ?_
                                    have lp_223 : ∀ (fu : Nat) (k : Nat), (k ≤ 7) → 7 - k < fu → gV p l e rm_X10_fingerprint s m args below meth c 0 0 Q G 5 mem 223 [(0, .ref (gad G 154)), (1, .long (f31 (fun kk => (pastN (mem 155) i kk).toInt64) (fpP (mem 155) i) k)), (3, .int (nI i)), (4, .int (nI k))] [] := by
                                      intro fu
                                      induction fu with
                                      | zero => intro k _ hfu; exact absurd hfu (Nat.not_lt_zero _)
                                      | succ fu ih_223 =>
                                        intro k hle_k hfu_223
                                        refine g_iload C 3 dX10_fingerprint_223 rfl ?_
                                        refine g_bipush C (nI 7) dX10_fingerprint_225 (by decide) ?_
                                        refine g_icmp_ge C 251 dX10_fingerprint_227 (by decide) (fun c_227 => ?_) (fun c_227 => ?_)
                                        · have hin3 : k = 7 := by have q := (nI_leI (a := 7) (b := k) (by omega) (by omega)).mp c_227; omega
                                          rw [hin3]
                                          refine g_iinc C (v := nI (i + 1)) (L2 := [(3, .int (nI (i + 1))), (0, .ref (gad G 154)), (1, .long (f31 (fun kk => (pastN (mem 155) i kk).toInt64) (fpP (mem 155) i) 7)), (4, .int (nI 7))]) 2 dX10_fingerprint_251 rfl (nI_1 _) (by decide) rfl ?_
                                          refine g_goto C 203 dX10_fingerprint_254 (by decide) ?_
                                          refine g_loc (L2 := [(0, .ref (gad G 154)), (1, .long (f31 (fun kk => (pastN (mem 155) i kk).toInt64) (fpP (mem 155) i) 7)), (3, .int (nI (i + 1)))]) [1, 2, 0] rfl ?_
                                          exact g_eq (ih_203 (i + 1) (hi2) (by omega)) (rfl) (gLc rfl (gLc (congrArg Value.long (rfl)) (rfl))) rfl
                                        · have hk2 : k < 7 := by have q := mt (nI_leI (a := 7) (b := k) (by omega) (by omega)).mpr c_227; omega
                                          refine g_ldc2 C wd_976 dX10_fingerprint_230 ?_
                                          refine g_lload_n C 1 dX10_fingerprint_233 rfl ?_
                                          refine g_lmul C dX10_fingerprint_234 ?_
                                          refine g_aload_n C 0 dX10_fingerprint_235 rfl ?_
                                          refine g_iload_n C 2 dX10_fingerprint_236 rfl ?_
                                          refine g_iload C 3 dX10_fingerprint_237 rfl ?_
                                          refine g_cV1 C (As := [.int (nI i), .int (nI k)]) (w := .int (pastN (mem 155) i k)) (mem3 := mem) iX10_pastOf (c_X10_pastOf l G mem g hT (i := i) (k := k) (by omega) (by omega)) wd_948 ob_154 rfl ⟨Nat.le_of_ble_eq_true rfl, Nat.le_of_ble_eq_true rfl⟩ ⟨rfl, rfl⟩ rfl (Nat.le_of_ble_eq_true rfl) dX10_fingerprint_239 (rfl) (rfl) ?_
                                          refine g_i2l C dX10_fingerprint_242 ?_
                                          refine g_ladd C dX10_fingerprint_243 ?_
                                          refine g_lstore_n C (L2 := [(1, .long (((31 : Int64) * (f31 (fun kk => (pastN (mem 155) i kk).toInt64) (fpP (mem 155) i) k)) + ((pastN (mem 155) i k).toInt64))), (0, .ref (gad G 154)), (3, .int (nI i)), (4, .int (nI k))]) dX10_fingerprint_244 (by decide) rfl ?_
                                          refine g_iinc C (v := nI (k + 1)) (L2 := [(4, .int (nI (k + 1))), (1, .long (((31 : Int64) * (f31 (fun kk => (pastN (mem 155) i kk).toInt64) (fpP (mem 155) i) k)) + ((pastN (mem 155) i k).toInt64))), (0, .ref (gad G 154)), (3, .int (nI i))]) 3 dX10_fingerprint_245 rfl (nI_1 _) (by decide) rfl ?_
                                          refine g_goto C 223 dX10_fingerprint_248 (by decide) ?_
                                          refine g_loc (L2 := [(0, .ref (gad G 154)), (1, .long (((31 : Int64) * (f31 (fun kk => (pastN (mem 155) i kk).toInt64) (fpP (mem 155) i) k)) + ((pastN (mem 155) i k).toInt64))), (3, .int (nI i)), (4, .int (nI (k + 1)))]) [2, 1, 3, 0] rfl ?_
                                          exact g_eq (ih_223 (k + 1) (hk2) (by omega)) (rfl) (gLc rfl (gLc (congrArg Value.long (rfl)) (rfl))) rfl
                                    refine g_loc (L2 := [(0, .ref (gad G 154)), (1, .long (fpP (mem 155) i)), (3, .int (nI i)), (4, .int (nI 0))]) [1, 2, 3, 0] rfl ?_
                                    exact g_eq (lp_223 (_ + 1) 0 (Nat.zero_le _) (Nat.lt_succ_self _)) (rfl) (gLc rfl (gLc (congrArg Value.long (rfl)) (rfl))) rfl
                            refine g_loc (L2 := [(0, .ref (gad G 154)), (1, .long (fpB (mem 155) 200)), (3, .int (nI 0))]) [1, 2, 0] rfl ?_
                            exact g_eq (lp_203 (_ + 1) 0 (Nat.zero_le _) (Nat.lt_succ_self _)) (rfl) (gLc rfl (gLc (congrArg Value.long (rfl)) (rfl))) rfl
                          · have hi2 : i < 200 := by have q := mt (nI_leI (a := 200) (b := i) (by omega) (by omega)).mpr c_154; omega
                            refine g_aload_n C 0 dX10_fingerprint_157 rfl ?_
                            refine g_get_r C ob_154 0 (by decide) rfl wd_703 dX10_fingerprint_158 ?_
                            refine g_sipush C (nI 150) dX10_fingerprint_161 (by decide) ?_
                            refine g_iload_n C 2 dX10_fingerprint_164 rfl ?_
                            refine g_iadd_n C (d := 150 + i) dX10_fingerprint_165 rfl ?_
                            refine g_iald_n C (j := 150 + i) ar_155 rfl (by omega) (by decide) dX10_fingerprint_166 ?_
                            refine g_if_eq C 195 dX10_fingerprint_167 (by decide) (fun c_167 => ?_) (fun c_167 => ?_)
                            · refine g_iinc C (v := nI (i + 1)) (L2 := [(3, .int (nI (i + 1))), (0, .ref (gad G 154)), (1, .long (fpB (mem 155) i))]) 2 dX10_fingerprint_195 rfl (nI_1 _) (by decide) rfl ?_
                              refine g_goto C 150 dX10_fingerprint_198 (by decide) ?_
                              refine g_loc (L2 := [(0, .ref (gad G 154)), (1, .long (fpB (mem 155) i)), (3, .int (nI (i + 1)))]) [1, 2, 0] rfl ?_
                              exact g_eq (ih_150 (i + 1) (hi2) (by omega)) (rfl) (gLc rfl (gLc (congrArg Value.long (by first | rw [fpB_0 c_167] | rw [fpB_n c_167])) (rfl))) rfl
                            · refine g_ldc2 C wd_976 dX10_fingerprint_170 ?_
                              refine g_ldc2 C wd_976 dX10_fingerprint_173 ?_
                              refine g_lload_n C 1 dX10_fingerprint_176 rfl ?_
                              refine g_lmul C dX10_fingerprint_177 ?_
                              refine g_iload_n C 2 dX10_fingerprint_178 rfl ?_
                              refine g_i2l C dX10_fingerprint_179 ?_
                              refine g_ladd C dX10_fingerprint_180 ?_
                              refine g_lmul C dX10_fingerprint_181 ?_
                              refine g_aload_n C 0 dX10_fingerprint_182 rfl ?_
                              refine g_get_r C ob_154 0 (by decide) rfl wd_703 dX10_fingerprint_183 ?_
                              refine g_sipush C (nI 150) dX10_fingerprint_186 (by decide) ?_
                              refine g_iload_n C 2 dX10_fingerprint_189 rfl ?_
                              refine g_iadd_n C (d := 150 + i) dX10_fingerprint_190 rfl ?_
                              refine g_iald_n C (j := 150 + i) ar_155 rfl (by omega) (by decide) dX10_fingerprint_191 ?_
                              refine g_i2l C dX10_fingerprint_192 ?_
                              refine g_ladd C dX10_fingerprint_193 ?_
                              refine g_lstore_n C (L2 := [(1, .long (((31 : Int64) * (((31 : Int64) * (fpB (mem 155) i)) + ((nI i).toInt64))) + ((mem 155 (150 + i)).toInt64))), (0, .ref (gad G 154)), (3, .int (nI i))]) dX10_fingerprint_194 (by decide) rfl ?_
                              refine g_iinc C (v := nI (i + 1)) (L2 := [(3, .int (nI (i + 1))), (1, .long (((31 : Int64) * (((31 : Int64) * (fpB (mem 155) i)) + ((nI i).toInt64))) + ((mem 155 (150 + i)).toInt64))), (0, .ref (gad G 154))]) 2 dX10_fingerprint_195 rfl (nI_1 _) (by decide) rfl ?_
                              refine g_goto C 150 dX10_fingerprint_198 (by decide) ?_
                              refine g_loc (L2 := [(0, .ref (gad G 154)), (1, .long (((31 : Int64) * (((31 : Int64) * (fpB (mem 155) i)) + ((nI i).toInt64))) + ((mem 155 (150 + i)).toInt64))), (3, .int (nI (i + 1)))]) [2, 1, 0] rfl ?_
                              exact g_eq (ih_150 (i + 1) (hi2) (by omega)) (rfl) (gLc rfl (gLc (congrArg Value.long (by first | rw [fpB_0 c_167] | rw [fpB_n c_167])) (rfl))) rfl
                      refine g_loc (L2 := [(0, .ref (gad G 154)), (1, .long (f31 (fun kk => (mem 155 (12 + kk)).toInt64) (fp3 (mem 155)) (vZ (mem 155)))), (3, .int (nI 0))]) [1, 2, 0] rfl ?_
                      exact g_eq (lp_150 (_ + 1) 0 (Nat.zero_le _) (Nat.lt_succ_self _)) (rfl) (gLc rfl (gLc (congrArg Value.long (rfl)) (rfl))) rfl
                    · have hi2 : i < vZ (mem 155) := by have q := mt (nI_leI (a := vZ (mem 155)) (b := i) (by omega) (by omega)).mpr c_122; omega
                      refine g_ldc2 C wd_976 dX10_fingerprint_125 ?_
                      refine g_lload_n C 1 dX10_fingerprint_128 rfl ?_
                      refine g_lmul C dX10_fingerprint_129 ?_
                      refine g_aload_n C 0 dX10_fingerprint_130 rfl ?_
                      refine g_get_r C ob_154 0 (by decide) rfl wd_703 dX10_fingerprint_131 ?_
                      refine g_bipush C (nI 12) dX10_fingerprint_134 (by decide) ?_
                      refine g_iload_n C 2 dX10_fingerprint_136 rfl ?_
                      refine g_iadd_n C (d := 12 + i) dX10_fingerprint_137 rfl ?_
                      refine g_iald_n C (j := 12 + i) ar_155 rfl (by omega) (by decide) dX10_fingerprint_138 ?_
                      refine g_i2l C dX10_fingerprint_139 ?_
                      refine g_ladd C dX10_fingerprint_140 ?_
                      refine g_lstore_n C (L2 := [(1, .long (((31 : Int64) * (f31 (fun kk => (mem 155 (12 + kk)).toInt64) (fp3 (mem 155)) i)) + ((mem 155 (12 + i)).toInt64))), (0, .ref (gad G 154)), (3, .int (nI i))]) dX10_fingerprint_141 (by decide) rfl ?_
                      refine g_iinc C (v := nI (i + 1)) (L2 := [(3, .int (nI (i + 1))), (1, .long (((31 : Int64) * (f31 (fun kk => (mem 155 (12 + kk)).toInt64) (fp3 (mem 155)) i)) + ((mem 155 (12 + i)).toInt64))), (0, .ref (gad G 154))]) 2 dX10_fingerprint_142 rfl (nI_1 _) (by decide) rfl ?_
                      refine g_goto C 114 dX10_fingerprint_145 (by decide) ?_
                      refine g_loc (L2 := [(0, .ref (gad G 154)), (1, .long (((31 : Int64) * (f31 (fun kk => (mem 155 (12 + kk)).toInt64) (fp3 (mem 155)) i)) + ((mem 155 (12 + i)).toInt64))), (3, .int (nI (i + 1)))]) [2, 1, 0] rfl ?_
                      exact g_eq (ih_114 (i + 1) (hi2) (by omega)) (rfl) (gLc rfl (gLc (congrArg Value.long (rfl)) (rfl))) rfl
                refine g_loc (L2 := [(0, .ref (gad G 154)), (1, .long (((31 : Int64) * (fpM (mem 155) (vN (mem 155)))) + ((-4611686018427387905) : Int64))), (3, .int (nI 0))]) [2, 1, 0] rfl ?_
                exact g_eq (lp_114 (_ + 1) 0 (Nat.zero_le _) (Nat.lt_succ_self _)) (rfl) (gLc rfl (gLc (congrArg Value.long (by first | (show _ = fp3 (mem 155); rw [fp3, seedR, if_pos c_93]; done) | (show _ = fp3 (mem 155); rw [fp3, seedR, if_neg c_93]; done))) (rfl))) rfl
            · have hm2 : m1 < vN (mem 155) := by have q := mt (nI_leI (a := vN (mem 155)) (b := m1) (by omega) (by omega)).mpr c_41; omega
              refine g_iconst C (nI 0) dX10_fingerprint_44 (by decide) ?_
              refine g_istore C (L2 := [(4, .int (nI 0)), (0, .ref (gad G 154)), (1, .long (fpM (mem 155) m1)), (3, .int (nI m1))]) dX10_fingerprint_45 (by decide) rfl ?_
              have lp_47 : ∀ (fu : Nat) (k : Nat), (k ≤ 9) → 9 - k < fu → gV p l e rm_X10_fingerprint s m args below meth c 0 0 Q G 5 mem 47 [(0, .ref (gad G 154)), (1, .long (f31 (fun kk => (mbR (mem 155) m1 kk).toInt64) (fpM (mem 155) m1) k)), (3, .int (nI m1)), (4, .int (nI k))] [] := by
                intro fu
                induction fu with
                | zero => intro k _ hfu; exact absurd hfu (Nat.not_lt_zero _)
                | succ fu ih_47 =>
                  intro k hle_k hfu_47
                  refine g_iload C 3 dX10_fingerprint_47 rfl ?_
                  refine g_bipush C (nI 9) dX10_fingerprint_49 (by decide) ?_
                  refine g_icmp_ge C 75 dX10_fingerprint_51 (by decide) (fun c_51 => ?_) (fun c_51 => ?_)
                  · have hin3 : k = 9 := by have q := (nI_leI (a := 9) (b := k) (by omega) (by omega)).mp c_51; omega
                    rw [hin3]
                    refine g_iinc C (v := nI (m1 + 1)) (L2 := [(3, .int (nI (m1 + 1))), (0, .ref (gad G 154)), (1, .long (f31 (fun kk => (mbR (mem 155) m1 kk).toInt64) (fpM (mem 155) m1) 9)), (4, .int (nI 9))]) 2 dX10_fingerprint_75 rfl (nI_1 _) (by decide) rfl ?_
                    refine g_goto C 34 dX10_fingerprint_78 (by decide) ?_
                    refine g_loc (L2 := [(0, .ref (gad G 154)), (1, .long (f31 (fun kk => (mbR (mem 155) m1 kk).toInt64) (fpM (mem 155) m1) 9)), (3, .int (nI (m1 + 1)))]) [1, 2, 0] rfl ?_
                    exact g_eq (ih_34 (m1 + 1) (hm2) (by omega)) (rfl) (gLc rfl (gLc (congrArg Value.long (rfl)) (rfl))) rfl
                  · have hk2 : k < 9 := by have q := mt (nI_leI (a := 9) (b := k) (by omega) (by omega)).mpr c_51; omega
                    refine g_ldc2 C wd_976 dX10_fingerprint_54 ?_
                    refine g_lload_n C 1 dX10_fingerprint_57 rfl ?_
                    refine g_lmul C dX10_fingerprint_58 ?_
                    refine g_aload_n C 0 dX10_fingerprint_59 rfl ?_
                    refine g_iload_n C 2 dX10_fingerprint_60 rfl ?_
                    refine g_iload C 3 dX10_fingerprint_61 rfl ?_
                    refine g_cV1 C (As := [.int (nI m1), .int (nI k)]) (w := .int (mbR (mem 155) m1 k)) (mem3 := mem) iX10_told (c_X10_told l G mem g (m1 := m1) (k := k) hm2 hk2) wd_804 ob_154 rfl ⟨Nat.le_of_ble_eq_true rfl, Nat.le_of_ble_eq_true rfl⟩ ⟨rfl, rfl⟩ rfl (Nat.le_of_ble_eq_true rfl) dX10_fingerprint_63 (rfl) (rfl) ?_
                    refine g_i2l C dX10_fingerprint_66 ?_
                    refine g_ladd C dX10_fingerprint_67 ?_
                    refine g_lstore_n C (L2 := [(1, .long (((31 : Int64) * (f31 (fun kk => (mbR (mem 155) m1 kk).toInt64) (fpM (mem 155) m1) k)) + ((mbR (mem 155) m1 k).toInt64))), (0, .ref (gad G 154)), (3, .int (nI m1)), (4, .int (nI k))]) dX10_fingerprint_68 (by decide) rfl ?_
                    refine g_iinc C (v := nI (k + 1)) (L2 := [(4, .int (nI (k + 1))), (1, .long (((31 : Int64) * (f31 (fun kk => (mbR (mem 155) m1 kk).toInt64) (fpM (mem 155) m1) k)) + ((mbR (mem 155) m1 k).toInt64))), (0, .ref (gad G 154)), (3, .int (nI m1))]) 3 dX10_fingerprint_69 rfl (nI_1 _) (by decide) rfl ?_
                    refine g_goto C 47 dX10_fingerprint_72 (by decide) ?_
                    refine g_loc (L2 := [(0, .ref (gad G 154)), (1, .long (((31 : Int64) * (f31 (fun kk => (mbR (mem 155) m1 kk).toInt64) (fpM (mem 155) m1) k)) + ((mbR (mem 155) m1 k).toInt64))), (3, .int (nI m1)), (4, .int (nI (k + 1)))]) [2, 1, 3, 0] rfl ?_
                    exact g_eq (ih_47 (k + 1) (hk2) (by omega)) (rfl) (gLc rfl (gLc (congrArg Value.long (rfl)) (rfl))) rfl
              refine g_loc (L2 := [(0, .ref (gad G 154)), (1, .long (fpM (mem 155) m1)), (3, .int (nI m1)), (4, .int (nI 0))]) [1, 2, 3, 0] rfl ?_
              exact g_eq (lp_47 (_ + 1) 0 (Nat.zero_le _) (Nat.lt_succ_self _)) (rfl) (gLc rfl (gLc (congrArg Value.long (rfl)) (rfl))) rfl
        refine g_loc (L2 := [(0, .ref (gad G 154)), (1, .long (f31 (fun kk => (mem 155 kk).toInt64) (197 : Int64) 10)), (3, .int (nI 0))]) [1, 2, 0] rfl ?_
        exact g_eq (lp_34 (_ + 1) 0 (Nat.zero_le _) (Nat.lt_succ_self _)) (rfl) (gLc rfl (gLc (congrArg Value.long (rfl)) (rfl))) rfl
      · have hi2 : i < 10 := by have q := mt (nI_leI (a := 10) (b := i) (by omega) (by omega)).mpr c_9; omega
        refine g_ldc2 C wd_976 dX10_fingerprint_12 ?_
        refine g_lload_n C 1 dX10_fingerprint_15 rfl ?_
        refine g_lmul C dX10_fingerprint_16 ?_
        refine g_aload_n C 0 dX10_fingerprint_17 rfl ?_
        refine g_get_r C ob_154 0 (by decide) rfl wd_703 dX10_fingerprint_18 ?_
        refine g_iload_n C 2 dX10_fingerprint_21 rfl ?_
        refine g_iald_n C (j := i) ar_155 rfl (by omega) (by decide) dX10_fingerprint_22 ?_
        refine g_i2l C dX10_fingerprint_23 ?_
        refine g_ladd C dX10_fingerprint_24 ?_
        refine g_lstore_n C (L2 := [(1, .long (((31 : Int64) * (f31 (fun kk => (mem 155 kk).toInt64) (197 : Int64) i)) + ((mem 155 i).toInt64))), (0, .ref (gad G 154)), (3, .int (nI i))]) dX10_fingerprint_25 (by decide) rfl ?_
        refine g_iinc C (v := nI (i + 1)) (L2 := [(3, .int (nI (i + 1))), (1, .long (((31 : Int64) * (f31 (fun kk => (mem 155 kk).toInt64) (197 : Int64) i)) + ((mem 155 i).toInt64))), (0, .ref (gad G 154))]) 2 dX10_fingerprint_26 rfl (nI_1 _) (by decide) rfl ?_
        refine g_goto C 6 dX10_fingerprint_29 (by decide) ?_
        refine g_loc (L2 := [(0, .ref (gad G 154)), (1, .long (((31 : Int64) * (f31 (fun kk => (mem 155 kk).toInt64) (197 : Int64) i)) + ((mem 155 i).toInt64))), (3, .int (nI (i + 1)))]) [2, 1, 0] rfl ?_
        exact g_eq (ih_6 (i + 1) (hi2) (by omega)) (rfl) (gLc rfl (gLc (congrArg Value.long (rfl)) (rfl))) rfl
  refine g_loc (L2 := [(0, .ref (gad G 154)), (1, .long (197 : Int64)), (3, .int (nI 0))]) [2, 1, 0] rfl ?_
  exact g_eq (lp_6 (_ + 1) 0 (Nat.zero_le _) (Nat.lt_succ_self _)) (rfl) (gLc rfl (gLc (congrArg Value.long (rfl)) (rfl))) rfl
