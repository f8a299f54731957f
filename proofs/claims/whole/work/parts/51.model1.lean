def rm_X10_in : Room := { frames := 0, cells := 0, slots := 0, locals := 0 }
theorem iX10_in : gIs yX10_in cX10_in 3 (some .boolean) 3 := ⟨⟨wd_773, wd_32, by decide +kernel, by decide +kernel, by decide +kernel⟩, wd_772⟩
set_option maxRecDepth 100000 in
set_option maxHeartbeats 4000000 in
theorem c_X10_in (l : Launch) (G : gG) (mem : gM) (x lo hi : Int32) : gMet l yX10_in cX10_in 3 (some .boolean) rm_X10_in G [.int x, .int lo, .int hi] mem (fun a u => a = some (.int (b2i (lo ≤ x ∧ x ≤ hi))) ∧ u = mem) := by
  refine g_of (own := RX10) (L0 := [(0, .int x), (1, .int lo), (2, .int hi)]) (by decide +kernel) rfl (Nat.le_of_ble_eq_true rfl) rfl ?_
  intro p e s m args below meth c C Q hQ
  refine g_iload_n C 0 dX10_in_0 rfl ?_
  refine g_iload_n C 1 dX10_in_1 rfl ?_
  refine g_icmp_lt C 14 dX10_in_2 (by decide) (fun c_2 => ?_) (fun c_2 => ?_)
  · refine g_iconst C (nI 0) dX10_in_14 (by decide) ?_
    refine g_zret C hQ rfl (Or.inl rfl) dX10_in_15 ?_
    first
      | exact ⟨by rw [b2i_t (P := lo ≤ x ∧ x ≤ hi) ⟨Int32.not_lt.mp c_2, Int32.not_lt.mp c_7⟩]; rfl, rfl⟩
      | exact ⟨by rw [b2i_f (P := lo ≤ x ∧ x ≤ hi) (fun q => absurd c_2 (Int32.not_lt.mpr q.1))]; rfl, rfl⟩
      | exact ⟨by rw [b2i_f (P := lo ≤ x ∧ x ≤ hi) (fun q => absurd c_7 (Int32.not_lt.mpr q.2))]; rfl, rfl⟩
  · refine g_iload_n C 0 dX10_in_5 rfl ?_
    refine g_iload_n C 2 dX10_in_6 rfl ?_
    refine g_icmp_gt C 14 dX10_in_7 (by decide) (fun c_7 => ?_) (fun c_7 => ?_)
    · refine g_iconst C (nI 0) dX10_in_14 (by decide) ?_
      refine g_zret C hQ rfl (Or.inl rfl) dX10_in_15 ?_
      first
        | exact ⟨by rw [b2i_t (P := lo ≤ x ∧ x ≤ hi) ⟨Int32.not_lt.mp c_2, Int32.not_lt.mp c_7⟩]; rfl, rfl⟩
        | exact ⟨by rw [b2i_f (P := lo ≤ x ∧ x ≤ hi) (fun q => absurd c_2 (Int32.not_lt.mpr q.1))]; rfl, rfl⟩
        | exact ⟨by rw [b2i_f (P := lo ≤ x ∧ x ≤ hi) (fun q => absurd c_7 (Int32.not_lt.mpr q.2))]; rfl, rfl⟩
    · refine g_iconst C (nI 1) dX10_in_10 (by decide) ?_
      refine g_goto C 15 dX10_in_11 (by decide) ?_
      refine g_zret C hQ rfl (Or.inr rfl) dX10_in_15 ?_
      first
        | exact ⟨by rw [b2i_t (P := lo ≤ x ∧ x ≤ hi) ⟨Int32.not_lt.mp c_2, Int32.not_lt.mp c_7⟩]; rfl, rfl⟩
        | exact ⟨by rw [b2i_f (P := lo ≤ x ∧ x ≤ hi) (fun q => absurd c_2 (Int32.not_lt.mpr q.1))]; rfl, rfl⟩
        | exact ⟨by rw [b2i_f (P := lo ≤ x ∧ x ≤ hi) (fun q => absurd c_7 (Int32.not_lt.mpr q.2))]; rfl, rfl⟩

def rm_X10_at : Room := { frames := 0, cells := 0, slots := 0, locals := 0 }
theorem iX10_at : gIs yX10_at cX10_at 2 (some .int) 2 := ⟨⟨wd_782, wd_32, by decide +kernel, by decide +kernel, by decide +kernel⟩, wd_781⟩
set_option maxRecDepth 100000 in
set_option maxHeartbeats 4000000 in
theorem c_X10_at (l : Launch) (G : gG) (mem : gM) (m1 w1 : Nat) : gMet l yX10_at cX10_at 2 (some .int) rm_X10_at G [.int (nI m1), .int (nI w1)] mem (fun a u => a = some (.int (nI (30 + 12 * m1 + w1))) ∧ u = mem) := by
  refine g_of (own := RX10) (L0 := [(0, .int (nI m1)), (1, .int (nI w1))]) (by decide +kernel) rfl (Nat.le_of_ble_eq_true rfl) rfl ?_
  intro p e s m args below meth c C Q hQ
  refine g_bipush C (nI 30) dX10_at_0 (by decide) ?_
  refine g_bipush C (nI 12) dX10_at_2 (by decide) ?_
  refine g_iload_n C 0 dX10_at_4 rfl ?_
  refine g_imul_n C (d := 12 * m1) dX10_at_5 rfl ?_
  refine g_iadd_n C (d := 30 + (12 * m1)) dX10_at_6 rfl ?_
  refine g_iload_n C 1 dX10_at_7 rfl ?_
  refine g_iadd_n C (d := (30 + (12 * m1)) + w1) dX10_at_8 rfl ?_
  refine g_iret C hQ rfl dX10_at_9 ?_
  exact ⟨rfl, rfl⟩

def rm_X10_isMember : Room := { frames := 1, cells := 0, slots := 0, locals := 22 }
theorem iX10_isMember : gIv yX10_isMember cX10_isMember 2 (some .boolean) 1 := ⟨⟨wd_791, wd_32, by decide +kernel, by decide +kernel, by decide +kernel⟩, wd_790, wd_4⟩
set_option maxRecDepth 100000 in
set_option maxHeartbeats 4000000 in
theorem c_X10_isMember (l : Launch) (G : gG) {T : Nat} (mem : gM) (g : Good T (mem 155)) (x : Int32) : gMet l yX10_isMember cX10_isMember 2 (some .boolean) rm_X10_isMember G [.ref (gad G 154), .int x] mem (fun a u => a = some (.int (b2i (memP (mem 155) x))) ∧ u = mem) := by
  refine g_of (own := RX10) (L0 := [(0, .ref (gad G 154)), (1, .int x)]) (by decide +kernel) rfl (Nat.le_of_ble_eq_true rfl) rfl ?_
  intro p e s m args below meth c C Q hQ
  refine g_iload_n C 1 dX10_isMember_0 rfl ?_
  refine g_iconst C (nI 0) dX10_isMember_1 (by decide) ?_
  refine g_aload_n C 0 dX10_isMember_2 rfl ?_
  refine g_get_r C ob_154 0 (by decide) rfl wd_703 dX10_isMember_3 ?_
  refine g_iconst C (nI 5) dX10_isMember_6 (by decide) ?_
  refine g_iald_n C (j := 5) ar_155 rfl (by omega) (by decide) dX10_isMember_7 ?_
  refine g_top (y := nI (vN (mem 155))) (gd_n g) ?_
  refine g_iconst C (nI 1) dX10_isMember_8 (by decide) ?_
  refine g_isub C dX10_isMember_9 ?_
  refine g_cS1 C (As := [.int x, .int (nI 0), .int ((nI (vN (mem 155))) - (nI 1))]) (w := .int (b2i (memP (mem 155) x))) (mem3 := mem) iX10_in (c_X10_in l G mem x (nI 0) ((nI (vN (mem 155))) - (nI 1))) wd_771 rfl ⟨Nat.le_of_ble_eq_true rfl, Nat.le_of_ble_eq_true rfl⟩ ⟨rfl, rfl⟩ rfl (Nat.le_of_ble_eq_true rfl) dX10_isMember_10 (congrArg Value.int (b2i_congr (in_mem g x))) (rfl) ?_
  refine g_zret C hQ rfl (b2i_01 _) dX10_isMember_13 ?_
  exact ⟨rfl, rfl⟩

def rm_X10_isBlock : Room := { frames := 1, cells := 0, slots := 0, locals := 22 }
theorem iX10_isBlock : gIs yX10_isBlock cX10_isBlock 1 (some .boolean) 1 := ⟨⟨wd_876, wd_32, by decide +kernel, by decide +kernel, by decide +kernel⟩, wd_875⟩
set_option maxRecDepth 100000 in
set_option maxHeartbeats 4000000 in
theorem c_X10_isBlock (l : Launch) (G : gG) (mem : gM) (x : Int32) : gMet l yX10_isBlock cX10_isBlock 1 (some .boolean) rm_X10_isBlock G [.int x] mem (fun a u => a = some (.int (b2i (blkP x))) ∧ u = mem) := by
  refine g_of (own := RX10) (L0 := [(0, .int x)]) (by decide +kernel) rfl (Nat.le_of_ble_eq_true rfl) rfl ?_
  intro p e s m args below meth c C Q hQ
  refine g_iload_n C 0 dX10_isBlock_0 rfl ?_
  refine g_iconst C (nI 0) dX10_isBlock_1 (by decide) ?_
  refine g_sipush C (nI 199) dX10_isBlock_2 (by decide) ?_
  refine g_cS1 C (As := [.int x, .int (nI 0), .int (nI 199)]) (w := .int (b2i (blkP x))) (mem3 := mem) iX10_in (c_X10_in l G mem x (nI 0) (nI 199)) wd_771 rfl ⟨Nat.le_of_ble_eq_true rfl, Nat.le_of_ble_eq_true rfl⟩ ⟨rfl, rfl⟩ rfl (Nat.le_of_ble_eq_true rfl) dX10_isBlock_5 (congrArg Value.int (b2i_congr (in_blk x))) (rfl) ?_
  refine g_zret C hQ rfl (b2i_01 _) dX10_isBlock_8 ?_
  exact ⟨rfl, rfl⟩

def rm_X10_mixed : Room := { frames := 0, cells := 0, slots := 0, locals := 0 }
theorem iX10_mixed : gIs yX10_mixed cX10_mixed 2 (some .int) 1 := ⟨⟨wd_826, wd_32, by decide +kernel, by decide +kernel, by decide +kernel⟩, wd_825⟩
set_option maxRecDepth 100000 in
set_option maxHeartbeats 4000000 in
theorem c_X10_mixed (l : Launch) (G : gG) (mem : gM) (x : Int32) : gMet l yX10_mixed cX10_mixed 2 (some .int) rm_X10_mixed G [.int x] mem (fun a u => a = some (.int (mixI x)) ∧ u = mem) := by
  refine g_of (own := RX10) (L0 := [(0, .int x)]) (by decide +kernel) rfl (Nat.le_of_ble_eq_true rfl) rfl ?_
  intro p e s m args below meth c C Q hQ
  refine g_iload_n C 0 dX10_mixed_0 rfl ?_
  refine g_ldc C wd_827 dX10_mixed_1 ?_
  refine g_imul C dX10_mixed_3 ?_
  refine g_sipush C (nI 12345) dX10_mixed_4 (by decide) ?_
  refine g_iadd C dX10_mixed_7 ?_
  refine g_istore_n C (L2 := [(1, .int ((x * (1103515245 : Int32)) + (nI 12345))), (0, .int x)]) dX10_mixed_8 (by decide) rfl ?_
  refine g_iload_n C 0 dX10_mixed_9 rfl ?_
  refine g_iload_n C 0 dX10_mixed_10 rfl ?_
  refine g_bipush C (nI 15) dX10_mixed_11 (by decide) ?_
  refine g_iushr C dX10_mixed_13 ?_
  refine g_ixor C dX10_mixed_14 ?_
  refine g_istore_n C (L2 := [(1, .int (((x * (1103515245 : Int32)) + (nI 12345)) ^^^ (g_ushr ((x * (1103515245 : Int32)) + (nI 12345)) (nI 15)))), (0, .int x)]) dX10_mixed_15 (by decide) rfl ?_
  refine g_iload_n C 0 dX10_mixed_16 rfl ?_
  refine g_ldc C wd_827 dX10_mixed_17 ?_
  refine g_imul C dX10_mixed_19 ?_
  refine g_sipush C (nI 12345) dX10_mixed_20 (by decide) ?_
  refine g_iadd C dX10_mixed_23 ?_
  refine g_iret C hQ rfl dX10_mixed_24 ?_
  exact ⟨rfl, rfl⟩

def rm_X10_mix : Room := { frames := 1, cells := 0, slots := 0, locals := 21 }
theorem iX10_mix : gIv yX10_mix cX10_mix 2 (some .int) 1 := ⟨⟨wd_823, wd_32, by decide +kernel, by decide +kernel, by decide +kernel⟩, wd_821, wd_822⟩
set_option maxRecDepth 100000 in
set_option maxHeartbeats 4000000 in
theorem c_X10_mix (l : Launch) (G : gG) (mem : gM) (x : Int32) : gMet l yX10_mix cX10_mix 2 (some .int) rm_X10_mix G [.ref (gad G 154), .int x] mem (fun a u => a = some (.int (mixI x)) ∧ u = mem) := by
  refine g_of (own := RX10) (L0 := [(0, .ref (gad G 154)), (1, .int x)]) (by decide +kernel) rfl (Nat.le_of_ble_eq_true rfl) rfl ?_
  intro p e s m args below meth c C Q hQ
  refine g_iload_n C 1 dX10_mix_0 rfl ?_
  refine g_cS1 C (As := [.int x]) (w := .int (mixI x)) (mem3 := mem) iX10_mixed (c_X10_mixed l G mem x) wd_824 rfl ⟨Nat.le_of_ble_eq_true rfl, Nat.le_of_ble_eq_true rfl⟩ ⟨rfl, rfl⟩ rfl (Nat.le_of_ble_eq_true rfl) dX10_mix_1 (rfl) (rfl) ?_
  refine g_iret C hQ rfl dX10_mix_4 ?_
  exact ⟨rfl, rfl⟩

def rm_X10_act : Room := { frames := 0, cells := 0, slots := 0, locals := 0 }
theorem iX10_act : gIv yX10_act cX10_act 2 none 0 := ⟨⟨wd_779, wd_32, by decide +kernel, by decide +kernel, by decide +kernel⟩, wd_778, wd_3⟩
set_option maxRecDepth 100000 in
set_option maxHeartbeats 4000000 in
theorem c_X10_act (l : Launch) (G : gG) (mem : gM) {h : Nat} (hh : mem 154 2 = nI h) (h4 : h ≤ 4) : gMet l yX10_act cX10_act 2 none rm_X10_act G [.ref (gad G 154)] mem (fun a u => a = none ∧ u = gr (gr mem 156 (pshP h (mem 155) (mem 156))) 154 (upd (mem 154) 2 (nI (pushN h)))) := by
  refine g_of (own := RX10) (L0 := [(0, .ref (gad G 154))]) (by decide +kernel) rfl (Nat.le_of_ble_eq_true rfl) rfl ?_
  intro p e s m args below meth c C Q hQ
  refine g_aload_n C 0 dX10_act_0 rfl ?_
  refine g_get_i C ob_154 2 (by decide) rfl wd_705 dX10_act_1 ?_
  refine g_top (y := nI h) (hh) ?_
  refine g_iconst C (nI 4) dX10_act_4 (by decide) ?_
  refine g_icmp_ne C 49 dX10_act_5 (by decide) (fun c_5 => ?_) (fun c_5 => ?_)
  · have c_5 : h < 4 := by have q : ¬ h = 4 := fun q => c_5 (by rw [q]); omega
    refine g_iconst C (nI 0) dX10_act_49 (by decide) ?_
    refine g_istore_n C (L2 := [(1, .int (nI 0)), (0, .ref (gad G 154))]) dX10_act_50 (by decide) rfl ?_
    have lp_51 : ∀ (fu : Nat) (k : Nat), (k ≤ 520) → 520 - k < fu → gV p l e rm_X10_act s m args below meth c 0 0 Q G 2 (gr mem 156 (lyo k (520 * h) (mem 155) (mem 156))) 51 [(0, .ref (gad G 154)), (1, .int (nI k))] [] := by
      intro fu
      induction fu with
      | zero => intro k _ hfu; exact absurd hfu (Nat.not_lt_zero _)
      | succ fu ih_51 =>
        intro k hk hfu_51
        refine g_iload_n C 1 dX10_act_51 rfl ?_
        refine g_sipush C (nI 520) dX10_act_52 (by decide) ?_
        refine g_icmp_ge C 85 dX10_act_55 (by decide) (fun c_55 => ?_) (fun c_55 => ?_)
        · have hin : k = 520 := by have q := (nI_leI (a := 520) (b := k) (by omega) (by omega)).mp c_55; omega
          rw [hin]
          refine g_aload_n C 0 dX10_act_85 rfl ?_
          refine g_dup C dX10_act_86 rfl ?_
          refine g_get_i C ob_154 2 (by decide) rfl wd_705 dX10_act_87 ?_
          refine g_top (y := mem 154 2) (rfl) ?_
          refine g_top (y := nI h) (hh) ?_
          refine g_iconst C (nI 1) dX10_act_90 (by decide) ?_
          refine g_iadd_n C (d := h + 1) dX10_act_91 rfl ?_
          refine g_put_i C ob_154 2 (by decide) rfl wd_705 rfl rfl dX10_act_92 ?_
          refine g_vret C hQ rfl dX10_act_95 ?_
          exact ⟨rfl, by rw [pshP, if_pos c_5, pushN, if_pos c_5]; rfl⟩
        · have hi2 : k < 520 := by have q := mt (nI_leI (a := 520) (b := k) (by omega) (by omega)).mpr c_55; omega
          refine g_aload_n C 0 dX10_act_58 rfl ?_
          refine g_get_r C ob_154 1 (by decide) rfl wd_704 dX10_act_59 ?_
          refine g_sipush C (nI 520) dX10_act_62 (by decide) ?_
          refine g_aload_n C 0 dX10_act_65 rfl ?_
          refine g_get_i C ob_154 2 (by decide) rfl wd_705 dX10_act_66 ?_
          refine g_top (y := mem 154 2) (rfl) ?_
          refine g_top (y := nI h) (hh) ?_
          refine g_imul_n C (d := 520 * h) dX10_act_69 rfl ?_
          refine g_iload_n C 1 dX10_act_70 rfl ?_
          refine g_iadd_n C (d := (520 * h) + k) dX10_act_71 rfl ?_
          refine g_aload_n C 0 dX10_act_72 rfl ?_
          refine g_get_r C ob_154 0 (by decide) rfl wd_703 dX10_act_73 ?_
          refine g_iload_n C 1 dX10_act_76 rfl ?_
          refine g_iald_n C (j := k) ar_155 rfl (by omega) (by decide) dX10_act_77 ?_
          refine g_top (y := mem 155 k) (rfl) ?_
          refine g_iast_n C (j := 520 * h + k) ar_156 (rfl) (by omega) (by decide) dX10_act_78 ?_
          refine g_mem (mem2 := gr mem 156 (upd (lyo k (520 * h) (mem 155) (mem 156)) (520 * h + k) (mem 155 k))) (gr_gr _ _ _ _) ?_
          refine g_iinc C (v := nI (k + 1)) (L2 := [(1, .int (nI (k + 1))), (0, .ref (gad G 154))]) 1 dX10_act_79 rfl (nI_1 _) (by decide) rfl ?_
          refine g_goto C 51 dX10_act_82 (by decide) ?_
          refine g_loc (L2 := [(0, .ref (gad G 154)), (1, .int (nI (k + 1)))]) [1, 0] rfl ?_
          exact g_eq (ih_51 (k + 1) (hi2) (by omega)) (by rw [lyo_s rfl]) (rfl) rfl
    refine g_loc (L2 := [(0, .ref (gad G 154)), (1, .int (nI 0))]) [1, 0] rfl ?_
    exact g_eq (lp_51 (_ + 1) 0 (Nat.zero_le _) (Nat.lt_succ_self _)) (by rw [lyo_0, gr_self]) (rfl) rfl
  · have c_5 : h = 4 := (nI_iff (by omega) (by decide)).mp c_5
    refine g_iconst C (nI 0) dX10_act_8 (by decide) ?_
    refine g_istore_n C (L2 := [(1, .int (nI 0)), (0, .ref (gad G 154))]) dX10_act_9 (by decide) rfl ?_
    have lp_10 : ∀ (fu : Nat) (k : Nat), (k ≤ 1560) → 1560 - k < fu → gV p l e rm_X10_act s m args below meth c 0 0 Q G 2 (gr mem 156 (cpy k (fun i => mem 156 (i + 520)) (mem 156))) 10 [(0, .ref (gad G 154)), (1, .int (nI k))] [] := by
      intro fu
      induction fu with
      | zero => intro k _ hfu; exact absurd hfu (Nat.not_lt_zero _)
      | succ fu ih_10 =>
        intro k hk hfu_10
        refine g_iload_n C 1 dX10_act_10 rfl ?_
        refine g_sipush C (nI 1560) dX10_act_11 (by decide) ?_
        refine g_icmp_ge C 39 dX10_act_14 (by decide) (fun c_14 => ?_) (fun c_14 => ?_)
        · have hin : k = 1560 := by have q := (nI_leI (a := 1560) (b := k) (by omega) (by omega)).mp c_14; omega
          rw [hin]
          refine g_aload_n C 0 dX10_act_39 rfl ?_
          refine g_dup C dX10_act_40 rfl ?_
          refine g_get_i C ob_154 2 (by decide) rfl wd_705 dX10_act_41 ?_
          refine g_top (y := mem 154 2) (rfl) ?_
          refine g_top (y := nI h) (hh) ?_
          refine g_iconst C (nI 1) dX10_act_44 (by decide) ?_
          refine g_isub C dX10_act_45 ?_
          refine g_top (show nI h - nI 1 = nI 3 from by rw [c_5]; rfl) ?_
          refine g_put_i C ob_154 2 (by decide) rfl wd_705 rfl rfl dX10_act_46 ?_
          refine g_iconst C (nI 0) dX10_act_49 (by decide) ?_
          refine g_istore_n C (L2 := [(1, .int (nI 0)), (0, .ref (gad G 154))]) dX10_act_50 (by decide) rfl ?_
          have lp_51 : ∀ (fu : Nat) (k : Nat), (k ≤ 520) → 520 - k < fu → gV p l e rm_X10_act s m args below meth c 0 0 Q G 2 (gr (gr mem 156 (lyo k 1560 (mem 155) (cpy 1560 (fun i => mem 156 (i + 520)) (mem 156)))) 154 (upd (mem 154) 2 (nI 3))) 51 [(0, .ref (gad G 154)), (1, .int (nI k))] [] := by
            intro fu
            induction fu with
            | zero => intro k _ hfu; exact absurd hfu (Nat.not_lt_zero _)
            | succ fu ih_51 =>
              intro k hk hfu_51
              refine g_iload_n C 1 dX10_act_51 rfl ?_
              refine g_sipush C (nI 520) dX10_act_52 (by decide) ?_
              refine g_icmp_ge C 85 dX10_act_55 (by decide) (fun c_55 => ?_) (fun c_55 => ?_)
              · have hin : k = 520 := by have q := (nI_leI (a := 520) (b := k) (by omega) (by omega)).mp c_55; omega
                rw [hin]
                refine g_aload_n C 0 dX10_act_85 rfl ?_
                refine g_dup C dX10_act_86 rfl ?_
                refine g_get_i C ob_154 2 (by decide) rfl wd_705 dX10_act_87 ?_
                refine g_top (y := nI 3) (rfl) ?_
                refine g_iconst C (nI 1) dX10_act_90 (by decide) ?_
                refine g_iadd_n C (d := 4) dX10_act_91 rfl ?_
                refine g_put_i C ob_154 2 (by decide) rfl wd_705 rfl rfl dX10_act_92 ?_
                refine g_mem (mem2 := gr (gr mem 156 (lyo 520 1560 (mem 155) (cpy 1560 (fun i => mem 156 (i + 520)) (mem 156)))) 154 (upd (upd (mem 154) 2 (nI 3)) 2 (nI 4))) (gr_gr _ _ _ _) ?_
                refine g_vret C hQ rfl dX10_act_95 ?_
                refine ⟨rfl, ?_⟩
                rw [pshP, if_neg (by omega), pushN, if_neg (by omega)]
                exact congrArg (fun z => gr (gr mem 156 (lyo 520 1560 (mem 155) (shf (mem 156)))) 154 z) (by rw [upd_upd])
              · have hi2 : k < 520 := by have q := mt (nI_leI (a := 520) (b := k) (by omega) (by omega)).mpr c_55; omega
                refine g_aload_n C 0 dX10_act_58 rfl ?_
                refine g_get_r C ob_154 1 (by decide) rfl wd_704 dX10_act_59 ?_
                refine g_sipush C (nI 520) dX10_act_62 (by decide) ?_
                refine g_aload_n C 0 dX10_act_65 rfl ?_
                refine g_get_i C ob_154 2 (by decide) rfl wd_705 dX10_act_66 ?_
                refine g_top (y := nI 3) (rfl) ?_
                refine g_imul_n C (d := 1560) dX10_act_69 rfl ?_
                refine g_iload_n C 1 dX10_act_70 rfl ?_
                refine g_iadd_n C (d := 1560 + k) dX10_act_71 rfl ?_
                refine g_aload_n C 0 dX10_act_72 rfl ?_
                refine g_get_r C ob_154 0 (by decide) rfl wd_703 dX10_act_73 ?_
                refine g_iload_n C 1 dX10_act_76 rfl ?_
                refine g_iald_n C (j := k) ar_155 rfl (by omega) (by decide) dX10_act_77 ?_
                refine g_top (y := mem 155 k) (rfl) ?_
                refine g_iast_n C (j := 1560 + k) ar_156 (rfl) (by omega) (by decide) dX10_act_78 ?_
                refine g_mem (mem2 := gr (gr mem 156 (upd (lyo k 1560 (mem 155) (cpy 1560 (fun i => mem 156 (i + 520)) (mem 156))) (1560 + k) (mem 155 k))) 154 (upd (mem 154) 2 (nI 3))) ((gr_comm _ (by decide) _ _).trans (congrArg (fun z => gr z 154 (upd (mem 154) 2 (nI 3))) (gr_gr _ _ _ _))) ?_
                refine g_iinc C (v := nI (k + 1)) (L2 := [(1, .int (nI (k + 1))), (0, .ref (gad G 154))]) 1 dX10_act_79 rfl (nI_1 _) (by decide) rfl ?_
                refine g_goto C 51 dX10_act_82 (by decide) ?_
                refine g_loc (L2 := [(0, .ref (gad G 154)), (1, .int (nI (k + 1)))]) [1, 0] rfl ?_
                exact g_eq (ih_51 (k + 1) (hi2) (by omega)) (by rw [lyo_s rfl]) (rfl) rfl
          refine g_loc (L2 := [(0, .ref (gad G 154)), (1, .int (nI 0))]) [1, 0] rfl ?_
          exact g_eq (lp_51 (_ + 1) 0 (Nat.zero_le _) (Nat.lt_succ_self _)) (by rw [lyo_0]; rfl) (rfl) rfl
        · have hi2 : k < 1560 := by have q := mt (nI_leI (a := 1560) (b := k) (by omega) (by omega)).mpr c_14; omega
          refine g_aload_n C 0 dX10_act_17 rfl ?_
          refine g_get_r C ob_154 1 (by decide) rfl wd_704 dX10_act_18 ?_
          refine g_iload_n C 1 dX10_act_21 rfl ?_
          refine g_aload_n C 0 dX10_act_22 rfl ?_
          refine g_get_r C ob_154 1 (by decide) rfl wd_704 dX10_act_23 ?_
          refine g_iload_n C 1 dX10_act_26 rfl ?_
          refine g_sipush C (nI 520) dX10_act_27 (by decide) ?_
          refine g_iadd_n C (d := k + 520) dX10_act_30 rfl ?_
          refine g_iald_n C (j := k + 520) ar_156 rfl (by omega) (by decide) dX10_act_31 ?_
          refine g_top (y := cpy k (fun i => mem 156 (i + 520)) (mem 156) (k + 520)) (rfl) ?_
          refine g_top (y := mem 156 (k + 520)) (cpy_out (by omega)) ?_
          refine g_iast_n C (j := k) ar_156 rfl (by omega) (by decide) dX10_act_32 ?_
          refine g_mem (mem2 := gr mem 156 (upd (cpy k (fun i => mem 156 (i + 520)) (mem 156)) k (mem 156 (k + 520)))) (gr_gr _ _ _ _) ?_
          refine g_iinc C (v := nI (k + 1)) (L2 := [(1, .int (nI (k + 1))), (0, .ref (gad G 154))]) 1 dX10_act_33 rfl (nI_1 _) (by decide) rfl ?_
          refine g_goto C 10 dX10_act_36 (by decide) ?_
          refine g_loc (L2 := [(0, .ref (gad G 154)), (1, .int (nI (k + 1)))]) [1, 0] rfl ?_
          exact g_eq (ih_10 (k + 1) (hi2) (by omega)) (by rw [cpy_s rfl]) (rfl) rfl
    refine g_loc (L2 := [(0, .ref (gad G 154)), (1, .int (nI 0))]) [1, 0] rfl ?_
    exact g_eq (lp_10 (_ + 1) 0 (Nat.zero_le _) (Nat.lt_succ_self _)) (by rw [cpy_0, gr_self]) (rfl) rfl
