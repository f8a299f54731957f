theorem dr_s (V : Nat → Int32) (sd : Int32) (k : Nat) : drF V sd (k + 1) = upd (upd (upd (upd (drF V sd k) (12 + k) (nI (nM V sd k))) (34 + 12 * nM V sd k) (nI k)) (33 + 12 * k) (crV V k)) (38 + 12 * k) (nI 0) := rfl
theorem crv_y {V : Nat → Int32} {m : Nat} (h : V (38 + 12 * m) = nI 1 ∨ V (38 + 12 * m) = nI 3) : V (33 + 12 * m) - V 4 = crV V m := by
  rw [crV, if_pos h, Int32.sub_eq_add_neg]
theorem crv_n {V : Nat → Int32} {m : Nat} (h : ¬ (V (38 + 12 * m) = nI 1 ∨ V (38 + 12 * m) = nI 3)) : V (33 + 12 * m) - nI 0 = crV V m := by
  rw [crV, if_neg h]
  exact Int32.sub_zero _

def rm_X10_seed : Room := { frames := 0, cells := 0, slots := 0, locals := 0 }
theorem iX10_seed : gIv yX10_seed cX10_seed 1 (some .long) 0 := ⟨⟨wd_860, wd_32, by decide +kernel, by decide +kernel, by decide +kernel⟩, wd_858, wd_859⟩
set_option maxRecDepth 100000 in
set_option maxHeartbeats 4000000 in
theorem c_X10_seed (l : Launch) (G : gG) (mem : gM) : gMet l yX10_seed cX10_seed 1 (some .long) rm_X10_seed G [.ref (gad G 154)] mem (fun a u => a = some (.long (seedR (mem 155))) ∧ u = mem) := by
  refine g_of (own := RX10) (L0 := [(0, .ref (gad G 154))]) (by decide +kernel) rfl (Nat.le_of_ble_eq_true rfl) rfl ?_
  intro p e s m args below meth c C Q hQ
  refine g_aload_n C 0 dX10_seed_0 rfl ?_
  refine g_get_r C ob_154 0 (by decide) rfl wd_703 dX10_seed_1 ?_
  refine g_bipush C (nI 6) dX10_seed_4 (by decide) ?_
  refine g_iald_n C (j := 6) ar_155 rfl (by omega) (by decide) dX10_seed_6 ?_
  refine g_if_ne C 16 dX10_seed_7 (by decide) (fun c_7 => ?_) (fun c_7 => ?_)
  · refine g_aload_n C 0 dX10_seed_16 rfl ?_
    refine g_get_r C ob_154 0 (by decide) rfl wd_703 dX10_seed_17 ?_
    refine g_bipush C (nI 10) dX10_seed_20 (by decide) ?_
    refine g_iald_n C (j := 10) ar_155 rfl (by omega) (by decide) dX10_seed_22 ?_
    refine g_i2l C dX10_seed_23 ?_
    refine g_lret C hQ rfl dX10_seed_24 ?_
    first
      | exact ⟨by rw [seedR, if_pos c_7], rfl⟩
      | exact ⟨by rw [seedR, if_neg c_7], rfl⟩
  · refine g_ldc2 C wd_861 dX10_seed_10 ?_
    refine g_goto C 24 dX10_seed_13 (by decide) ?_
    refine g_lret C hQ rfl dX10_seed_24 ?_
    first
      | exact ⟨by rw [seedR, if_pos c_7], rfl⟩
      | exact ⟨by rw [seedR, if_neg c_7], rfl⟩

def rm_X10_duty : Room := { frames := 0, cells := 0, slots := 0, locals := 0 }
theorem iX10_duty : gIv yX10_duty cX10_duty 2 (some .int) 1 := ⟨⟨wd_865, wd_32, by decide +kernel, by decide +kernel, by decide +kernel⟩, wd_863, wd_864⟩
set_option maxRecDepth 100000 in
set_option maxHeartbeats 4000000 in
theorem c_X10_duty (l : Launch) (G : gG) {T : Nat} (mem : gM) (g : Good T (mem 155)) (x : Int32) : gMet l yX10_duty cX10_duty 2 (some .int) rm_X10_duty G [.ref (gad G 154), .int x] mem (fun a u => a = some (.int (dutyR (mem 155) x)) ∧ u = mem) := by
  refine g_of (own := RX10) (L0 := [(0, .ref (gad G 154)), (1, .int x)]) (by decide +kernel) rfl (Nat.le_of_ble_eq_true rfl) rfl ?_
  intro p e s m args below meth c C Q hQ
  have hn10 := gd_n10 g
  have hzn := (gd_z g).2
  refine g_iload_n C 1 dX10_duty_0 rfl ?_
  refine g_if_ge C 9 dX10_duty_1 (by decide) (fun c_1 => ?_) (fun c_1 => ?_)
  · refine g_iload_n C 1 dX10_duty_9 rfl ?_
    refine g_aload_n C 0 dX10_duty_10 rfl ?_
    refine g_get_r C ob_154 0 (by decide) rfl wd_703 dX10_duty_11 ?_
    refine g_bipush C (nI 11) dX10_duty_14 (by decide) ?_
    refine g_iald_n C (j := 11) ar_155 rfl (by omega) (by decide) dX10_duty_16 ?_
    refine g_top (y := nI (vZ (mem 155))) ((gd_z g).1) ?_
    refine g_icmp_ge C 32 dX10_duty_17 (by decide) (fun c_17 => ?_) (fun c_17 => ?_)
    · refine g_ldc C wd_783 dX10_duty_32 ?_
      refine g_iret C hQ rfl dX10_duty_34 ?_
      first
        | exact ⟨by rw [duty_n g hj], rfl⟩
        | exact ⟨by rw [dutyR, if_pos c_1], rfl⟩
        | exact ⟨by rw [dutyR, if_neg (Int32.not_lt.mpr c_1), if_neg (Int32.not_lt.mpr c_17)], rfl⟩
    · obtain ⟨j, hj, rfl⟩ := lt_ex (by omega) ⟨c_1, Int32.not_le.mp c_17⟩
      refine g_aload_n C 0 dX10_duty_20 rfl ?_
      refine g_get_r C ob_154 0 (by decide) rfl wd_703 dX10_duty_21 ?_
      refine g_bipush C (nI 12) dX10_duty_24 (by decide) ?_
      refine g_iload_n C 1 dX10_duty_26 rfl ?_
      refine g_iadd_n C (d := 12 + j) dX10_duty_27 rfl ?_
      refine g_iald_n C (j := 12 + j) ar_155 rfl (by omega) (by decide) dX10_duty_28 ?_
      refine g_goto C 34 dX10_duty_29 (by decide) ?_
      refine g_iret C hQ rfl dX10_duty_34 ?_
      first
        | exact ⟨by rw [duty_n g hj], rfl⟩
        | exact ⟨by rw [dutyR, if_pos c_1], rfl⟩
        | exact ⟨by rw [dutyR, if_neg (Int32.not_lt.mpr c_1), if_neg (Int32.not_lt.mpr c_17)], rfl⟩
  · have c_1 : x < 0 := Int32.not_le.mp c_1
    refine g_ldc C wd_774 dX10_duty_4 ?_
    refine g_goto C 34 dX10_duty_6 (by decide) ?_
    refine g_iret C hQ rfl dX10_duty_34 ?_
    first
      | exact ⟨by rw [duty_n g hj], rfl⟩
      | exact ⟨by rw [dutyR, if_pos c_1], rfl⟩
      | exact ⟨by rw [dutyR, if_neg (Int32.not_lt.mpr c_1), if_neg (Int32.not_lt.mpr c_17)], rfl⟩

def rm_X10_ifLeft : Room := { frames := 3, cells := 0, slots := 0, locals := 69 }
theorem iX10_ifLeft : gIv yX10_ifLeft cX10_ifLeft 3 (some .int) 2 := ⟨⟨wd_869, wd_32, by decide +kernel, by decide +kernel, by decide +kernel⟩, wd_867, wd_868⟩
set_option maxRecDepth 100000 in
set_option maxHeartbeats 4000000 in
theorem c_X10_ifLeft (l : Launch) (G : gG) {T : Nat} (mem : gM) (g : Good T (mem 155)) (x y : Int32) : gMet l yX10_ifLeft cX10_ifLeft 3 (some .int) rm_X10_ifLeft G [.ref (gad G 154), .int x, .int y] mem (fun a u => a = some (.int (leftR (mem 155) x y)) ∧ MN mem u) := by
  refine g_of (own := RX10) (L0 := [(0, .ref (gad G 154)), (1, .int x), (2, .int y)]) (by decide +kernel) rfl (Nat.le_of_ble_eq_true rfl) rfl ?_
  intro p e s m args below meth c C Q hQ
  have hn10 := gd_n10 g
  have hcl := fa_cnt_le (lfP (mem 155) x) (vN (mem 155))
  have hl2 := gd_least g
  refine g_iload_n C 1 dX10_ifLeft_0 rfl ?_
  refine g_iconst C (nI 0) dX10_ifLeft_1 (by decide) ?_
  refine g_sipush C (nI 1023) dX10_ifLeft_2 (by decide) ?_
  refine g_cS1 C (As := [.int x, .int (nI 0), .int (nI 1023)]) (w := .int (b2i (0 ≤ x ∧ x ≤ nI 1023))) (mem3 := mem) iX10_in (c_X10_in l G mem x (nI 0) (nI 1023)) wd_771 rfl ⟨Nat.le_of_ble_eq_true rfl, Nat.le_of_ble_eq_true rfl⟩ ⟨rfl, rfl⟩ rfl (Nat.le_of_ble_eq_true rfl) dX10_ifLeft_5 (congrArg Value.int (b2i_congr (Iff.rfl))) (rfl) ?_
  refine g_ifb_eq C 15 dX10_ifLeft_8 (by decide) (fun c_8 => ?_) (fun c_8 => ?_)
  · refine g_ldc C wd_774 dX10_ifLeft_15 ?_
    refine g_iret C hQ rfl dX10_ifLeft_17 ?_
    first
      | exact ⟨by rw [leftR, if_neg (fun q => c_8 q.1)], MN.rf mem⟩
      | exact ⟨by rw [leftR, if_neg (fun q => c_12 q.2)], MN.rf mem⟩
  · refine g_iload_n C 2 dX10_ifLeft_11 rfl ?_
    refine g_if_ge C 18 dX10_ifLeft_12 (by decide) (fun c_12 => ?_) (fun c_12 => ?_)
    · refine g_aload_n C 0 dX10_ifLeft_18 rfl ?_
      refine g_iload_n C 1 dX10_ifLeft_19 rfl ?_
      refine g_cV1 C (As := [.int x]) (w := .int (nI (fa_cnt (lfP (mem 155) x) (vN (mem 155))))) (mem3 := gr mem 154 (upd (mem 154) 3 (nSd (mem 155) (mk (lfP (mem 155) x) (vN (mem 155)))))) iX10_seeds (c_X10_seeds l G mem g x) wd_845 ob_154 rfl ⟨Nat.le_of_ble_eq_true rfl, Nat.le_of_ble_eq_true rfl⟩ ⟨rfl, rfl⟩ rfl (Nat.le_of_ble_eq_true rfl) dX10_ifLeft_20 (rfl) (rfl) ?_
      refine g_aload_n C 0 dX10_ifLeft_23 rfl ?_
      refine g_get_r C ob_154 0 (by decide) rfl wd_703 dX10_ifLeft_24 ?_
      refine g_iconst C (nI 2) dX10_ifLeft_27 (by decide) ?_
      refine g_iald_n C (j := 2) ar_155 rfl (by omega) (by decide) dX10_ifLeft_28 ?_
      refine g_top (y := mem 155 2) (rfl) ?_
      refine g_top (y := nI (toN (mem 155 2))) ((gd_least g).1) ?_
      refine g_icmp_ge C 35 dX10_ifLeft_29 (by decide) (fun c_29 => ?_) (fun c_29 => ?_)
      · have c_29 : toN (mem 155 2) ≤ fa_cnt (lfP (mem 155) x) (vN (mem 155)) := (nI_leI (by omega) (by omega)).mp c_29
        refine g_aload_n C 0 dX10_ifLeft_35 rfl ?_
        refine g_aload_n C 0 dX10_ifLeft_36 rfl ?_
        refine g_get_i C ob_154 3 (by decide) rfl wd_706 dX10_ifLeft_37 ?_
        refine g_top (y := nSd (mem 155) (mk (lfP (mem 155) x) (vN (mem 155)))) (rfl) ?_
        refine g_cV0 C (As := [.int (nSd (mem 155) (mk (lfP (mem 155) x) (vN (mem 155))))]) (mem3 := gr (gr mem 154 (upd (upd (mem 154) 3 (nSd (mem 155) (mk (lfP (mem 155) x) (vN (mem 155))))) 5 (dSt (nSd (mem 155) (mk (lfP (mem 155) x) (vN (mem 155)))) (vN (mem 155))))) 157 (cpy (vN (mem 155)) (fun k => nI (dM (vW (mem 155)) (vN (mem 155)) (nSd (mem 155) (mk (lfP (mem 155) x) (vN (mem 155)))) k)) (mem 157))) iX10_lists (c_X10_lists l G (gr mem 154 (upd (mem 154) 3 (nSd (mem 155) (mk (lfP (mem 155) x) (vN (mem 155)))))) (n := vN (mem 155)) (W := vW (mem 155)) (show mem 155 5 = nI (vN (mem 155)) from gd_n g) (gd_n10 g) (fun m hm => (gd_w g hm).1) (gd_W g) (nSd (mem 155) (mk (lfP (mem 155) x) (vN (mem 155))))) wd_849 ob_154 rfl ⟨Nat.le_of_ble_eq_true rfl, Nat.le_of_ble_eq_true rfl⟩ ⟨rfl, rfl⟩ rfl (Nat.le_of_ble_eq_true rfl) dX10_ifLeft_40 (congrArg (fun z => gr z 157 (cpy (vN (mem 155)) (fun k => nI (dM (vW (mem 155)) (vN (mem 155)) (nSd (mem 155) (mk (lfP (mem 155) x) (vN (mem 155)))) k)) (mem 157))) (gr_gr _ _ _ _)) ?_
        refine g_iload_n C 2 dX10_ifLeft_43 rfl ?_
        refine g_aload_n C 0 dX10_ifLeft_44 rfl ?_
        refine g_get_r C ob_154 0 (by decide) rfl wd_703 dX10_ifLeft_45 ?_
        refine g_iconst C (nI 5) dX10_ifLeft_48 (by decide) ?_
        refine g_iald_n C (j := 5) ar_155 rfl (by omega) (by decide) dX10_ifLeft_49 ?_
        refine g_top (y := mem 155 5) (rfl) ?_
        refine g_top (y := nI (vN (mem 155))) (gd_n g) ?_
        refine g_icmp_ge C 62 dX10_ifLeft_50 (by decide) (fun c_50 => ?_) (fun c_50 => ?_)
        · refine g_ldc C wd_783 dX10_ifLeft_62 ?_
          refine g_iret C hQ rfl dX10_ifLeft_64 ?_
          first
            | exact ⟨by rw [leftR, if_pos ⟨c_8, c_12⟩, if_pos c_29, if_pos (Int32.not_le.mp c_50), ej], ⟨rfl, rfl, rfl, rfl, rfl, fun k hk => by rw [gr_n (by omega), gr_n (by omega)]⟩⟩
            | exact ⟨by rw [leftR, if_pos ⟨c_8, c_12⟩, if_pos c_29, if_neg (Int32.not_lt.mpr c_50)], ⟨rfl, rfl, rfl, rfl, rfl, fun k hk => by rw [gr_n (by omega), gr_n (by omega)]⟩⟩
        · obtain ⟨j, hj, rfl⟩ := lt_ex (by omega) ⟨c_12, Int32.not_le.mp c_50⟩
          have ej : toN (nI j) = j := toN_nI (by omega)
          refine g_aload_n C 0 dX10_ifLeft_53 rfl ?_
          refine g_get_r C ob_154 4 (by decide) rfl wd_707 dX10_ifLeft_54 ?_
          refine g_iload_n C 2 dX10_ifLeft_57 rfl ?_
          refine g_iald_n C (j := j) ar_157 rfl (by omega) (by decide) dX10_ifLeft_58 ?_
          refine g_top (y := cpy (vN (mem 155)) (fun k => nI (dM (vW (mem 155)) (vN (mem 155)) (nSd (mem 155) (mk (lfP (mem 155) x) (vN (mem 155)))) k)) (mem 157) j) (rfl) ?_
          refine g_top (y := nI (nM (mem 155) (nSd (mem 155) (mk (lfP (mem 155) x) (vN (mem 155)))) j)) (cpy_in hj) ?_
          refine g_goto C 64 dX10_ifLeft_59 (by decide) ?_
          refine g_iret C hQ rfl dX10_ifLeft_64 ?_
          first
            | exact ⟨by rw [leftR, if_pos ⟨c_8, c_12⟩, if_pos c_29, if_pos (Int32.not_le.mp c_50), ej], ⟨rfl, rfl, rfl, rfl, rfl, fun k hk => by rw [gr_n (by omega), gr_n (by omega)]⟩⟩
            | exact ⟨by rw [leftR, if_pos ⟨c_8, c_12⟩, if_pos c_29, if_neg (Int32.not_lt.mpr c_50)], ⟨rfl, rfl, rfl, rfl, rfl, fun k hk => by rw [gr_n (by omega), gr_n (by omega)]⟩⟩
      · have c_29 : ¬ toN (mem 155 2) ≤ fa_cnt (lfP (mem 155) x) (vN (mem 155)) := mt (nI_leI (by omega) (by omega)).mpr c_29
        refine g_ldc C wd_836 dX10_ifLeft_32 ?_
        refine g_iret C hQ rfl dX10_ifLeft_34 ?_
        exact ⟨by rw [leftR, if_pos ⟨c_8, c_12⟩, if_neg c_29], ⟨rfl, rfl, rfl, rfl, rfl, fun k hk => by rw [gr_n (by omega)]⟩⟩
    · refine g_ldc C wd_774 dX10_ifLeft_15 ?_
      refine g_iret C hQ rfl dX10_ifLeft_17 ?_
      first
        | exact ⟨by rw [leftR, if_neg (fun q => c_8 q.1)], MN.rf mem⟩
        | exact ⟨by rw [leftR, if_neg (fun q => c_12 q.2)], MN.rf mem⟩

def rm_X10_draw : Room := { frames := 3, cells := 0, slots := 0, locals := 69 }
theorem iX10_draw : gIv yX10_draw cX10_draw 2 (some .int) 0 := ⟨⟨wd_844, wd_32, by decide +kernel, by decide +kernel, by decide +kernel⟩, wd_842, wd_843⟩
set_option maxRecDepth 100000 in
set_option maxHeartbeats 4000000 in
theorem c_X10_draw (l : Launch) (G : gG) {T : Nat} (mem : gM) (g : Good T (mem 155)) {h : Nat} (hh : mem 154 2 = nI h) (h4 : h ≤ 4) : gMet l yX10_draw cX10_draw 2 (some .int) rm_X10_draw G [.ref (gad G 154)] mem (fun a u => ∃ rr : Int32, a = some (.int rr) ∧ MX h mem u (toN (mem 155 2) ≤ fa_cnt (vRR (mem 155)) (vN (mem 155))) (mem 155 6 + nI 1) (kState) (drV (mem 155) (nSd (mem 155) (mk (vRR (mem 155)) (vN (mem 155))))) rr) := by
  refine g_of (own := RX10) (L0 := [(0, .ref (gad G 154))]) (by decide +kernel) rfl (Nat.le_of_ble_eq_true rfl) rfl ?_
  intro p e s m args below meth c C Q hQ
  have hn10 := gd_n10 g
  have hcl := fa_cnt_le (lfP (mem 155) (nI 0)) (vN (mem 155))
  have hl2 := gd_least g
  refine g_aload_n C 0 dX10_draw_0 rfl ?_
  refine g_iconst C (nI 0) dX10_draw_1 (by decide) ?_
  refine g_cV1 C (As := [.int (nI 0)]) (w := .int (nI (fa_cnt (lfP (mem 155) (nI 0)) (vN (mem 155))))) (mem3 := gr mem 154 (upd (mem 154) 3 (nSd (mem 155) (mk (lfP (mem 155) (nI 0)) (vN (mem 155)))))) iX10_seeds (c_X10_seeds l G mem g (nI 0)) wd_845 ob_154 rfl ⟨Nat.le_of_ble_eq_true rfl, Nat.le_of_ble_eq_true rfl⟩ ⟨rfl, rfl⟩ rfl (Nat.le_of_ble_eq_true rfl) dX10_draw_2 (rfl) (rfl) ?_
  refine g_aload_n C 0 dX10_draw_5 rfl ?_
  refine g_get_r C ob_154 0 (by decide) rfl wd_703 dX10_draw_6 ?_
  refine g_iconst C (nI 2) dX10_draw_9 (by decide) ?_
  refine g_iald_n C (j := 2) ar_155 rfl (by omega) (by decide) dX10_draw_10 ?_
  refine g_top (y := mem 155 2) (rfl) ?_
  refine g_top (y := nI (toN (mem 155 2))) ((gd_least g).1) ?_
  refine g_icmp_ge C 17 dX10_draw_11 (by decide) (fun c_11 => ?_) (fun c_11 => ?_)
  · have c_11 : toN (mem 155 2) ≤ fa_cnt (lfP (mem 155) (nI 0)) (vN (mem 155)) := (nI_leI (by omega) (by omega)).mp c_11
    refine g_aload_n C 0 dX10_draw_17 rfl ?_
    refine g_cV0 C (As := []) (mem3 := gr (gr (gr mem 154 (upd (mem 154) 3 (nSd (mem 155) (mk (lfP (mem 155) (nI 0)) (vN (mem 155)))))) 156 (pshP h (mem 155) (mem 156))) 154 (upd (upd (mem 154) 3 (nSd (mem 155) (mk (lfP (mem 155) (nI 0)) (vN (mem 155))))) 2 (nI (pushN h)))) iX10_act (c_X10_act l G (gr mem 154 (upd (mem 154) 3 (nSd (mem 155) (mk (lfP (mem 155) (nI 0)) (vN (mem 155)))))) hh h4) wd_776 ob_154 rfl ⟨Nat.le_of_ble_eq_true rfl, Nat.le_of_ble_eq_true rfl⟩ ⟨rfl, rfl⟩ rfl (Nat.le_of_ble_eq_true rfl) dX10_draw_18 (rfl) ?_
    refine g_mem (mem2 := gr (gr mem 154 (upd (upd (mem 154) 3 (nSd (mem 155) (mk (lfP (mem 155) (nI 0)) (vN (mem 155))))) 2 (nI (pushN h)))) 156 (pshP h (mem 155) (mem 156))) ((gr_comm _ (by decide) _ _).trans (congrArg (fun z => gr z 156 (pshP h (mem 155) (mem 156))) (gr_gr _ _ _ _))) ?_
    refine g_aload_n C 0 dX10_draw_21 rfl ?_
    refine g_get_r C ob_154 0 (by decide) rfl wd_703 dX10_draw_22 ?_
    refine g_bipush C (nI 6) dX10_draw_25 (by decide) ?_
    refine g_dup2 C dX10_draw_27 rfl rfl ?_
    refine g_iald_n C (j := 6) ar_155 rfl (by omega) (by decide) dX10_draw_28 ?_
    refine g_top (y := mem 155 6) (rfl) ?_
    refine g_iconst C (nI 1) dX10_draw_29 (by decide) ?_
    refine g_iadd C dX10_draw_30 ?_
    refine g_iast_n C (j := 6) ar_155 rfl (by omega) (by decide) dX10_draw_31 ?_
    refine g_aload_n C 0 dX10_draw_32 rfl ?_
    refine g_get_r C ob_154 0 (by decide) rfl wd_703 dX10_draw_33 ?_
    refine g_bipush C (nI 10) dX10_draw_36 (by decide) ?_
    refine g_aload_n C 0 dX10_draw_38 rfl ?_
    refine g_get_i C ob_154 3 (by decide) rfl wd_706 dX10_draw_39 ?_
    refine g_top (y := nSd (mem 155) (mk (lfP (mem 155) (nI 0)) (vN (mem 155)))) (rfl) ?_
    refine g_iast_n C (j := 10) ar_155 rfl (by omega) (by decide) dX10_draw_42 ?_
    refine g_mem (mem2 := gr (gr (gr mem 154 (upd (upd (mem 154) 3 (nSd (mem 155) (mk (lfP (mem 155) (nI 0)) (vN (mem 155))))) 2 (nI (pushN h)))) 156 (pshP h (mem 155) (mem 156))) 155 (upd (upd (mem 155) 6 ((mem 155 6) + (nI 1))) 10 (nSd (mem 155) (mk (lfP (mem 155) (nI 0)) (vN (mem 155)))))) (gr_gr _ _ _ _) ?_
    refine g_aload_n C 0 dX10_draw_43 rfl ?_
    refine g_aload_n C 0 dX10_draw_44 rfl ?_
    refine g_get_i C ob_154 3 (by decide) rfl wd_706 dX10_draw_45 ?_
    refine g_top (y := nSd (mem 155) (mk (lfP (mem 155) (nI 0)) (vN (mem 155)))) (rfl) ?_
    refine g_cV0 C (As := [.int (nSd (mem 155) (mk (lfP (mem 155) (nI 0)) (vN (mem 155))))]) (mem3 := gr (gr (gr (gr mem 154 (upd (upd (upd (mem 154) 3 (nSd (mem 155) (mk (lfP (mem 155) (nI 0)) (vN (mem 155))))) 2 (nI (pushN h))) 5 (dSt (nSd (mem 155) (mk (lfP (mem 155) (nI 0)) (vN (mem 155)))) (vN (mem 155))))) 156 (pshP h (mem 155) (mem 156))) 155 (upd (upd (mem 155) 6 ((mem 155 6) + (nI 1))) 10 (nSd (mem 155) (mk (lfP (mem 155) (nI 0)) (vN (mem 155)))))) 157 (cpy (vN (mem 155)) (fun k => nI (dM (vW (mem 155)) (vN (mem 155)) (nSd (mem 155) (mk (lfP (mem 155) (nI 0)) (vN (mem 155)))) k)) (mem 157))) iX10_lists (c_X10_lists l G (gr (gr (gr mem 154 (upd (upd (mem 154) 3 (nSd (mem 155) (mk (lfP (mem 155) (nI 0)) (vN (mem 155))))) 2 (nI (pushN h)))) 156 (pshP h (mem 155) (mem 156))) 155 (upd (upd (mem 155) 6 ((mem 155 6) + (nI 1))) 10 (nSd (mem 155) (mk (lfP (mem 155) (nI 0)) (vN (mem 155)))))) (n := vN (mem 155)) (W := vW (mem 155)) (show mem 155 5 = nI (vN (mem 155)) from gd_n g) (gd_n10 g) (fun m hm => (upd_n (by omega)).trans ((upd_n (by omega)).trans (gd_w g hm).1)) (gd_W g) (nSd (mem 155) (mk (lfP (mem 155) (nI 0)) (vN (mem 155))))) wd_849 ob_154 rfl ⟨Nat.le_of_ble_eq_true rfl, Nat.le_of_ble_eq_true rfl⟩ ⟨rfl, rfl⟩ rfl (Nat.le_of_ble_eq_true rfl) dX10_draw_48 (congrArg (fun z => gr z 157 (cpy (vN (mem 155)) (fun k => nI (dM (vW (mem 155)) (vN (mem 155)) (nSd (mem 155) (mk (lfP (mem 155) (nI 0)) (vN (mem 155)))) k)) (mem 157))) ((gr_comm _ (by decide) _ _).trans (congrArg (fun z => gr z 155 (upd (upd (mem 155) 6 ((mem 155 6) + (nI 1))) 10 (nSd (mem 155) (mk (lfP (mem 155) (nI 0)) (vN (mem 155)))))) ((gr_comm _ (by decide) _ _).trans (congrArg (fun z => gr z 156 (pshP h (mem 155) (mem 156))) (gr_gr _ _ _ _)))))) ?_
    refine g_aload_n C 0 dX10_draw_51 rfl ?_
    refine g_get_r C ob_154 0 (by decide) rfl wd_703 dX10_draw_52 ?_
    refine g_bipush C (nI 11) dX10_draw_55 (by decide) ?_
    refine g_aload_n C 0 dX10_draw_57 rfl ?_
    refine g_get_r C ob_154 0 (by decide) rfl wd_703 dX10_draw_58 ?_
    refine g_iconst C (nI 5) dX10_draw_61 (by decide) ?_
    refine g_iald_n C (j := 5) ar_155 rfl (by omega) (by decide) dX10_draw_62 ?_
    refine g_top (y := mem 155 5) (rfl) ?_
    refine g_top (y := nI (vN (mem 155))) (gd_n g) ?_
    refine g_iast_n C (j := 11) ar_155 rfl (by omega) (by decide) dX10_draw_63 ?_
    refine g_mem (mem2 := gr (gr (gr (gr mem 154 (upd (upd (upd (mem 154) 3 (nSd (mem 155) (mk (lfP (mem 155) (nI 0)) (vN (mem 155))))) 2 (nI (pushN h))) 5 (dSt (nSd (mem 155) (mk (lfP (mem 155) (nI 0)) (vN (mem 155)))) (vN (mem 155))))) 156 (pshP h (mem 155) (mem 156))) 155 (upd (upd (upd (mem 155) 6 ((mem 155 6) + (nI 1))) 10 (nSd (mem 155) (mk (lfP (mem 155) (nI 0)) (vN (mem 155))))) 11 (nI (vN (mem 155))))) 157 (cpy (vN (mem 155)) (fun k => nI (dM (vW (mem 155)) (vN (mem 155)) (nSd (mem 155) (mk (lfP (mem 155) (nI 0)) (vN (mem 155)))) k)) (mem 157))) ((gr_comm _ (by decide) _ _).trans (congrArg (fun z => gr z 157 (cpy (vN (mem 155)) (fun k => nI (dM (vW (mem 155)) (vN (mem 155)) (nSd (mem 155) (mk (lfP (mem 155) (nI 0)) (vN (mem 155)))) k)) (mem 157))) (gr_gr _ _ _ _))) ?_
    refine g_iconst C (nI 0) dX10_draw_64 (by decide) ?_
    refine g_istore_n C (L2 := [(1, .int (nI 0)), (0, .ref (gad G 154))]) dX10_draw_65 (by decide) rfl ?_
    have lp_66 : ∀ (fu : Nat) (k : Nat), (k ≤ vN (mem 155)) → vN (mem 155) - k < fu → gV p l e rm_X10_draw s m args below meth c 0 0 Q G 2 (gr (gr (gr (gr mem 154 (upd (upd (upd (mem 154) 3 (nSd (mem 155) (mk (lfP (mem 155) (nI 0)) (vN (mem 155))))) 2 (nI (pushN h))) 5 (dSt (nSd (mem 155) (mk (lfP (mem 155) (nI 0)) (vN (mem 155)))) (vN (mem 155))))) 156 (pshP h (mem 155) (mem 156))) 155 (drF (mem 155) (nSd (mem 155) (mk (lfP (mem 155) (nI 0)) (vN (mem 155)))) k)) 157 (cpy (vN (mem 155)) (fun k => nI (dM (vW (mem 155)) (vN (mem 155)) (nSd (mem 155) (mk (lfP (mem 155) (nI 0)) (vN (mem 155)))) k)) (mem 157))) 66 [(0, .ref (gad G 154)), (1, .int (nI k))] [] := by
      intro fu
      induction fu with
      | zero => intro k _ hfu; exact absurd hfu (Nat.not_lt_zero _)
      | succ fu ih_66 =>
        intro k hk hfu_66
        have hdv := dr_vals g (nSd (mem 155) (mk (lfP (mem 155) (nI 0)) (vN (mem 155)))) k hk
        refine g_iload_n C 1 dX10_draw_66 rfl ?_
        refine g_aload_n C 0 dX10_draw_67 rfl ?_
        refine g_get_r C ob_154 0 (by decide) rfl wd_703 dX10_draw_68 ?_
        refine g_iconst C (nI 5) dX10_draw_71 (by decide) ?_
        refine g_iald_n C (j := 5) ar_155 rfl (by omega) (by decide) dX10_draw_72 ?_
        refine g_top (y := drF (mem 155) (nSd (mem 155) (mk (lfP (mem 155) (nI 0)) (vN (mem 155)))) k 5) (rfl) ?_
        refine g_top (y := nI (vN (mem 155))) ((hdv.2.2.2.2.2 5 (by decide) (by decide) (by decide) (by decide) (fun m _ => by omega)).trans (gd_n g)) ?_
        refine g_icmp_ge C 178 dX10_draw_73 (by decide) (fun c_73 => ?_) (fun c_73 => ?_)
        · have hin : k = vN (mem 155) := by have q := (nI_leI (a := vN (mem 155)) (b := k) (by omega) (by omega)).mp c_73; omega
          rw [hin]
          refine g_aload_n C 0 dX10_draw_178 rfl ?_
          refine g_get_r C ob_154 0 (by decide) rfl wd_703 dX10_draw_179 ?_
          refine g_bipush C (nI 6) dX10_draw_182 (by decide) ?_
          refine g_iald_n C (j := 6) ar_155 rfl (by omega) (by decide) dX10_draw_184 ?_
          refine g_top (y := drF (mem 155) (nSd (mem 155) (mk (lfP (mem 155) (nI 0)) (vN (mem 155)))) (vN (mem 155)) 6) (rfl) ?_
          refine g_top (y := mem 155 6 + nI 1) ((dr_vals g _ _ (Nat.le_refl _)).1.1) ?_
          refine g_iret C hQ rfl dX10_draw_185 ?_
          exact ⟨_, rfl, fun _ => ⟨rfl, by rw [← lf_0]; rfl, rfl, rfl, rfl, rfl, fun k hk => by rw [gr_n (by omega), gr_n (by omega), gr_n (by omega), gr_n (by omega)]⟩, fun q => absurd (by rw [← lf_0]; exact c_11) q⟩
        · have hi2 : k < vN (mem 155) := by have q := mt (nI_leI (a := vN (mem 155)) (b := k) (by omega) (by omega)).mpr c_73; omega
          have hnm := (nM_all g (nSd (mem 155) (mk (lfP (mem 155) (nI 0)) (vN (mem 155))))).1 k hi2
          refine g_aload_n C 0 dX10_draw_76 rfl ?_
          refine g_get_r C ob_154 0 (by decide) rfl wd_703 dX10_draw_77 ?_
          refine g_bipush C (nI 12) dX10_draw_80 (by decide) ?_
          refine g_iload_n C 1 dX10_draw_82 rfl ?_
          refine g_iadd_n C (d := 12 + k) dX10_draw_83 rfl ?_
          refine g_aload_n C 0 dX10_draw_84 rfl ?_
          refine g_get_r C ob_154 4 (by decide) rfl wd_707 dX10_draw_85 ?_
          refine g_iload_n C 1 dX10_draw_88 rfl ?_
          refine g_iald_n C (j := k) ar_157 rfl (by omega) (by decide) dX10_draw_89 ?_
          refine g_top (y := cpy (vN (mem 155)) (fun k => nI (dM (vW (mem 155)) (vN (mem 155)) (nSd (mem 155) (mk (lfP (mem 155) (nI 0)) (vN (mem 155)))) k)) (mem 157) k) (rfl) ?_
          refine g_top (y := nI (nM (mem 155) (nSd (mem 155) (mk (lfP (mem 155) (nI 0)) (vN (mem 155)))) k)) (cpy_in hi2) ?_
          refine g_iast_n C (j := 12 + k) ar_155 rfl (by omega) (by decide) dX10_draw_90 ?_
          refine g_mem (mem2 := gr (gr (gr (gr mem 154 (upd (upd (upd (mem 154) 3 (nSd (mem 155) (mk (lfP (mem 155) (nI 0)) (vN (mem 155))))) 2 (nI (pushN h))) 5 (dSt (nSd (mem 155) (mk (lfP (mem 155) (nI 0)) (vN (mem 155)))) (vN (mem 155))))) 156 (pshP h (mem 155) (mem 156))) 155 (upd (drF (mem 155) (nSd (mem 155) (mk (lfP (mem 155) (nI 0)) (vN (mem 155)))) k) (12 + k) (nI (nM (mem 155) (nSd (mem 155) (mk (lfP (mem 155) (nI 0)) (vN (mem 155)))) k)))) 157 (cpy (vN (mem 155)) (fun k => nI (dM (vW (mem 155)) (vN (mem 155)) (nSd (mem 155) (mk (lfP (mem 155) (nI 0)) (vN (mem 155)))) k)) (mem 157))) ((gr_comm _ (by decide) _ _).trans (congrArg (fun z => gr z 157 (cpy (vN (mem 155)) (fun k => nI (dM (vW (mem 155)) (vN (mem 155)) (nSd (mem 155) (mk (lfP (mem 155) (nI 0)) (vN (mem 155)))) k)) (mem 157))) (gr_gr _ _ _ _))) ?_
          refine g_aload_n C 0 dX10_draw_91 rfl ?_
          refine g_get_r C ob_154 0 (by decide) rfl wd_703 dX10_draw_92 ?_
          refine g_aload_n C 0 dX10_draw_95 rfl ?_
          refine g_get_r C ob_154 4 (by decide) rfl wd_707 dX10_draw_96 ?_
          refine g_iload_n C 1 dX10_draw_99 rfl ?_
          refine g_iald_n C (j := k) ar_157 rfl (by omega) (by decide) dX10_draw_100 ?_
          refine g_top (y := cpy (vN (mem 155)) (fun k => nI (dM (vW (mem 155)) (vN (mem 155)) (nSd (mem 155) (mk (lfP (mem 155) (nI 0)) (vN (mem 155)))) k)) (mem 157) k) (rfl) ?_
          refine g_top (y := nI (nM (mem 155) (nSd (mem 155) (mk (lfP (mem 155) (nI 0)) (vN (mem 155)))) k)) (cpy_in hi2) ?_
          refine g_iconst C (nI 4) dX10_draw_101 (by decide) ?_
          refine g_cS1 C (As := [.int (nI (nM (mem 155) (nSd (mem 155) (mk (lfP (mem 155) (nI 0)) (vN (mem 155)))) k)), .int (nI 4)]) (w := .int (nI (34 + 12 * (nM (mem 155) (nSd (mem 155) (mk (lfP (mem 155) (nI 0)) (vN (mem 155)))) k)))) (mem3 := gr (gr (gr (gr mem 154 (upd (upd (upd (mem 154) 3 (nSd (mem 155) (mk (lfP (mem 155) (nI 0)) (vN (mem 155))))) 2 (nI (pushN h))) 5 (dSt (nSd (mem 155) (mk (lfP (mem 155) (nI 0)) (vN (mem 155)))) (vN (mem 155))))) 156 (pshP h (mem 155) (mem 156))) 155 (upd (drF (mem 155) (nSd (mem 155) (mk (lfP (mem 155) (nI 0)) (vN (mem 155)))) k) (12 + k) (nI (nM (mem 155) (nSd (mem 155) (mk (lfP (mem 155) (nI 0)) (vN (mem 155)))) k)))) 157 (cpy (vN (mem 155)) (fun k => nI (dM (vW (mem 155)) (vN (mem 155)) (nSd (mem 155) (mk (lfP (mem 155) (nI 0)) (vN (mem 155)))) k)) (mem 157))) iX10_at (c_X10_at l G (gr (gr (gr (gr mem 154 (upd (upd (upd (mem 154) 3 (nSd (mem 155) (mk (lfP (mem 155) (nI 0)) (vN (mem 155))))) 2 (nI (pushN h))) 5 (dSt (nSd (mem 155) (mk (lfP (mem 155) (nI 0)) (vN (mem 155)))) (vN (mem 155))))) 156 (pshP h (mem 155) (mem 156))) 155 (upd (drF (mem 155) (nSd (mem 155) (mk (lfP (mem 155) (nI 0)) (vN (mem 155)))) k) (12 + k) (nI (nM (mem 155) (nSd (mem 155) (mk (lfP (mem 155) (nI 0)) (vN (mem 155)))) k)))) 157 (cpy (vN (mem 155)) (fun k => nI (dM (vW (mem 155)) (vN (mem 155)) (nSd (mem 155) (mk (lfP (mem 155) (nI 0)) (vN (mem 155)))) k)) (mem 157))) (nM (mem 155) (nSd (mem 155) (mk (lfP (mem 155) (nI 0)) (vN (mem 155)))) k) 4) wd_780 rfl ⟨Nat.le_of_ble_eq_true rfl, Nat.le_of_ble_eq_true rfl⟩ ⟨rfl, rfl⟩ rfl (Nat.le_of_ble_eq_true rfl) dX10_draw_102 (congrArg Value.int (congrArg nI (by omega))) (rfl) ?_
          refine g_iload_n C 1 dX10_draw_105 rfl ?_
          refine g_iast_n C (j := 34 + 12 * (nM (mem 155) (nSd (mem 155) (mk (lfP (mem 155) (nI 0)) (vN (mem 155)))) k)) ar_155 rfl (by omega) (by decide) dX10_draw_106 ?_
          refine g_mem (mem2 := gr (gr (gr (gr mem 154 (upd (upd (upd (mem 154) 3 (nSd (mem 155) (mk (lfP (mem 155) (nI 0)) (vN (mem 155))))) 2 (nI (pushN h))) 5 (dSt (nSd (mem 155) (mk (lfP (mem 155) (nI 0)) (vN (mem 155)))) (vN (mem 155))))) 156 (pshP h (mem 155) (mem 156))) 155 (upd (upd (drF (mem 155) (nSd (mem 155) (mk (lfP (mem 155) (nI 0)) (vN (mem 155)))) k) (12 + k) (nI (nM (mem 155) (nSd (mem 155) (mk (lfP (mem 155) (nI 0)) (vN (mem 155)))) k))) (34 + 12 * (nM (mem 155) (nSd (mem 155) (mk (lfP (mem 155) (nI 0)) (vN (mem 155)))) k)) (nI k))) 157 (cpy (vN (mem 155)) (fun k => nI (dM (vW (mem 155)) (vN (mem 155)) (nSd (mem 155) (mk (lfP (mem 155) (nI 0)) (vN (mem 155)))) k)) (mem 157))) ((gr_comm _ (by decide) _ _).trans (congrArg (fun z => gr z 157 (cpy (vN (mem 155)) (fun k => nI (dM (vW (mem 155)) (vN (mem 155)) (nSd (mem 155) (mk (lfP (mem 155) (nI 0)) (vN (mem 155)))) k)) (mem 157))) (gr_gr _ _ _ _))) ?_
          refine g_aload_n C 0 dX10_draw_107 rfl ?_
          refine g_get_r C ob_154 0 (by decide) rfl wd_703 dX10_draw_108 ?_
          refine g_iload_n C 1 dX10_draw_111 rfl ?_
          refine g_iconst C (nI 3) dX10_draw_112 (by decide) ?_
          refine g_cS1 C (As := [.int (nI k), .int (nI 3)]) (w := .int (nI (33 + 12 * k))) (mem3 := gr (gr (gr (gr mem 154 (upd (upd (upd (mem 154) 3 (nSd (mem 155) (mk (lfP (mem 155) (nI 0)) (vN (mem 155))))) 2 (nI (pushN h))) 5 (dSt (nSd (mem 155) (mk (lfP (mem 155) (nI 0)) (vN (mem 155)))) (vN (mem 155))))) 156 (pshP h (mem 155) (mem 156))) 155 (upd (upd (drF (mem 155) (nSd (mem 155) (mk (lfP (mem 155) (nI 0)) (vN (mem 155)))) k) (12 + k) (nI (nM (mem 155) (nSd (mem 155) (mk (lfP (mem 155) (nI 0)) (vN (mem 155)))) k))) (34 + 12 * (nM (mem 155) (nSd (mem 155) (mk (lfP (mem 155) (nI 0)) (vN (mem 155)))) k)) (nI k))) 157 (cpy (vN (mem 155)) (fun k => nI (dM (vW (mem 155)) (vN (mem 155)) (nSd (mem 155) (mk (lfP (mem 155) (nI 0)) (vN (mem 155)))) k)) (mem 157))) iX10_at (c_X10_at l G (gr (gr (gr (gr mem 154 (upd (upd (upd (mem 154) 3 (nSd (mem 155) (mk (lfP (mem 155) (nI 0)) (vN (mem 155))))) 2 (nI (pushN h))) 5 (dSt (nSd (mem 155) (mk (lfP (mem 155) (nI 0)) (vN (mem 155)))) (vN (mem 155))))) 156 (pshP h (mem 155) (mem 156))) 155 (upd (upd (drF (mem 155) (nSd (mem 155) (mk (lfP (mem 155) (nI 0)) (vN (mem 155)))) k) (12 + k) (nI (nM (mem 155) (nSd (mem 155) (mk (lfP (mem 155) (nI 0)) (vN (mem 155)))) k))) (34 + 12 * (nM (mem 155) (nSd (mem 155) (mk (lfP (mem 155) (nI 0)) (vN (mem 155)))) k)) (nI k))) 157 (cpy (vN (mem 155)) (fun k => nI (dM (vW (mem 155)) (vN (mem 155)) (nSd (mem 155) (mk (lfP (mem 155) (nI 0)) (vN (mem 155)))) k)) (mem 157))) k 3) wd_780 rfl ⟨Nat.le_of_ble_eq_true rfl, Nat.le_of_ble_eq_true rfl⟩ ⟨rfl, rfl⟩ rfl (Nat.le_of_ble_eq_true rfl) dX10_draw_113 (congrArg Value.int (congrArg nI (by omega))) (rfl) ?_
          refine g_dup2 C dX10_draw_116 rfl rfl ?_
          refine g_iald_n C (j := 33 + 12 * k) ar_155 rfl (by omega) (by decide) dX10_draw_117 ?_
          refine g_top (y := (upd (upd (drF (mem 155) (nSd (mem 155) (mk (lfP (mem 155) (nI 0)) (vN (mem 155)))) k) (12 + k) (nI (nM (mem 155) (nSd (mem 155) (mk (lfP (mem 155) (nI 0)) (vN (mem 155)))) k))) (34 + 12 * (nM (mem 155) (nSd (mem 155) (mk (lfP (mem 155) (nI 0)) (vN (mem 155)))) k)) (nI k)) (33 + 12 * k)) (rfl) ?_
          refine g_top (y := mem 155 (33 + 12 * k)) (by rw [upd_n (by omega), upd_n (by omega), hdv.2.2.1 k (by omega), if_neg (Nat.lt_irrefl k)]) ?_
          refine g_aload_n C 0 dX10_draw_118 rfl ?_
          refine g_get_r C ob_154 0 (by decide) rfl wd_703 dX10_draw_119 ?_
          refine g_iload_n C 1 dX10_draw_122 rfl ?_
          refine g_bipush C (nI 8) dX10_draw_123 (by decide) ?_
          refine g_cS1 C (As := [.int (nI k), .int (nI 8)]) (w := .int (nI (38 + 12 * k))) (mem3 := gr (gr (gr (gr mem 154 (upd (upd (upd (mem 154) 3 (nSd (mem 155) (mk (lfP (mem 155) (nI 0)) (vN (mem 155))))) 2 (nI (pushN h))) 5 (dSt (nSd (mem 155) (mk (lfP (mem 155) (nI 0)) (vN (mem 155)))) (vN (mem 155))))) 156 (pshP h (mem 155) (mem 156))) 155 (upd (upd (drF (mem 155) (nSd (mem 155) (mk (lfP (mem 155) (nI 0)) (vN (mem 155)))) k) (12 + k) (nI (nM (mem 155) (nSd (mem 155) (mk (lfP (mem 155) (nI 0)) (vN (mem 155)))) k))) (34 + 12 * (nM (mem 155) (nSd (mem 155) (mk (lfP (mem 155) (nI 0)) (vN (mem 155)))) k)) (nI k))) 157 (cpy (vN (mem 155)) (fun k => nI (dM (vW (mem 155)) (vN (mem 155)) (nSd (mem 155) (mk (lfP (mem 155) (nI 0)) (vN (mem 155)))) k)) (mem 157))) iX10_at (c_X10_at l G (gr (gr (gr (gr mem 154 (upd (upd (upd (mem 154) 3 (nSd (mem 155) (mk (lfP (mem 155) (nI 0)) (vN (mem 155))))) 2 (nI (pushN h))) 5 (dSt (nSd (mem 155) (mk (lfP (mem 155) (nI 0)) (vN (mem 155)))) (vN (mem 155))))) 156 (pshP h (mem 155) (mem 156))) 155 (upd (upd (drF (mem 155) (nSd (mem 155) (mk (lfP (mem 155) (nI 0)) (vN (mem 155)))) k) (12 + k) (nI (nM (mem 155) (nSd (mem 155) (mk (lfP (mem 155) (nI 0)) (vN (mem 155)))) k))) (34 + 12 * (nM (mem 155) (nSd (mem 155) (mk (lfP (mem 155) (nI 0)) (vN (mem 155)))) k)) (nI k))) 157 (cpy (vN (mem 155)) (fun k => nI (dM (vW (mem 155)) (vN (mem 155)) (nSd (mem 155) (mk (lfP (mem 155) (nI 0)) (vN (mem 155)))) k)) (mem 157))) k 8) wd_780 rfl ⟨Nat.le_of_ble_eq_true rfl, Nat.le_of_ble_eq_true rfl⟩ ⟨rfl, rfl⟩ rfl (Nat.le_of_ble_eq_true rfl) dX10_draw_125 (congrArg Value.int (congrArg nI (by omega))) (rfl) ?_
          refine g_iald_n C (j := 38 + 12 * k) ar_155 rfl (by omega) (by decide) dX10_draw_128 ?_
          refine g_top (y := (upd (upd (drF (mem 155) (nSd (mem 155) (mk (lfP (mem 155) (nI 0)) (vN (mem 155)))) k) (12 + k) (nI (nM (mem 155) (nSd (mem 155) (mk (lfP (mem 155) (nI 0)) (vN (mem 155)))) k))) (34 + 12 * (nM (mem 155) (nSd (mem 155) (mk (lfP (mem 155) (nI 0)) (vN (mem 155)))) k)) (nI k)) (38 + 12 * k)) (rfl) ?_
          refine g_top (y := mem 155 (38 + 12 * k)) (by rw [upd_n (by omega), upd_n (by omega), hdv.2.2.2.1 k (by omega), if_neg (Nat.lt_irrefl k)]) ?_
          refine g_iconst C (nI 1) dX10_draw_129 (by decide) ?_
          refine g_icmp_eq C 148 dX10_draw_130 (by decide) (fun c_130 => ?_) (fun c_130 => ?_)
          · refine g_aload_n C 0 dX10_draw_148 rfl ?_
            refine g_get_r C ob_154 0 (by decide) rfl wd_703 dX10_draw_149 ?_
            refine g_iconst C (nI 4) dX10_draw_152 (by decide) ?_
            refine g_iald_n C (j := 4) ar_155 rfl (by omega) (by decide) dX10_draw_153 ?_
            refine g_top (y := (upd (upd (drF (mem 155) (nSd (mem 155) (mk (lfP (mem 155) (nI 0)) (vN (mem 155)))) k) (12 + k) (nI (nM (mem 155) (nSd (mem 155) (mk (lfP (mem 155) (nI 0)) (vN (mem 155)))) k))) (34 + 12 * (nM (mem 155) (nSd (mem 155) (mk (lfP (mem 155) (nI 0)) (vN (mem 155)))) k)) (nI k)) 4) (rfl) ?_
            refine g_top (y := mem 155 4) (by rw [upd_n (by omega), upd_n (by omega)]; exact hdv.2.2.2.2.2 4 (by decide) (by decide) (by decide) (by decide) (fun m _ => by omega)) ?_
            refine g_goto C 158 dX10_draw_154 (by decide) ?_
            refine g_isub C dX10_draw_158 ?_
            refine g_iast_n C (j := 33 + 12 * k) ar_155 rfl (by omega) (by decide) dX10_draw_159 ?_
            refine g_mem (mem2 := gr (gr (gr (gr mem 154 (upd (upd (upd (mem 154) 3 (nSd (mem 155) (mk (lfP (mem 155) (nI 0)) (vN (mem 155))))) 2 (nI (pushN h))) 5 (dSt (nSd (mem 155) (mk (lfP (mem 155) (nI 0)) (vN (mem 155)))) (vN (mem 155))))) 156 (pshP h (mem 155) (mem 156))) 155 (upd (upd (upd (drF (mem 155) (nSd (mem 155) (mk (lfP (mem 155) (nI 0)) (vN (mem 155)))) k) (12 + k) (nI (nM (mem 155) (nSd (mem 155) (mk (lfP (mem 155) (nI 0)) (vN (mem 155)))) k))) (34 + 12 * (nM (mem 155) (nSd (mem 155) (mk (lfP (mem 155) (nI 0)) (vN (mem 155)))) k)) (nI k)) (33 + 12 * k) ((mem 155 (33 + 12 * k)) - (mem 155 4)))) 157 (cpy (vN (mem 155)) (fun k => nI (dM (vW (mem 155)) (vN (mem 155)) (nSd (mem 155) (mk (lfP (mem 155) (nI 0)) (vN (mem 155)))) k)) (mem 157))) ((gr_comm _ (by decide) _ _).trans (congrArg (fun z => gr z 157 (cpy (vN (mem 155)) (fun k => nI (dM (vW (mem 155)) (vN (mem 155)) (nSd (mem 155) (mk (lfP (mem 155) (nI 0)) (vN (mem 155)))) k)) (mem 157))) (gr_gr _ _ _ _))) ?_
            refine g_aload_n C 0 dX10_draw_160 rfl ?_
            refine g_get_r C ob_154 0 (by decide) rfl wd_703 dX10_draw_161 ?_
            refine g_iload_n C 1 dX10_draw_164 rfl ?_
            refine g_bipush C (nI 8) dX10_draw_165 (by decide) ?_
            refine g_cS1 C (As := [.int (nI k), .int (nI 8)]) (w := .int (nI (38 + 12 * k))) (mem3 := gr (gr (gr (gr mem 154 (upd (upd (upd (mem 154) 3 (nSd (mem 155) (mk (lfP (mem 155) (nI 0)) (vN (mem 155))))) 2 (nI (pushN h))) 5 (dSt (nSd (mem 155) (mk (lfP (mem 155) (nI 0)) (vN (mem 155)))) (vN (mem 155))))) 156 (pshP h (mem 155) (mem 156))) 155 (upd (upd (upd (drF (mem 155) (nSd (mem 155) (mk (lfP (mem 155) (nI 0)) (vN (mem 155)))) k) (12 + k) (nI (nM (mem 155) (nSd (mem 155) (mk (lfP (mem 155) (nI 0)) (vN (mem 155)))) k))) (34 + 12 * (nM (mem 155) (nSd (mem 155) (mk (lfP (mem 155) (nI 0)) (vN (mem 155)))) k)) (nI k)) (33 + 12 * k) ((mem 155 (33 + 12 * k)) - (mem 155 4)))) 157 (cpy (vN (mem 155)) (fun k => nI (dM (vW (mem 155)) (vN (mem 155)) (nSd (mem 155) (mk (lfP (mem 155) (nI 0)) (vN (mem 155)))) k)) (mem 157))) iX10_at (c_X10_at l G (gr (gr (gr (gr mem 154 (upd (upd (upd (mem 154) 3 (nSd (mem 155) (mk (lfP (mem 155) (nI 0)) (vN (mem 155))))) 2 (nI (pushN h))) 5 (dSt (nSd (mem 155) (mk (lfP (mem 155) (nI 0)) (vN (mem 155)))) (vN (mem 155))))) 156 (pshP h (mem 155) (mem 156))) 155 (upd (upd (upd (drF (mem 155) (nSd (mem 155) (mk (lfP (mem 155) (nI 0)) (vN (mem 155)))) k) (12 + k) (nI (nM (mem 155) (nSd (mem 155) (mk (lfP (mem 155) (nI 0)) (vN (mem 155)))) k))) (34 + 12 * (nM (mem 155) (nSd (mem 155) (mk (lfP (mem 155) (nI 0)) (vN (mem 155)))) k)) (nI k)) (33 + 12 * k) ((mem 155 (33 + 12 * k)) - (mem 155 4)))) 157 (cpy (vN (mem 155)) (fun k => nI (dM (vW (mem 155)) (vN (mem 155)) (nSd (mem 155) (mk (lfP (mem 155) (nI 0)) (vN (mem 155)))) k)) (mem 157))) k 8) wd_780 rfl ⟨Nat.le_of_ble_eq_true rfl, Nat.le_of_ble_eq_true rfl⟩ ⟨rfl, rfl⟩ rfl (Nat.le_of_ble_eq_true rfl) dX10_draw_167 (congrArg Value.int (congrArg nI (by omega))) (rfl) ?_
            refine g_iconst C (nI 0) dX10_draw_170 (by decide) ?_
            refine g_iast_n C (j := 38 + 12 * k) ar_155 rfl (by omega) (by decide) dX10_draw_171 ?_
            refine g_mem (mem2 := gr (gr (gr (gr mem 154 (upd (upd (upd (mem 154) 3 (nSd (mem 155) (mk (lfP (mem 155) (nI 0)) (vN (mem 155))))) 2 (nI (pushN h))) 5 (dSt (nSd (mem 155) (mk (lfP (mem 155) (nI 0)) (vN (mem 155)))) (vN (mem 155))))) 156 (pshP h (mem 155) (mem 156))) 155 (upd (upd (upd (upd (drF (mem 155) (nSd (mem 155) (mk (lfP (mem 155) (nI 0)) (vN (mem 155)))) k) (12 + k) (nI (nM (mem 155) (nSd (mem 155) (mk (lfP (mem 155) (nI 0)) (vN (mem 155)))) k))) (34 + 12 * (nM (mem 155) (nSd (mem 155) (mk (lfP (mem 155) (nI 0)) (vN (mem 155)))) k)) (nI k)) (33 + 12 * k) ((mem 155 (33 + 12 * k)) - (mem 155 4))) (38 + 12 * k) (nI 0))) 157 (cpy (vN (mem 155)) (fun k => nI (dM (vW (mem 155)) (vN (mem 155)) (nSd (mem 155) (mk (lfP (mem 155) (nI 0)) (vN (mem 155)))) k)) (mem 157))) ((gr_comm _ (by decide) _ _).trans (congrArg (fun z => gr z 157 (cpy (vN (mem 155)) (fun k => nI (dM (vW (mem 155)) (vN (mem 155)) (nSd (mem 155) (mk (lfP (mem 155) (nI 0)) (vN (mem 155)))) k)) (mem 157))) (gr_gr _ _ _ _))) ?_
            refine g_iinc C (v := nI (k + 1)) (L2 := [(1, .int (nI (k + 1))), (0, .ref (gad G 154))]) 1 dX10_draw_172 rfl (nI_1 _) (by decide) rfl ?_
            refine g_goto C 66 dX10_draw_175 (by decide) ?_
            refine g_loc (L2 := [(0, .ref (gad G 154)), (1, .int (nI (k + 1)))]) [1, 0] rfl ?_
            exact g_eq (ih_66 (k + 1) (hi2) (by omega)) (by first | (rw [dr_s, crv_y (Or.inl c_130)]; done) | (rw [dr_s, crv_y (Or.inr c_145)]; done) | (rw [dr_s, crv_n (fun q => q.elim c_130 c_145)]; done)) (rfl) rfl
          · refine g_aload_n C 0 dX10_draw_133 rfl ?_
            refine g_get_r C ob_154 0 (by decide) rfl wd_703 dX10_draw_134 ?_
            refine g_iload_n C 1 dX10_draw_137 rfl ?_
            refine g_bipush C (nI 8) dX10_draw_138 (by decide) ?_
            refine g_cS1 C (As := [.int (nI k), .int (nI 8)]) (w := .int (nI (38 + 12 * k))) (mem3 := gr (gr (gr (gr mem 154 (upd (upd (upd (mem 154) 3 (nSd (mem 155) (mk (lfP (mem 155) (nI 0)) (vN (mem 155))))) 2 (nI (pushN h))) 5 (dSt (nSd (mem 155) (mk (lfP (mem 155) (nI 0)) (vN (mem 155)))) (vN (mem 155))))) 156 (pshP h (mem 155) (mem 156))) 155 (upd (upd (drF (mem 155) (nSd (mem 155) (mk (lfP (mem 155) (nI 0)) (vN (mem 155)))) k) (12 + k) (nI (nM (mem 155) (nSd (mem 155) (mk (lfP (mem 155) (nI 0)) (vN (mem 155)))) k))) (34 + 12 * (nM (mem 155) (nSd (mem 155) (mk (lfP (mem 155) (nI 0)) (vN (mem 155)))) k)) (nI k))) 157 (cpy (vN (mem 155)) (fun k => nI (dM (vW (mem 155)) (vN (mem 155)) (nSd (mem 155) (mk (lfP (mem 155) (nI 0)) (vN (mem 155)))) k)) (mem 157))) iX10_at (c_X10_at l G (gr (gr (gr (gr mem 154 (upd (upd (upd (mem 154) 3 (nSd (mem 155) (mk (lfP (mem 155) (nI 0)) (vN (mem 155))))) 2 (nI (pushN h))) 5 (dSt (nSd (mem 155) (mk (lfP (mem 155) (nI 0)) (vN (mem 155)))) (vN (mem 155))))) 156 (pshP h (mem 155) (mem 156))) 155 (upd (upd (drF (mem 155) (nSd (mem 155) (mk (lfP (mem 155) (nI 0)) (vN (mem 155)))) k) (12 + k) (nI (nM (mem 155) (nSd (mem 155) (mk (lfP (mem 155) (nI 0)) (vN (mem 155)))) k))) (34 + 12 * (nM (mem 155) (nSd (mem 155) (mk (lfP (mem 155) (nI 0)) (vN (mem 155)))) k)) (nI k))) 157 (cpy (vN (mem 155)) (fun k => nI (dM (vW (mem 155)) (vN (mem 155)) (nSd (mem 155) (mk (lfP (mem 155) (nI 0)) (vN (mem 155)))) k)) (mem 157))) k 8) wd_780 rfl ⟨Nat.le_of_ble_eq_true rfl, Nat.le_of_ble_eq_true rfl⟩ ⟨rfl, rfl⟩ rfl (Nat.le_of_ble_eq_true rfl) dX10_draw_140 (congrArg Value.int (congrArg nI (by omega))) (rfl) ?_
            refine g_iald_n C (j := 38 + 12 * k) ar_155 rfl (by omega) (by decide) dX10_draw_143 ?_
            refine g_top (y := (upd (upd (drF (mem 155) (nSd (mem 155) (mk (lfP (mem 155) (nI 0)) (vN (mem 155)))) k) (12 + k) (nI (nM (mem 155) (nSd (mem 155) (mk (lfP (mem 155) (nI 0)) (vN (mem 155)))) k))) (34 + 12 * (nM (mem 155) (nSd (mem 155) (mk (lfP (mem 155) (nI 0)) (vN (mem 155)))) k)) (nI k)) (38 + 12 * k)) (rfl) ?_
            refine g_top (y := mem 155 (38 + 12 * k)) (by rw [upd_n (by omega), upd_n (by omega), hdv.2.2.2.1 k (by omega), if_neg (Nat.lt_irrefl k)]) ?_
            refine g_iconst C (nI 3) dX10_draw_144 (by decide) ?_
            refine g_icmp_ne C 157 dX10_draw_145 (by decide) (fun c_145 => ?_) (fun c_145 => ?_)
            · refine g_iconst C (nI 0) dX10_draw_157 (by decide) ?_
              refine g_isub C dX10_draw_158 ?_
              refine g_iast_n C (j := 33 + 12 * k) ar_155 rfl (by omega) (by decide) dX10_draw_159 ?_
              refine g_mem (mem2 := gr (gr (gr (gr mem 154 (upd (upd (upd (mem 154) 3 (nSd (mem 155) (mk (lfP (mem 155) (nI 0)) (vN (mem 155))))) 2 (nI (pushN h))) 5 (dSt (nSd (mem 155) (mk (lfP (mem 155) (nI 0)) (vN (mem 155)))) (vN (mem 155))))) 156 (pshP h (mem 155) (mem 156))) 155 (upd (upd (upd (drF (mem 155) (nSd (mem 155) (mk (lfP (mem 155) (nI 0)) (vN (mem 155)))) k) (12 + k) (nI (nM (mem 155) (nSd (mem 155) (mk (lfP (mem 155) (nI 0)) (vN (mem 155)))) k))) (34 + 12 * (nM (mem 155) (nSd (mem 155) (mk (lfP (mem 155) (nI 0)) (vN (mem 155)))) k)) (nI k)) (33 + 12 * k) ((mem 155 (33 + 12 * k)) - (nI 0)))) 157 (cpy (vN (mem 155)) (fun k => nI (dM (vW (mem 155)) (vN (mem 155)) (nSd (mem 155) (mk (lfP (mem 155) (nI 0)) (vN (mem 155)))) k)) (mem 157))) ((gr_comm _ (by decide) _ _).trans (congrArg (fun z => gr z 157 (cpy (vN (mem 155)) (fun k => nI (dM (vW (mem 155)) (vN (mem 155)) (nSd (mem 155) (mk (lfP (mem 155) (nI 0)) (vN (mem 155)))) k)) (mem 157))) (gr_gr _ _ _ _))) ?_
              refine g_aload_n C 0 dX10_draw_160 rfl ?_
              refine g_get_r C ob_154 0 (by decide) rfl wd_703 dX10_draw_161 ?_
              refine g_iload_n C 1 dX10_draw_164 rfl ?_
              refine g_bipush C (nI 8) dX10_draw_165 (by decide) ?_
              refine g_cS1 C (As := [.int (nI k), .int (nI 8)]) (w := .int (nI (38 + 12 * k))) (mem3 := gr (gr (gr (gr mem 154 (upd (upd (upd (mem 154) 3 (nSd (mem 155) (mk (lfP (mem 155) (nI 0)) (vN (mem 155))))) 2 (nI (pushN h))) 5 (dSt (nSd (mem 155) (mk (lfP (mem 155) (nI 0)) (vN (mem 155)))) (vN (mem 155))))) 156 (pshP h (mem 155) (mem 156))) 155 (upd (upd (upd (drF (mem 155) (nSd (mem 155) (mk (lfP (mem 155) (nI 0)) (vN (mem 155)))) k) (12 + k) (nI (nM (mem 155) (nSd (mem 155) (mk (lfP (mem 155) (nI 0)) (vN (mem 155)))) k))) (34 + 12 * (nM (mem 155) (nSd (mem 155) (mk (lfP (mem 155) (nI 0)) (vN (mem 155)))) k)) (nI k)) (33 + 12 * k) ((mem 155 (33 + 12 * k)) - (nI 0)))) 157 (cpy (vN (mem 155)) (fun k => nI (dM (vW (mem 155)) (vN (mem 155)) (nSd (mem 155) (mk (lfP (mem 155) (nI 0)) (vN (mem 155)))) k)) (mem 157))) iX10_at (c_X10_at l G (gr (gr (gr (gr mem 154 (upd (upd (upd (mem 154) 3 (nSd (mem 155) (mk (lfP (mem 155) (nI 0)) (vN (mem 155))))) 2 (nI (pushN h))) 5 (dSt (nSd (mem 155) (mk (lfP (mem 155) (nI 0)) (vN (mem 155)))) (vN (mem 155))))) 156 (pshP h (mem 155) (mem 156))) 155 (upd (upd (upd (drF (mem 155) (nSd (mem 155) (mk (lfP (mem 155) (nI 0)) (vN (mem 155)))) k) (12 + k) (nI (nM (mem 155) (nSd (mem 155) (mk (lfP (mem 155) (nI 0)) (vN (mem 155)))) k))) (34 + 12 * (nM (mem 155) (nSd (mem 155) (mk (lfP (mem 155) (nI 0)) (vN (mem 155)))) k)) (nI k)) (33 + 12 * k) ((mem 155 (33 + 12 * k)) - (nI 0)))) 157 (cpy (vN (mem 155)) (fun k => nI (dM (vW (mem 155)) (vN (mem 155)) (nSd (mem 155) (mk (lfP (mem 155) (nI 0)) (vN (mem 155)))) k)) (mem 157))) k 8) wd_780 rfl ⟨Nat.le_of_ble_eq_true rfl, Nat.le_of_ble_eq_true rfl⟩ ⟨rfl, rfl⟩ rfl (Nat.le_of_ble_eq_true rfl) dX10_draw_167 (congrArg Value.int (congrArg nI (by omega))) (rfl) ?_
              refine g_iconst C (nI 0) dX10_draw_170 (by decide) ?_
              refine g_iast_n C (j := 38 + 12 * k) ar_155 rfl (by omega) (by decide) dX10_draw_171 ?_
              refine g_mem (mem2 := gr (gr (gr (gr mem 154 (upd (upd (upd (mem 154) 3 (nSd (mem 155) (mk (lfP (mem 155) (nI 0)) (vN (mem 155))))) 2 (nI (pushN h))) 5 (dSt (nSd (mem 155) (mk (lfP (mem 155) (nI 0)) (vN (mem 155)))) (vN (mem 155))))) 156 (pshP h (mem 155) (mem 156))) 155 (upd (upd (upd (upd (drF (mem 155) (nSd (mem 155) (mk (lfP (mem 155) (nI 0)) (vN (mem 155)))) k) (12 + k) (nI (nM (mem 155) (nSd (mem 155) (mk (lfP (mem 155) (nI 0)) (vN (mem 155)))) k))) (34 + 12 * (nM (mem 155) (nSd (mem 155) (mk (lfP (mem 155) (nI 0)) (vN (mem 155)))) k)) (nI k)) (33 + 12 * k) ((mem 155 (33 + 12 * k)) - (nI 0))) (38 + 12 * k) (nI 0))) 157 (cpy (vN (mem 155)) (fun k => nI (dM (vW (mem 155)) (vN (mem 155)) (nSd (mem 155) (mk (lfP (mem 155) (nI 0)) (vN (mem 155)))) k)) (mem 157))) ((gr_comm _ (by decide) _ _).trans (congrArg (fun z => gr z 157 (cpy (vN (mem 155)) (fun k => nI (dM (vW (mem 155)) (vN (mem 155)) (nSd (mem 155) (mk (lfP (mem 155) (nI 0)) (vN (mem 155)))) k)) (mem 157))) (gr_gr _ _ _ _))) ?_
              refine g_iinc C (v := nI (k + 1)) (L2 := [(1, .int (nI (k + 1))), (0, .ref (gad G 154))]) 1 dX10_draw_172 rfl (nI_1 _) (by decide) rfl ?_
              refine g_goto C 66 dX10_draw_175 (by decide) ?_
              refine g_loc (L2 := [(0, .ref (gad G 154)), (1, .int (nI (k + 1)))]) [1, 0] rfl ?_
              exact g_eq (ih_66 (k + 1) (hi2) (by omega)) (by first | (rw [dr_s, crv_y (Or.inl c_130)]; done) | (rw [dr_s, crv_y (Or.inr c_145)]; done) | (rw [dr_s, crv_n (fun q => q.elim c_130 c_145)]; done)) (rfl) rfl
            · refine g_aload_n C 0 dX10_draw_148 rfl ?_
              refine g_get_r C ob_154 0 (by decide) rfl wd_703 dX10_draw_149 ?_
              refine g_iconst C (nI 4) dX10_draw_152 (by decide) ?_
              refine g_iald_n C (j := 4) ar_155 rfl (by omega) (by decide) dX10_draw_153 ?_
              refine g_top (y := (upd (upd (drF (mem 155) (nSd (mem 155) (mk (lfP (mem 155) (nI 0)) (vN (mem 155)))) k) (12 + k) (nI (nM (mem 155) (nSd (mem 155) (mk (lfP (mem 155) (nI 0)) (vN (mem 155)))) k))) (34 + 12 * (nM (mem 155) (nSd (mem 155) (mk (lfP (mem 155) (nI 0)) (vN (mem 155)))) k)) (nI k)) 4) (rfl) ?_
              refine g_top (y := mem 155 4) (by rw [upd_n (by omega), upd_n (by omega)]; exact hdv.2.2.2.2.2 4 (by decide) (by decide) (by decide) (by decide) (fun m _ => by omega)) ?_
              refine g_goto C 158 dX10_draw_154 (by decide) ?_
              refine g_isub C dX10_draw_158 ?_
              refine g_iast_n C (j := 33 + 12 * k) ar_155 rfl (by omega) (by decide) dX10_draw_159 ?_
              refine g_mem (mem2 := gr (gr (gr (gr mem 154 (upd (upd (upd (mem 154) 3 (nSd (mem 155) (mk (lfP (mem 155) (nI 0)) (vN (mem 155))))) 2 (nI (pushN h))) 5 (dSt (nSd (mem 155) (mk (lfP (mem 155) (nI 0)) (vN (mem 155)))) (vN (mem 155))))) 156 (pshP h (mem 155) (mem 156))) 155 (upd (upd (upd (drF (mem 155) (nSd (mem 155) (mk (lfP (mem 155) (nI 0)) (vN (mem 155)))) k) (12 + k) (nI (nM (mem 155) (nSd (mem 155) (mk (lfP (mem 155) (nI 0)) (vN (mem 155)))) k))) (34 + 12 * (nM (mem 155) (nSd (mem 155) (mk (lfP (mem 155) (nI 0)) (vN (mem 155)))) k)) (nI k)) (33 + 12 * k) ((mem 155 (33 + 12 * k)) - (mem 155 4)))) 157 (cpy (vN (mem 155)) (fun k => nI (dM (vW (mem 155)) (vN (mem 155)) (nSd (mem 155) (mk (lfP (mem 155) (nI 0)) (vN (mem 155)))) k)) (mem 157))) ((gr_comm _ (by decide) _ _).trans (congrArg (fun z => gr z 157 (cpy (vN (mem 155)) (fun k => nI (dM (vW (mem 155)) (vN (mem 155)) (nSd (mem 155) (mk (lfP (mem 155) (nI 0)) (vN (mem 155)))) k)) (mem 157))) (gr_gr _ _ _ _))) ?_
              refine g_aload_n C 0 dX10_draw_160 rfl ?_
              refine g_get_r C ob_154 0 (by decide) rfl wd_703 dX10_draw_161 ?_
              refine g_iload_n C 1 dX10_draw_164 rfl ?_
              refine g_bipush C (nI 8) dX10_draw_165 (by decide) ?_
              refine g_cS1 C (As := [.int (nI k), .int (nI 8)]) (w := .int (nI (38 + 12 * k))) (mem3 := gr (gr (gr (gr mem 154 (upd (upd (upd (mem 154) 3 (nSd (mem 155) (mk (lfP (mem 155) (nI 0)) (vN (mem 155))))) 2 (nI (pushN h))) 5 (dSt (nSd (mem 155) (mk (lfP (mem 155) (nI 0)) (vN (mem 155)))) (vN (mem 155))))) 156 (pshP h (mem 155) (mem 156))) 155 (upd (upd (upd (drF (mem 155) (nSd (mem 155) (mk (lfP (mem 155) (nI 0)) (vN (mem 155)))) k) (12 + k) (nI (nM (mem 155) (nSd (mem 155) (mk (lfP (mem 155) (nI 0)) (vN (mem 155)))) k))) (34 + 12 * (nM (mem 155) (nSd (mem 155) (mk (lfP (mem 155) (nI 0)) (vN (mem 155)))) k)) (nI k)) (33 + 12 * k) ((mem 155 (33 + 12 * k)) - (mem 155 4)))) 157 (cpy (vN (mem 155)) (fun k => nI (dM (vW (mem 155)) (vN (mem 155)) (nSd (mem 155) (mk (lfP (mem 155) (nI 0)) (vN (mem 155)))) k)) (mem 157))) iX10_at (c_X10_at l G (gr (gr (gr (gr mem 154 (upd (upd (upd (mem 154) 3 (nSd (mem 155) (mk (lfP (mem 155) (nI 0)) (vN (mem 155))))) 2 (nI (pushN h))) 5 (dSt (nSd (mem 155) (mk (lfP (mem 155) (nI 0)) (vN (mem 155)))) (vN (mem 155))))) 156 (pshP h (mem 155) (mem 156))) 155 (upd (upd (upd (drF (mem 155) (nSd (mem 155) (mk (lfP (mem 155) (nI 0)) (vN (mem 155)))) k) (12 + k) (nI (nM (mem 155) (nSd (mem 155) (mk (lfP (mem 155) (nI 0)) (vN (mem 155)))) k))) (34 + 12 * (nM (mem 155) (nSd (mem 155) (mk (lfP (mem 155) (nI 0)) (vN (mem 155)))) k)) (nI k)) (33 + 12 * k) ((mem 155 (33 + 12 * k)) - (mem 155 4)))) 157 (cpy (vN (mem 155)) (fun k => nI (dM (vW (mem 155)) (vN (mem 155)) (nSd (mem 155) (mk (lfP (mem 155) (nI 0)) (vN (mem 155)))) k)) (mem 157))) k 8) wd_780 rfl ⟨Nat.le_of_ble_eq_true rfl, Nat.le_of_ble_eq_true rfl⟩ ⟨rfl, rfl⟩ rfl (Nat.le_of_ble_eq_true rfl) dX10_draw_167 (congrArg Value.int (congrArg nI (by omega))) (rfl) ?_
              refine g_iconst C (nI 0) dX10_draw_170 (by decide) ?_
              refine g_iast_n C (j := 38 + 12 * k) ar_155 rfl (by omega) (by decide) dX10_draw_171 ?_
              refine g_mem (mem2 := gr (gr (gr (gr mem 154 (upd (upd (upd (mem 154) 3 (nSd (mem 155) (mk (lfP (mem 155) (nI 0)) (vN (mem 155))))) 2 (nI (pushN h))) 5 (dSt (nSd (mem 155) (mk (lfP (mem 155) (nI 0)) (vN (mem 155)))) (vN (mem 155))))) 156 (pshP h (mem 155) (mem 156))) 155 (upd (upd (upd (upd (drF (mem 155) (nSd (mem 155) (mk (lfP (mem 155) (nI 0)) (vN (mem 155)))) k) (12 + k) (nI (nM (mem 155) (nSd (mem 155) (mk (lfP (mem 155) (nI 0)) (vN (mem 155)))) k))) (34 + 12 * (nM (mem 155) (nSd (mem 155) (mk (lfP (mem 155) (nI 0)) (vN (mem 155)))) k)) (nI k)) (33 + 12 * k) ((mem 155 (33 + 12 * k)) - (mem 155 4))) (38 + 12 * k) (nI 0))) 157 (cpy (vN (mem 155)) (fun k => nI (dM (vW (mem 155)) (vN (mem 155)) (nSd (mem 155) (mk (lfP (mem 155) (nI 0)) (vN (mem 155)))) k)) (mem 157))) ((gr_comm _ (by decide) _ _).trans (congrArg (fun z => gr z 157 (cpy (vN (mem 155)) (fun k => nI (dM (vW (mem 155)) (vN (mem 155)) (nSd (mem 155) (mk (lfP (mem 155) (nI 0)) (vN (mem 155)))) k)) (mem 157))) (gr_gr _ _ _ _))) ?_
              refine g_iinc C (v := nI (k + 1)) (L2 := [(1, .int (nI (k + 1))), (0, .ref (gad G 154))]) 1 dX10_draw_172 rfl (nI_1 _) (by decide) rfl ?_
              refine g_goto C 66 dX10_draw_175 (by decide) ?_
              refine g_loc (L2 := [(0, .ref (gad G 154)), (1, .int (nI (k + 1)))]) [1, 0] rfl ?_
              exact g_eq (ih_66 (k + 1) (hi2) (by omega)) (by first | (rw [dr_s, crv_y (Or.inl c_130)]; done) | (rw [dr_s, crv_y (Or.inr c_145)]; done) | (rw [dr_s, crv_n (fun q => q.elim c_130 c_145)]; done)) (rfl) rfl
    refine g_loc (L2 := [(0, .ref (gad G 154)), (1, .int (nI 0))]) [1, 0] rfl ?_
    exact g_eq (lp_66 (_ + 1) 0 (Nat.zero_le _) (Nat.lt_succ_self _)) (rfl) (rfl) rfl
  · have c_11 : ¬ toN (mem 155 2) ≤ fa_cnt (lfP (mem 155) (nI 0)) (vN (mem 155)) := mt (nI_leI (by omega) (by omega)).mpr c_11
    refine g_ldc C wd_836 dX10_draw_14 ?_
    refine g_iret C hQ rfl dX10_draw_16 ?_
    exact ⟨_, rfl, fun q => absurd q (fun q => c_11 (by rw [lf_0]; exact q)), fun _ => ⟨rfl, ⟨rfl, rfl, rfl, rfl, rfl, fun k hk => by rw [gr_n (by omega)]⟩⟩⟩

def rm_X10_lose : Room := { frames := 2, cells := 0, slots := 0, locals := 43 }
theorem iX10_lose : gIv yX10_lose cX10_lose 5 (some .int) 2 := ⟨⟨wd_873, wd_32, by decide +kernel, by decide +kernel, by decide +kernel⟩, wd_871, wd_872⟩
set_option maxRecDepth 100000 in
set_option maxHeartbeats 4000000 in
theorem c_X10_lose (l : Launch) (G : gG) {T : Nat} (mem : gM) (g : Good T (mem 155)) {h : Nat} (hh : mem 154 2 = nI h) (h4 : h ≤ 4) (x y : Int32) : gMet l yX10_lose cX10_lose 5 (some .int) rm_X10_lose G [.ref (gad G 154), .int x, .int y] mem (fun a u => ∃ rr : Int32, a = some (.int rr) ∧ MX h mem u (memP (mem 155) x ∧ blkP y) (nI (fa_cnt (bt (mem 155 (150 + toN y) ||| bit (toN x))) 10)) (kBad) (upd (mem 155) (150 + toN y) (mem 155 (150 + toN y) ||| bit (toN x))) rr) := by
  refine g_of (own := RX10) (L0 := [(0, .ref (gad G 154)), (1, .int x), (2, .int y)]) (by decide +kernel) rfl (Nat.le_of_ble_eq_true rfl) rfl ?_
  intro p e s m args below meth c C Q hQ
  have hn10 := gd_n10 g
  refine g_aload_n C 0 dX10_lose_0 rfl ?_
  refine g_iload_n C 1 dX10_lose_1 rfl ?_
  refine g_cV1 C (As := [.int x]) (w := .int (b2i (memP (mem 155) x))) (mem3 := mem) iX10_isMember (c_X10_isMember l G mem g x) wd_788 ob_154 rfl ⟨Nat.le_of_ble_eq_true rfl, Nat.le_of_ble_eq_true rfl⟩ ⟨rfl, rfl⟩ rfl (Nat.le_of_ble_eq_true rfl) dX10_lose_2 (rfl) (rfl) ?_
  refine g_ifb_eq C 15 dX10_lose_5 (by decide) (fun c_5 => ?_) (fun c_5 => ?_)
  · refine g_ldc C wd_774 dX10_lose_15 ?_
    refine g_iret C hQ rfl dX10_lose_17 ?_
    first
      | exact ⟨_, rfl, fun q => absurd q (fun q => c_5 q.1), fun _ => ⟨rfl, MN.rf mem⟩⟩
      | exact ⟨_, rfl, fun q => absurd q (fun q => c_12 q.2), fun _ => ⟨rfl, MN.rf mem⟩⟩
  · obtain ⟨j, hj, rfl⟩ := memP_ex g c_5
    have ej : toN (nI j) = j := toN_nI (by omega)
    refine g_iload_n C 2 dX10_lose_8 rfl ?_
    refine g_cS1 C (As := [.int y]) (w := .int (b2i (blkP y))) (mem3 := mem) iX10_isBlock (c_X10_isBlock l G mem y) wd_874 rfl ⟨Nat.le_of_ble_eq_true rfl, Nat.le_of_ble_eq_true rfl⟩ ⟨rfl, rfl⟩ rfl (Nat.le_of_ble_eq_true rfl) dX10_lose_9 (rfl) (rfl) ?_
    refine g_ifb_ne C 18 dX10_lose_12 (by decide) (fun c_12 => ?_) (fun c_12 => ?_)
    · obtain ⟨b, hb, rfl⟩ := blkP_ex c_12
      have eb : toN (nI b) = b := toN_nI (by omega)
      refine g_aload_n C 0 dX10_lose_18 rfl ?_
      refine g_cV0 C (As := []) (mem3 := gr (gr mem 156 (pshP h (mem 155) (mem 156))) 154 (upd (mem 154) 2 (nI (pushN h)))) iX10_act (c_X10_act l G mem hh h4) wd_776 ob_154 rfl ⟨Nat.le_of_ble_eq_true rfl, Nat.le_of_ble_eq_true rfl⟩ ⟨rfl, rfl⟩ rfl (Nat.le_of_ble_eq_true rfl) dX10_lose_19 (rfl) ?_
      refine g_aload_n C 0 dX10_lose_22 rfl ?_
      refine g_get_r C ob_154 0 (by decide) rfl wd_703 dX10_lose_23 ?_
      refine g_sipush C (nI 150) dX10_lose_26 (by decide) ?_
      refine g_iload_n C 2 dX10_lose_29 rfl ?_
      refine g_iadd_n C (d := 150 + b) dX10_lose_30 rfl ?_
      refine g_dup2 C dX10_lose_31 rfl rfl ?_
      refine g_iald_n C (j := 150 + b) ar_155 rfl (by omega) (by decide) dX10_lose_32 ?_
      refine g_top (y := mem 155 (150 + b)) (rfl) ?_
      refine g_iconst C (nI 1) dX10_lose_33 (by decide) ?_
      refine g_iload_n C 1 dX10_lose_34 rfl ?_
      refine g_ishl C dX10_lose_35 ?_
      refine g_ior C dX10_lose_36 ?_
      refine g_top (y := mem 155 (150 + b) ||| bit j) (rfl) ?_
      refine g_iast_n C (j := 150 + b) ar_155 rfl (by omega) (by decide) dX10_lose_37 ?_
      refine g_iconst C (nI 0) dX10_lose_38 (by decide) ?_
      refine g_istore_n C (L2 := [(3, .int (nI 0)), (0, .ref (gad G 154)), (1, .int (nI j)), (2, .int (nI b))]) dX10_lose_39 (by decide) rfl ?_
      refine g_iconst C (nI 0) dX10_lose_40 (by decide) ?_
      refine g_istore C (L2 := [(4, .int (nI 0)), (3, .int (nI 0)), (0, .ref (gad G 154)), (1, .int (nI j)), (2, .int (nI b))]) dX10_lose_41 (by decide) rfl ?_
      have lp_43 : ∀ (fu : Nat) (i : Nat), (i ≤ 10) → 10 - i < fu → gV p l e rm_X10_lose s m args below meth c 0 0 Q G 5 (gr (gr (gr mem 156 (pshP h (mem 155) (mem 156))) 154 (upd (mem 154) 2 (nI (pushN h)))) 155 (upd (mem 155) (150 + b) (mem 155 (150 + b) ||| bit j))) 43 [(0, .ref (gad G 154)), (1, .int (nI j)), (2, .int (nI b)), (3, .int (nI (fa_cnt (bt (mem 155 (150 + b) ||| bit j)) i))), (4, .int (nI i))] [] := by
        intro fu
        induction fu with
        | zero => intro i _ hfu; exact absurd hfu (Nat.not_lt_zero _)
        | succ fu ih_43 =>
          intro i hi hfu_43
          refine g_iload C 4 dX10_lose_43 rfl ?_
          refine g_bipush C (nI 10) dX10_lose_45 (by decide) ?_
          refine g_icmp_ge C 74 dX10_lose_47 (by decide) (fun c_47 => ?_) (fun c_47 => ?_)
          · have hin : i = 10 := by have q := (nI_leI (a := 10) (b := i) (by omega) (by omega)).mp c_47; omega
            rw [hin]
            refine g_iload_n C 3 dX10_lose_74 rfl ?_
            refine g_iret C hQ rfl dX10_lose_75 ?_
            exact ⟨_, rfl, fun _ => ⟨by rw [ej, eb], by rw [ej, eb]; rfl, rfl, rfl, rfl, rfl, fun k hk => by rw [gr_n (by omega), gr_n (by omega), gr_n (by omega)]⟩, fun q => absurd (⟨c_5, c_12⟩) q⟩
          · have hi2 : i < 10 := by have q := mt (nI_leI (a := 10) (b := i) (by omega) (by omega)).mpr c_47; omega
            refine g_iload_n C 3 dX10_lose_50 rfl ?_
            refine g_aload_n C 0 dX10_lose_51 rfl ?_
            refine g_get_r C ob_154 0 (by decide) rfl wd_703 dX10_lose_52 ?_
            refine g_sipush C (nI 150) dX10_lose_55 (by decide) ?_
            refine g_iload_n C 2 dX10_lose_58 rfl ?_
            refine g_iadd_n C (d := 150 + b) dX10_lose_59 rfl ?_
            refine g_iald_n C (j := 150 + b) ar_155 rfl (by omega) (by decide) dX10_lose_60 ?_
            refine g_top (y := mem 155 (150 + b) ||| bit j) (upd_s _ _ _) ?_
            refine g_iload C 4 dX10_lose_61 rfl ?_
            refine g_ishr C dX10_lose_63 ?_
            refine g_iconst C (nI 1) dX10_lose_64 (by decide) ?_
            by_cases hb1 : bt (mem 155 (150 + b) ||| bit j) i = true
            · refine g_iand C dX10_lose_65 ?_
              refine g_top (y := nI 1) ((hs_bd (by omega)).trans (if_pos hb1)) ?_
              refine g_iadd_n C (d := (fa_cnt (bt (mem 155 (150 + b) ||| bit j)) i) + 1) dX10_lose_66 rfl ?_
              refine g_istore_n C (L2 := [(3, .int (nI ((fa_cnt (bt (mem 155 (150 + b) ||| bit j)) i) + 1))), (0, .ref (gad G 154)), (1, .int (nI j)), (2, .int (nI b)), (4, .int (nI i))]) dX10_lose_67 (by decide) rfl ?_
              refine g_iinc C (v := nI (i + 1)) (L2 := [(4, .int (nI (i + 1))), (3, .int (nI ((fa_cnt (bt (mem 155 (150 + b) ||| bit j)) i) + 1))), (0, .ref (gad G 154)), (1, .int (nI j)), (2, .int (nI b))]) 4 dX10_lose_68 rfl (nI_1 _) (by decide) rfl ?_
              refine g_goto C 43 dX10_lose_71 (by decide) ?_
              refine g_loc (L2 := [(0, .ref (gad G 154)), (1, .int (nI j)), (2, .int (nI b)), (3, .int (nI ((fa_cnt (bt (mem 155 (150 + b) ||| bit j)) i) + 1))), (4, .int (nI (i + 1)))]) [2, 3, 4, 1, 0] rfl ?_
              exact g_eq (ih_43 (i + 1) (hi2) (by omega)) (rfl) (gLc rfl (gLc rfl (gLc rfl (gLc (congrArg Value.int (by first | (rw [fa_cnt_yes hb1]; done) | (rw [fa_cnt_no (Bool.eq_false_iff.mpr hb1)]; rfl))) (rfl))))) rfl
            · refine g_iand C dX10_lose_65 ?_
              refine g_top (y := nI 0) ((hs_bd (by omega)).trans (if_neg hb1)) ?_
              refine g_iadd_n C (d := (fa_cnt (bt (mem 155 (150 + b) ||| bit j)) i) + 0) dX10_lose_66 rfl ?_
              refine g_istore_n C (L2 := [(3, .int (nI ((fa_cnt (bt (mem 155 (150 + b) ||| bit j)) i) + 0))), (0, .ref (gad G 154)), (1, .int (nI j)), (2, .int (nI b)), (4, .int (nI i))]) dX10_lose_67 (by decide) rfl ?_
              refine g_iinc C (v := nI (i + 1)) (L2 := [(4, .int (nI (i + 1))), (3, .int (nI ((fa_cnt (bt (mem 155 (150 + b) ||| bit j)) i) + 0))), (0, .ref (gad G 154)), (1, .int (nI j)), (2, .int (nI b))]) 4 dX10_lose_68 rfl (nI_1 _) (by decide) rfl ?_
              refine g_goto C 43 dX10_lose_71 (by decide) ?_
              refine g_loc (L2 := [(0, .ref (gad G 154)), (1, .int (nI j)), (2, .int (nI b)), (3, .int (nI ((fa_cnt (bt (mem 155 (150 + b) ||| bit j)) i) + 0))), (4, .int (nI (i + 1)))]) [2, 3, 4, 1, 0] rfl ?_
              exact g_eq (ih_43 (i + 1) (hi2) (by omega)) (rfl) (gLc rfl (gLc rfl (gLc rfl (gLc (congrArg Value.int (by first | (rw [fa_cnt_yes hb1]; done) | (rw [fa_cnt_no (Bool.eq_false_iff.mpr hb1)]; rfl))) (rfl))))) rfl
      refine g_loc (L2 := [(0, .ref (gad G 154)), (1, .int (nI j)), (2, .int (nI b)), (3, .int (nI 0)), (4, .int (nI 0))]) [2, 3, 4, 1, 0] rfl ?_
      exact g_eq (lp_43 (_ + 1) 0 (Nat.zero_le _) (Nat.lt_succ_self _)) (rfl) (gLc rfl (gLc rfl (gLc rfl (gLc (congrArg Value.int (rfl)) (rfl))))) rfl
    · refine g_ldc C wd_774 dX10_lose_15 ?_
      refine g_iret C hQ rfl dX10_lose_17 ?_
      first
        | exact ⟨_, rfl, fun q => absurd q (fun q => c_5 q.1), fun _ => ⟨rfl, MN.rf mem⟩⟩
        | exact ⟨_, rfl, fun q => absurd q (fun q => c_12 q.2), fun _ => ⟨rfl, MN.rf mem⟩⟩

def rm_X10_lost : Room := { frames := 2, cells := 0, slots := 0, locals := 43 }
theorem iX10_lost : gIv yX10_lost cX10_lost 3 (some .int) 2 := ⟨⟨wd_904, wd_32, by decide +kernel, by decide +kernel, by decide +kernel⟩, wd_902, wd_903⟩
set_option maxRecDepth 100000 in
set_option maxHeartbeats 4000000 in
theorem c_X10_lost (l : Launch) (G : gG) {T : Nat} (mem : gM) (g : Good T (mem 155)) (x y : Int32) : gMet l yX10_lost cX10_lost 3 (some .int) rm_X10_lost G [.ref (gad G 154), .int x, .int y] mem (fun a u => a = some (.int (lostR (mem 155) x y)) ∧ u = mem) := by
  refine g_of (own := RX10) (L0 := [(0, .ref (gad G 154)), (1, .int x), (2, .int y)]) (by decide +kernel) rfl (Nat.le_of_ble_eq_true rfl) rfl ?_
  intro p e s m args below meth c C Q hQ
  have hn10 := gd_n10 g
  refine g_aload_n C 0 dX10_lost_0 rfl ?_
  refine g_iload_n C 1 dX10_lost_1 rfl ?_
  refine g_cV1 C (As := [.int x]) (w := .int (b2i (memP (mem 155) x))) (mem3 := mem) iX10_isMember (c_X10_isMember l G mem g x) wd_788 ob_154 rfl ⟨Nat.le_of_ble_eq_true rfl, Nat.le_of_ble_eq_true rfl⟩ ⟨rfl, rfl⟩ rfl (Nat.le_of_ble_eq_true rfl) dX10_lost_2 (rfl) (rfl) ?_
  refine g_ifb_eq C 32 dX10_lost_5 (by decide) (fun c_5 => ?_) (fun c_5 => ?_)
  · refine g_ldc C wd_774 dX10_lost_32 ?_
    refine g_iret C hQ rfl dX10_lost_34 ?_
    first
      | exact ⟨by rw [lostR, if_neg (fun q => c_5 q.1)], rfl⟩
      | exact ⟨by rw [lostR, if_neg (fun q => c_12 q.2)], rfl⟩
      | exact ⟨by rw [lostR, if_pos ⟨c_5, c_12⟩, ej, eb, if_pos (by simpa using c_21)], rfl⟩
      | exact ⟨by rw [lostR, if_pos ⟨c_5, c_12⟩, ej, eb, if_neg (by rw [c_21]; decide)], rfl⟩
  · obtain ⟨j, hj, rfl⟩ := memP_ex g c_5
    have ej : toN (nI j) = j := toN_nI (by omega)
    refine g_iload_n C 2 dX10_lost_8 rfl ?_
    refine g_cS1 C (As := [.int y]) (w := .int (b2i (blkP y))) (mem3 := mem) iX10_isBlock (c_X10_isBlock l G mem y) wd_874 rfl ⟨Nat.le_of_ble_eq_true rfl, Nat.le_of_ble_eq_true rfl⟩ ⟨rfl, rfl⟩ rfl (Nat.le_of_ble_eq_true rfl) dX10_lost_9 (rfl) (rfl) ?_
    refine g_ifb_eq C 32 dX10_lost_12 (by decide) (fun c_12 => ?_) (fun c_12 => ?_)
    · refine g_ldc C wd_774 dX10_lost_32 ?_
      refine g_iret C hQ rfl dX10_lost_34 ?_
      first
        | exact ⟨by rw [lostR, if_neg (fun q => c_5 q.1)], rfl⟩
        | exact ⟨by rw [lostR, if_neg (fun q => c_12 q.2)], rfl⟩
        | exact ⟨by rw [lostR, if_pos ⟨c_5, c_12⟩, ej, eb, if_pos (by simpa using c_21)], rfl⟩
        | exact ⟨by rw [lostR, if_pos ⟨c_5, c_12⟩, ej, eb, if_neg (by rw [c_21]; decide)], rfl⟩
    · obtain ⟨b, hb, rfl⟩ := blkP_ex c_12
      have eb : toN (nI b) = b := toN_nI (by omega)
      refine g_aload_n C 0 dX10_lost_15 rfl ?_
      refine g_iload_n C 1 dX10_lost_16 rfl ?_
      refine g_iload_n C 2 dX10_lost_17 rfl ?_
      refine g_cV1 C (As := [.int (nI j), .int (nI b)]) (w := .int (b2i (vLo (mem 155) b j = false))) (mem3 := mem) iX10_has (c_X10_has l G mem (m1 := j) (b := b) (by omega) (by omega)) wd_808 ob_154 rfl ⟨Nat.le_of_ble_eq_true rfl, Nat.le_of_ble_eq_true rfl⟩ ⟨rfl, rfl⟩ rfl (Nat.le_of_ble_eq_true rfl) dX10_lost_18 (rfl) (rfl) ?_
      refine g_ifb_eq C 28 dX10_lost_21 (by decide) (fun c_21 => ?_) (fun c_21 => ?_)
      · refine g_iconst C (nI 1) dX10_lost_28 (by decide) ?_
        refine g_goto C 34 dX10_lost_29 (by decide) ?_
        refine g_iret C hQ rfl dX10_lost_34 ?_
        first
          | exact ⟨by rw [lostR, if_neg (fun q => c_5 q.1)], rfl⟩
          | exact ⟨by rw [lostR, if_neg (fun q => c_12 q.2)], rfl⟩
          | exact ⟨by rw [lostR, if_pos ⟨c_5, c_12⟩, ej, eb, if_pos (by simpa using c_21)], rfl⟩
          | exact ⟨by rw [lostR, if_pos ⟨c_5, c_12⟩, ej, eb, if_neg (by rw [c_21]; decide)], rfl⟩
      · refine g_iconst C (nI 0) dX10_lost_24 (by decide) ?_
        refine g_goto C 34 dX10_lost_25 (by decide) ?_
        refine g_iret C hQ rfl dX10_lost_34 ?_
        first
          | exact ⟨by rw [lostR, if_neg (fun q => c_5 q.1)], rfl⟩
          | exact ⟨by rw [lostR, if_neg (fun q => c_12 q.2)], rfl⟩
          | exact ⟨by rw [lostR, if_pos ⟨c_5, c_12⟩, ej, eb, if_pos (by simpa using c_21)], rfl⟩
          | exact ⟨by rw [lostR, if_pos ⟨c_5, c_12⟩, ej, eb, if_neg (by rw [c_21]; decide)], rfl⟩

def rm_X10_pastOf : Room := { frames := 0, cells := 0, slots := 0, locals := 0 }
theorem iX10_pastOf : gIv yX10_pastOf cX10_pastOf 3 (some .int) 2 := ⟨⟨wd_951, wd_32, by decide +kernel, by decide +kernel, by decide +kernel⟩, wd_950, wd_21⟩
set_option maxRecDepth 100000 in
set_option maxHeartbeats 4000000 in
theorem c_X10_pastOf (l : Launch) (G : gG) {T : Nat} (mem : gM) (g : Good T (mem 155)) (hT : T < 2 ^ 19) {i k : Nat} (hi : i < min (toN (mem 155 7)) 20) (hk : k < 7) : gMet l yX10_pastOf cX10_pastOf 3 (some .int) rm_X10_pastOf G [.ref (gad G 154), .int (nI i), .int (nI k)] mem (fun a u => a = some (.int (pastN (mem 155) i k)) ∧ u = mem) := by
  refine g_of (own := RX10) (L0 := [(0, .ref (gad G 154)), (1, .int (nI i)), (2, .int (nI k))]) (by decide +kernel) rfl (Nat.le_of_ble_eq_true rfl) rfl ?_
  intro p e s m args below meth c C Q hQ
  have hn10 := gd_n10 g
  have hgm := (gd_made g).2
  refine g_aload_n C 0 dX10_pastOf_0 rfl ?_
  refine g_get_r C ob_154 0 (by decide) rfl wd_703 dX10_pastOf_1 ?_
  refine g_sipush C (nI 360) dX10_pastOf_4 (by decide) ?_
  refine g_bipush C (nI 7) dX10_pastOf_7 (by decide) ?_
  refine g_aload_n C 0 dX10_pastOf_9 rfl ?_
  refine g_get_r C ob_154 0 (by decide) rfl wd_703 dX10_pastOf_10 ?_
  refine g_bipush C (nI 7) dX10_pastOf_13 (by decide) ?_
  refine g_iald_n C (j := 7) ar_155 rfl (by omega) (by decide) dX10_pastOf_15 ?_
  refine g_top (y := nI (toN (mem 155 7))) ((gd_made g).1) ?_
  refine g_iconst C (nI 1) dX10_pastOf_16 (by decide) ?_
  refine g_isub C dX10_pastOf_17 ?_
  refine g_top (pk_sub (by omega)) ?_
  refine g_iload_n C 1 dX10_pastOf_18 rfl ?_
  refine g_isub C dX10_pastOf_19 ?_
  refine g_top (pk_sub (by omega)) ?_
  refine g_bipush C (nI 20) dX10_pastOf_20 (by decide) ?_
  refine g_irem C (by decide) dX10_pastOf_22 ?_
  refine g_top (y := nI ((toN (mem 155 7) - 1 - i) % 20)) (pk_rem (by omega) (by decide) (by decide)) ?_
  refine g_imul_n C (d := 7 * ((toN (mem 155 7) - 1 - i) % 20)) dX10_pastOf_23 rfl ?_
  refine g_iadd_n C (d := 360 + (7 * ((toN (mem 155 7) - 1 - i) % 20))) dX10_pastOf_24 rfl ?_
  refine g_iload_n C 2 dX10_pastOf_25 rfl ?_
  refine g_iadd_n C (d := (360 + (7 * ((toN (mem 155 7) - 1 - i) % 20))) + k) dX10_pastOf_26 rfl ?_
  refine g_iald_n C (j := (360 + (7 * ((toN (mem 155 7) - 1 - i) % 20))) + k) ar_155 rfl (by omega) (by decide) dX10_pastOf_27 ?_
  refine g_iret C hQ rfl dX10_pastOf_28 ?_
  have hix : 360 + 7 * ((toN (mem 155 7) - 1 - i) % 20) + k = 360 + ((toN (mem 155 7) - 1 - i) % 20 * 7 + k) := by omega
  exact ⟨by rw [pastN, if_pos hi, hix], rfl⟩

def rm_X10_past : Room := { frames := 1, cells := 0, slots := 0, locals := 22 }
theorem iX10_past : gIv yX10_past cX10_past 3 (some .int) 2 := ⟨⟨wd_947, wd_32, by decide +kernel, by decide +kernel, by decide +kernel⟩, wd_945, wd_946⟩
set_option maxRecDepth 100000 in
set_option maxHeartbeats 4000000 in
theorem c_X10_past (l : Launch) (G : gG) {T : Nat} (mem : gM) (g : Good T (mem 155)) (hT : T < 2 ^ 19) (x y : Int32) : gMet l yX10_past cX10_past 3 (some .int) rm_X10_past G [.ref (gad G 154), .int x, .int y] mem (fun a u => a = some (.int (pastR (mem 155) x y)) ∧ u = mem) := by
  refine g_of (own := RX10) (L0 := [(0, .ref (gad G 154)), (1, .int x), (2, .int y)]) (by decide +kernel) rfl (Nat.le_of_ble_eq_true rfl) rfl ?_
  intro p e s m args below meth c C Q hQ
  have hn10 := gd_n10 g
  have hgm := (gd_made g).2
  refine g_iload_n C 1 dX10_past_0 rfl ?_
  refine g_if_lt C 14 dX10_past_1 (by decide) (fun c_1 => ?_) (fun c_1 => ?_)
  · refine g_ldc C wd_774 dX10_past_14 ?_
    refine g_iret C hQ rfl dX10_past_16 ?_
    first
      | exact ⟨by rw [pastR, if_neg (fun q => absurd c_1 (Int32.not_lt.mpr q.1))], rfl⟩
      | exact ⟨by rw [pastR, if_neg (fun q => c_11 q.2)], rfl⟩
  · obtain ⟨i, hi0, rfl⟩ := nI_of c_1
    refine g_iload_n C 2 dX10_past_4 rfl ?_
    refine g_iconst C (nI 0) dX10_past_5 (by decide) ?_
    refine g_bipush C (nI 6) dX10_past_6 (by decide) ?_
    refine g_cS1 C (As := [.int y, .int (nI 0), .int (nI 6)]) (w := .int (b2i (0 ≤ y ∧ y < nI 7))) (mem3 := mem) iX10_in (c_X10_in l G mem y (nI 0) (nI 6)) wd_771 rfl ⟨Nat.le_of_ble_eq_true rfl, Nat.le_of_ble_eq_true rfl⟩ ⟨rfl, rfl⟩ rfl (Nat.le_of_ble_eq_true rfl) dX10_past_8 (congrArg Value.int (b2i_congr (in_lt rfl (by decide)))) (rfl) ?_
    refine g_ifb_ne C 17 dX10_past_11 (by decide) (fun c_11 => ?_) (fun c_11 => ?_)
    · obtain ⟨k, hk, rfl⟩ := lt_ex (by decide) c_11
      refine g_iload_n C 1 dX10_past_17 rfl ?_
      refine g_bipush C (nI 20) dX10_past_18 (by decide) ?_
      refine g_icmp_ge C 43 dX10_past_20 (by decide) (fun c_20 => ?_) (fun c_20 => ?_)
      · have c_20 : 20 ≤ i := (nI_leI (by omega) (by omega)).mp c_20
        refine g_ldc C wd_783 dX10_past_43 ?_
        refine g_iret C hQ rfl dX10_past_45 ?_
        first
          | exact ⟨by rw [past_n hi0 hk, pastN, if_neg (by omega)], rfl⟩
          | exact ⟨by rw [past_n hi0 hk], rfl⟩
      · have c_20 : ¬ 20 ≤ i := mt (nI_leI (by omega) (by omega)).mpr c_20
        refine g_iload_n C 1 dX10_past_23 rfl ?_
        refine g_aload_n C 0 dX10_past_24 rfl ?_
        refine g_get_r C ob_154 0 (by decide) rfl wd_703 dX10_past_25 ?_
        refine g_bipush C (nI 7) dX10_past_28 (by decide) ?_
        refine g_iald_n C (j := 7) ar_155 rfl (by omega) (by decide) dX10_past_30 ?_
        refine g_top (y := nI (toN (mem 155 7))) ((gd_made g).1) ?_
        refine g_icmp_ge C 43 dX10_past_31 (by decide) (fun c_31 => ?_) (fun c_31 => ?_)
        · have c_31 : toN (mem 155 7) ≤ i := (nI_leI (by omega) (by omega)).mp c_31
          refine g_ldc C wd_783 dX10_past_43 ?_
          refine g_iret C hQ rfl dX10_past_45 ?_
          first
            | exact ⟨by rw [past_n hi0 hk, pastN, if_neg (by omega)], rfl⟩
            | exact ⟨by rw [past_n hi0 hk], rfl⟩
        · have c_31 : ¬ toN (mem 155 7) ≤ i := mt (nI_leI (by omega) (by omega)).mpr c_31
          refine g_aload_n C 0 dX10_past_34 rfl ?_
          refine g_iload_n C 1 dX10_past_35 rfl ?_
          refine g_iload_n C 2 dX10_past_36 rfl ?_
          refine g_cV1 C (As := [.int (nI i), .int (nI k)]) (w := .int (pastN (mem 155) i k)) (mem3 := mem) iX10_pastOf (c_X10_pastOf l G mem g hT (i := i) (k := k) (by omega) (by omega)) wd_948 ob_154 rfl ⟨Nat.le_of_ble_eq_true rfl, Nat.le_of_ble_eq_true rfl⟩ ⟨rfl, rfl⟩ rfl (Nat.le_of_ble_eq_true rfl) dX10_past_37 (rfl) (rfl) ?_
          refine g_goto C 45 dX10_past_40 (by decide) ?_
          refine g_iret C hQ rfl dX10_past_45 ?_
          first
            | exact ⟨by rw [past_n hi0 hk, pastN, if_neg (by omega)], rfl⟩
            | exact ⟨by rw [past_n hi0 hk], rfl⟩
    · refine g_ldc C wd_774 dX10_past_14 ?_
      refine g_iret C hQ rfl dX10_past_16 ?_
      first
        | exact ⟨by rw [pastR, if_neg (fun q => absurd c_1 (Int32.not_lt.mpr q.1))], rfl⟩
        | exact ⟨by rw [pastR, if_neg (fun q => c_11 q.2)], rfl⟩

/-- what the model's undo answers and leaves -/
def MU (h : Nat) (mem u : gM) (r : Int32) : Prop :=
  (h = 0 → r = kNone ∧ MN mem u) ∧ (0 < h → r = nI (h - 1) ∧ u 155 = cpy 520 (fun i => mem 156 (520 * (h - 1) + i)) (mem 155) ∧ u 156 = mem 156 ∧ u 154 2 = nI (h - 1) ∧ u 154 7 = mem 154 7 ∧ u 158 = mem 158 ∧ ∀ k, k < 154 → u k = mem k)

def rm_X10_undo : Room := { frames := 0, cells := 0, slots := 0, locals := 0 }
theorem iX10_undo : gIv yX10_undo cX10_undo 2 (some .int) 0 := ⟨⟨wd_970, wd_32, by decide +kernel, by decide +kernel, by decide +kernel⟩, wd_968, wd_969⟩
set_option maxRecDepth 100000 in
set_option maxHeartbeats 4000000 in
theorem c_X10_undo (l : Launch) (G : gG) (mem : gM) {h : Nat} (hh : mem 154 2 = nI h) (h4 : h ≤ 4) : gMet l yX10_undo cX10_undo 2 (some .int) rm_X10_undo G [.ref (gad G 154)] mem (fun a u => ∃ rr : Int32, a = some (.int rr) ∧ MU h mem u rr) := by
  refine g_of (own := RX10) (L0 := [(0, .ref (gad G 154))]) (by decide +kernel) rfl (Nat.le_of_ble_eq_true rfl) rfl ?_
  intro p e s m args below meth c C Q hQ
  refine g_aload_n C 0 dX10_undo_0 rfl ?_
  refine g_get_i C ob_154 2 (by decide) rfl wd_705 dX10_undo_1 ?_
  refine g_top (y := nI h) (hh) ?_
  refine g_if_ne C 10 dX10_undo_4 (by decide) (fun c_4 => ?_) (fun c_4 => ?_)
  · have hpos : 0 < h := Nat.pos_of_ne_zero fun q => c_4 (by rw [q]; rfl)
    refine g_aload_n C 0 dX10_undo_10 rfl ?_
    refine g_dup C dX10_undo_11 rfl ?_
    refine g_get_i C ob_154 2 (by decide) rfl wd_705 dX10_undo_12 ?_
    refine g_top (y := nI h) (hh) ?_
    refine g_iconst C (nI 1) dX10_undo_15 (by decide) ?_
    refine g_isub C dX10_undo_16 ?_
    refine g_top (pk_sub (by omega)) ?_
    refine g_put_i C ob_154 2 (by decide) rfl wd_705 rfl rfl dX10_undo_17 ?_
    refine g_iconst C (nI 0) dX10_undo_20 (by decide) ?_
    refine g_istore_n C (L2 := [(1, .int (nI 0)), (0, .ref (gad G 154))]) dX10_undo_21 (by decide) rfl ?_
    have lp_22 : ∀ (fu : Nat) (k : Nat), (k ≤ 520) → 520 - k < fu → gV p l e rm_X10_undo s m args below meth c 0 0 Q G 2 (gr (gr mem 154 (upd (mem 154) 2 (nI (h - 1)))) 155 (cpy k (fun i => mem 156 (520 * (h - 1) + i)) (mem 155))) 22 [(0, .ref (gad G 154)), (1, .int (nI k))] [] := by
      intro fu
      induction fu with
      | zero => intro k _ hfu; exact absurd hfu (Nat.not_lt_zero _)
      | succ fu ih_22 =>
        intro k hk hfu_22
        refine g_iload_n C 1 dX10_undo_22 rfl ?_
        refine g_sipush C (nI 520) dX10_undo_23 (by decide) ?_
        refine g_icmp_ge C 56 dX10_undo_26 (by decide) (fun c_26 => ?_) (fun c_26 => ?_)
        · have hin : k = 520 := by have q := (nI_leI (a := 520) (b := k) (by omega) (by omega)).mp c_26; omega
          refine g_aload_n C 0 dX10_undo_56 rfl ?_
          refine g_get_i C ob_154 2 (by decide) rfl wd_705 dX10_undo_57 ?_
          refine g_top (y := nI (h - 1)) (rfl) ?_
          refine g_iret C hQ rfl dX10_undo_60 ?_
          exact ⟨_, rfl, fun q => absurd q (by omega), fun _ => ⟨rfl, by rw [hin]; rfl, rfl, rfl, rfl, rfl, fun q hq => by rw [gr_n (by omega), gr_n (by omega)]⟩⟩
        · have hi2 : k < 520 := by have q := mt (nI_leI (a := 520) (b := k) (by omega) (by omega)).mpr c_26; omega
          refine g_aload_n C 0 dX10_undo_29 rfl ?_
          refine g_get_r C ob_154 0 (by decide) rfl wd_703 dX10_undo_30 ?_
          refine g_iload_n C 1 dX10_undo_33 rfl ?_
          refine g_aload_n C 0 dX10_undo_34 rfl ?_
          refine g_get_r C ob_154 1 (by decide) rfl wd_704 dX10_undo_35 ?_
          refine g_sipush C (nI 520) dX10_undo_38 (by decide) ?_
          refine g_aload_n C 0 dX10_undo_41 rfl ?_
          refine g_get_i C ob_154 2 (by decide) rfl wd_705 dX10_undo_42 ?_
          refine g_top (y := nI (h - 1)) (rfl) ?_
          refine g_imul_n C (d := 520 * (h - 1)) dX10_undo_45 rfl ?_
          refine g_iload_n C 1 dX10_undo_46 rfl ?_
          refine g_iadd_n C (d := (520 * (h - 1)) + k) dX10_undo_47 rfl ?_
          refine g_iald_n C (j := (520 * (h - 1)) + k) ar_156 rfl (by omega) (by decide) dX10_undo_48 ?_
          refine g_top (y := mem 156 ((520 * (h - 1)) + k)) (rfl) ?_
          refine g_iast_n C (j := k) ar_155 rfl (by omega) (by decide) dX10_undo_49 ?_
          refine g_mem (mem2 := gr (gr mem 154 (upd (mem 154) 2 (nI (h - 1)))) 155 (upd (cpy k (fun i => mem 156 (520 * (h - 1) + i)) (mem 155)) k (mem 156 ((520 * (h - 1)) + k)))) (gr_gr _ _ _ _) ?_
          refine g_iinc C (v := nI (k + 1)) (L2 := [(1, .int (nI (k + 1))), (0, .ref (gad G 154))]) 1 dX10_undo_50 rfl (nI_1 _) (by decide) rfl ?_
          refine g_goto C 22 dX10_undo_53 (by decide) ?_
          refine g_loc (L2 := [(0, .ref (gad G 154)), (1, .int (nI (k + 1)))]) [1, 0] rfl ?_
          exact g_eq (ih_22 (k + 1) (hi2) (by omega)) (by rw [cpy_s rfl]) (rfl) rfl
    refine g_loc (L2 := [(0, .ref (gad G 154)), (1, .int (nI 0))]) [1, 0] rfl ?_
    exact g_eq (lp_22 (_ + 1) 0 (Nat.zero_le _) (Nat.lt_succ_self _)) (by rw [cpy_0]; first | exact (gr_self _ 155).symm | exact gr_self _ 155) (rfl) rfl
  · have h0 : h = 0 := (nI_iff (by omega) (by decide)).mp c_4
    refine g_ldc C wd_783 dX10_undo_7 ?_
    refine g_iret C hQ rfl dX10_undo_9 ?_
    exact ⟨_, rfl, fun _ => ⟨rfl, MN.rf mem⟩, fun q => absurd q (by omega)⟩
