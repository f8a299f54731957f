def rm_X10_isIn : Room := { frames := 0, cells := 0, slots := 0, locals := 0 }
theorem iX10_isIn : gIv yX10_isIn cX10_isIn 3 (some .boolean) 2 := ⟨⟨wd_920, wd_32, by decide +kernel, by decide +kernel, by decide +kernel⟩, wd_919, wd_17⟩
set_option maxRecDepth 100000 in
set_option maxHeartbeats 4000000 in
theorem c_X10_isIn (l : Launch) (G : gG) (mem : gM) (x : Int32) {m1 : Nat} (hm : m1 < 32) : gMet l yX10_isIn cX10_isIn 3 (some .boolean) rm_X10_isIn G [.ref (gad G 154), .int x, .int (nI m1)] mem (fun a u => a = some (.int (b2i (hs x m1))) ∧ u = mem) := by
  refine g_of (own := RX10) (L0 := [(0, .ref (gad G 154)), (1, .int x), (2, .int (nI m1))]) (by decide +kernel) rfl (Nat.le_of_ble_eq_true rfl) rfl ?_
  intro p e s m args below meth c C Q hQ
  refine g_iload_n C 1 dX10_isIn_0 rfl ?_
  refine g_iload_n C 2 dX10_isIn_1 rfl ?_
  refine g_ishr C dX10_isIn_2 ?_
  refine g_iconst C (nI 1) dX10_isIn_3 (by decide) ?_
  refine g_iand C dX10_isIn_4 ?_
  refine g_iconst C (nI 1) dX10_isIn_5 (by decide) ?_
  refine g_icmp_ne C 13 dX10_isIn_6 (by decide) (fun c_6 => ?_) (fun c_6 => ?_)
  · refine g_iconst C (nI 0) dX10_isIn_13 (by decide) ?_
    refine g_zret C hQ rfl (Or.inl rfl) dX10_isIn_14 ?_
    first
      | exact ⟨by rw [b2i_t (P := hs x m1) c_6]; rfl, rfl⟩
      | exact ⟨by rw [b2i_f (P := hs x m1) c_6]; rfl, rfl⟩
  · refine g_iconst C (nI 1) dX10_isIn_9 (by decide) ?_
    refine g_goto C 14 dX10_isIn_10 (by decide) ?_
    refine g_zret C hQ rfl (Or.inr rfl) dX10_isIn_14 ?_
    first
      | exact ⟨by rw [b2i_t (P := hs x m1) c_6]; rfl, rfl⟩
      | exact ⟨by rw [b2i_f (P := hs x m1) c_6]; rfl, rfl⟩

def rm_X10_many : Room := { frames := 0, cells := 0, slots := 0, locals := 0 }
theorem iX10_many : gIs yX10_many cX10_many 3 (some .int) 1 := ⟨⟨wd_931, wd_32, by decide +kernel, by decide +kernel, by decide +kernel⟩, wd_930⟩
set_option maxRecDepth 100000 in
set_option maxHeartbeats 4000000 in
theorem c_X10_many (l : Launch) (G : gG) (mem : gM) (x : Int32) : gMet l yX10_many cX10_many 3 (some .int) rm_X10_many G [.int x] mem (fun a u => a = some (.int (nI (fa_cnt (bt x) 10))) ∧ u = mem) := by
  refine g_of (own := RX10) (L0 := [(0, .int x)]) (by decide +kernel) rfl (Nat.le_of_ble_eq_true rfl) rfl ?_
  intro p e s m args below meth c C Q hQ
  refine g_iconst C (nI 0) dX10_many_0 (by decide) ?_
  refine g_istore_n C (L2 := [(1, .int (nI 0)), (0, .int x)]) dX10_many_1 (by decide) rfl ?_
  refine g_iconst C (nI 0) dX10_many_2 (by decide) ?_
  refine g_istore_n C (L2 := [(2, .int (nI 0)), (1, .int (nI 0)), (0, .int x)]) dX10_many_3 (by decide) rfl ?_
  have lp_4 : ∀ (fu : Nat) (i : Nat), (i ≤ 10) → 10 - i < fu → gV p l e rm_X10_many s m args below meth c 0 0 Q G 3 mem 4 [(0, .int x), (1, .int (nI (fa_cnt (bt x) i))), (2, .int (nI i))] [] := by
    intro fu
    induction fu with
    | zero => intro i _ hfu; exact absurd hfu (Nat.not_lt_zero _)
    | succ fu ih_4 =>
      intro i hi hfu_4
      refine g_iload_n C 2 dX10_many_4 rfl ?_
      refine g_bipush C (nI 10) dX10_many_5 (by decide) ?_
      refine g_icmp_ge C 24 dX10_many_7 (by decide) (fun c_7 => ?_) (fun c_7 => ?_)
      · have hin : i = 10 := by have q := (nI_leI (a := 10) (b := i) (by omega) (by omega)).mp c_7; omega
        refine g_iload_n C 1 dX10_many_24 rfl ?_
        refine g_iret C hQ rfl dX10_many_25 ?_
        exact ⟨by rw [hin], rfl⟩
      · have hi2 : i < 10 := by have q := mt (nI_leI (a := 10) (b := i) (by omega) (by omega)).mpr c_7; omega
        refine g_iload_n C 1 dX10_many_10 rfl ?_
        refine g_iload_n C 0 dX10_many_11 rfl ?_
        refine g_iload_n C 2 dX10_many_12 rfl ?_
        refine g_ishr C dX10_many_13 ?_
        refine g_iconst C (nI 1) dX10_many_14 (by decide) ?_
        by_cases hb : bt x i = true
        · refine g_iand C dX10_many_15 ?_
          refine g_top (y := nI 1) ((hs_bd (by omega)).trans (if_pos hb)) ?_
          refine g_iadd_n C (d := (fa_cnt (bt x) i) + 1) dX10_many_16 rfl ?_
          refine g_istore_n C (L2 := [(1, .int (nI ((fa_cnt (bt x) i) + 1))), (0, .int x), (2, .int (nI i))]) dX10_many_17 (by decide) rfl ?_
          refine g_iinc C (v := nI (i + 1)) (L2 := [(2, .int (nI (i + 1))), (1, .int (nI ((fa_cnt (bt x) i) + 1))), (0, .int x)]) 2 dX10_many_18 rfl (nI_1 _) (by decide) rfl ?_
          refine g_goto C 4 dX10_many_21 (by decide) ?_
          refine g_loc (L2 := [(0, .int x), (1, .int (nI ((fa_cnt (bt x) i) + 1))), (2, .int (nI (i + 1)))]) [2, 1, 0] rfl ?_
          exact g_eq (ih_4 (i + 1) (hi2) (by omega)) (rfl) (gLc rfl (gLc (congrArg Value.int (by first | (rw [fa_cnt_yes hb]; done) | (rw [fa_cnt_no (Bool.eq_false_iff.mpr hb)]; rfl))) (rfl))) rfl
        · refine g_iand C dX10_many_15 ?_
          refine g_top (y := nI 0) ((hs_bd (by omega)).trans (if_neg hb)) ?_
          refine g_iadd_n C (d := (fa_cnt (bt x) i) + 0) dX10_many_16 rfl ?_
          refine g_istore_n C (L2 := [(1, .int (nI ((fa_cnt (bt x) i) + 0))), (0, .int x), (2, .int (nI i))]) dX10_many_17 (by decide) rfl ?_
          refine g_iinc C (v := nI (i + 1)) (L2 := [(2, .int (nI (i + 1))), (1, .int (nI ((fa_cnt (bt x) i) + 0))), (0, .int x)]) 2 dX10_many_18 rfl (nI_1 _) (by decide) rfl ?_
          refine g_goto C 4 dX10_many_21 (by decide) ?_
          refine g_loc (L2 := [(0, .int x), (1, .int (nI ((fa_cnt (bt x) i) + 0))), (2, .int (nI (i + 1)))]) [2, 1, 0] rfl ?_
          exact g_eq (ih_4 (i + 1) (hi2) (by omega)) (rfl) (gLc rfl (gLc (congrArg Value.int (by first | (rw [fa_cnt_yes hb]; done) | (rw [fa_cnt_no (Bool.eq_false_iff.mpr hb)]; rfl))) (rfl))) rfl
  refine g_loc (L2 := [(0, .int x), (1, .int (nI 0)), (2, .int (nI 0))]) [2, 1, 0] rfl ?_
  exact g_eq (lp_4 (_ + 1) 0 (Nat.zero_le _) (Nat.lt_succ_self _)) (rfl) (gLc rfl (gLc (congrArg Value.int (rfl)) (rfl))) rfl

theorem lot_q (s : Int32) {k : Nat} (h0 : 0 < k) (h : k < 2 ^ 31) : g_ushr s (nI 16) - g_ushr s (nI 16) / nI k * nI k = nI (lotN s k) := by
  rw [← lot_n s h0 h, lotI, if_pos (show (0 : Int32) < nI k from nI_lt (a := 0) h0 h)]

def rm_X10_lot : Room := { frames := 1, cells := 0, slots := 0, locals := 21 }
theorem iX10_lot : gIv yX10_lot cX10_lot 2 (some .int) 1 := ⟨⟨wd_856, wd_32, by decide +kernel, by decide +kernel, by decide +kernel⟩, wd_855, wd_11⟩
set_option maxRecDepth 100000 in
set_option maxHeartbeats 4000000 in
theorem c_X10_lot (l : Launch) (G : gG) (mem : gM) {s0 : Int32} (hs0 : mem 154 5 = s0) {k : Nat} (hk : 0 < k) (hk2 : k < 2 ^ 31) : gMet l yX10_lot cX10_lot 2 (some .int) rm_X10_lot G [.ref (gad G 154), .int (nI k)] mem (fun a u => a = some (.int (nI (lotN (mixI s0) k))) ∧ u = gr mem 154 (upd (mem 154) 5 (mixI s0))) := by
  refine g_of (own := RX10) (L0 := [(0, .ref (gad G 154)), (1, .int (nI k))]) (by decide +kernel) rfl (Nat.le_of_ble_eq_true rfl) rfl ?_
  intro p e s m args below meth c C Q hQ
  refine g_aload_n C 0 dX10_lot_0 rfl ?_
  refine g_aload_n C 0 dX10_lot_1 rfl ?_
  refine g_get_i C ob_154 5 (by decide) rfl wd_708 dX10_lot_2 ?_
  refine g_top (y := s0) (hs0) ?_
  refine g_cS1 C (As := [.int s0]) (w := .int (mixI s0)) (mem3 := mem) iX10_mixed (c_X10_mixed l G mem s0) wd_824 rfl ⟨Nat.le_of_ble_eq_true rfl, Nat.le_of_ble_eq_true rfl⟩ ⟨rfl, rfl⟩ rfl (Nat.le_of_ble_eq_true rfl) dX10_lot_5 (rfl) (rfl) ?_
  refine g_put_i C ob_154 5 (by decide) rfl wd_708 rfl rfl dX10_lot_8 ?_
  refine g_aload_n C 0 dX10_lot_11 rfl ?_
  refine g_get_i C ob_154 5 (by decide) rfl wd_708 dX10_lot_12 ?_
  refine g_top (y := mixI s0) (rfl) ?_
  refine g_bipush C (nI 16) dX10_lot_15 (by decide) ?_
  refine g_iushr C dX10_lot_17 ?_
  refine g_iload_n C 1 dX10_lot_18 rfl ?_
  refine g_irem C (fun q => absurd ((nI_iff (b := 0) (by omega) (by decide)).mp q) (by omega)) dX10_lot_19 ?_
  refine g_top (y := nI (lotN (mixI s0) k)) (lot_q _ hk hk2) ?_
  refine g_iret C hQ rfl dX10_lot_20 ?_
  exact ⟨rfl, rfl⟩

def rm_X10_seeds : Room := { frames := 1, cells := 0, slots := 0, locals := 21 }
theorem iX10_seeds : gIv yX10_seeds cX10_seeds 4 (some .int) 1 := ⟨⟨wd_848, wd_32, by decide +kernel, by decide +kernel, by decide +kernel⟩, wd_847, wd_9⟩
set_option maxRecDepth 100000 in
set_option maxHeartbeats 4000000 in
theorem c_X10_seeds (l : Launch) (G : gG) {T : Nat} (mem : gM) (g : Good T (mem 155)) (x : Int32) : gMet l yX10_seeds cX10_seeds 4 (some .int) rm_X10_seeds G [.ref (gad G 154), .int x] mem (fun a u => a = some (.int (nI (fa_cnt (lfP (mem 155) x) (vN (mem 155))))) ∧ u = gr mem 154 (upd (mem 154) 3 (nSd (mem 155) (mk (lfP (mem 155) x) (vN (mem 155)))))) := by
  refine g_of (own := RX10) (L0 := [(0, .ref (gad G 154)), (1, .int x)]) (by decide +kernel) rfl (Nat.le_of_ble_eq_true rfl) rfl ?_
  intro p e s m args below meth c C Q hQ
  have hn10 := gd_n10 g
  refine g_iconst C (nI 0) dX10_seeds_0 (by decide) ?_
  refine g_istore_n C (L2 := [(2, .int (nI 0)), (0, .ref (gad G 154)), (1, .int x)]) dX10_seeds_1 (by decide) rfl ?_
  refine g_aload_n C 1 dX10_seeds_2 rfl ?_
  refine g_aload_n C 1 dX10_seeds_3 rfl ?_
  refine g_get_r C ob_154 0 (by decide) rfl wd_703 dX10_seeds_4 ?_
  refine g_bipush C (nI 6) dX10_seeds_7 (by decide) ?_
  refine g_iald_n C (j := 6) ar_155 rfl (by omega) (by decide) dX10_seeds_9 ?_
  refine g_iconst C (nI 1) dX10_seeds_10 (by decide) ?_
  refine g_iadd C dX10_seeds_11 ?_
  refine g_put_i C ob_154 3 (by decide) rfl wd_706 rfl rfl dX10_seeds_12 ?_
  refine g_iconst C (nI 0) dX10_seeds_15 (by decide) ?_
  refine g_istore_n C (L2 := [(3, .int (nI 0)), (2, .int (nI 0)), (0, .ref (gad G 154)), (1, .int x)]) dX10_seeds_16 (by decide) rfl ?_
  have lp_17 : ∀ (fu : Nat) (i : Nat), (i ≤ vN (mem 155)) → vN (mem 155) - i < fu → gV p l e rm_X10_seeds s m args below meth c 0 0 Q G 4 (gr mem 154 (upd (mem 154) 3 (sdF (mk (lfP (mem 155) x) (vN (mem 155))) (fun m => mem 155 (40 + 12 * m)) (mem 155 6 + nI 1) i))) 17 [(0, .ref (gad G 154)), (1, .int x), (2, .int (nI (fa_cnt (lfP (mem 155) x) i))), (3, .int (nI i))] [] := by
    intro fu
    induction fu with
    | zero => intro i _ hfu; exact absurd hfu (Nat.not_lt_zero _)
    | succ fu ih_17 =>
      intro i hi hfu_17
      refine g_iload_n C 3 dX10_seeds_17 rfl ?_
      refine g_aload_n C 0 dX10_seeds_18 rfl ?_
      refine g_get_r C ob_154 0 (by decide) rfl wd_703 dX10_seeds_19 ?_
      refine g_iconst C (nI 5) dX10_seeds_22 (by decide) ?_
      refine g_iald_n C (j := 5) ar_155 rfl (by omega) (by decide) dX10_seeds_23 ?_
      refine g_top (y := mem 155 5) (rfl) ?_
      refine g_top (y := nI (vN (mem 155))) (gd_n g) ?_
      refine g_icmp_ge C 82 dX10_seeds_24 (by decide) (fun c_24 => ?_) (fun c_24 => ?_)
      · have hin : i = vN (mem 155) := by have q := (nI_leI (a := vN (mem 155)) (b := i) (by omega) (by omega)).mp c_24; omega
        refine g_iload_n C 2 dX10_seeds_82 rfl ?_
        refine g_iret C hQ rfl dX10_seeds_83 ?_
        exact ⟨by rw [hin], by rw [hin]; rfl⟩
      · have hi2 : i < vN (mem 155) := by have q := mt (nI_leI (a := vN (mem 155)) (b := i) (by omega) (by omega)).mpr c_24; omega
        refine g_aload_n C 0 dX10_seeds_27 rfl ?_
        refine g_get_r C ob_154 0 (by decide) rfl wd_703 dX10_seeds_28 ?_
        refine g_iload_n C 3 dX10_seeds_31 rfl ?_
        refine g_bipush C (nI 8) dX10_seeds_32 (by decide) ?_
        refine g_cS1 C (As := [.int (nI i), .int (nI 8)]) (w := .int (nI (38 + 12 * i))) (mem3 := gr mem 154 (upd (mem 154) 3 (sdF (mk (lfP (mem 155) x) (vN (mem 155))) (fun m => mem 155 (40 + 12 * m)) (mem 155 6 + nI 1) i))) iX10_at (c_X10_at l G (gr mem 154 (upd (mem 154) 3 (sdF (mk (lfP (mem 155) x) (vN (mem 155))) (fun m => mem 155 (40 + 12 * m)) (mem 155 6 + nI 1) i))) i 8) wd_780 rfl ⟨Nat.le_of_ble_eq_true rfl, Nat.le_of_ble_eq_true rfl⟩ ⟨rfl, rfl⟩ rfl (Nat.le_of_ble_eq_true rfl) dX10_seeds_34 (congrArg Value.int (congrArg nI (by omega))) (rfl) ?_
        refine g_iald_n C (j := 38 + 12 * i) ar_155 rfl (by omega) (by decide) dX10_seeds_37 ?_
        refine g_top (y := mem 155 (38 + 12 * i)) (rfl) ?_
        refine g_iconst C (nI 2) dX10_seeds_38 (by decide) ?_
        refine g_icmp_ne C 76 dX10_seeds_39 (by decide) (fun c_39 => ?_) (fun c_39 => ?_)
        · have hnp : ¬ lfP (mem 155) x i = true := fun q => c_39 ((lf_p hn10 hi2).mp q).1
          have hnh : ¬ hs (mk (lfP (mem 155) x) (vN (mem 155))) i := fun q => c_39 ((lf_hs hn10 hi2).mp q).1
          refine g_iinc C (v := nI (i + 1)) (L2 := [(3, .int (nI (i + 1))), (0, .ref (gad G 154)), (1, .int x), (2, .int (nI (fa_cnt (lfP (mem 155) x) i)))]) 3 dX10_seeds_76 rfl (nI_1 _) (by decide) rfl ?_
          refine g_goto C 17 dX10_seeds_79 (by decide) ?_
          refine g_loc (L2 := [(0, .ref (gad G 154)), (1, .int x), (2, .int (nI (fa_cnt (lfP (mem 155) x) i))), (3, .int (nI (i + 1)))]) [1, 2, 3, 0] rfl ?_
          exact g_eq (ih_17 (i + 1) (hi2) (by omega)) (by first | (rw [upd_upd, sd_t hyh]; done) | (rw [sd_f hnh]; done)) (gLc rfl (gLc rfl (gLc (congrArg Value.int (by first | (rw [fa_cnt_yes hyp]; done) | (rw [fa_cnt_no (Bool.eq_false_iff.mpr hnp)]; done))) (rfl)))) rfl
        · refine g_iload_n C 1 dX10_seeds_42 rfl ?_
          refine g_iload_n C 3 dX10_seeds_43 rfl ?_
          refine g_ishr C dX10_seeds_44 ?_
          refine g_iconst C (nI 1) dX10_seeds_45 (by decide) ?_
          refine g_iand C dX10_seeds_46 ?_
          refine g_if_ne C 76 dX10_seeds_47 (by decide) (fun c_47 => ?_) (fun c_47 => ?_)
          · have hxx : hs x i := Classical.not_not.mp (mt (nhs_0 (by omega)).mpr c_47)
            have hnp : ¬ lfP (mem 155) x i = true := fun q => ((lf_p hn10 hi2).mp q).2 hxx
            have hnh : ¬ hs (mk (lfP (mem 155) x) (vN (mem 155))) i := fun q => ((lf_hs hn10 hi2).mp q).2 hxx
            refine g_iinc C (v := nI (i + 1)) (L2 := [(3, .int (nI (i + 1))), (0, .ref (gad G 154)), (1, .int x), (2, .int (nI (fa_cnt (lfP (mem 155) x) i)))]) 3 dX10_seeds_76 rfl (nI_1 _) (by decide) rfl ?_
            refine g_goto C 17 dX10_seeds_79 (by decide) ?_
            refine g_loc (L2 := [(0, .ref (gad G 154)), (1, .int x), (2, .int (nI (fa_cnt (lfP (mem 155) x) i))), (3, .int (nI (i + 1)))]) [1, 2, 3, 0] rfl ?_
            exact g_eq (ih_17 (i + 1) (hi2) (by omega)) (by first | (rw [upd_upd, sd_t hyh]; done) | (rw [sd_f hnh]; done)) (gLc rfl (gLc rfl (gLc (congrArg Value.int (by first | (rw [fa_cnt_yes hyp]; done) | (rw [fa_cnt_no (Bool.eq_false_iff.mpr hnp)]; done))) (rfl)))) rfl
          · have hyp : lfP (mem 155) x i = true := (lf_p hn10 hi2).mpr ⟨c_39, (nhs_0 (by omega)).mp c_47⟩
            have hyh : hs (mk (lfP (mem 155) x) (vN (mem 155))) i := (lf_hs hn10 hi2).mpr ⟨c_39, (nhs_0 (by omega)).mp c_47⟩
            refine g_aload_n C 0 dX10_seeds_50 rfl ?_
            refine g_aload_n C 0 dX10_seeds_51 rfl ?_
            refine g_get_i C ob_154 3 (by decide) rfl wd_706 dX10_seeds_52 ?_
            refine g_top (y := sdF (mk (lfP (mem 155) x) (vN (mem 155))) (fun m => mem 155 (40 + 12 * m)) (mem 155 6 + nI 1) i) (rfl) ?_
            refine g_aload_n C 0 dX10_seeds_55 rfl ?_
            refine g_get_r C ob_154 0 (by decide) rfl wd_703 dX10_seeds_56 ?_
            refine g_iload_n C 3 dX10_seeds_59 rfl ?_
            refine g_bipush C (nI 10) dX10_seeds_60 (by decide) ?_
            refine g_cS1 C (As := [.int (nI i), .int (nI 10)]) (w := .int (nI (40 + 12 * i))) (mem3 := gr mem 154 (upd (mem 154) 3 (sdF (mk (lfP (mem 155) x) (vN (mem 155))) (fun m => mem 155 (40 + 12 * m)) (mem 155 6 + nI 1) i))) iX10_at (c_X10_at l G (gr mem 154 (upd (mem 154) 3 (sdF (mk (lfP (mem 155) x) (vN (mem 155))) (fun m => mem 155 (40 + 12 * m)) (mem 155 6 + nI 1) i))) i 10) wd_780 rfl ⟨Nat.le_of_ble_eq_true rfl, Nat.le_of_ble_eq_true rfl⟩ ⟨rfl, rfl⟩ rfl (Nat.le_of_ble_eq_true rfl) dX10_seeds_62 (congrArg Value.int (congrArg nI (by omega))) (rfl) ?_
            refine g_iald_n C (j := 40 + 12 * i) ar_155 rfl (by omega) (by decide) dX10_seeds_65 ?_
            refine g_top (y := mem 155 (40 + 12 * i)) (rfl) ?_
            refine g_ixor C dX10_seeds_66 ?_
            refine g_cS1 C (As := [.int ((sdF (mk (lfP (mem 155) x) (vN (mem 155))) (fun m => mem 155 (40 + 12 * m)) (mem 155 6 + nI 1) i) ^^^ (mem 155 (40 + 12 * i)))]) (w := .int (mixI ((sdF (mk (lfP (mem 155) x) (vN (mem 155))) (fun m => mem 155 (40 + 12 * m)) (mem 155 6 + nI 1) i) ^^^ (mem 155 (40 + 12 * i))))) (mem3 := gr mem 154 (upd (mem 154) 3 (sdF (mk (lfP (mem 155) x) (vN (mem 155))) (fun m => mem 155 (40 + 12 * m)) (mem 155 6 + nI 1) i))) iX10_mixed (c_X10_mixed l G (gr mem 154 (upd (mem 154) 3 (sdF (mk (lfP (mem 155) x) (vN (mem 155))) (fun m => mem 155 (40 + 12 * m)) (mem 155 6 + nI 1) i))) ((sdF (mk (lfP (mem 155) x) (vN (mem 155))) (fun m => mem 155 (40 + 12 * m)) (mem 155 6 + nI 1) i) ^^^ (mem 155 (40 + 12 * i)))) wd_824 rfl ⟨Nat.le_of_ble_eq_true rfl, Nat.le_of_ble_eq_true rfl⟩ ⟨rfl, rfl⟩ rfl (Nat.le_of_ble_eq_true rfl) dX10_seeds_67 (rfl) (rfl) ?_
            refine g_put_i C ob_154 3 (by decide) rfl wd_706 rfl rfl dX10_seeds_70 ?_
            refine g_mem (mem2 := gr mem 154 (upd (upd (mem 154) 3 (sdF (mk (lfP (mem 155) x) (vN (mem 155))) (fun m => mem 155 (40 + 12 * m)) (mem 155 6 + nI 1) i)) 3 (mixI ((sdF (mk (lfP (mem 155) x) (vN (mem 155))) (fun m => mem 155 (40 + 12 * m)) (mem 155 6 + nI 1) i) ^^^ (mem 155 (40 + 12 * i)))))) (gr_gr _ _ _ _) ?_
            refine g_iinc C (v := nI (fa_cnt (lfP (mem 155) x) i + 1)) (L2 := [(2, .int (nI (fa_cnt (lfP (mem 155) x) i + 1))), (0, .ref (gad G 154)), (1, .int x), (3, .int (nI i))]) 2 dX10_seeds_73 rfl (nI_1 _) (by decide) rfl ?_
            refine g_iinc C (v := nI (i + 1)) (L2 := [(3, .int (nI (i + 1))), (2, .int (nI (fa_cnt (lfP (mem 155) x) i + 1))), (0, .ref (gad G 154)), (1, .int x)]) 3 dX10_seeds_76 rfl (nI_1 _) (by decide) rfl ?_
            refine g_goto C 17 dX10_seeds_79 (by decide) ?_
            refine g_loc (L2 := [(0, .ref (gad G 154)), (1, .int x), (2, .int (nI (fa_cnt (lfP (mem 155) x) i + 1))), (3, .int (nI (i + 1)))]) [2, 3, 1, 0] rfl ?_
            exact g_eq (ih_17 (i + 1) (hi2) (by omega)) (by first | (rw [upd_upd, sd_t hyh]; done) | (rw [sd_f hnh]; done)) (gLc rfl (gLc rfl (gLc (congrArg Value.int (by first | (rw [fa_cnt_yes hyp]; done) | (rw [fa_cnt_no (Bool.eq_false_iff.mpr hnp)]; done))) (rfl)))) rfl
  refine g_loc (L2 := [(0, .ref (gad G 154)), (1, .int x), (2, .int (nI 0)), (3, .int (nI 0))]) [2, 3, 1, 0] rfl ?_
  exact g_eq (lp_17 (_ + 1) 0 (Nat.zero_le _) (Nat.lt_succ_self _)) (rfl) (gLc rfl (gLc rfl (gLc (congrArg Value.int (rfl)) (rfl)))) rfl

def rm_X10_lists : Room := { frames := 2, cells := 0, slots := 0, locals := 42 }
theorem iX10_lists : gIv yX10_lists cX10_lists 8 none 1 := ⟨⟨wd_852, wd_32, by decide +kernel, by decide +kernel, by decide +kernel⟩, wd_851, wd_10⟩
set_option maxRecDepth 100000 in
set_option maxHeartbeats 4000000 in
theorem c_X10_lists (l : Launch) (G : gG) (mem : gM) {n : Nat} {W : Nat → Nat} (hn : mem 155 5 = nI n) (hn10 : n ≤ 10) (hw : ∀ m, m < n → mem 155 (30 + 12 * m) = nI (W m)) (hW : ∀ m, m < n → 1 ≤ W m ∧ W m ≤ 9) (sd : Int32) : gMet l yX10_lists cX10_lists 8 none rm_X10_lists G [.ref (gad G 154), .int sd] mem (fun a u => a = none ∧ u = gr (gr mem 154 (upd (mem 154) 5 (dSt sd n))) 157 (cpy n (fun k => nI (dM W n sd k)) (mem 157))) := by
  refine g_of (own := RX10) (L0 := [(0, .ref (gad G 154)), (1, .int sd)]) (by decide +kernel) rfl (Nat.le_of_ble_eq_true rfl) rfl ?_
  intro p e s m args below meth c C Q hQ
  have hdr := dr_all (W := W) (n := n) (by omega) (fun m hm => (hW m hm).1) sd
  refine g_aload_n C 0 dX10_lists_0 rfl ?_
  refine g_iload_n C 1 dX10_lists_1 rfl ?_
  refine g_put_i C ob_154 5 (by decide) rfl wd_708 rfl rfl dX10_lists_2 ?_
  refine g_iconst C (nI 0) dX10_lists_5 (by decide) ?_
  refine g_istore_n C (L2 := [(2, .int (nI 0)), (0, .ref (gad G 154)), (1, .int sd)]) dX10_lists_6 (by decide) rfl ?_
  refine g_iconst C (nI 0) dX10_lists_7 (by decide) ?_
  refine g_istore_n C (L2 := [(3, .int (nI 0)), (2, .int (nI 0)), (0, .ref (gad G 154)), (1, .int sd)]) dX10_lists_8 (by decide) rfl ?_
  have lp_9 : ∀ (fu : Nat) (k : Nat), (k ≤ n) → n - k < fu → gV p l e rm_X10_lists s m args below meth c 0 0 Q G 8 (gr (gr mem 154 (upd (mem 154) 5 (dSt sd k))) 157 (cpy k (fun k => nI (dM W n sd k)) (mem 157))) 9 [(0, .ref (gad G 154)), (1, .int sd), (2, .int (dLs W n sd k)), (3, .int (nI k))] [] := by
    intro fu
    induction fu with
    | zero => intro k _ hfu; exact absurd hfu (Nat.not_lt_zero _)
    | succ fu ih_9 =>
      intro k hk hfu_9
      refine g_iload_n C 3 dX10_lists_9 rfl ?_
      refine g_aload_n C 0 dX10_lists_10 rfl ?_
      refine g_get_r C ob_154 0 (by decide) rfl wd_703 dX10_lists_11 ?_
      refine g_iconst C (nI 5) dX10_lists_14 (by decide) ?_
      refine g_iald_n C (j := 5) ar_155 rfl (by omega) (by decide) dX10_lists_15 ?_
      refine g_top (y := mem 155 5) (rfl) ?_
      refine g_top (y := nI n) (hn) ?_
      refine g_icmp_ge C 179 dX10_lists_16 (by decide) (fun c_16 => ?_) (fun c_16 => ?_)
      · have hin : k = n := by have q := (nI_leI (a := n) (b := k) (by omega) (by omega)).mp c_16; omega
        refine g_vret C hQ rfl dX10_lists_179 ?_
        exact ⟨rfl, by rw [hin]⟩
      · have hk2 : k < n := by have q := mt (nI_leI (a := n) (b := k) (by omega) (by omega)).mpr c_16; omega
        have hp0 := (hdr k (by omega)).2.2.2 hk2
        have hs90 : wSum W (dLs W n sd k) n ≤ n * 9 := wS_le fun m hm => (hW m hm).2
        have hlot := lotN_lt (dSt sd (k + 1)) hp0
        have hpk := pkm_lt (W := W) (ls := dLs W n sd k) (n := n) (by omega) hlot
        refine g_iconst C (nI 0) dX10_lists_19 (by decide) ?_
        refine g_istore C (L2 := [(4, .int (nI 0)), (0, .ref (gad G 154)), (1, .int sd), (2, .int (dLs W n sd k)), (3, .int (nI k))]) dX10_lists_20 (by decide) rfl ?_
        refine g_iconst C (nI 0) dX10_lists_22 (by decide) ?_
        refine g_istore C (L2 := [(5, .int (nI 0)), (4, .int (nI 0)), (0, .ref (gad G 154)), (1, .int sd), (2, .int (dLs W n sd k)), (3, .int (nI k))]) dX10_lists_23 (by decide) rfl ?_
        have lp_25 : ∀ (fu : Nat) (i : Nat), (i ≤ n) → n - i < fu → gV p l e rm_X10_lists s m args below meth c 0 0 Q G 8 (gr (gr mem 154 (upd (mem 154) 5 (dSt sd k))) 157 (cpy k (fun k => nI (dM W n sd k)) (mem 157))) 25 [(0, .ref (gad G 154)), (1, .int sd), (2, .int (dLs W n sd k)), (3, .int (nI k)), (4, .int (nI (wSum W (dLs W n sd k) i))), (5, .int (nI i))] [] := by
          intro fu
          induction fu with
          | zero => intro i _ hfu; exact absurd hfu (Nat.not_lt_zero _)
          | succ fu ih_25 =>
            intro i hi hfu_25
            refine g_iload C 5 dX10_lists_25 rfl ?_
            refine g_aload_n C 0 dX10_lists_27 rfl ?_
            refine g_get_r C ob_154 0 (by decide) rfl wd_703 dX10_lists_28 ?_
            refine g_iconst C (nI 5) dX10_lists_31 (by decide) ?_
            refine g_iald_n C (j := 5) ar_155 rfl (by omega) (by decide) dX10_lists_32 ?_
            refine g_top (y := mem 155 5) (rfl) ?_
            refine g_top (y := nI n) (hn) ?_
            refine g_icmp_ge C 71 dX10_lists_33 (by decide) (fun c_33 => ?_) (fun c_33 => ?_)
            · have hin3 : i = n := by have q := (nI_leI (a := n) (b := i) (by omega) (by omega)).mp c_33; omega
              rw [hin3]
              refine g_aload_n C 0 dX10_lists_71 rfl ?_
              refine g_iload C 4 dX10_lists_72 rfl ?_
              refine g_cV1 C (As := [.int (nI (wSum W (dLs W n sd k) n))]) (w := .int (nI (lotN (mixI (dSt sd k)) (wSum W (dLs W n sd k) n)))) (mem3 := gr (gr (gr mem 154 (upd (mem 154) 5 (dSt sd k))) 157 (cpy k (fun k => nI (dM W n sd k)) (mem 157))) 154 (upd (upd (mem 154) 5 (dSt sd k)) 5 (mixI (dSt sd k)))) iX10_lot (c_X10_lot l G (gr (gr mem 154 (upd (mem 154) 5 (dSt sd k))) 157 (cpy k (fun k => nI (dM W n sd k)) (mem 157))) (s0 := dSt sd k) rfl (hp0) (by omega)) wd_853 ob_154 rfl ⟨Nat.le_of_ble_eq_true rfl, Nat.le_of_ble_eq_true rfl⟩ ⟨rfl, rfl⟩ rfl (Nat.le_of_ble_eq_true rfl) dX10_lists_74 (rfl) (rfl) ?_
              refine g_mem (mem2 := gr (gr mem 154 (upd (upd (mem 154) 5 (dSt sd k)) 5 (mixI (dSt sd k)))) 157 (cpy k (fun k => nI (dM W n sd k)) (mem 157))) ((gr_comm _ (by decide) _ _).trans (congrArg (fun z => gr z 157 (cpy k (fun k => nI (dM W n sd k)) (mem 157))) (gr_gr _ _ _ _))) ?_
              refine g_istore C (L2 := [(5, .int (nI (lotN (mixI (dSt sd k)) (wSum W (dLs W n sd k) n)))), (0, .ref (gad G 154)), (1, .int sd), (2, .int (dLs W n sd k)), (3, .int (nI k)), (4, .int (nI (wSum W (dLs W n sd k) n)))]) dX10_lists_77 (by decide) rfl ?_
              refine g_ldc C wd_783 dX10_lists_79 ?_
              refine g_istore C (L2 := [(6, .int ((-1000009) : Int32)), (5, .int (nI (lotN (mixI (dSt sd k)) (wSum W (dLs W n sd k) n)))), (0, .ref (gad G 154)), (1, .int sd), (2, .int (dLs W n sd k)), (3, .int (nI k)), (4, .int (nI (wSum W (dLs W n sd k) n)))]) dX10_lists_81 (by decide) rfl ?_
              refine g_iconst C (nI 0) dX10_lists_83 (by decide) ?_
              refine g_istore C (L2 := [(7, .int (nI 0)), (6, .int ((-1000009) : Int32)), (5, .int (nI (lotN (mixI (dSt sd k)) (wSum W (dLs W n sd k) n)))), (0, .ref (gad G 154)), (1, .int sd), (2, .int (dLs W n sd k)), (3, .int (nI k)), (4, .int (nI (wSum W (dLs W n sd k) n)))]) dX10_lists_84 (by decide) rfl ?_
              have lp_86 : ∀ (fu : Nat) (j : Nat), (j ≤ n) → n - j < fu → gV p l e rm_X10_lists s m args below meth c 0 0 Q G 8 (gr (gr mem 154 (upd (mem 154) 5 (dSt sd (k + 1)))) 157 (cpy k (fun k => nI (dM W n sd k)) (mem 157))) 86 [(0, .ref (gad G 154)), (1, .int sd), (2, .int (dLs W n sd k)), (3, .int (nI k)), (4, .int (nI (wSum W (dLs W n sd k) n))), (5, .int (nI (lotN (dSt sd (k + 1)) (wSum W (dLs W n sd k) n)) - nI (wSum W (dLs W n sd k) j))), (6, .int (chF (pkP W (dLs W n sd k) (lotN (dSt sd (k + 1)) (wSum W (dLs W n sd k) n))) j)), (7, .int (nI j))] [] := by
                intro fu
                induction fu with
                | zero => intro j _ hfu; exact absurd hfu (Nat.not_lt_zero _)
                | succ fu ih_86 =>
                  intro j hj hfu_86
                  refine g_iload C 7 dX10_lists_86 rfl ?_
                  refine g_aload_n C 0 dX10_lists_88 rfl ?_
                  refine g_get_r C ob_154 0 (by decide) rfl wd_703 dX10_lists_89 ?_
                  refine g_iconst C (nI 5) dX10_lists_92 (by decide) ?_
                  refine g_iald_n C (j := 5) ar_155 rfl (by omega) (by decide) dX10_lists_93 ?_
                  refine g_top (y := mem 155 5) (rfl) ?_
                  refine g_top (y := nI n) (hn) ?_
                  refine g_icmp_ge C 158 dX10_lists_94 (by decide) (fun c_94 => ?_) (fun c_94 => ?_)
                  · have hin4 : j = n := by have q := (nI_leI (a := n) (b := j) (by omega) (by omega)).mp c_94; omega
                    rw [hin4]
                    refine g_aload_n C 0 dX10_lists_158 rfl ?_
                    refine g_get_r C ob_154 4 (by decide) rfl wd_707 dX10_lists_159 ?_
                    refine g_iload_n C 3 dX10_lists_162 rfl ?_
                    refine g_iload C 6 dX10_lists_163 rfl ?_
                    refine g_top (y := nI (dM W n sd k)) (if_pos hpk.1) ?_
                    refine g_iast_n C (j := k) ar_157 rfl (by omega) (by decide) dX10_lists_165 ?_
                    refine g_mem (mem2 := gr (gr mem 154 (upd (mem 154) 5 (dSt sd (k + 1)))) 157 (upd (cpy k (fun k => nI (dM W n sd k)) (mem 157)) k (nI (dM W n sd k)))) (gr_gr _ _ _ _) ?_
                    refine g_iload_n C 2 dX10_lists_166 rfl ?_
                    refine g_iconst C (nI 1) dX10_lists_167 (by decide) ?_
                    refine g_iload C 6 dX10_lists_168 rfl ?_
                    refine g_top (y := nI (dM W n sd k)) (if_pos hpk.1) ?_
                    refine g_ishl C dX10_lists_170 ?_
                    refine g_ior C dX10_lists_171 ?_
                    refine g_istore_n C (L2 := [(2, .int ((dLs W n sd k) ||| ((nI 1) <<< ((nI (dM W n sd k)) &&& 31)))), (0, .ref (gad G 154)), (1, .int sd), (3, .int (nI k)), (4, .int (nI (wSum W (dLs W n sd k) n))), (5, .int (nI (lotN (dSt sd (k + 1)) (wSum W (dLs W n sd k) n)) - nI (wSum W (dLs W n sd k) n))), (6, .int (chF (pkP W (dLs W n sd k) (lotN (dSt sd (k + 1)) (wSum W (dLs W n sd k) n))) n)), (7, .int (nI n))]) dX10_lists_172 (by decide) rfl ?_
                    refine g_iinc C (v := nI (k + 1)) (L2 := [(3, .int (nI (k + 1))), (2, .int ((dLs W n sd k) ||| ((nI 1) <<< ((nI (dM W n sd k)) &&& 31)))), (0, .ref (gad G 154)), (1, .int sd), (4, .int (nI (wSum W (dLs W n sd k) n))), (5, .int (nI (lotN (dSt sd (k + 1)) (wSum W (dLs W n sd k) n)) - nI (wSum W (dLs W n sd k) n))), (6, .int (chF (pkP W (dLs W n sd k) (lotN (dSt sd (k + 1)) (wSum W (dLs W n sd k) n))) n)), (7, .int (nI n))]) 3 dX10_lists_173 rfl (nI_1 _) (by decide) rfl ?_
                    refine g_goto C 9 dX10_lists_176 (by decide) ?_
                    refine g_loc (L2 := [(0, .ref (gad G 154)), (1, .int sd), (2, .int ((dLs W n sd k) ||| ((nI 1) <<< ((nI (dM W n sd k)) &&& 31)))), (3, .int (nI (k + 1)))]) [2, 3, 1, 0] rfl ?_
                    exact g_eq (ih_9 (k + 1) (hk2) (by omega)) (by rw [cpy_s (f := fun k => nI (dM W n sd k)) rfl]) (gLc rfl (gLc rfl (gLc (congrArg Value.int (rfl)) (rfl)))) rfl
                  · have hj2 : j < n := by have q := mt (nI_leI (a := n) (b := j) (by omega) (by omega)).mpr c_94; omega
                    have hmo := wS_mono (W := W) (ls := dLs W n sd k) (a := j) (n := n) (by omega)
                    have hw9 := (hW j hj2).2
                    refine g_iload_n C 2 dX10_lists_97 rfl ?_
                    refine g_iload C 7 dX10_lists_98 rfl ?_
                    refine g_ishr C dX10_lists_100 ?_
                    refine g_iconst C (nI 1) dX10_lists_101 (by decide) ?_
                    refine g_iand C dX10_lists_102 ?_
                    refine g_if_ne C 152 dX10_lists_103 (by decide) (fun c_103 => ?_) (fun c_103 => ?_)
                    · have hl5 : hs (dLs W n sd k) j := Classical.not_not.mp (mt (nhs_0 (by omega)).mpr c_103)
                      have hpn : pkP W (dLs W n sd k) (lotN (dSt sd (k + 1)) (wSum W (dLs W n sd k) n)) j = false := by unfold pkP; rw [(hs_bt (by omega)).mp hl5]; rfl
                      refine g_iinc C (v := nI (j + 1)) (L2 := [(7, .int (nI (j + 1))), (0, .ref (gad G 154)), (1, .int sd), (2, .int (dLs W n sd k)), (3, .int (nI k)), (4, .int (nI (wSum W (dLs W n sd k) n))), (5, .int (nI (lotN (dSt sd (k + 1)) (wSum W (dLs W n sd k) n)) - nI (wSum W (dLs W n sd k) j))), (6, .int (chF (pkP W (dLs W n sd k) (lotN (dSt sd (k + 1)) (wSum W (dLs W n sd k) n))) j))]) 7 dX10_lists_152 rfl (nI_1 _) (by decide) rfl ?_
                      refine g_goto C 86 dX10_lists_155 (by decide) ?_
                      refine g_loc (L2 := [(0, .ref (gad G 154)), (1, .int sd), (2, .int (dLs W n sd k)), (3, .int (nI k)), (4, .int (nI (wSum W (dLs W n sd k) n))), (5, .int (nI (lotN (dSt sd (k + 1)) (wSum W (dLs W n sd k) n)) - nI (wSum W (dLs W n sd k) j))), (6, .int (chF (pkP W (dLs W n sd k) (lotN (dSt sd (k + 1)) (wSum W (dLs W n sd k) n))) j)), (7, .int (nI (j + 1)))]) [1, 2, 3, 4, 5, 6, 7, 0] rfl ?_
                      exact g_eq (ih_86 (j + 1) (hj2) (by omega)) (rfl) (gLc rfl (gLc rfl (gLc rfl (gLc rfl (gLc rfl (gLc (congrArg Value.int (by first | (rw [wS_t hl5]; done) | (rw [hsf]; done))) (gLc (congrArg Value.int (by first | (rw [ch_no hpn]; done) | (rw [ch_keep hf]; done) | (rw [ch_new hf hpy]; done))) (rfl)))))))) rfl
                    · have hl5 := (nhs_0 (by omega)).mp c_103
                      have hbt := (nhs_bt (by omega)).mp hl5
                      have hsf := wS_f (W := W) hl5
                      by_cases hf : fa_first (pkP W (dLs W n sd k) (lotN (dSt sd (k + 1)) (wSum W (dLs W n sd k) n))) j < j
                      · refine g_iload C 6 dX10_lists_106 rfl ?_
                        refine g_top (y := nI (fa_first (pkP W (dLs W n sd k) (lotN (dSt sd (k + 1)) (wSum W (dLs W n sd k) n))) j)) (if_pos hf) ?_
                        refine g_if_ge_t C 132 (nI_pos' (by omega)) dX10_lists_108 (by decide) ?_
                        refine g_iload C 6 dX10_lists_132 rfl ?_
                        refine g_istore C (L2 := [(6, .int (chF (pkP W (dLs W n sd k) (lotN (dSt sd (k + 1)) (wSum W (dLs W n sd k) n))) j)), (0, .ref (gad G 154)), (1, .int sd), (2, .int (dLs W n sd k)), (3, .int (nI k)), (4, .int (nI (wSum W (dLs W n sd k) n))), (5, .int (nI (lotN (dSt sd (k + 1)) (wSum W (dLs W n sd k) n)) - nI (wSum W (dLs W n sd k) j))), (7, .int (nI j))]) dX10_lists_134 (by decide) rfl ?_
                        refine g_iload C 6 dX10_lists_136 rfl ?_
                        refine g_aload_n C 1 dX10_lists_138 rfl ?_
                        refine g_get_r C ob_154 0 (by decide) rfl wd_703 dX10_lists_139 ?_
                        refine g_iload C 7 dX10_lists_142 rfl ?_
                        refine g_iconst C (nI 0) dX10_lists_144 (by decide) ?_
                        refine g_cS1 C (As := [.int (nI j), .int (nI 0)]) (w := .int (nI (30 + 12 * j))) (mem3 := gr (gr mem 154 (upd (mem 154) 5 (dSt sd (k + 1)))) 157 (cpy k (fun k => nI (dM W n sd k)) (mem 157))) iX10_at (c_X10_at l G (gr (gr mem 154 (upd (mem 154) 5 (dSt sd (k + 1)))) 157 (cpy k (fun k => nI (dM W n sd k)) (mem 157))) j 0) wd_780 rfl ⟨Nat.le_of_ble_eq_true rfl, Nat.le_of_ble_eq_true rfl⟩ ⟨rfl, rfl⟩ rfl (Nat.le_of_ble_eq_true rfl) dX10_lists_145 (congrArg Value.int (congrArg nI (by omega))) (rfl) ?_
                        refine g_iald_n C (j := 30 + 12 * j) ar_155 rfl (by omega) (by decide) dX10_lists_148 ?_
                        refine g_top (y := mem 155 (30 + 12 * j)) (rfl) ?_
                        refine g_top (y := nI (W j)) (hw j hj2) ?_
                        refine g_isub C dX10_lists_149 ?_
                        refine g_top (y := nI (lotN (dSt sd (k + 1)) (wSum W (dLs W n sd k) n)) - nI (wSum W (dLs W n sd k) j + W j)) (rem_s) ?_
                        refine g_istore C (L2 := [(5, .int (nI (lotN (dSt sd (k + 1)) (wSum W (dLs W n sd k) n)) - nI (wSum W (dLs W n sd k) j + W j))), (6, .int (chF (pkP W (dLs W n sd k) (lotN (dSt sd (k + 1)) (wSum W (dLs W n sd k) n))) j)), (0, .ref (gad G 154)), (1, .int sd), (2, .int (dLs W n sd k)), (3, .int (nI k)), (4, .int (nI (wSum W (dLs W n sd k) n))), (7, .int (nI j))]) dX10_lists_150 (by decide) rfl ?_
                        refine g_iinc C (v := nI (j + 1)) (L2 := [(7, .int (nI (j + 1))), (5, .int (nI (lotN (dSt sd (k + 1)) (wSum W (dLs W n sd k) n)) - nI (wSum W (dLs W n sd k) j + W j))), (6, .int (chF (pkP W (dLs W n sd k) (lotN (dSt sd (k + 1)) (wSum W (dLs W n sd k) n))) j)), (0, .ref (gad G 154)), (1, .int sd), (2, .int (dLs W n sd k)), (3, .int (nI k)), (4, .int (nI (wSum W (dLs W n sd k) n)))]) 7 dX10_lists_152 rfl (nI_1 _) (by decide) rfl ?_
                        refine g_goto C 86 dX10_lists_155 (by decide) ?_
                        refine g_loc (L2 := [(0, .ref (gad G 154)), (1, .int sd), (2, .int (dLs W n sd k)), (3, .int (nI k)), (4, .int (nI (wSum W (dLs W n sd k) n))), (5, .int (nI (lotN (dSt sd (k + 1)) (wSum W (dLs W n sd k) n)) - nI (wSum W (dLs W n sd k) j + W j))), (6, .int (chF (pkP W (dLs W n sd k) (lotN (dSt sd (k + 1)) (wSum W (dLs W n sd k) n))) j)), (7, .int (nI (j + 1)))]) [3, 4, 5, 6, 7, 1, 2, 0] rfl ?_
                        exact g_eq (ih_86 (j + 1) (hj2) (by omega)) (rfl) (gLc rfl (gLc rfl (gLc rfl (gLc rfl (gLc rfl (gLc (congrArg Value.int (by first | (rw [wS_t hl5]; done) | (rw [hsf]; done))) (gLc (congrArg Value.int (by first | (rw [ch_no hpn]; done) | (rw [ch_keep hf]; done) | (rw [ch_new hf hpy]; done))) (rfl)))))))) rfl
                      · refine g_iload C 6 dX10_lists_106 rfl ?_
                        refine g_top (y := kNone) (if_neg hf) ?_
                        refine g_if_ge_f C 132 (by decide) dX10_lists_108 (by decide) ?_
                        refine g_iload C 5 dX10_lists_111 rfl ?_
                        refine g_aload_n C 0 dX10_lists_113 rfl ?_
                        refine g_get_r C ob_154 0 (by decide) rfl wd_703 dX10_lists_114 ?_
                        refine g_iload C 7 dX10_lists_117 rfl ?_
                        refine g_iconst C (nI 0) dX10_lists_119 (by decide) ?_
                        refine g_cS1 C (As := [.int (nI j), .int (nI 0)]) (w := .int (nI (30 + 12 * j))) (mem3 := gr (gr mem 154 (upd (mem 154) 5 (dSt sd (k + 1)))) 157 (cpy k (fun k => nI (dM W n sd k)) (mem 157))) iX10_at (c_X10_at l G (gr (gr mem 154 (upd (mem 154) 5 (dSt sd (k + 1)))) 157 (cpy k (fun k => nI (dM W n sd k)) (mem 157))) j 0) wd_780 rfl ⟨Nat.le_of_ble_eq_true rfl, Nat.le_of_ble_eq_true rfl⟩ ⟨rfl, rfl⟩ rfl (Nat.le_of_ble_eq_true rfl) dX10_lists_120 (congrArg Value.int (congrArg nI (by omega))) (rfl) ?_
                        refine g_iald_n C (j := 30 + 12 * j) ar_155 rfl (by omega) (by decide) dX10_lists_123 ?_
                        refine g_top (y := mem 155 (30 + 12 * j)) (rfl) ?_
                        refine g_top (y := nI (W j)) (hw j hj2) ?_
                        refine g_icmp_ge C 132 dX10_lists_124 (by decide) (fun c_124 => ?_) (fun c_124 => ?_)
                        · have hpn : pkP W (dLs W n sd k) (lotN (dSt sd (k + 1)) (wSum W (dLs W n sd k) n)) j = false := by unfold pkP; rw [hsf, decide_eq_false (fun q => absurd c_124 (Int32.not_le.mpr ((rem_lt (by omega) (by omega) (by omega)).mpr q))), Bool.and_false]
                          refine g_iload C 6 dX10_lists_132 rfl ?_
                          refine g_istore C (L2 := [(6, .int (chF (pkP W (dLs W n sd k) (lotN (dSt sd (k + 1)) (wSum W (dLs W n sd k) n))) j)), (0, .ref (gad G 154)), (1, .int sd), (2, .int (dLs W n sd k)), (3, .int (nI k)), (4, .int (nI (wSum W (dLs W n sd k) n))), (5, .int (nI (lotN (dSt sd (k + 1)) (wSum W (dLs W n sd k) n)) - nI (wSum W (dLs W n sd k) j))), (7, .int (nI j))]) dX10_lists_134 (by decide) rfl ?_
                          refine g_iload C 6 dX10_lists_136 rfl ?_
                          refine g_aload_n C 1 dX10_lists_138 rfl ?_
                          refine g_get_r C ob_154 0 (by decide) rfl wd_703 dX10_lists_139 ?_
                          refine g_iload C 7 dX10_lists_142 rfl ?_
                          refine g_iconst C (nI 0) dX10_lists_144 (by decide) ?_
                          refine g_cS1 C (As := [.int (nI j), .int (nI 0)]) (w := .int (nI (30 + 12 * j))) (mem3 := gr (gr mem 154 (upd (mem 154) 5 (dSt sd (k + 1)))) 157 (cpy k (fun k => nI (dM W n sd k)) (mem 157))) iX10_at (c_X10_at l G (gr (gr mem 154 (upd (mem 154) 5 (dSt sd (k + 1)))) 157 (cpy k (fun k => nI (dM W n sd k)) (mem 157))) j 0) wd_780 rfl ⟨Nat.le_of_ble_eq_true rfl, Nat.le_of_ble_eq_true rfl⟩ ⟨rfl, rfl⟩ rfl (Nat.le_of_ble_eq_true rfl) dX10_lists_145 (congrArg Value.int (congrArg nI (by omega))) (rfl) ?_
                          refine g_iald_n C (j := 30 + 12 * j) ar_155 rfl (by omega) (by decide) dX10_lists_148 ?_
                          refine g_top (y := mem 155 (30 + 12 * j)) (rfl) ?_
                          refine g_top (y := nI (W j)) (hw j hj2) ?_
                          refine g_isub C dX10_lists_149 ?_
                          refine g_top (y := nI (lotN (dSt sd (k + 1)) (wSum W (dLs W n sd k) n)) - nI (wSum W (dLs W n sd k) j + W j)) (rem_s) ?_
                          refine g_istore C (L2 := [(5, .int (nI (lotN (dSt sd (k + 1)) (wSum W (dLs W n sd k) n)) - nI (wSum W (dLs W n sd k) j + W j))), (6, .int (chF (pkP W (dLs W n sd k) (lotN (dSt sd (k + 1)) (wSum W (dLs W n sd k) n))) j)), (0, .ref (gad G 154)), (1, .int sd), (2, .int (dLs W n sd k)), (3, .int (nI k)), (4, .int (nI (wSum W (dLs W n sd k) n))), (7, .int (nI j))]) dX10_lists_150 (by decide) rfl ?_
                          refine g_iinc C (v := nI (j + 1)) (L2 := [(7, .int (nI (j + 1))), (5, .int (nI (lotN (dSt sd (k + 1)) (wSum W (dLs W n sd k) n)) - nI (wSum W (dLs W n sd k) j + W j))), (6, .int (chF (pkP W (dLs W n sd k) (lotN (dSt sd (k + 1)) (wSum W (dLs W n sd k) n))) j)), (0, .ref (gad G 154)), (1, .int sd), (2, .int (dLs W n sd k)), (3, .int (nI k)), (4, .int (nI (wSum W (dLs W n sd k) n)))]) 7 dX10_lists_152 rfl (nI_1 _) (by decide) rfl ?_
                          refine g_goto C 86 dX10_lists_155 (by decide) ?_
                          refine g_loc (L2 := [(0, .ref (gad G 154)), (1, .int sd), (2, .int (dLs W n sd k)), (3, .int (nI k)), (4, .int (nI (wSum W (dLs W n sd k) n))), (5, .int (nI (lotN (dSt sd (k + 1)) (wSum W (dLs W n sd k) n)) - nI (wSum W (dLs W n sd k) j + W j))), (6, .int (chF (pkP W (dLs W n sd k) (lotN (dSt sd (k + 1)) (wSum W (dLs W n sd k) n))) j)), (7, .int (nI (j + 1)))]) [3, 4, 5, 6, 7, 1, 2, 0] rfl ?_
                          exact g_eq (ih_86 (j + 1) (hj2) (by omega)) (rfl) (gLc rfl (gLc rfl (gLc rfl (gLc rfl (gLc rfl (gLc (congrArg Value.int (by first | (rw [wS_t hl5]; done) | (rw [hsf]; done))) (gLc (congrArg Value.int (by first | (rw [ch_no hpn]; done) | (rw [ch_keep hf]; done) | (rw [ch_new hf hpy]; done))) (rfl)))))))) rfl
                        · have hpy : pkP W (dLs W n sd k) (lotN (dSt sd (k + 1)) (wSum W (dLs W n sd k) n)) j = true := by unfold pkP; rw [hbt, hsf, decide_eq_true ((rem_lt (by omega) (by omega) (by omega)).mp (Int32.not_le.mp c_124))]; rfl
                          refine g_iload C 7 dX10_lists_127 rfl ?_
                          refine g_goto C 134 dX10_lists_129 (by decide) ?_
                          refine g_istore C (L2 := [(6, .int (nI j)), (0, .ref (gad G 154)), (1, .int sd), (2, .int (dLs W n sd k)), (3, .int (nI k)), (4, .int (nI (wSum W (dLs W n sd k) n))), (5, .int (nI (lotN (dSt sd (k + 1)) (wSum W (dLs W n sd k) n)) - nI (wSum W (dLs W n sd k) j))), (7, .int (nI j))]) dX10_lists_134 (by decide) rfl ?_
                          refine g_iload C 6 dX10_lists_136 rfl ?_
                          refine g_aload_n C 1 dX10_lists_138 rfl ?_
                          refine g_get_r C ob_154 0 (by decide) rfl wd_703 dX10_lists_139 ?_
                          refine g_iload C 7 dX10_lists_142 rfl ?_
                          refine g_iconst C (nI 0) dX10_lists_144 (by decide) ?_
                          refine g_cS1 C (As := [.int (nI j), .int (nI 0)]) (w := .int (nI (30 + 12 * j))) (mem3 := gr (gr mem 154 (upd (mem 154) 5 (dSt sd (k + 1)))) 157 (cpy k (fun k => nI (dM W n sd k)) (mem 157))) iX10_at (c_X10_at l G (gr (gr mem 154 (upd (mem 154) 5 (dSt sd (k + 1)))) 157 (cpy k (fun k => nI (dM W n sd k)) (mem 157))) j 0) wd_780 rfl ⟨Nat.le_of_ble_eq_true rfl, Nat.le_of_ble_eq_true rfl⟩ ⟨rfl, rfl⟩ rfl (Nat.le_of_ble_eq_true rfl) dX10_lists_145 (congrArg Value.int (congrArg nI (by omega))) (rfl) ?_
                          refine g_iald_n C (j := 30 + 12 * j) ar_155 rfl (by omega) (by decide) dX10_lists_148 ?_
                          refine g_top (y := mem 155 (30 + 12 * j)) (rfl) ?_
                          refine g_top (y := nI (W j)) (hw j hj2) ?_
                          refine g_isub C dX10_lists_149 ?_
                          refine g_top (y := nI (lotN (dSt sd (k + 1)) (wSum W (dLs W n sd k) n)) - nI (wSum W (dLs W n sd k) j + W j)) (rem_s) ?_
                          refine g_istore C (L2 := [(5, .int (nI (lotN (dSt sd (k + 1)) (wSum W (dLs W n sd k) n)) - nI (wSum W (dLs W n sd k) j + W j))), (6, .int (nI j)), (0, .ref (gad G 154)), (1, .int sd), (2, .int (dLs W n sd k)), (3, .int (nI k)), (4, .int (nI (wSum W (dLs W n sd k) n))), (7, .int (nI j))]) dX10_lists_150 (by decide) rfl ?_
                          refine g_iinc C (v := nI (j + 1)) (L2 := [(7, .int (nI (j + 1))), (5, .int (nI (lotN (dSt sd (k + 1)) (wSum W (dLs W n sd k) n)) - nI (wSum W (dLs W n sd k) j + W j))), (6, .int (nI j)), (0, .ref (gad G 154)), (1, .int sd), (2, .int (dLs W n sd k)), (3, .int (nI k)), (4, .int (nI (wSum W (dLs W n sd k) n)))]) 7 dX10_lists_152 rfl (nI_1 _) (by decide) rfl ?_
                          refine g_goto C 86 dX10_lists_155 (by decide) ?_
                          refine g_loc (L2 := [(0, .ref (gad G 154)), (1, .int sd), (2, .int (dLs W n sd k)), (3, .int (nI k)), (4, .int (nI (wSum W (dLs W n sd k) n))), (5, .int (nI (lotN (dSt sd (k + 1)) (wSum W (dLs W n sd k) n)) - nI (wSum W (dLs W n sd k) j + W j))), (6, .int (nI j)), (7, .int (nI (j + 1)))]) [3, 4, 5, 6, 7, 1, 2, 0] rfl ?_
                          exact g_eq (ih_86 (j + 1) (hj2) (by omega)) (rfl) (gLc rfl (gLc rfl (gLc rfl (gLc rfl (gLc rfl (gLc (congrArg Value.int (by first | (rw [wS_t hl5]; done) | (rw [hsf]; done))) (gLc (congrArg Value.int (by first | (rw [ch_no hpn]; done) | (rw [ch_keep hf]; done) | (rw [ch_new hf hpy]; done))) (rfl)))))))) rfl
              refine g_loc (L2 := [(0, .ref (gad G 154)), (1, .int sd), (2, .int (dLs W n sd k)), (3, .int (nI k)), (4, .int (nI (wSum W (dLs W n sd k) n))), (5, .int (nI (lotN (mixI (dSt sd k)) (wSum W (dLs W n sd k) n)))), (6, .int ((-1000009) : Int32)), (7, .int (nI 0))]) [3, 4, 5, 6, 7, 2, 1, 0] rfl ?_
              exact g_eq (lp_86 (_ + 1) 0 (Nat.zero_le _) (Nat.lt_succ_self _)) (congrArg (fun z => gr (gr mem 154 z) 157 _) (upd_upd _ _ _ _)) (gLc rfl (gLc rfl (gLc rfl (gLc rfl (gLc rfl (gLc (congrArg Value.int ((Int32.sub_zero _).symm)) (gLc (congrArg Value.int (rfl)) (rfl)))))))) rfl
            · have hi3 : i < n := by have q := mt (nI_leI (a := n) (b := i) (by omega) (by omega)).mpr c_33; omega
              refine g_iload C 4 dX10_lists_36 rfl ?_
              refine g_iload_n C 2 dX10_lists_38 rfl ?_
              refine g_iload C 5 dX10_lists_39 rfl ?_
              refine g_ishr C dX10_lists_41 ?_
              refine g_iconst C (nI 1) dX10_lists_42 (by decide) ?_
              refine g_iand C dX10_lists_43 ?_
              refine g_if_ne C 61 dX10_lists_44 (by decide) (fun c_44 => ?_) (fun c_44 => ?_)
              · have hl4 : hs (dLs W n sd k) i := Classical.not_not.mp (mt (nhs_0 (by omega)).mpr c_44)
                refine g_iconst C (nI 0) dX10_lists_61 (by decide) ?_
                refine g_iadd_n C (d := (wSum W (dLs W n sd k) i) + 0) dX10_lists_62 rfl ?_
                refine g_istore C (L2 := [(4, .int (nI ((wSum W (dLs W n sd k) i) + 0))), (0, .ref (gad G 154)), (1, .int sd), (2, .int (dLs W n sd k)), (3, .int (nI k)), (5, .int (nI i))]) dX10_lists_63 (by decide) rfl ?_
                refine g_iinc C (v := nI (i + 1)) (L2 := [(5, .int (nI (i + 1))), (4, .int (nI ((wSum W (dLs W n sd k) i) + 0))), (0, .ref (gad G 154)), (1, .int sd), (2, .int (dLs W n sd k)), (3, .int (nI k))]) 5 dX10_lists_65 rfl (nI_1 _) (by decide) rfl ?_
                refine g_goto C 25 dX10_lists_68 (by decide) ?_
                refine g_loc (L2 := [(0, .ref (gad G 154)), (1, .int sd), (2, .int (dLs W n sd k)), (3, .int (nI k)), (4, .int (nI ((wSum W (dLs W n sd k) i) + 0))), (5, .int (nI (i + 1)))]) [2, 3, 4, 5, 1, 0] rfl ?_
                exact g_eq (ih_25 (i + 1) (hi3) (by omega)) (rfl) (gLc rfl (gLc rfl (gLc rfl (gLc rfl (gLc (congrArg Value.int (by first | (rw [wS_t hl4]; rfl) | (rw [wS_f hl4]; done))) (rfl)))))) rfl
              · have hl4 := (nhs_0 (by omega)).mp c_44
                refine g_aload_n C 0 dX10_lists_47 rfl ?_
                refine g_get_r C ob_154 0 (by decide) rfl wd_703 dX10_lists_48 ?_
                refine g_iload C 5 dX10_lists_51 rfl ?_
                refine g_iconst C (nI 0) dX10_lists_53 (by decide) ?_
                refine g_cS1 C (As := [.int (nI i), .int (nI 0)]) (w := .int (nI (30 + 12 * i))) (mem3 := gr (gr mem 154 (upd (mem 154) 5 (dSt sd k))) 157 (cpy k (fun k => nI (dM W n sd k)) (mem 157))) iX10_at (c_X10_at l G (gr (gr mem 154 (upd (mem 154) 5 (dSt sd k))) 157 (cpy k (fun k => nI (dM W n sd k)) (mem 157))) i 0) wd_780 rfl ⟨Nat.le_of_ble_eq_true rfl, Nat.le_of_ble_eq_true rfl⟩ ⟨rfl, rfl⟩ rfl (Nat.le_of_ble_eq_true rfl) dX10_lists_54 (congrArg Value.int (congrArg nI (by omega))) (rfl) ?_
                refine g_iald_n C (j := 30 + 12 * i) ar_155 rfl (by omega) (by decide) dX10_lists_57 ?_
                refine g_top (y := mem 155 (30 + 12 * i)) (rfl) ?_
                refine g_top (y := nI (W i)) (hw i hi3) ?_
                refine g_goto C 62 dX10_lists_58 (by decide) ?_
                refine g_iadd_n C (d := (wSum W (dLs W n sd k) i) + (W i)) dX10_lists_62 rfl ?_
                refine g_istore C (L2 := [(4, .int (nI ((wSum W (dLs W n sd k) i) + (W i)))), (0, .ref (gad G 154)), (1, .int sd), (2, .int (dLs W n sd k)), (3, .int (nI k)), (5, .int (nI i))]) dX10_lists_63 (by decide) rfl ?_
                refine g_iinc C (v := nI (i + 1)) (L2 := [(5, .int (nI (i + 1))), (4, .int (nI ((wSum W (dLs W n sd k) i) + (W i)))), (0, .ref (gad G 154)), (1, .int sd), (2, .int (dLs W n sd k)), (3, .int (nI k))]) 5 dX10_lists_65 rfl (nI_1 _) (by decide) rfl ?_
                refine g_goto C 25 dX10_lists_68 (by decide) ?_
                refine g_loc (L2 := [(0, .ref (gad G 154)), (1, .int sd), (2, .int (dLs W n sd k)), (3, .int (nI k)), (4, .int (nI ((wSum W (dLs W n sd k) i) + (W i)))), (5, .int (nI (i + 1)))]) [2, 3, 4, 5, 1, 0] rfl ?_
                exact g_eq (ih_25 (i + 1) (hi3) (by omega)) (rfl) (gLc rfl (gLc rfl (gLc rfl (gLc rfl (gLc (congrArg Value.int (by first | (rw [wS_t hl4]; rfl) | (rw [wS_f hl4]; done))) (rfl)))))) rfl
        refine g_loc (L2 := [(0, .ref (gad G 154)), (1, .int sd), (2, .int (dLs W n sd k)), (3, .int (nI k)), (4, .int (nI 0)), (5, .int (nI 0))]) [2, 3, 4, 5, 1, 0] rfl ?_
        exact g_eq (lp_25 (_ + 1) 0 (Nat.zero_le _) (Nat.lt_succ_self _)) (rfl) (gLc rfl (gLc rfl (gLc rfl (gLc rfl (gLc (congrArg Value.int (rfl)) (rfl)))))) rfl
  refine g_loc (L2 := [(0, .ref (gad G 154)), (1, .int sd), (2, .int (nI 0)), (3, .int (nI 0))]) [2, 3, 1, 0] rfl ?_
  exact g_eq (lp_9 (_ + 1) 0 (Nat.zero_le _) (Nat.lt_succ_self _)) (by rw [cpy_0]; first | exact (gr_self _ 157).symm | exact gr_self _ 157) (gLc rfl (gLc rfl (gLc (congrArg Value.int (rfl)) (rfl)))) rfl
