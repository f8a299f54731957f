def rm_X9_sumOfTimes : Room := { frames := 5, cells := 0, slots := 0, locals := 116 }
theorem iX9_sumOfTimes : gIv yX9_sumOfTimes cX9_sumOfTimes 4 (some .int) 1 := ⟨⟨wd_571, wd_4, by decide +kernel, by decide +kernel, by decide +kernel⟩, wd_570, wd_2⟩
set_option maxRecDepth 100000 in
set_option maxHeartbeats 4000000 in
theorem c_X9_sumOfTimes (l : Launch) (G : gG) {T : Nat} {V : Nat → Int32} (g : Good T V) (mem : gM) (r : Rel V mem) {wa : Nat} (hwa : 1 ≤ wa) (hwa1 : wa ≤ 1000) : gMet l yX9_sumOfTimes cX9_sumOfTimes 4 (some .int) rm_X9_sumOfTimes G [.ref (gad G 0), .int (nI wa)] mem (fun a u => ∃ rr : Int32, a = some (.int rr) ∧ (rr = stI (stF V wa 200) ∧ (∀ k, (k < 146 ∨ 154 ≤ k) → u k = mem k))) := by
  refine g_of (own := RX9) (L0 := [(0, .ref (gad G 0)), (1, .int (nI wa))]) (by decide +kernel) rfl (Nat.le_of_ble_eq_true rfl) rfl ?_
  intro p e s m args below meth c C Q hQ
  refine g_ldc C wd_565 dX9_sumOfTimes_0 ?_
  refine g_istore_n C (L2 := [(2, .int ((-1000009) : Int32)), (0, .ref (gad G 0)), (1, .int (nI wa))]) dX9_sumOfTimes_2 (by decide) rfl ?_
  refine g_iconst C (nI 0) dX9_sumOfTimes_3 (by decide) ?_
  refine g_istore_n C (L2 := [(3, .int (nI 0)), (2, .int ((-1000009) : Int32)), (0, .ref (gad G 0)), (1, .int (nI wa))]) dX9_sumOfTimes_4 (by decide) rfl ?_
  have lp_5 : ∀ (fu : Nat) (i : Nat) (M1 : gM), (i ≤ 200) → (Rel V M1) → (∀ k, (k < 146 ∨ 154 ≤ k) → M1 k = mem k) → 200 - i < fu → gV p l e rm_X9_sumOfTimes s m args below meth c 0 0 Q G 4 M1 5 [(0, .ref (gad G 0)), (1, .int (nI wa)), (2, .int (stI (stF V wa i))), (3, .int (nI i))] [] := by
    intro fu
    induction fu with
    | zero => intro i M1 _ _ _ hfu; exact absurd hfu (Nat.not_lt_zero _)
    | succ fu ih_5 =>
      intro i M1 hi r1 hfr hfu_5
      have hsl := st_le g hwa hwa1 i
      refine g_iload_n C 3 dX9_sumOfTimes_5 rfl ?_
      refine g_sipush C (nI 200) dX9_sumOfTimes_6 (by decide) ?_
      refine g_icmp_ge C 61 dX9_sumOfTimes_9 (by decide) (fun c_9 => ?_) (fun c_9 => ?_)
      · have hin : i = 200 := by have q := (nI_leI (a := 200) (b := i) (by omega) (by omega)).mp c_9; omega
        refine g_iload_n C 2 dX9_sumOfTimes_61 rfl ?_
        refine g_iret C hQ rfl dX9_sumOfTimes_62 ?_
        exact ⟨_, rfl, by rw [hin], hfr⟩
      · have hi2 : i < 200 := by have q := mt (nI_leI (a := 200) (b := i) (by omega) (by omega)).mpr c_9; omega
        refine g_aload_n C 0 dX9_sumOfTimes_12 rfl ?_
        refine g_get_r C ob_0 3 (by decide) rfl wd_282 dX9_sumOfTimes_13 ?_
        refine g_aload_n C 0 dX9_sumOfTimes_16 rfl ?_
        refine g_get_r C ob_0 0 (by decide) rfl wd_279 dX9_sumOfTimes_17 ?_
        refine g_iload_n C 3 dX9_sumOfTimes_20 rfl ?_
        refine g_iload_n C 1 dX9_sumOfTimes_21 rfl ?_
        refine g_cVq C (As := [.ref (gad G 1), .int (nI i), .int (nI wa)]) iX5_reckon (c_X5_reckon l G g M1 r1 (b := i) (wa := wa) (hi2) hwa hwa1) wd_495 ob_146 rfl ⟨Nat.le_of_ble_eq_true rfl, Nat.le_of_ble_eq_true rfl⟩ ⟨rfl, rfl⟩ rfl (Nat.le_of_ble_eq_true rfl) dX9_sumOfTimes_22 (fun u0 hq => ?_)
        obtain ⟨p0, w0, a0, rfl, hk0_0, hk1_0, hk_0⟩ := hq
        refine g_aload_n C 0 dX9_sumOfTimes_25 rfl ?_
        refine g_get_r C ob_0 3 (by decide) rfl wd_282 dX9_sumOfTimes_26 ?_
        refine g_get_i C ob_146 1 (by decide) rfl wd_229 dX9_sumOfTimes_29 ?_
        refine g_top (y := p0 1) (rfl) ?_
        refine g_top (y := nI (hcd V i)) (hk1_0) ?_
        refine g_if_ne C 55 dX9_sumOfTimes_32 (by decide) (fun c_32 => ?_) (fun c_32 => ?_)
        · have hh : ¬ hcd V i = 0 := fun q => c_32 (by rw [q]; rfl)
          refine g_iinc C (v := nI (i + 1)) (L2 := [(3, .int (nI (i + 1))), (0, .ref (gad G 0)), (1, .int (nI wa)), (2, .int (stI (stF V wa i)))]) 3 dX9_sumOfTimes_55 rfl (nI_1 _) (by decide) rfl ?_
          refine g_goto C 5 dX9_sumOfTimes_58 (by decide) ?_
          refine g_loc (L2 := [(0, .ref (gad G 0)), (1, .int (nI wa)), (2, .int (stI (stF V wa i))), (3, .int (nI (i + 1)))]) [1, 2, 3, 0] rfl ?_
          exact g_eq (ih_5 (i + 1) (gr (gr (gr M1 146 p0) 148 w0) 150 a0) (hi2) (r_gr (by decide) (r_gr (by decide) (r_gr (by decide) r1))) (fun k hk => by rw [gr_n (by omega), gr_n (by omega), gr_n (by omega)]; exact hfr k hk) (by omega)) (rfl) (gLc rfl (gLc rfl (gLc (congrArg Value.int (by first | (rw [st_f hh]; done) | (rw [st_t hh, stI_n (Nat.succ_ne_zero _), hfF, hq1]; done) | (rw [st_t hh, stI_n (Nat.succ_ne_zero _), hfF]; done))) (rfl)))) rfl
        · have hh := hcd_0 c_32
          obtain ⟨f, hPK⟩ := hk_0 hh
          have hfF := fF_eq hPK.1
          have hrk := (hc_0 hh).2.2
          have htl := tim_le (wa := wa) (f := f) g hwa hwa1 (fr_some hPK.1).1 hrk
          obtain ⟨-, -, -, -, -, -, -, -, h146t, -⟩ := id hPK
          by_cases hq0 : (stF V wa i).2 = 0
          · have hq1 := st_0 hq0
            refine g_iload_n C 2 dX9_sumOfTimes_35 rfl ?_
            refine g_top (y := kNone) (stI_0 hq0) ?_
            refine g_ldc C wd_565 dX9_sumOfTimes_36 ?_
            refine g_icmp_ne_f C 45 (rfl) dX9_sumOfTimes_38 (by decide) ?_
            refine g_iconst C (nI 0) dX9_sumOfTimes_41 (by decide) ?_
            refine g_goto C 46 dX9_sumOfTimes_42 (by decide) ?_
            refine g_aload_n C 0 dX9_sumOfTimes_46 rfl ?_
            refine g_get_r C ob_0 3 (by decide) rfl wd_282 dX9_sumOfTimes_47 ?_
            refine g_get_i C ob_146 9 (by decide) rfl wd_247 dX9_sumOfTimes_50 ?_
            refine g_top (y := p0 9) (rfl) ?_
            refine g_top (y := nI (tim V i wa f)) (h146t) ?_
            refine g_iadd_n C (d := 0 + (tim V i wa f)) dX9_sumOfTimes_53 rfl ?_
            refine g_istore_n C (L2 := [(2, .int (nI (0 + (tim V i wa f)))), (0, .ref (gad G 0)), (1, .int (nI wa)), (3, .int (nI i))]) dX9_sumOfTimes_54 (by decide) rfl ?_
            refine g_iinc C (v := nI (i + 1)) (L2 := [(3, .int (nI (i + 1))), (2, .int (nI (0 + (tim V i wa f)))), (0, .ref (gad G 0)), (1, .int (nI wa))]) 3 dX9_sumOfTimes_55 rfl (nI_1 _) (by decide) rfl ?_
            refine g_goto C 5 dX9_sumOfTimes_58 (by decide) ?_
            refine g_loc (L2 := [(0, .ref (gad G 0)), (1, .int (nI wa)), (2, .int (nI (0 + (tim V i wa f)))), (3, .int (nI (i + 1)))]) [2, 3, 1, 0] rfl ?_
            exact g_eq (ih_5 (i + 1) (gr (gr (gr M1 146 p0) 148 w0) 150 a0) (hi2) (r_gr (by decide) (r_gr (by decide) (r_gr (by decide) r1))) (fun k hk => by rw [gr_n (by omega), gr_n (by omega), gr_n (by omega)]; exact hfr k hk) (by omega)) (rfl) (gLc rfl (gLc rfl (gLc (congrArg Value.int (by first | (rw [st_f hh]; done) | (rw [st_t hh, stI_n (Nat.succ_ne_zero _), hfF, hq1]; done) | (rw [st_t hh, stI_n (Nat.succ_ne_zero _), hfF]; done))) (rfl)))) rfl
          · refine g_iload_n C 2 dX9_sumOfTimes_35 rfl ?_
            refine g_top (y := nI ((stF V wa i).1)) (stI_n hq0) ?_
            refine g_ldc C wd_565 dX9_sumOfTimes_36 ?_
            refine g_icmp_ne_t C 45 (nN_ne (by omega)) dX9_sumOfTimes_38 (by decide) ?_
            refine g_iload_n C 2 dX9_sumOfTimes_45 rfl ?_
            refine g_top (y := nI ((stF V wa i).1)) (stI_n hq0) ?_
            refine g_aload_n C 0 dX9_sumOfTimes_46 rfl ?_
            refine g_get_r C ob_0 3 (by decide) rfl wd_282 dX9_sumOfTimes_47 ?_
            refine g_get_i C ob_146 9 (by decide) rfl wd_247 dX9_sumOfTimes_50 ?_
            refine g_top (y := p0 9) (rfl) ?_
            refine g_top (y := nI (tim V i wa f)) (h146t) ?_
            refine g_iadd_n C (d := ((stF V wa i).1) + (tim V i wa f)) dX9_sumOfTimes_53 rfl ?_
            refine g_istore_n C (L2 := [(2, .int (nI (((stF V wa i).1) + (tim V i wa f)))), (0, .ref (gad G 0)), (1, .int (nI wa)), (3, .int (nI i))]) dX9_sumOfTimes_54 (by decide) rfl ?_
            refine g_iinc C (v := nI (i + 1)) (L2 := [(3, .int (nI (i + 1))), (2, .int (nI (((stF V wa i).1) + (tim V i wa f)))), (0, .ref (gad G 0)), (1, .int (nI wa))]) 3 dX9_sumOfTimes_55 rfl (nI_1 _) (by decide) rfl ?_
            refine g_goto C 5 dX9_sumOfTimes_58 (by decide) ?_
            refine g_loc (L2 := [(0, .ref (gad G 0)), (1, .int (nI wa)), (2, .int (nI (((stF V wa i).1) + (tim V i wa f)))), (3, .int (nI (i + 1)))]) [2, 3, 1, 0] rfl ?_
            exact g_eq (ih_5 (i + 1) (gr (gr (gr M1 146 p0) 148 w0) 150 a0) (hi2) (r_gr (by decide) (r_gr (by decide) (r_gr (by decide) r1))) (fun k hk => by rw [gr_n (by omega), gr_n (by omega), gr_n (by omega)]; exact hfr k hk) (by omega)) (rfl) (gLc rfl (gLc rfl (gLc (congrArg Value.int (by first | (rw [st_f hh]; done) | (rw [st_t hh, stI_n (Nat.succ_ne_zero _), hfF, hq1]; done) | (rw [st_t hh, stI_n (Nat.succ_ne_zero _), hfF]; done))) (rfl)))) rfl
  refine g_loc (L2 := [(0, .ref (gad G 0)), (1, .int (nI wa)), (2, .int ((-1000009) : Int32)), (3, .int (nI 0))]) [2, 3, 1, 0] rfl ?_
  exact g_eq (lp_5 (_ + 1) 0 mem (Nat.zero_le _) (r) (fun _ _ => rfl) (Nat.lt_succ_self _)) (rfl) (gLc rfl (gLc rfl (gLc (congrArg Value.int (rfl)) (rfl)))) rfl

def rm_X9_bestWait : Room := { frames := 6, cells := 0, slots := 0, locals := 139 }
theorem iX9_bestWait : gIv yX9_bestWait cX9_bestWait 8 (some .int) 0 := ⟨⟨wd_564, wd_4, by decide +kernel, by decide +kernel, by decide +kernel⟩, wd_562, wd_563⟩
set_option maxRecDepth 100000 in
set_option maxHeartbeats 4000000 in
theorem c_X9_bestWait (l : Launch) (G : gG) {T : Nat} {V : Nat → Int32} (g : Good T V) (mem : gM) (r : Rel V mem) : gMet l yX9_bestWait cX9_bestWait 8 (some .int) rm_X9_bestWait G [.ref (gad G 0)] mem (fun a u => ∃ rr : Int32, a = some (.int rr) ∧ (rr = bwI (bwF V 6) ∧ (∀ k, (k < 146 ∨ 154 ≤ k) → u k = mem k))) := by
  refine g_of (own := RX9) (L0 := [(0, .ref (gad G 0))]) (by decide +kernel) rfl (Nat.le_of_ble_eq_true rfl) rfl ?_
  intro p e s m args below meth c C Q hQ
  refine g_ldc C wd_565 dX9_bestWait_0 ?_
  refine g_istore_n C (L2 := [(1, .int ((-1000009) : Int32)), (0, .ref (gad G 0))]) dX9_bestWait_2 (by decide) rfl ?_
  refine g_iconst C (nI 0) dX9_bestWait_3 (by decide) ?_
  refine g_istore_n C (L2 := [(2, .int (nI 0)), (1, .int ((-1000009) : Int32)), (0, .ref (gad G 0))]) dX9_bestWait_4 (by decide) rfl ?_
  refine g_gets C C.Z.2.2 wd_566 dX9_bestWait_5 ?_
  refine g_astore_n C (L2 := [(3, .ref G.2.2.2.2.2.2), (2, .int (nI 0)), (1, .int ((-1000009) : Int32)), (0, .ref (gad G 0))]) dX9_bestWait_8 (by decide) rfl ?_
  refine g_aload_n C 0 dX9_bestWait_9 rfl ?_
  refine g_tlen C C.Z.2.2 dX9_bestWait_10 ?_
  refine g_istore C (L2 := [(4, .int (nI 6)), (3, .ref G.2.2.2.2.2.2), (2, .int (nI 0)), (1, .int ((-1000009) : Int32)), (0, .ref (gad G 0))]) dX9_bestWait_11 (by decide) rfl ?_
  refine g_iconst C (nI 0) dX9_bestWait_13 (by decide) ?_
  refine g_istore C (L2 := [(5, .int (nI 0)), (4, .int (nI 6)), (3, .ref G.2.2.2.2.2.2), (2, .int (nI 0)), (1, .int ((-1000009) : Int32)), (0, .ref (gad G 0))]) dX9_bestWait_14 (by decide) rfl ?_
  have lp_16 : ∀ (fu : Nat) (i : Nat) (M1 : gM), (i ≤ 6) → (Rel V M1) → (∀ k, (k < 146 ∨ 154 ≤ k) → M1 k = mem k) → 6 - i < fu → gV p l e rm_X9_bestWait s m args below meth c 0 0 Q G 8 M1 16 [(0, .ref (gad G 0)), (1, .int (bwI (bwF V i))), (2, .int (bwS (bwF V i))), (3, .ref G.2.2.2.2.2.2), (4, .int (nI 6)), (5, .int (nI i))] [] := by
    intro fu
    induction fu with
    | zero => intro i M1 _ _ _ hfu; exact absurd hfu (Nat.not_lt_zero _)
    | succ fu ih_16 =>
      intro i M1 hi r1 hfr hfu_16
      refine g_iload C 5 dX9_bestWait_16 rfl ?_
      refine g_iload C 4 dX9_bestWait_18 rfl ?_
      refine g_icmp_ge C 68 dX9_bestWait_20 (by decide) (fun c_20 => ?_) (fun c_20 => ?_)
      · have hin : i = 6 := by have q := (nI_leI (a := 6) (b := i) (by omega) (by omega)).mp c_20; omega
        refine g_iload_n C 1 dX9_bestWait_68 rfl ?_
        refine g_iret C hQ rfl dX9_bestWait_69 ?_
        exact ⟨_, rfl, by rw [hin], hfr⟩
      · have hi2 : i < 6 := by have q := mt (nI_leI (a := 6) (b := i) (by omega) (by omega)).mpr c_20; omega
        refine g_aload_n C 3 dX9_bestWait_23 rfl ?_
        refine g_iload C 5 dX9_bestWait_24 rfl ?_
        refine g_tld_n C C.Z.2.2 (by omega) (by decide) dX9_bestWait_26 ?_
        refine g_top (y := nI (tw i)) ((tw_ok i hi2).1) ?_
        refine g_istore C (L2 := [(6, .int (nI (tw i))), (0, .ref (gad G 0)), (1, .int (bwI (bwF V i))), (2, .int (bwS (bwF V i))), (3, .ref G.2.2.2.2.2.2), (4, .int (nI 6)), (5, .int (nI i))]) dX9_bestWait_27 (by decide) rfl ?_
        refine g_aload_n C 1 dX9_bestWait_29 rfl ?_
        refine g_iload C 0 dX9_bestWait_30 rfl ?_
        refine g_cVr C (As := [.int (nI (tw i))]) iX9_sumOfTimes (c_X9_sumOfTimes l G g M1 r1 (wa := tw i) (tw_ok i (by omega)).2.1 (tw_ok i (by omega)).2.2) wd_568 ob_0 rfl ⟨Nat.le_of_ble_eq_true rfl, Nat.le_of_ble_eq_true rfl⟩ ⟨rfl, rfl⟩ rfl (Nat.le_of_ble_eq_true rfl) dX9_bestWait_32 (fun r2 u0 hq => ?_)
        obtain ⟨rfl, hu0⟩ := hq
        refine g_istore C (L2 := [(7, .int (stI (stF V (tw i) 200))), (6, .int (nI (tw i))), (0, .ref (gad G 0)), (1, .int (bwI (bwF V i))), (2, .int (bwS (bwF V i))), (3, .ref G.2.2.2.2.2.2), (4, .int (nI 6)), (5, .int (nI i))]) dX9_bestWait_35 (by decide) rfl ?_
        by_cases hs0 : (stF V (tw i) 200).2 = 0
        · refine g_iload C 0 dX9_bestWait_37 rfl ?_
          refine g_top (y := kNone) (stI_0 hs0) ?_
          refine g_ldc C wd_565 dX9_bestWait_39 ?_
          refine g_icmp_eq_t C 62 (rfl) dX9_bestWait_41 (by decide) ?_
          refine g_iinc C (v := nI (i + 1)) (L2 := [(5, .int (nI (i + 1))), (7, .int (stI (stF V (tw i) 200))), (6, .int (nI (tw i))), (0, .ref (gad G 0)), (1, .int (bwI (bwF V i))), (2, .int (bwS (bwF V i))), (3, .ref G.2.2.2.2.2.2), (4, .int (nI 6))]) 7 dX9_bestWait_62 rfl (nI_1 _) (by decide) rfl ?_
          refine g_goto C 16 dX9_bestWait_65 (by decide) ?_
          refine g_loc (L2 := [(0, .ref (gad G 0)), (1, .int (bwI (bwF V i))), (2, .int (bwS (bwF V i))), (3, .ref G.2.2.2.2.2.2), (4, .int (nI 6)), (5, .int (nI (i + 1)))]) [3, 4, 5, 6, 7, 0] rfl ?_
          exact g_eq (ih_16 (i + 1) u0 (hi2) (r1.keep (fun k _ h2 => hu0 k (by omega))) (fun k hk => (hu0 k hk).trans (hfr k hk)) (by omega)) (rfl) (gLc rfl (gLc (congrArg Value.int (by first | (rw [bw_0 hs0]; done) | (rw [bw_n hs0 hbw]; rfl) | (rw [bw_lt hs0 hbw c_53]; rfl) | (rw [bw_ge hs0 hbw c_53]; rfl))) (gLc (congrArg Value.int (by first | (rw [bw_0 hs0]; done) | (rw [bw_n hs0 hbw]; rfl) | (rw [bw_lt hs0 hbw c_53]; rfl) | (rw [bw_ge hs0 hbw c_53]; rfl))) (rfl)))) rfl
        · refine g_iload C 0 dX9_bestWait_37 rfl ?_
          refine g_top (y := nI ((stF V (tw i) 200).1)) (stI_n hs0) ?_
          refine g_ldc C wd_565 dX9_bestWait_39 ?_
          refine g_icmp_eq_f C 62 (nN_ne (by have := st_le g (tw_ok i hi2).2.1 (tw_ok i hi2).2.2 200; omega)) dX9_bestWait_41 (by decide) ?_
          rcases hbw : bwF V i with _ | q1
          · refine g_iload_n C 3 dX9_bestWait_44 rfl ?_
            refine g_top (y := kNone) (rfl) ?_
            refine g_ldc C wd_565 dX9_bestWait_45 ?_
            refine g_icmp_eq_t C 56 (rfl) dX9_bestWait_47 (by decide) ?_
            refine g_iload C 1 dX9_bestWait_56 rfl ?_
            refine g_istore_n C (L2 := [(1, .int (nI (tw i))), (7, .int (stI (stF V (tw i) 200))), (6, .int (nI (tw i))), (0, .ref (gad G 0)), (2, .int (bwS none)), (3, .ref G.2.2.2.2.2.2), (4, .int (nI 6)), (5, .int (nI i))]) dX9_bestWait_58 (by decide) rfl ?_
            refine g_iload C 1 dX9_bestWait_59 rfl ?_
            refine g_top (y := nI ((stF V (tw i) 200).1)) (stI_n hs0) ?_
            refine g_istore_n C (L2 := [(2, .int (nI ((stF V (tw i) 200).1))), (1, .int (nI (tw i))), (7, .int (stI (stF V (tw i) 200))), (6, .int (nI (tw i))), (0, .ref (gad G 0)), (3, .ref G.2.2.2.2.2.2), (4, .int (nI 6)), (5, .int (nI i))]) dX9_bestWait_61 (by decide) rfl ?_
            refine g_iinc C (v := nI (i + 1)) (L2 := [(5, .int (nI (i + 1))), (2, .int (nI ((stF V (tw i) 200).1))), (1, .int (nI (tw i))), (7, .int (stI (stF V (tw i) 200))), (6, .int (nI (tw i))), (0, .ref (gad G 0)), (3, .ref G.2.2.2.2.2.2), (4, .int (nI 6))]) 7 dX9_bestWait_62 rfl (nI_1 _) (by decide) rfl ?_
            refine g_goto C 16 dX9_bestWait_65 (by decide) ?_
            refine g_loc (L2 := [(0, .ref (gad G 0)), (1, .int (nI (tw i))), (2, .int (nI ((stF V (tw i) 200).1))), (3, .ref G.2.2.2.2.2.2), (4, .int (nI 6)), (5, .int (nI (i + 1)))]) [5, 2, 1, 6, 7, 0] rfl ?_
            exact g_eq (ih_16 (i + 1) u0 (hi2) (r1.keep (fun k _ h2 => hu0 k (by omega))) (fun k hk => (hu0 k hk).trans (hfr k hk)) (by omega)) (rfl) (gLc rfl (gLc (congrArg Value.int (by first | (rw [bw_0 hs0]; done) | (rw [bw_n hs0 hbw]; rfl) | (rw [bw_lt hs0 hbw c_53]; rfl) | (rw [bw_ge hs0 hbw c_53]; rfl))) (gLc (congrArg Value.int (by first | (rw [bw_0 hs0]; done) | (rw [bw_n hs0 hbw]; rfl) | (rw [bw_lt hs0 hbw c_53]; rfl) | (rw [bw_ge hs0 hbw c_53]; rfl))) (rfl)))) rfl
          · have hbl := bw_le g (by omega) hbw
            have hsl := st_le g (tw_ok i hi2).2.1 (tw_ok i hi2).2.2 200
            refine g_iload_n C 3 dX9_bestWait_44 rfl ?_
            refine g_top (y := nI (q1.1)) (rfl) ?_
            refine g_ldc C wd_565 dX9_bestWait_45 ?_
            refine g_icmp_eq_f C 56 (nN_ne (by omega)) dX9_bestWait_47 (by decide) ?_
            refine g_iload C 0 dX9_bestWait_50 rfl ?_
            refine g_top (y := nI ((stF V (tw i) 200).1)) (stI_n hs0) ?_
            refine g_iload_n C 4 dX9_bestWait_52 rfl ?_
            refine g_top (y := nI (q1.2)) (rfl) ?_
            refine g_icmp_ge C 62 dX9_bestWait_53 (by decide) (fun c_53 => ?_) (fun c_53 => ?_)
            · have c_53 : ¬ (stF V (tw i) 200).1 < q1.2 := by have q := (nI_leI (by omega) (by omega)).mp c_53; omega
              refine g_iinc C (v := nI (i + 1)) (L2 := [(5, .int (nI (i + 1))), (7, .int (stI (stF V (tw i) 200))), (6, .int (nI (tw i))), (0, .ref (gad G 0)), (1, .int (nI q1.1)), (2, .int (nI q1.2)), (3, .ref G.2.2.2.2.2.2), (4, .int (nI 6))]) 7 dX9_bestWait_62 rfl (nI_1 _) (by decide) rfl ?_
              refine g_goto C 16 dX9_bestWait_65 (by decide) ?_
              refine g_loc (L2 := [(0, .ref (gad G 0)), (1, .int (nI q1.1)), (2, .int (nI q1.2)), (3, .ref G.2.2.2.2.2.2), (4, .int (nI 6)), (5, .int (nI (i + 1)))]) [3, 4, 5, 6, 7, 0] rfl ?_
              exact g_eq (ih_16 (i + 1) u0 (hi2) (r1.keep (fun k _ h2 => hu0 k (by omega))) (fun k hk => (hu0 k hk).trans (hfr k hk)) (by omega)) (rfl) (gLc rfl (gLc (congrArg Value.int (by first | (rw [bw_0 hs0]; done) | (rw [bw_n hs0 hbw]; rfl) | (rw [bw_lt hs0 hbw c_53]; rfl) | (rw [bw_ge hs0 hbw c_53]; rfl))) (gLc (congrArg Value.int (by first | (rw [bw_0 hs0]; done) | (rw [bw_n hs0 hbw]; rfl) | (rw [bw_lt hs0 hbw c_53]; rfl) | (rw [bw_ge hs0 hbw c_53]; rfl))) (rfl)))) rfl
            · have c_53 : (stF V (tw i) 200).1 < q1.2 := by have q := mt (nI_leI (by omega) (by omega)).mpr c_53; omega
              refine g_iload C 1 dX9_bestWait_56 rfl ?_
              refine g_istore_n C (L2 := [(1, .int (nI (tw i))), (7, .int (stI (stF V (tw i) 200))), (6, .int (nI (tw i))), (0, .ref (gad G 0)), (2, .int (nI q1.2)), (3, .ref G.2.2.2.2.2.2), (4, .int (nI 6)), (5, .int (nI i))]) dX9_bestWait_58 (by decide) rfl ?_
              refine g_iload C 1 dX9_bestWait_59 rfl ?_
              refine g_top (y := nI ((stF V (tw i) 200).1)) (stI_n hs0) ?_
              refine g_istore_n C (L2 := [(2, .int (nI ((stF V (tw i) 200).1))), (1, .int (nI (tw i))), (7, .int (stI (stF V (tw i) 200))), (6, .int (nI (tw i))), (0, .ref (gad G 0)), (3, .ref G.2.2.2.2.2.2), (4, .int (nI 6)), (5, .int (nI i))]) dX9_bestWait_61 (by decide) rfl ?_
              refine g_iinc C (v := nI (i + 1)) (L2 := [(5, .int (nI (i + 1))), (2, .int (nI ((stF V (tw i) 200).1))), (1, .int (nI (tw i))), (7, .int (stI (stF V (tw i) 200))), (6, .int (nI (tw i))), (0, .ref (gad G 0)), (3, .ref G.2.2.2.2.2.2), (4, .int (nI 6))]) 7 dX9_bestWait_62 rfl (nI_1 _) (by decide) rfl ?_
              refine g_goto C 16 dX9_bestWait_65 (by decide) ?_
              refine g_loc (L2 := [(0, .ref (gad G 0)), (1, .int (nI (tw i))), (2, .int (nI ((stF V (tw i) 200).1))), (3, .ref G.2.2.2.2.2.2), (4, .int (nI 6)), (5, .int (nI (i + 1)))]) [5, 2, 1, 6, 7, 0] rfl ?_
              exact g_eq (ih_16 (i + 1) u0 (hi2) (r1.keep (fun k _ h2 => hu0 k (by omega))) (fun k hk => (hu0 k hk).trans (hfr k hk)) (by omega)) (rfl) (gLc rfl (gLc (congrArg Value.int (by first | (rw [bw_0 hs0]; done) | (rw [bw_n hs0 hbw]; rfl) | (rw [bw_lt hs0 hbw c_53]; rfl) | (rw [bw_ge hs0 hbw c_53]; rfl))) (gLc (congrArg Value.int (by first | (rw [bw_0 hs0]; done) | (rw [bw_n hs0 hbw]; rfl) | (rw [bw_lt hs0 hbw c_53]; rfl) | (rw [bw_ge hs0 hbw c_53]; rfl))) (rfl)))) rfl
  refine g_loc (L2 := [(0, .ref (gad G 0)), (1, .int ((-1000009) : Int32)), (2, .int (nI 0)), (3, .ref G.2.2.2.2.2.2), (4, .int (nI 6)), (5, .int (nI 0))]) [5, 4, 3, 2, 1, 0] rfl ?_
  exact g_eq (lp_16 (_ + 1) 0 mem (Nat.zero_le _) (r) (fun _ _ => rfl) (Nat.lt_succ_self _)) (rfl) (gLc rfl (gLc (congrArg Value.int (rfl)) (gLc (congrArg Value.int (rfl)) (rfl)))) rfl

def rm_X9_fingerprint : Room := { frames := 4, cells := 0, slots := 0, locals := 87 }
theorem iX9_fingerprint : gIv yX9_fingerprint cX9_fingerprint 5 (some .long) 0 := ⟨⟨wd_583, wd_4, by decide +kernel, by decide +kernel, by decide +kernel⟩, wd_581, wd_582⟩
set_option maxRecDepth 100000 in
set_option maxHeartbeats 4000000 in
theorem c_X9_fingerprint (l : Launch) (G : gG) {T : Nat} {V : Nat → Int32} (g : Good T V) (mem : gM) (r : Rel V mem) (hT : T < 2 ^ 20) : gMet l yX9_fingerprint cX9_fingerprint 5 (some .long) rm_X9_fingerprint G [.ref (gad G 0)] mem (fun a u => a = some (.long (fpR V)) ∧ u = mem) := by
  refine g_of (own := RX9) (L0 := [(0, .ref (gad G 0))]) (by decide +kernel) rfl (Nat.le_of_ble_eq_true rfl) rfl ?_
  intro p e s m args below meth c C Q hQ
  have hn10 := gd_n10 g
  have hzn := (gd_z g).2
  have hgm := (gd_made g).2
  refine g_ldc2 C wd_584 dX9_fingerprint_0 ?_
  refine g_lstore_n C (L2 := [(1, .long (197 : Int64)), (0, .ref (gad G 0))]) dX9_fingerprint_3 (by decide) rfl ?_
  refine g_iconst C (nI 0) dX9_fingerprint_4 (by decide) ?_
  refine g_istore_n C (L2 := [(3, .int (nI 0)), (1, .long (197 : Int64)), (0, .ref (gad G 0))]) dX9_fingerprint_5 (by decide) rfl ?_
  have lp_6 : ∀ (fu : Nat) (i : Nat), (i ≤ 10) → 10 - i < fu → gV p l e rm_X9_fingerprint s m args below meth c 0 0 Q G 5 mem 6 [(0, .ref (gad G 0)), (1, .long (f31 (fun kk => (V kk).toInt64) (197 : Int64) i)), (3, .int (nI i))] [] := by
    intro fu
    induction fu with
    | zero => intro i _ hfu; exact absurd hfu (Nat.not_lt_zero _)
    | succ fu ih_6 =>
      intro i hle_i hfu_6
      refine g_iload_n C 2 dX9_fingerprint_6 rfl ?_
      refine g_bipush C (nI 9) dX9_fingerprint_7 (by decide) ?_
      refine g_icmp_gt C 31 dX9_fingerprint_9 (by decide) (fun c_9 => ?_) (fun c_9 => ?_)
      · have hin : i = 10 := by have q := (nI_ltI (a := 9) (b := i) (by omega) (by omega)).mp c_9; omega
        rw [hin]
        refine g_iconst C (nI 0) dX9_fingerprint_31 (by decide) ?_
        refine g_istore_n C (L2 := [(3, .int (nI 0)), (0, .ref (gad G 0)), (1, .long (f31 (fun kk => (V kk).toInt64) (197 : Int64) 10))]) dX9_fingerprint_32 (by decide) rfl ?_
        have lp_33 : ∀ (fu : Nat) (m1 : Nat), (m1 ≤ vN V) → vN V - m1 < fu → gV p l e rm_X9_fingerprint s m args below meth c 0 0 Q G 5 mem 33 [(0, .ref (gad G 0)), (1, .long (fpM V m1)), (3, .int (nI m1))] [] := by
          intro fu
          induction fu with
          | zero => intro m1 _ hfu; exact absurd hfu (Nat.not_lt_zero _)
          | succ fu ih_33 =>
            intro m1 hle_m1 hfu_33
            refine g_iload_n C 2 dX9_fingerprint_33 rfl ?_
            refine g_aload_n C 0 dX9_fingerprint_34 rfl ?_
            refine g_get_r C ob_0 0 (by decide) rfl wd_279 dX9_fingerprint_35 ?_
            refine g_get_r C ob_1 1 (by decide) rfl wd_161 dX9_fingerprint_38 ?_
            refine g_get_i C ob_4 0 (by decide) rfl wd_52 dX9_fingerprint_41 ?_
            refine g_top (y := nI (vN V)) (r_n r g) ?_
            refine g_icmp_ge C 84 dX9_fingerprint_44 (by decide) (fun c_44 => ?_) (fun c_44 => ?_)
            · have hin2 : m1 = vN V := by have q := (nI_leI (a := vN V) (b := m1) (by omega) (by omega)).mp c_44; omega
              rw [hin2]
              refine g_ldc2 C wd_585 dX9_fingerprint_84 ?_
              refine g_lload_n C 1 dX9_fingerprint_87 rfl ?_
              refine g_lmul C dX9_fingerprint_88 ?_
              refine g_aload_n C 0 dX9_fingerprint_89 rfl ?_
              refine g_cV1 C (As := []) (w := .long (seedR V)) (mem3 := mem) iX9_seed (c_X9_seed l G g mem r) wd_588 ob_0 rfl ⟨Nat.le_of_ble_eq_true rfl, Nat.le_of_ble_eq_true rfl⟩ ⟨rfl, rfl⟩ rfl (Nat.le_of_ble_eq_true rfl) dX9_fingerprint_90 (rfl) (rfl) ?_
              refine g_ladd C dX9_fingerprint_93 ?_
              refine g_lstore_n C (L2 := [(1, .long (((31 : Int64) * (fpM V (vN V))) + (seedR V))), (0, .ref (gad G 0)), (3, .int (nI (vN V)))]) dX9_fingerprint_94 (by decide) rfl ?_
              refine g_iconst C (nI 0) dX9_fingerprint_95 (by decide) ?_
              refine g_istore_n C (L2 := [(3, .int (nI 0)), (1, .long (((31 : Int64) * (fpM V (vN V))) + (seedR V))), (0, .ref (gad G 0))]) dX9_fingerprint_96 (by decide) rfl ?_
              have lp_97 : ∀ (fu : Nat) (i : Nat), (i ≤ vZ V) → vZ V - i < fu → gV p l e rm_X9_fingerprint s m args below meth c 0 0 Q G 5 mem 97 [(0, .ref (gad G 0)), (1, .long (f31 (fun kk => (V (12 + kk)).toInt64) (fp3 V) i)), (3, .int (nI i))] [] := by
                intro fu
                induction fu with
                | zero => intro i _ hfu; exact absurd hfu (Nat.not_lt_zero _)
                | succ fu ih_97 =>
                  intro i hle_i hfu_97
                  refine g_iload_n C 2 dX9_fingerprint_97 rfl ?_
                  refine g_aload_n C 0 dX9_fingerprint_98 rfl ?_
                  refine g_get_r C ob_0 0 (by decide) rfl wd_279 dX9_fingerprint_99 ?_
                  refine g_get_r C ob_1 2 (by decide) rfl wd_164 dX9_fingerprint_102 ?_
                  refine g_get_i C ob_21 2 (by decide) rfl wd_117 dX9_fingerprint_105 ?_
                  refine g_top (y := nI (vZ V)) (r_z r g) ?_
                  refine g_icmp_ge C 130 dX9_fingerprint_108 (by decide) (fun c_108 => ?_) (fun c_108 => ?_)
                  · have hin : i = vZ V := by have q := (nI_leI (a := vZ V) (b := i) (by omega) (by omega)).mp c_108; omega
                    rw [hin]
                    refine g_iconst C (nI 0) dX9_fingerprint_130 (by decide) ?_
                    refine g_istore_n C (L2 := [(3, .int (nI 0)), (0, .ref (gad G 0)), (1, .long (f31 (fun kk => (V (12 + kk)).toInt64) (fp3 V) (vZ V)))]) dX9_fingerprint_131 (by decide) rfl ?_
                    have lp_132 : ∀ (fu : Nat) (i : Nat), (i ≤ 200) → 200 - i < fu → gV p l e rm_X9_fingerprint s m args below meth c 0 0 Q G 5 mem 132 [(0, .ref (gad G 0)), (1, .long (fpB V i)), (3, .int (nI i))] [] := by
                      intro fu
                      induction fu with
                      | zero => intro i _ hfu; exact absurd hfu (Nat.not_lt_zero _)
                      | succ fu ih_132 =>
                        intro i hle_i hfu_132
                        refine g_iload_n C 2 dX9_fingerprint_132 rfl ?_
                        refine g_sipush C (nI 200) dX9_fingerprint_133 (by decide) ?_
                        refine g_icmp_ge C 185 dX9_fingerprint_136 (by decide) (fun c_136 => ?_) (fun c_136 => ?_)
                        · have hin : i = 200 := by have q := (nI_leI (a := 200) (b := i) (by omega) (by omega)).mp c_136; omega
                          rw [hin]
                          refine g_iconst C (nI 0) dX9_fingerprint_185 (by decide) ?_
                          refine g_istore_n C (L2 := [(3, .int (nI 0)), (0, .ref (gad G 0)), (1, .long (fpB V 200))]) dX9_fingerprint_186 (by decide) rfl ?_
                          have lp_187 : ∀ (fu : Nat) (i : Nat), (i ≤ min (toN (V 7)) 20) → min (toN (V 7)) 20 - i < fu → gV p l e rm_X9_fingerprint s m args below meth c 0 0 Q G 5 mem 187 [(0, .ref (gad G 0)), (1, .long (fpP V i)), (3, .int (nI i))] [] := by
                            intro fu
                            induction fu with
                            | zero => intro i _ hfu; exact absurd hfu (Nat.not_lt_zero _)
                            | succ fu ih_187 =>
                              intro i hle_i hfu_187
                              refine g_iload_n C 2 dX9_fingerprint_187 rfl ?_
                              refine g_aload_n C 0 dX9_fingerprint_188 rfl ?_
                              refine g_get_r C ob_0 0 (by decide) rfl wd_279 dX9_fingerprint_189 ?_
                              refine g_get_r C ob_1 4 (by decide) rfl wd_169 dX9_fingerprint_192 ?_
                              refine g_cV1 C (As := []) (w := .int (nI (min (toN (V 7)) 20))) (mem3 := mem) iX2_kept (c_X2_kept l G mem (r_made r g) (by omega)) wd_594 ob_26 rfl ⟨Nat.le_of_ble_eq_true rfl, Nat.le_of_ble_eq_true rfl⟩ ⟨rfl, rfl⟩ rfl (Nat.le_of_ble_eq_true rfl) dX9_fingerprint_195 (rfl) (rfl) ?_
                              refine g_icmp_ge C 238 dX9_fingerprint_198 (by decide) (fun c_198 => ?_) (fun c_198 => ?_)
                              · have hin : i = min (toN (V 7)) 20 := by have q := (nI_leI (a := min (toN (V 7)) 20) (b := i) (by omega) (by omega)).mp c_198; omega
                                refine g_lload_n C 1 dX9_fingerprint_238 rfl ?_
                                refine g_lret C hQ rfl dX9_fingerprint_239 ?_
                                exact ⟨by rw [hin]; rfl, rfl⟩
                              · have hi2 : i < min (toN (V 7)) 20 := by have q := mt (nI_leI (a := min (toN (V 7)) 20) (b := i) (by omega) (by omega)).mpr c_198; omega
                                refine g_iconst C (nI 0) dX9_fingerprint_201 (by decide) ?_
                                refine g_istore C (L2 := [(4, .int (nI 0)), (0, .ref (gad G 0)), (1, .long (fpP V i)), (3, .int (nI i))]) dX9_fingerprint_202 (by decide) rfl ?_
                                have lp_204 : ∀ (fu : Nat) (k : Nat), (k ≤ 7) → 7 - k < fu → gV p l e rm_X9_fingerprint s m args below meth c 0 0 Q G 5 mem 204 [(0, .ref (gad G 0)), (1, .long (f31 (fun kk => (pastN V i kk).toInt64) (fpP V i) k)), (3, .int (nI i)), (4, .int (nI k))] [] := by
                                  intro fu
                                  induction fu with
                                  | zero => intro k _ hfu; exact absurd hfu (Nat.not_lt_zero _)
                                  | succ fu ih_204 =>
                                    intro k hle_k hfu_204
                                    refine g_iload C 3 dX9_fingerprint_204 rfl ?_
                                    refine g_bipush C (nI 7) dX9_fingerprint_206 (by decide) ?_
                                    refine g_icmp_ge C 232 dX9_fingerprint_208 (by decide) (fun c_208 => ?_) (fun c_208 => ?_)
                                    · have hin3 : k = 7 := by have q := (nI_leI (a := 7) (b := k) (by omega) (by omega)).mp c_208; omega
                                      rw [hin3]
                                      refine g_iinc C (v := nI (i + 1)) (L2 := [(3, .int (nI (i + 1))), (0, .ref (gad G 0)), (1, .long (f31 (fun kk => (pastN V i kk).toInt64) (fpP V i) 7)), (4, .int (nI 7))]) 2 dX9_fingerprint_232 rfl (nI_1 _) (by decide) rfl ?_
                                      refine g_goto C 187 dX9_fingerprint_235 (by decide) ?_
                                      refine g_loc (L2 := [(0, .ref (gad G 0)), (1, .long (f31 (fun kk => (pastN V i kk).toInt64) (fpP V i) 7)), (3, .int (nI (i + 1)))]) [1, 2, 0] rfl ?_
                                      exact g_eq (ih_187 (i + 1) (hi2) (by omega)) (rfl) (gLc rfl (gLc (congrArg Value.long (rfl)) (rfl))) rfl
                                    · have hk2 : k < 7 := by have q := mt (nI_leI (a := 7) (b := k) (by omega) (by omega)).mpr c_208; omega
                                      refine g_ldc2 C wd_585 dX9_fingerprint_211 ?_
                                      refine g_lload_n C 1 dX9_fingerprint_214 rfl ?_
                                      refine g_lmul C dX9_fingerprint_215 ?_
                                      refine g_aload_n C 0 dX9_fingerprint_216 rfl ?_
                                      refine g_iload_n C 2 dX9_fingerprint_217 rfl ?_
                                      refine g_iload C 3 dX9_fingerprint_218 rfl ?_
                                      refine g_cV1 C (As := [.int (nI i), .int (nI k)]) (w := .int (pastN V i k)) (mem3 := mem) iX9_past (c_X9_past l G g mem r hT (nI i) (nI k)) wd_599 ob_0 rfl ⟨Nat.le_of_ble_eq_true rfl, Nat.le_of_ble_eq_true rfl⟩ ⟨rfl, rfl⟩ rfl (Nat.le_of_ble_eq_true rfl) dX9_fingerprint_220 (congrArg Value.int (past_n (by omega) hk2)) (rfl) ?_
                                      refine g_i2l C dX9_fingerprint_223 ?_
                                      refine g_ladd C dX9_fingerprint_224 ?_
                                      refine g_lstore_n C (L2 := [(1, .long (((31 : Int64) * (f31 (fun kk => (pastN V i kk).toInt64) (fpP V i) k)) + ((pastN V i k).toInt64))), (0, .ref (gad G 0)), (3, .int (nI i)), (4, .int (nI k))]) dX9_fingerprint_225 (by decide) rfl ?_
                                      refine g_iinc C (v := nI (k + 1)) (L2 := [(4, .int (nI (k + 1))), (1, .long (((31 : Int64) * (f31 (fun kk => (pastN V i kk).toInt64) (fpP V i) k)) + ((pastN V i k).toInt64))), (0, .ref (gad G 0)), (3, .int (nI i))]) 3 dX9_fingerprint_226 rfl (nI_1 _) (by decide) rfl ?_
                                      refine g_goto C 204 dX9_fingerprint_229 (by decide) ?_
                                      refine g_loc (L2 := [(0, .ref (gad G 0)), (1, .long (((31 : Int64) * (f31 (fun kk => (pastN V i kk).toInt64) (fpP V i) k)) + ((pastN V i k).toInt64))), (3, .int (nI i)), (4, .int (nI (k + 1)))]) [2, 1, 3, 0] rfl ?_
                                      exact g_eq (ih_204 (k + 1) (hk2) (by omega)) (rfl) (gLc rfl (gLc (congrArg Value.long (rfl)) (rfl))) rfl
                                refine g_loc (L2 := [(0, .ref (gad G 0)), (1, .long (fpP V i)), (3, .int (nI i)), (4, .int (nI 0))]) [1, 2, 3, 0] rfl ?_
                                exact g_eq (lp_204 (_ + 1) 0 (Nat.zero_le _) (Nat.lt_succ_self _)) (rfl) (gLc rfl (gLc (congrArg Value.long (rfl)) (rfl))) rfl
                          refine g_loc (L2 := [(0, .ref (gad G 0)), (1, .long (fpB V 200)), (3, .int (nI 0))]) [1, 2, 0] rfl ?_
                          exact g_eq (lp_187 (_ + 1) 0 (Nat.zero_le _) (Nat.lt_succ_self _)) (rfl) (gLc rfl (gLc (congrArg Value.long (rfl)) (rfl))) rfl
                        · have hi2 : i < 200 := by have q := mt (nI_leI (a := 200) (b := i) (by omega) (by omega)).mpr c_136; omega
                          refine g_aload_n C 0 dX9_fingerprint_139 rfl ?_
                          refine g_get_r C ob_0 0 (by decide) rfl wd_279 dX9_fingerprint_140 ?_
                          refine g_get_r C ob_1 3 (by decide) rfl wd_167 dX9_fingerprint_143 ?_
                          refine g_iload_n C 2 dX9_fingerprint_146 rfl ?_
                          refine g_cV1 C (As := [.int (nI i)]) (w := .int (mem 25 i)) (mem3 := mem) iX6_at (c_X6_at l G mem ob_24 ar_25 (by decide) (by omega)) wd_368 ob_24 rfl ⟨Nat.le_of_ble_eq_true rfl, Nat.le_of_ble_eq_true rfl⟩ ⟨rfl, rfl⟩ rfl (Nat.le_of_ble_eq_true rfl) dX9_fingerprint_147 (rfl) (rfl) ?_
                          refine g_top (y := V (150 + i)) (r_lo r hi2) ?_
                          refine g_if_eq C 179 dX9_fingerprint_150 (by decide) (fun c_150 => ?_) (fun c_150 => ?_)
                          · refine g_iinc C (v := nI (i + 1)) (L2 := [(3, .int (nI (i + 1))), (0, .ref (gad G 0)), (1, .long (fpB V i))]) 2 dX9_fingerprint_179 rfl (nI_1 _) (by decide) rfl ?_
                            refine g_goto C 132 dX9_fingerprint_182 (by decide) ?_
                            refine g_loc (L2 := [(0, .ref (gad G 0)), (1, .long (fpB V i)), (3, .int (nI (i + 1)))]) [1, 2, 0] rfl ?_
                            exact g_eq (ih_132 (i + 1) (hi2) (by omega)) (rfl) (gLc rfl (gLc (congrArg Value.long (by first | rw [fpB_0 c_150] | rw [fpB_n c_150])) (rfl))) rfl
                          · refine g_ldc2 C wd_585 dX9_fingerprint_153 ?_
                            refine g_ldc2 C wd_585 dX9_fingerprint_156 ?_
                            refine g_lload_n C 1 dX9_fingerprint_159 rfl ?_
                            refine g_lmul C dX9_fingerprint_160 ?_
                            refine g_iload_n C 2 dX9_fingerprint_161 rfl ?_
                            refine g_i2l C dX9_fingerprint_162 ?_
                            refine g_ladd C dX9_fingerprint_163 ?_
                            refine g_lmul C dX9_fingerprint_164 ?_
                            refine g_aload_n C 0 dX9_fingerprint_165 rfl ?_
                            refine g_get_r C ob_0 0 (by decide) rfl wd_279 dX9_fingerprint_166 ?_
                            refine g_get_r C ob_1 3 (by decide) rfl wd_167 dX9_fingerprint_169 ?_
                            refine g_iload_n C 2 dX9_fingerprint_172 rfl ?_
                            refine g_cV1 C (As := [.int (nI i)]) (w := .int (mem 25 i)) (mem3 := mem) iX6_at (c_X6_at l G mem ob_24 ar_25 (by decide) (by omega)) wd_368 ob_24 rfl ⟨Nat.le_of_ble_eq_true rfl, Nat.le_of_ble_eq_true rfl⟩ ⟨rfl, rfl⟩ rfl (Nat.le_of_ble_eq_true rfl) dX9_fingerprint_173 (rfl) (rfl) ?_
                            refine g_top (y := V (150 + i)) (r_lo r hi2) ?_
                            refine g_i2l C dX9_fingerprint_176 ?_
                            refine g_ladd C dX9_fingerprint_177 ?_
                            refine g_lstore_n C (L2 := [(1, .long (((31 : Int64) * (((31 : Int64) * (fpB V i)) + ((nI i).toInt64))) + ((V (150 + i)).toInt64))), (0, .ref (gad G 0)), (3, .int (nI i))]) dX9_fingerprint_178 (by decide) rfl ?_
                            refine g_iinc C (v := nI (i + 1)) (L2 := [(3, .int (nI (i + 1))), (1, .long (((31 : Int64) * (((31 : Int64) * (fpB V i)) + ((nI i).toInt64))) + ((V (150 + i)).toInt64))), (0, .ref (gad G 0))]) 2 dX9_fingerprint_179 rfl (nI_1 _) (by decide) rfl ?_
                            refine g_goto C 132 dX9_fingerprint_182 (by decide) ?_
                            refine g_loc (L2 := [(0, .ref (gad G 0)), (1, .long (((31 : Int64) * (((31 : Int64) * (fpB V i)) + ((nI i).toInt64))) + ((V (150 + i)).toInt64))), (3, .int (nI (i + 1)))]) [2, 1, 0] rfl ?_
                            exact g_eq (ih_132 (i + 1) (hi2) (by omega)) (rfl) (gLc rfl (gLc (congrArg Value.long (by first | rw [fpB_0 c_150] | rw [fpB_n c_150])) (rfl))) rfl
                    refine g_loc (L2 := [(0, .ref (gad G 0)), (1, .long (f31 (fun kk => (V (12 + kk)).toInt64) (fp3 V) (vZ V))), (3, .int (nI 0))]) [1, 2, 0] rfl ?_
                    exact g_eq (lp_132 (_ + 1) 0 (Nat.zero_le _) (Nat.lt_succ_self _)) (rfl) (gLc rfl (gLc (congrArg Value.long (rfl)) (rfl))) rfl
                  · have hi2 : i < vZ V := by have q := mt (nI_leI (a := vZ V) (b := i) (by omega) (by omega)).mpr c_108; omega
                    refine g_ldc2 C wd_585 dX9_fingerprint_111 ?_
                    refine g_lload_n C 1 dX9_fingerprint_114 rfl ?_
                    refine g_lmul C dX9_fingerprint_115 ?_
                    refine g_aload_n C 0 dX9_fingerprint_116 rfl ?_
                    refine g_iload_n C 2 dX9_fingerprint_117 rfl ?_
                    refine g_cV1 C (As := [.int (nI i)]) (w := .int (V (12 + i))) (mem3 := mem) iX9_duty (c_X9_duty l G g mem r (nI i)) wd_593 ob_0 rfl ⟨Nat.le_of_ble_eq_true rfl, Nat.le_of_ble_eq_true rfl⟩ ⟨rfl, rfl⟩ rfl (Nat.le_of_ble_eq_true rfl) dX9_fingerprint_118 (congrArg Value.int (duty_n g hi2)) (rfl) ?_
                    refine g_i2l C dX9_fingerprint_121 ?_
                    refine g_ladd C dX9_fingerprint_122 ?_
                    refine g_lstore_n C (L2 := [(1, .long (((31 : Int64) * (f31 (fun kk => (V (12 + kk)).toInt64) (fp3 V) i)) + ((V (12 + i)).toInt64))), (0, .ref (gad G 0)), (3, .int (nI i))]) dX9_fingerprint_123 (by decide) rfl ?_
                    refine g_iinc C (v := nI (i + 1)) (L2 := [(3, .int (nI (i + 1))), (1, .long (((31 : Int64) * (f31 (fun kk => (V (12 + kk)).toInt64) (fp3 V) i)) + ((V (12 + i)).toInt64))), (0, .ref (gad G 0))]) 2 dX9_fingerprint_124 rfl (nI_1 _) (by decide) rfl ?_
                    refine g_goto C 97 dX9_fingerprint_127 (by decide) ?_
                    refine g_loc (L2 := [(0, .ref (gad G 0)), (1, .long (((31 : Int64) * (f31 (fun kk => (V (12 + kk)).toInt64) (fp3 V) i)) + ((V (12 + i)).toInt64))), (3, .int (nI (i + 1)))]) [2, 1, 0] rfl ?_
                    exact g_eq (ih_97 (i + 1) (hi2) (by omega)) (rfl) (gLc rfl (gLc (congrArg Value.long (rfl)) (rfl))) rfl
              refine g_loc (L2 := [(0, .ref (gad G 0)), (1, .long (((31 : Int64) * (fpM V (vN V))) + (seedR V))), (3, .int (nI 0))]) [2, 1, 0] rfl ?_
              exact g_eq (lp_97 (_ + 1) 0 (Nat.zero_le _) (Nat.lt_succ_self _)) (rfl) (gLc rfl (gLc (congrArg Value.long (rfl)) (rfl))) rfl
            · have hm2 : m1 < vN V := by have q := mt (nI_leI (a := vN V) (b := m1) (by omega) (by omega)).mpr c_44; omega
              refine g_iconst C (nI 0) dX9_fingerprint_47 (by decide) ?_
              refine g_istore C (L2 := [(4, .int (nI 0)), (0, .ref (gad G 0)), (1, .long (fpM V m1)), (3, .int (nI m1))]) dX9_fingerprint_48 (by decide) rfl ?_
              have lp_50 : ∀ (fu : Nat) (k : Nat), (k ≤ 9) → 9 - k < fu → gV p l e rm_X9_fingerprint s m args below meth c 0 0 Q G 5 mem 50 [(0, .ref (gad G 0)), (1, .long (f31 (fun kk => (mbR V m1 kk).toInt64) (fpM V m1) k)), (3, .int (nI m1)), (4, .int (nI k))] [] := by
                intro fu
                induction fu with
                | zero => intro k _ hfu; exact absurd hfu (Nat.not_lt_zero _)
                | succ fu ih_50 =>
                  intro k hle_k hfu_50
                  refine g_iload C 3 dX9_fingerprint_50 rfl ?_
                  refine g_bipush C (nI 8) dX9_fingerprint_52 (by decide) ?_
                  refine g_icmp_gt C 78 dX9_fingerprint_54 (by decide) (fun c_54 => ?_) (fun c_54 => ?_)
                  · have hin3 : k = 9 := by have q := (nI_ltI (a := 8) (b := k) (by omega) (by omega)).mp c_54; omega
                    rw [hin3]
                    refine g_iinc C (v := nI (m1 + 1)) (L2 := [(3, .int (nI (m1 + 1))), (0, .ref (gad G 0)), (1, .long (f31 (fun kk => (mbR V m1 kk).toInt64) (fpM V m1) 9)), (4, .int (nI 9))]) 2 dX9_fingerprint_78 rfl (nI_1 _) (by decide) rfl ?_
                    refine g_goto C 33 dX9_fingerprint_81 (by decide) ?_
                    refine g_loc (L2 := [(0, .ref (gad G 0)), (1, .long (f31 (fun kk => (mbR V m1 kk).toInt64) (fpM V m1) 9)), (3, .int (nI (m1 + 1)))]) [1, 2, 0] rfl ?_
                    exact g_eq (ih_33 (m1 + 1) (hm2) (by omega)) (rfl) (gLc rfl (gLc (congrArg Value.long (rfl)) (rfl))) rfl
                  · have hk2 : k < 9 := by have q := mt (nI_ltI (a := 8) (b := k) (by omega) (by omega)).mpr c_54; omega
                    refine g_ldc2 C wd_585 dX9_fingerprint_57 ?_
                    refine g_lload_n C 1 dX9_fingerprint_60 rfl ?_
                    refine g_lmul C dX9_fingerprint_61 ?_
                    refine g_aload_n C 0 dX9_fingerprint_62 rfl ?_
                    refine g_iload_n C 2 dX9_fingerprint_63 rfl ?_
                    refine g_iload C 3 dX9_fingerprint_64 rfl ?_
                    refine g_cV1 C (As := [.int (nI m1), .int (nI k)]) (w := .int (mbR V m1 k)) (mem3 := mem) iX9_member (c_X9_member l G g mem r (nI m1) (nI k)) wd_587 ob_0 rfl ⟨Nat.le_of_ble_eq_true rfl, Nat.le_of_ble_eq_true rfl⟩ ⟨rfl, rfl⟩ rfl (Nat.le_of_ble_eq_true rfl) dX9_fingerprint_66 (congrArg Value.int (member_n g hm2 (by omega))) (rfl) ?_
                    refine g_i2l C dX9_fingerprint_69 ?_
                    refine g_ladd C dX9_fingerprint_70 ?_
                    refine g_lstore_n C (L2 := [(1, .long (((31 : Int64) * (f31 (fun kk => (mbR V m1 kk).toInt64) (fpM V m1) k)) + ((mbR V m1 k).toInt64))), (0, .ref (gad G 0)), (3, .int (nI m1)), (4, .int (nI k))]) dX9_fingerprint_71 (by decide) rfl ?_
                    refine g_iinc C (v := nI (k + 1)) (L2 := [(4, .int (nI (k + 1))), (1, .long (((31 : Int64) * (f31 (fun kk => (mbR V m1 kk).toInt64) (fpM V m1) k)) + ((mbR V m1 k).toInt64))), (0, .ref (gad G 0)), (3, .int (nI m1))]) 3 dX9_fingerprint_72 rfl (nI_1 _) (by decide) rfl ?_
                    refine g_goto C 50 dX9_fingerprint_75 (by decide) ?_
                    refine g_loc (L2 := [(0, .ref (gad G 0)), (1, .long (((31 : Int64) * (f31 (fun kk => (mbR V m1 kk).toInt64) (fpM V m1) k)) + ((mbR V m1 k).toInt64))), (3, .int (nI m1)), (4, .int (nI (k + 1)))]) [2, 1, 3, 0] rfl ?_
                    exact g_eq (ih_50 (k + 1) (hk2) (by omega)) (rfl) (gLc rfl (gLc (congrArg Value.long (rfl)) (rfl))) rfl
              refine g_loc (L2 := [(0, .ref (gad G 0)), (1, .long (fpM V m1)), (3, .int (nI m1)), (4, .int (nI 0))]) [1, 2, 3, 0] rfl ?_
              exact g_eq (lp_50 (_ + 1) 0 (Nat.zero_le _) (Nat.lt_succ_self _)) (rfl) (gLc rfl (gLc (congrArg Value.long (rfl)) (rfl))) rfl
        refine g_loc (L2 := [(0, .ref (gad G 0)), (1, .long (f31 (fun kk => (V kk).toInt64) (197 : Int64) 10)), (3, .int (nI 0))]) [1, 2, 0] rfl ?_
        exact g_eq (lp_33 (_ + 1) 0 (Nat.zero_le _) (Nat.lt_succ_self _)) (rfl) (gLc rfl (gLc (congrArg Value.long (rfl)) (rfl))) rfl
      · have hi2 : i < 10 := by have q := mt (nI_ltI (a := 9) (b := i) (by omega) (by omega)).mpr c_9; omega
        refine g_ldc2 C wd_585 dX9_fingerprint_12 ?_
        refine g_lload_n C 1 dX9_fingerprint_15 rfl ?_
        refine g_lmul C dX9_fingerprint_16 ?_
        refine g_aload_n C 0 dX9_fingerprint_17 rfl ?_
        refine g_iload_n C 2 dX9_fingerprint_18 rfl ?_
        refine g_cV1 C (As := [.int (nI i)]) (w := .int (V i)) (mem3 := mem) iX9_about (c_X9_about l G g mem r (nI i)) wd_586 ob_0 rfl ⟨Nat.le_of_ble_eq_true rfl, Nat.le_of_ble_eq_true rfl⟩ ⟨rfl, rfl⟩ rfl (Nat.le_of_ble_eq_true rfl) dX9_fingerprint_19 (congrArg Value.int (about_n (by omega))) (rfl) ?_
        refine g_i2l C dX9_fingerprint_22 ?_
        refine g_ladd C dX9_fingerprint_23 ?_
        refine g_lstore_n C (L2 := [(1, .long (((31 : Int64) * (f31 (fun kk => (V kk).toInt64) (197 : Int64) i)) + ((V i).toInt64))), (0, .ref (gad G 0)), (3, .int (nI i))]) dX9_fingerprint_24 (by decide) rfl ?_
        refine g_iinc C (v := nI (i + 1)) (L2 := [(3, .int (nI (i + 1))), (1, .long (((31 : Int64) * (f31 (fun kk => (V kk).toInt64) (197 : Int64) i)) + ((V i).toInt64))), (0, .ref (gad G 0))]) 2 dX9_fingerprint_25 rfl (nI_1 _) (by decide) rfl ?_
        refine g_goto C 6 dX9_fingerprint_28 (by decide) ?_
        refine g_loc (L2 := [(0, .ref (gad G 0)), (1, .long (((31 : Int64) * (f31 (fun kk => (V kk).toInt64) (197 : Int64) i)) + ((V i).toInt64))), (3, .int (nI (i + 1)))]) [2, 1, 0] rfl ?_
        exact g_eq (ih_6 (i + 1) (hi2) (by omega)) (rfl) (gLc rfl (gLc (congrArg Value.long (rfl)) (rfl))) rfl
  refine g_loc (L2 := [(0, .ref (gad G 0)), (1, .long (197 : Int64)), (3, .int (nI 0))]) [2, 1, 0] rfl ?_
  exact g_eq (lp_6 (_ + 1) 0 (Nat.zero_le _) (Nat.lt_succ_self _)) (rfl) (gLc rfl (gLc (congrArg Value.long (rfl)) (rfl))) rfl

def rm_X8_append : Room := { frames := 1, cells := 0, slots := 0, locals := 22 }
theorem iX8_append : gIv yX8_append cX8_append 2 (some .boolean) 1 := ⟨⟨wd_638, wd_11, by decide +kernel, by decide +kernel, by decide +kernel⟩, wd_636, wd_637⟩
set_option maxRecDepth 100000 in
set_option maxHeartbeats 4000000 in
theorem c_X8_append (l : Launch) (G : gG) (mem : gM) {tl : Nat} (htl : mem 143 0 = nI tl) (h60 : tl ≤ 60) (x : Int32) : gMet l yX8_append cX8_append 2 (some .boolean) rm_X8_append G [.ref (gad G 143), .int x] mem (fun a u => a = some (.int (b2i (tl < 60))) ∧ u = (if tl < 60 then gr (gr mem 145 (upd (mem 145) tl x)) 143 (upd (mem 143) 0 (nI (tl + 1))) else mem)) := by
  refine g_of (own := RX8) (L0 := [(0, .ref (gad G 143)), (1, .int x)]) (by decide +kernel) rfl (Nat.le_of_ble_eq_true rfl) rfl ?_
  intro p e s m args below meth c C Q hQ
  refine g_aload_n C 0 dX8_append_0 rfl ?_
  refine g_get_i C ob_143 0 (by decide) rfl wd_209 dX8_append_1 ?_
  refine g_top (y := nI tl) (htl) ?_
  refine g_bipush C (nI 60) dX8_append_4 (by decide) ?_
  refine g_icmp_lt C 11 dX8_append_6 (by decide) (fun c_6 => ?_) (fun c_6 => ?_)
  · have c_6 : tl < 60 := (nI_ltI (by omega) (by decide)).mp c_6
    refine g_aload_n C 0 dX8_append_11 rfl ?_
    refine g_get_r C ob_143 1 (by decide) rfl wd_211 dX8_append_12 ?_
    refine g_aload_n C 0 dX8_append_15 rfl ?_
    refine g_get_i C ob_143 0 (by decide) rfl wd_209 dX8_append_16 ?_
    refine g_top (y := nI tl) (htl) ?_
    refine g_iload_n C 1 dX8_append_19 rfl ?_
    refine g_cV0 C (As := [.int (nI tl), .int x]) (mem3 := gr mem 145 (upd (mem 145) tl x)) iX6_put (c_X6_put l G mem ob_144 ar_145 (by decide) (by omega) x) wd_639 ob_144 rfl ⟨Nat.le_of_ble_eq_true rfl, Nat.le_of_ble_eq_true rfl⟩ ⟨rfl, rfl⟩ rfl (Nat.le_of_ble_eq_true rfl) dX8_append_20 (rfl) ?_
    refine g_aload_n C 0 dX8_append_23 rfl ?_
    refine g_dup C dX8_append_24 rfl ?_
    refine g_get_i C ob_143 0 (by decide) rfl wd_209 dX8_append_25 ?_
    refine g_top (y := mem 143 0) (rfl) ?_
    refine g_top (y := nI tl) (htl) ?_
    refine g_iconst C (nI 1) dX8_append_28 (by decide) ?_
    refine g_iadd_n C (d := tl + 1) dX8_append_29 rfl ?_
    refine g_put_i C ob_143 0 (by decide) rfl wd_209 rfl rfl dX8_append_30 ?_
    refine g_iconst C (nI 1) dX8_append_33 (by decide) ?_
    refine g_zret C hQ rfl (Or.inr rfl) dX8_append_34 ?_
    exact ⟨by rw [b2i_t (P := tl < 60) c_6]; rfl, (if_pos c_6).symm⟩
  · have c_6 : ¬ tl < 60 := fun q => c_6 (nI_lt q (by decide))
    refine g_iconst C (nI 0) dX8_append_9 (by decide) ?_
    refine g_zret C hQ rfl (Or.inl rfl) dX8_append_10 ?_
    exact ⟨by rw [b2i_f (P := tl < 60) c_6]; rfl, (if_neg c_6).symm⟩

def rm_X9_type : Room := { frames := 2, cells := 0, slots := 0, locals := 43 }
theorem iX9_type : gIv yX9_type cX9_type 2 (some .int) 1 := ⟨⟨wd_634, wd_4, by decide +kernel, by decide +kernel, by decide +kernel⟩, wd_632, wd_633⟩
set_option maxRecDepth 100000 in
set_option maxHeartbeats 4000000 in
theorem c_X9_type (l : Launch) (G : gG) (mem : gM) {tx : Nat → Nat} {tl : Nat} (tX : TX tx tl mem) (x : Int32) : gMet l yX9_type cX9_type 2 (some .int) rm_X9_type G [.ref (gad G 0), .int x] mem (fun a u => ∃ rr : Int32, a = some (.int rr) ∧ ((∃ tx2 tl2, TYX tx tl x rr tx2 tl2 ∧ TX tx2 tl2 u) ∧ ∀ k, k ≠ 143 → k ≠ 145 → u k = mem k)) := by
  refine g_of (own := RX9) (L0 := [(0, .ref (gad G 0)), (1, .int x)]) (by decide +kernel) rfl (Nat.le_of_ble_eq_true rfl) rfl ?_
  intro p e s m args below meth c C Q hQ
  refine g_iload_n C 1 dX9_type_0 rfl ?_
  refine g_bipush C (nI 32) dX9_type_1 (by decide) ?_
  refine g_icmp_lt C 12 dX9_type_3 (by decide) (fun c_3 => ?_) (fun c_3 => ?_)
  · refine g_ldc C wd_305 dX9_type_12 ?_
    refine g_iret C hQ rfl dX9_type_14 ?_
    first
      | exact ⟨_, rfl, ⟨tx, tl, ⟨fun _ => ⟨rfl, rfl, rfl⟩, fun q => absurd c_3 (Int32.not_lt.mpr q.1), fun q => absurd c_3 (Int32.not_lt.mpr q.1)⟩, tX⟩, fun _ _ _ => rfl⟩
      | exact ⟨_, rfl, ⟨tx, tl, ⟨fun _ => ⟨rfl, rfl, rfl⟩, fun q => absurd q.2 c_9, fun q => absurd q.2 c_9⟩, tX⟩, fun _ _ _ => rfl⟩
  · refine g_iload_n C 1 dX9_type_6 rfl ?_
    refine g_bipush C (nI 126) dX9_type_7 (by decide) ?_
    refine g_icmp_le C 15 dX9_type_9 (by decide) (fun c_9 => ?_) (fun c_9 => ?_)
    · refine g_aload_n C 0 dX9_type_15 rfl ?_
      refine g_get_r C ob_0 2 (by decide) rfl wd_281 dX9_type_16 ?_
      refine g_iload_n C 1 dX9_type_19 rfl ?_
      refine g_cV1 C (As := [.int x]) (w := .int (b2i (tl < 60))) (mem3 := if tl < 60 then gr (gr mem 145 (upd (mem 145) tl x)) 143 (upd (mem 143) 0 (nI (tl + 1))) else mem) iX8_append (c_X8_append l G mem tX.1 tX.2.1 x) wd_635 ob_143 rfl ⟨Nat.le_of_ble_eq_true rfl, Nat.le_of_ble_eq_true rfl⟩ ⟨rfl, rfl⟩ rfl (Nat.le_of_ble_eq_true rfl) dX9_type_20 (rfl) (rfl) ?_
      refine g_ifb_eq C 36 dX9_type_23 (by decide) (fun c_23 => ?_) (fun c_23 => ?_)
      · rw [if_neg c_23]
        refine g_ldc C wd_306 dX9_type_36 ?_
        refine g_iret C hQ rfl dX9_type_38 ?_
        have hch : chP x := ⟨Int32.not_lt.mp c_3, c_9⟩
        exact ⟨_, rfl, ⟨tx, tl, ⟨fun q => absurd hch q, fun _ _ => ⟨rfl, rfl, rfl⟩, fun _ q => absurd q c_23⟩, tX⟩, fun _ _ _ => rfl⟩
      · rw [if_pos c_23]
        refine g_aload_n C 0 dX9_type_26 rfl ?_
        refine g_get_r C ob_0 2 (by decide) rfl wd_281 dX9_type_27 ?_
        refine g_get_i C ob_143 0 (by decide) rfl wd_210 dX9_type_30 ?_
        refine g_top (y := nI (tl + 1)) (rfl) ?_
        refine g_goto C 38 dX9_type_33 (by decide) ?_
        refine g_iret C hQ rfl dX9_type_38 ?_
        have hch : chP x := ⟨Int32.not_lt.mp c_3, c_9⟩
        refine ⟨_, rfl, ⟨tyT tx tl (toN x), tl + 1, ⟨fun q => absurd hch q, fun _ q => absurd c_23 (by omega), fun _ _ => ⟨rfl, rfl, rfl⟩⟩, rfl, by omega, fun i hi => ?_⟩, fun k h1 h2 => by rw [gr_n h1, gr_n h2]⟩
        have hr := nI_range (a := 32) (b := 126) (by decide) (by decide) hch.1 hch.2
        show upd (mem 145) tl x i = nI (tyT tx tl (toN x) i) ∧ 32 ≤ tyT tx tl (toN x) i ∧ tyT tx tl (toN x) i ≤ 126
        unfold tyT
        by_cases e : i = tl
        · rw [e, upd_s, if_pos rfl]; exact hr
        · rw [upd_n e, if_neg e]; exact tX.2.2 i (by omega)
    · refine g_ldc C wd_305 dX9_type_12 ?_
      refine g_iret C hQ rfl dX9_type_14 ?_
      first
        | exact ⟨_, rfl, ⟨tx, tl, ⟨fun _ => ⟨rfl, rfl, rfl⟩, fun q => absurd c_3 (Int32.not_lt.mpr q.1), fun q => absurd c_3 (Int32.not_lt.mpr q.1)⟩, tX⟩, fun _ _ _ => rfl⟩
        | exact ⟨_, rfl, ⟨tx, tl, ⟨fun _ => ⟨rfl, rfl, rfl⟩, fun q => absurd q.2 c_9, fun q => absurd q.2 c_9⟩, tX⟩, fun _ _ _ => rfl⟩
