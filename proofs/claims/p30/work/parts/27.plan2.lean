theorem ask_t {V : Nat → Int32} {b wa f m : Nat} (h : los V b m = true) (h2 : wt V b wa m ≤ wt V b wa f + dN (vP V m) (vP V f)) : ask V b wa f m = true := by
  unfold ask
  rw [h, decide_eq_true h2]
  rfl
theorem ask_f {V : Nat → Int32} {b wa f m : Nat} (h : los V b m = false) : ask V b wa f m = false := by
  unfold ask
  rw [h]
  rfl
theorem ask_n {V : Nat → Int32} {b wa f m : Nat} (h : ¬ wt V b wa m ≤ wt V b wa f + dN (vP V m) (vP V f)) : ask V b wa f m = false := by
  unfold ask
  rw [decide_eq_false h, Bool.and_false]
theorem ask_los {V : Nat → Int32} {b wa f m : Nat} (h : ask V b wa f m = true) : los V b m = true := by
  unfold ask at h
  rw [Bool.and_eq_true] at h
  exact h.1

def rm_X5_findWhoAsks : Room := { frames := 2, cells := 0, slots := 0, locals := 45 }
theorem iX5_findWhoAsks : gIv yX5_findWhoAsks cX5_findWhoAsks 4 none 1 := ⟨⟨wd_522, wd_12, by decide +kernel, by decide +kernel, by decide +kernel⟩, wd_520, wd_521⟩
set_option maxRecDepth 100000 in
set_option maxHeartbeats 4000000 in
theorem c_X5_findWhoAsks (l : Launch) (G : gG) {T : Nat} {V : Nat → Int32} (g : Good T V) (mem : gM) (r : Rel V mem) {b wa f : Nat} (hb : b < 200) (hwa : 1 ≤ wa) (hwa1 : wa ≤ 1000) (hl : mem 146 2 = mk (los V b) (vN V)) (hf : mem 146 6 = nI f) (hfn : f < vN V) (hfl : los V b f = true) (hw : ∀ m, m < vN V → los V b m = true → mem 148 m = nI (wt V b wa m)) : gMet l yX5_findWhoAsks cX5_findWhoAsks 4 none rm_X5_findWhoAsks G [.ref (gad G 146), .ref (gad G 4)] mem (fun a u => a = none ∧ u = gr mem 146 (upd (upd (mem 146) 3 (mk (ask V b wa f) (vN V))) 4 (mk (sil V b wa f) (vN V)))) := by
  refine g_of (own := RX5) (L0 := [(0, .ref (gad G 146)), (1, .ref (gad G 4))]) (by decide +kernel) rfl (Nat.le_of_ble_eq_true rfl) rfl ?_
  intro p e s m args below meth c C Q hQ
  have hn10 := gd_n10 g
  refine g_aload_n C 0 dX5_findWhoAsks_0 rfl ?_
  refine g_iconst C (nI 0) dX5_findWhoAsks_1 (by decide) ?_
  refine g_put_i C ob_146 3 (by decide) rfl wd_234 rfl rfl dX5_findWhoAsks_2 ?_
  refine g_iconst C (nI 0) dX5_findWhoAsks_5 (by decide) ?_
  refine g_istore_n C (L2 := [(2, .int (nI 0)), (0, .ref (gad G 146)), (1, .ref (gad G 4))]) dX5_findWhoAsks_6 (by decide) rfl ?_
  have lp_7 : ∀ (fu : Nat) (i : Nat), (i ≤ vN V) → vN V - i < fu → gV p l e rm_X5_findWhoAsks s m args below meth c 0 0 Q G 4 (gr mem 146 (upd (mem 146) 3 (mk (ask V b wa f) i))) 7 [(0, .ref (gad G 146)), (1, .ref (gad G 4)), (2, .int (nI i))] [] := by
    intro fu
    induction fu with
    | zero => intro i _ hfu; exact absurd hfu (Nat.not_lt_zero _)
    | succ fu ih_7 =>
      intro i hi hfu_7
      refine g_iload_n C 2 dX5_findWhoAsks_7 rfl ?_
      refine g_aload_n C 1 dX5_findWhoAsks_8 rfl ?_
      refine g_get_i C ob_4 0 (by decide) rfl wd_54 dX5_findWhoAsks_9 ?_
      refine g_top (y := mem 4 0) (rfl) ?_
      refine g_top (y := nI (vN V)) (r_n r g) ?_
      refine g_icmp_ge C 86 dX5_findWhoAsks_12 (by decide) (fun c_12 => ?_) (fun c_12 => ?_)
      · have hin : i = vN V := by have q := (nI_leI (a := vN V) (b := i) (by omega) (by omega)).mp c_12; omega
        rw [hin]
        refine g_aload_n C 0 dX5_findWhoAsks_86 rfl ?_
        refine g_aload_n C 0 dX5_findWhoAsks_87 rfl ?_
        refine g_get_i C ob_146 2 (by decide) rfl wd_230 dX5_findWhoAsks_88 ?_
        refine g_top (y := mem 146 2) (rfl) ?_
        refine g_aload_n C 0 dX5_findWhoAsks_91 rfl ?_
        refine g_get_i C ob_146 3 (by decide) rfl wd_234 dX5_findWhoAsks_92 ?_
        refine g_top (y := mk (ask V b wa f) (vN V)) (rfl) ?_
        refine g_iconst C (((-1) : Int32)) dX5_findWhoAsks_95 (by decide) ?_
        refine g_ixor C dX5_findWhoAsks_96 ?_
        refine g_iand C dX5_findWhoAsks_97 ?_
        refine g_put_i C ob_146 4 (by decide) rfl wd_236 rfl rfl dX5_findWhoAsks_98 ?_
        refine g_mem (mem2 := gr mem 146 (upd (upd (mem 146) 3 (mk (ask V b wa f) (vN V))) 4 ((mem 146 2) &&& ((mk (ask V b wa f) (vN V)) ^^^ ((-1) : Int32))))) (gr_gr _ _ _ _) ?_
        refine g_vret C hQ rfl dX5_findWhoAsks_101 ?_
        exact ⟨rfl, by rw [hl, mk_andn (by omega)]; rfl⟩
      · have hi2 : i < vN V := by have q := mt (nI_leI (a := vN V) (b := i) (by omega) (by omega)).mpr c_12; omega
        refine g_aload_n C 0 dX5_findWhoAsks_15 rfl ?_
        refine g_get_r C ob_146 10 (by decide) rfl wd_248 dX5_findWhoAsks_16 ?_
        refine g_iload_n C 2 dX5_findWhoAsks_19 rfl ?_
        refine g_cV1 C (As := [.int (nI i)]) (w := .int (mem 148 i)) (mem3 := gr mem 146 (upd (mem 146) 3 (mk (ask V b wa f) i))) iX6_at (c_X6_at l G (gr mem 146 (upd (mem 146) 3 (mk (ask V b wa f) i))) ob_147 ar_148 (by decide) (by omega)) wd_499 ob_147 rfl ⟨Nat.le_of_ble_eq_true rfl, Nat.le_of_ble_eq_true rfl⟩ ⟨rfl, rfl⟩ rfl (Nat.le_of_ble_eq_true rfl) dX5_findWhoAsks_20 (rfl) (rfl) ?_
        refine g_aload_n C 0 dX5_findWhoAsks_23 rfl ?_
        refine g_get_r C ob_146 10 (by decide) rfl wd_248 dX5_findWhoAsks_24 ?_
        refine g_aload_n C 0 dX5_findWhoAsks_27 rfl ?_
        refine g_get_i C ob_146 6 (by decide) rfl wd_240 dX5_findWhoAsks_28 ?_
        refine g_top (y := mem 146 6) (rfl) ?_
        refine g_top (y := nI f) (hf) ?_
        refine g_cV1 C (As := [.int (nI f)]) (w := .int (mem 148 f)) (mem3 := gr mem 146 (upd (mem 146) 3 (mk (ask V b wa f) i))) iX6_at (c_X6_at l G (gr mem 146 (upd (mem 146) 3 (mk (ask V b wa f) i))) ob_147 ar_148 (by decide) (by omega)) wd_499 ob_147 rfl ⟨Nat.le_of_ble_eq_true rfl, Nat.le_of_ble_eq_true rfl⟩ ⟨rfl, rfl⟩ rfl (Nat.le_of_ble_eq_true rfl) dX5_findWhoAsks_31 (rfl) (rfl) ?_
        refine g_top (y := nI (wt V b wa f)) (hw f hfn hfl) ?_
        refine g_aload_n C 1 dX5_findWhoAsks_34 rfl ?_
        refine g_iload_n C 2 dX5_findWhoAsks_35 rfl ?_
        refine g_aload_n C 0 dX5_findWhoAsks_36 rfl ?_
        refine g_get_i C ob_146 6 (by decide) rfl wd_240 dX5_findWhoAsks_37 ?_
        refine g_top (y := mem 146 6) (rfl) ?_
        refine g_top (y := nI f) (hf) ?_
        refine g_cV1 C (As := [.int (nI i), .int (nI f)]) (w := .int (nI (dN (vP V i) (vP V f)))) (mem3 := gr mem 146 (upd (mem 146) 3 (mk (ask V b wa f) i))) iX3_distance (c_X3_distance l G g (gr mem 146 (upd (mem 146) 3 (mk (ask V b wa f) i))) (r_gr (by decide) r) (hi2) (hfn)) wd_523 ob_4 rfl ⟨Nat.le_of_ble_eq_true rfl, Nat.le_of_ble_eq_true rfl⟩ ⟨rfl, rfl⟩ rfl (Nat.le_of_ble_eq_true rfl) dX5_findWhoAsks_40 (rfl) (rfl) ?_
        refine g_iadd_n C (d := (wt V b wa f) + (dN (vP V i) (vP V f))) dX5_findWhoAsks_43 rfl ?_
        refine g_icmp_gt C 51 dX5_findWhoAsks_44 (by decide) (fun c_44 => ?_) (fun c_44 => ?_)
        · refine g_iconst C (nI 0) dX5_findWhoAsks_51 (by decide) ?_
          refine g_istore_n C (L2 := [(3, .int (nI 0)), (0, .ref (gad G 146)), (1, .ref (gad G 4)), (2, .int (nI i))]) dX5_findWhoAsks_52 (by decide) rfl ?_
          refine g_aload_n C 1 dX5_findWhoAsks_53 rfl ?_
          refine g_get_i C ob_146 2 (by decide) rfl wd_230 dX5_findWhoAsks_54 ?_
          refine g_top (y := mem 146 2) (rfl) ?_
          refine g_iload_n C 3 dX5_findWhoAsks_57 rfl ?_
          refine g_cS1 C (As := [.int (mem 146 2), .int (nI i)]) (w := .int (b2i (hs (mem 146 2) i))) (mem3 := gr mem 146 (upd (mem 146) 3 (mk (ask V b wa f) i))) iX4_has (c_X4_has l G (gr mem 146 (upd (mem 146) 3 (mk (ask V b wa f) i))) (mem 146 2) i) wd_510 rfl ⟨Nat.le_of_ble_eq_true rfl, Nat.le_of_ble_eq_true rfl⟩ ⟨rfl, rfl⟩ rfl (Nat.le_of_ble_eq_true rfl) dX5_findWhoAsks_58 (rfl) (rfl) ?_
          refine g_ifb_eq C 80 dX5_findWhoAsks_61 (by decide) (fun c_61 => ?_) (fun c_61 => ?_)
          · have c_61 := (Bool.not_eq_true _).mp (mt (hs_los g hi2 hl).mpr c_61)
            refine g_iinc C (v := nI (i + 1)) (L2 := [(2, .int (nI (i + 1))), (3, .int (nI 0)), (0, .ref (gad G 146)), (1, .ref (gad G 4))]) 3 dX5_findWhoAsks_80 rfl (nI_1 _) (by decide) rfl ?_
            refine g_goto C 7 dX5_findWhoAsks_83 (by decide) ?_
            refine g_loc (L2 := [(0, .ref (gad G 146)), (1, .ref (gad G 4)), (2, .int (nI (i + 1)))]) [2, 3, 0] rfl ?_
            exact g_eq (ih_7 (i + 1) (hi2) (by omega)) (by first | rw [mk_f (ask_f c_61)] | (rw [mk_f (ask_n (by have q := (nI_ltI (by omega) (by omega)).mp c_44; omega))]; done) | (rw [upd_upd, mk_t (ask_t c_61 (by have q := mt (nI_ltI (by omega) (by omega)).mpr c_44; omega))]; rfl)) (rfl) rfl
          · have c_61 := (hs_los g hi2 hl).mp c_61
            have hwI := hw i hi2 c_61
            rw [hwI] at c_44
            have hwi := wt_lt V b i hwa
            have hwf := wt_lt V b f hwa
            have hdi : dN (vP V i) (vP V f) ≤ 1000 := dN_le (gd_p g hi2).2 (gd_p g hfn).2
            refine g_iload_n C 0 dX5_findWhoAsks_64 rfl ?_
            refine g_if_eq_t C 80 (by decide) dX5_findWhoAsks_65 (by decide) ?_
            refine g_iinc C (v := nI (i + 1)) (L2 := [(2, .int (nI (i + 1))), (3, .int (nI 0)), (0, .ref (gad G 146)), (1, .ref (gad G 4))]) 3 dX5_findWhoAsks_80 rfl (nI_1 _) (by decide) rfl ?_
            refine g_goto C 7 dX5_findWhoAsks_83 (by decide) ?_
            refine g_loc (L2 := [(0, .ref (gad G 146)), (1, .ref (gad G 4)), (2, .int (nI (i + 1)))]) [2, 3, 0] rfl ?_
            exact g_eq (ih_7 (i + 1) (hi2) (by omega)) (by first | rw [mk_f (ask_f c_61)] | (rw [mk_f (ask_n (by have q := (nI_ltI (by omega) (by omega)).mp c_44; omega))]; done) | (rw [upd_upd, mk_t (ask_t c_61 (by have q := mt (nI_ltI (by omega) (by omega)).mpr c_44; omega))]; rfl)) (rfl) rfl
        · refine g_iconst C (nI 1) dX5_findWhoAsks_47 (by decide) ?_
          refine g_goto C 52 dX5_findWhoAsks_48 (by decide) ?_
          refine g_istore_n C (L2 := [(3, .int (nI 1)), (0, .ref (gad G 146)), (1, .ref (gad G 4)), (2, .int (nI i))]) dX5_findWhoAsks_52 (by decide) rfl ?_
          refine g_aload_n C 1 dX5_findWhoAsks_53 rfl ?_
          refine g_get_i C ob_146 2 (by decide) rfl wd_230 dX5_findWhoAsks_54 ?_
          refine g_top (y := mem 146 2) (rfl) ?_
          refine g_iload_n C 3 dX5_findWhoAsks_57 rfl ?_
          refine g_cS1 C (As := [.int (mem 146 2), .int (nI i)]) (w := .int (b2i (hs (mem 146 2) i))) (mem3 := gr mem 146 (upd (mem 146) 3 (mk (ask V b wa f) i))) iX4_has (c_X4_has l G (gr mem 146 (upd (mem 146) 3 (mk (ask V b wa f) i))) (mem 146 2) i) wd_510 rfl ⟨Nat.le_of_ble_eq_true rfl, Nat.le_of_ble_eq_true rfl⟩ ⟨rfl, rfl⟩ rfl (Nat.le_of_ble_eq_true rfl) dX5_findWhoAsks_58 (rfl) (rfl) ?_
          refine g_ifb_eq C 80 dX5_findWhoAsks_61 (by decide) (fun c_61 => ?_) (fun c_61 => ?_)
          · have c_61 := (Bool.not_eq_true _).mp (mt (hs_los g hi2 hl).mpr c_61)
            refine g_iinc C (v := nI (i + 1)) (L2 := [(2, .int (nI (i + 1))), (3, .int (nI 1)), (0, .ref (gad G 146)), (1, .ref (gad G 4))]) 3 dX5_findWhoAsks_80 rfl (nI_1 _) (by decide) rfl ?_
            refine g_goto C 7 dX5_findWhoAsks_83 (by decide) ?_
            refine g_loc (L2 := [(0, .ref (gad G 146)), (1, .ref (gad G 4)), (2, .int (nI (i + 1)))]) [2, 3, 0] rfl ?_
            exact g_eq (ih_7 (i + 1) (hi2) (by omega)) (by first | rw [mk_f (ask_f c_61)] | (rw [mk_f (ask_n (by have q := (nI_ltI (by omega) (by omega)).mp c_44; omega))]; done) | (rw [upd_upd, mk_t (ask_t c_61 (by have q := mt (nI_ltI (by omega) (by omega)).mpr c_44; omega))]; rfl)) (rfl) rfl
          · have c_61 := (hs_los g hi2 hl).mp c_61
            have hwI := hw i hi2 c_61
            rw [hwI] at c_44
            have hwi := wt_lt V b i hwa
            have hwf := wt_lt V b f hwa
            have hdi : dN (vP V i) (vP V f) ≤ 1000 := dN_le (gd_p g hi2).2 (gd_p g hfn).2
            refine g_iload_n C 0 dX5_findWhoAsks_64 rfl ?_
            refine g_if_eq_f C 80 (by decide) dX5_findWhoAsks_65 (by decide) ?_
            refine g_aload_n C 1 dX5_findWhoAsks_68 rfl ?_
            refine g_dup C dX5_findWhoAsks_69 rfl ?_
            refine g_get_i C ob_146 3 (by decide) rfl wd_234 dX5_findWhoAsks_70 ?_
            refine g_top (y := mk (ask V b wa f) i) (rfl) ?_
            refine g_iconst C (nI 1) dX5_findWhoAsks_73 (by decide) ?_
            refine g_iload_n C 3 dX5_findWhoAsks_74 rfl ?_
            refine g_ishl C dX5_findWhoAsks_75 ?_
            refine g_ior C dX5_findWhoAsks_76 ?_
            refine g_put_i C ob_146 3 (by decide) rfl wd_234 rfl rfl dX5_findWhoAsks_77 ?_
            refine g_mem (mem2 := gr mem 146 (upd (upd (mem 146) 3 (mk (ask V b wa f) i)) 3 ((mk (ask V b wa f) i) ||| ((nI 1) <<< ((nI i) &&& 31))))) (gr_gr _ _ _ _) ?_
            refine g_iinc C (v := nI (i + 1)) (L2 := [(2, .int (nI (i + 1))), (3, .int (nI 1)), (0, .ref (gad G 146)), (1, .ref (gad G 4))]) 3 dX5_findWhoAsks_80 rfl (nI_1 _) (by decide) rfl ?_
            refine g_goto C 7 dX5_findWhoAsks_83 (by decide) ?_
            refine g_loc (L2 := [(0, .ref (gad G 146)), (1, .ref (gad G 4)), (2, .int (nI (i + 1)))]) [2, 3, 0] rfl ?_
            exact g_eq (ih_7 (i + 1) (hi2) (by omega)) (by first | rw [mk_f (ask_f c_61)] | (rw [mk_f (ask_n (by have q := (nI_ltI (by omega) (by omega)).mp c_44; omega))]; done) | (rw [upd_upd, mk_t (ask_t c_61 (by have q := mt (nI_ltI (by omega) (by omega)).mpr c_44; omega))]; rfl)) (rfl) rfl
  refine g_loc (L2 := [(0, .ref (gad G 146)), (1, .ref (gad G 4)), (2, .int (nI 0))]) [1, 2, 0] rfl ?_
  exact g_eq (lp_7 (_ + 1) 0 (Nat.zero_le _) (Nat.lt_succ_self _)) (rfl) (rfl) rfl

def rm_X5_timeOfHearing : Room := { frames := 2, cells := 0, slots := 0, locals := 45 }
theorem iX5_timeOfHearing : gIv yX5_timeOfHearing cX5_timeOfHearing 4 (some .int) 1 := ⟨⟨wd_537, wd_12, by decide +kernel, by decide +kernel, by decide +kernel⟩, wd_535, wd_536⟩
set_option maxRecDepth 100000 in
set_option maxHeartbeats 4000000 in
theorem c_X5_timeOfHearing (l : Launch) (G : gG) {T : Nat} {V : Nat → Int32} (g : Good T V) (mem : gM) (r : Rel V mem) {b wa f : Nat} (hb : b < 200) (hwa : 1 ≤ wa) (hwa1 : wa ≤ 1000) (ha : mem 146 3 = mk (ask V b wa f) (vN V)) (hrk : rpK V b < vZ V) (hr : mem 146 7 = nI (rpM V b)) (hl : mem 146 2 = mk (los V b) (vN V)) (hf : mem 146 6 = nI f) (hfn : f < vN V) (hfl : los V b f = true) (hw : ∀ m, m < vN V → los V b m = true → mem 148 m = nI (wt V b wa m)) : gMet l yX5_timeOfHearing cX5_timeOfHearing 4 (some .int) rm_X5_timeOfHearing G [.ref (gad G 146), .ref (gad G 4)] mem (fun a u => a = some (.int (nI (hrd V b wa f))) ∧ u = mem) := by
  refine g_of (own := RX5) (L0 := [(0, .ref (gad G 146)), (1, .ref (gad G 4))]) (by decide +kernel) rfl (Nat.le_of_ble_eq_true rfl) rfl ?_
  intro p e s m args below meth c C Q hQ
  have hn10 := gd_n10 g
  have hrn := rp_lt g hrk
  have hwf := wt_lt V b f hwa
  have hdf : dR V b f ≤ 1000 := dN_le (gd_p g hfn).2 (gd_p g hrn).2
  refine g_aload_n C 0 dX5_timeOfHearing_0 rfl ?_
  refine g_get_r C ob_146 10 (by decide) rfl wd_248 dX5_timeOfHearing_1 ?_
  refine g_aload_n C 0 dX5_timeOfHearing_4 rfl ?_
  refine g_get_i C ob_146 6 (by decide) rfl wd_240 dX5_timeOfHearing_5 ?_
  refine g_top (y := nI f) (hf) ?_
  refine g_cV1 C (As := [.int (nI f)]) (w := .int (mem 148 f)) (mem3 := mem) iX6_at (c_X6_at l G mem ob_147 ar_148 (by decide) (by omega)) wd_499 ob_147 rfl ⟨Nat.le_of_ble_eq_true rfl, Nat.le_of_ble_eq_true rfl⟩ ⟨rfl, rfl⟩ rfl (Nat.le_of_ble_eq_true rfl) dX5_timeOfHearing_8 (rfl) (rfl) ?_
  refine g_top (y := nI (wt V b wa f)) (hw f hfn hfl) ?_
  refine g_aload_n C 1 dX5_timeOfHearing_11 rfl ?_
  refine g_aload_n C 0 dX5_timeOfHearing_12 rfl ?_
  refine g_get_i C ob_146 6 (by decide) rfl wd_240 dX5_timeOfHearing_13 ?_
  refine g_top (y := nI f) (hf) ?_
  refine g_aload_n C 0 dX5_timeOfHearing_16 rfl ?_
  refine g_get_i C ob_146 7 (by decide) rfl wd_242 dX5_timeOfHearing_17 ?_
  refine g_top (y := nI (rpM V b)) (hr) ?_
  refine g_cV1 C (As := [.int (nI f), .int (nI (rpM V b))]) (w := .int (nI (dN (vP V f) (vP V (rpM V b))))) (mem3 := mem) iX3_distance (c_X3_distance l G g mem r (hfn) (hrn)) wd_523 ob_4 rfl ⟨Nat.le_of_ble_eq_true rfl, Nat.le_of_ble_eq_true rfl⟩ ⟨rfl, rfl⟩ rfl (Nat.le_of_ble_eq_true rfl) dX5_timeOfHearing_20 (rfl) (rfl) ?_
  refine g_top (y := nI (dR V b f)) (rfl) ?_
  refine g_iadd_n C (d := (wt V b wa f) + (dR V b f)) dX5_timeOfHearing_23 rfl ?_
  refine g_istore_n C (L2 := [(2, .int (nI ((wt V b wa f) + (dR V b f)))), (0, .ref (gad G 146)), (1, .ref (gad G 4))]) dX5_timeOfHearing_24 (by decide) rfl ?_
  refine g_iconst C (nI 0) dX5_timeOfHearing_25 (by decide) ?_
  refine g_istore_n C (L2 := [(3, .int (nI 0)), (2, .int (nI ((wt V b wa f) + (dR V b f)))), (0, .ref (gad G 146)), (1, .ref (gad G 4))]) dX5_timeOfHearing_26 (by decide) rfl ?_
  have lp_27 : ∀ (fu : Nat) (i : Nat), (i ≤ vN V) → vN V - i < fu → gV p l e rm_X5_timeOfHearing s m args below meth c 0 0 Q G 4 mem 27 [(0, .ref (gad G 146)), (1, .ref (gad G 4)), (2, .int (nI (hdF (ask V b wa f) (fun m => wt V b wa m + dR V b m) (wt V b wa f + dR V b f) i))), (3, .int (nI i))] [] := by
    intro fu
    induction fu with
    | zero => intro i _ hfu; exact absurd hfu (Nat.not_lt_zero _)
    | succ fu ih_27 =>
      intro i hi hfu_27
      refine g_iload_n C 3 dX5_timeOfHearing_27 rfl ?_
      refine g_aload_n C 1 dX5_timeOfHearing_28 rfl ?_
      refine g_get_i C ob_4 0 (by decide) rfl wd_54 dX5_timeOfHearing_29 ?_
      refine g_top (y := nI (vN V)) (r_n r g) ?_
      refine g_icmp_ge C 75 dX5_timeOfHearing_32 (by decide) (fun c_32 => ?_) (fun c_32 => ?_)
      · have hin : i = vN V := by have q := (nI_leI (a := vN V) (b := i) (by omega) (by omega)).mp c_32; omega
        refine g_iload_n C 2 dX5_timeOfHearing_75 rfl ?_
        refine g_iret C hQ rfl dX5_timeOfHearing_76 ?_
        exact ⟨by rw [hin]; rfl, rfl⟩
      · have hi2 : i < vN V := by have q := mt (nI_leI (a := vN V) (b := i) (by omega) (by omega)).mpr c_32; omega
        refine g_aload_n C 0 dX5_timeOfHearing_35 rfl ?_
        refine g_get_i C ob_146 3 (by decide) rfl wd_234 dX5_timeOfHearing_36 ?_
        refine g_iload_n C 3 dX5_timeOfHearing_39 rfl ?_
        refine g_cS1 C (As := [.int (mem 146 3), .int (nI i)]) (w := .int (b2i (hs (mem 146 3) i))) (mem3 := mem) iX4_has (c_X4_has l G mem (mem 146 3) i) wd_510 rfl ⟨Nat.le_of_ble_eq_true rfl, Nat.le_of_ble_eq_true rfl⟩ ⟨rfl, rfl⟩ rfl (Nat.le_of_ble_eq_true rfl) dX5_timeOfHearing_40 (rfl) (rfl) ?_
        refine g_ifb_eq C 69 dX5_timeOfHearing_43 (by decide) (fun c_43 => ?_) (fun c_43 => ?_)
        · have c_43 : ask V b wa f i = false := by rw [ha] at c_43; exact (Bool.not_eq_true _).mp (mt (mk_hs (by omega) hi2).mpr c_43)
          refine g_iinc C (v := nI (i + 1)) (L2 := [(3, .int (nI (i + 1))), (0, .ref (gad G 146)), (1, .ref (gad G 4)), (2, .int (nI (hdF (ask V b wa f) (fun m => wt V b wa m + dR V b m) (wt V b wa f + dR V b f) i)))]) 3 dX5_timeOfHearing_69 rfl (nI_1 _) (by decide) rfl ?_
          refine g_goto C 27 dX5_timeOfHearing_72 (by decide) ?_
          refine g_loc (L2 := [(0, .ref (gad G 146)), (1, .ref (gad G 4)), (2, .int (nI (hdF (ask V b wa f) (fun m => wt V b wa m + dR V b m) (wt V b wa f + dR V b f) i))), (3, .int (nI (i + 1)))]) [1, 2, 3, 0] rfl ?_
          exact g_eq (ih_27 (i + 1) (hi2) (by omega)) (rfl) (gLc rfl (gLc rfl (gLc (congrArg Value.int (by first | rw [hd_t c_43] | rw [hd_f c_43])) (rfl)))) rfl
        · have c_43 : ask V b wa f i = true := by rw [ha] at c_43; exact (mk_hs (by omega) hi2).mp c_43
          have hwi := wt_lt V b i hwa
          have hdi : dR V b i ≤ 1000 := dN_le (gd_p g hi2).2 (gd_p g hrn).2
          have hhd := hd_le (q := ask V b wa f) (x := fun m => wt V b wa m + dR V b m) (h0 := wt V b wa f + dR V b f) i
          refine g_iload_n C 2 dX5_timeOfHearing_46 rfl ?_
          refine g_aload_n C 0 dX5_timeOfHearing_47 rfl ?_
          refine g_get_r C ob_146 10 (by decide) rfl wd_248 dX5_timeOfHearing_48 ?_
          refine g_iload_n C 3 dX5_timeOfHearing_51 rfl ?_
          refine g_cV1 C (As := [.int (nI i)]) (w := .int (mem 148 i)) (mem3 := mem) iX6_at (c_X6_at l G mem ob_147 ar_148 (by decide) (by omega)) wd_499 ob_147 rfl ⟨Nat.le_of_ble_eq_true rfl, Nat.le_of_ble_eq_true rfl⟩ ⟨rfl, rfl⟩ rfl (Nat.le_of_ble_eq_true rfl) dX5_timeOfHearing_52 (rfl) (rfl) ?_
          refine g_top (y := nI (wt V b wa i)) (hw i hi2 (ask_los c_43)) ?_
          refine g_aload_n C 1 dX5_timeOfHearing_55 rfl ?_
          refine g_iload_n C 3 dX5_timeOfHearing_56 rfl ?_
          refine g_aload_n C 0 dX5_timeOfHearing_57 rfl ?_
          refine g_get_i C ob_146 7 (by decide) rfl wd_242 dX5_timeOfHearing_58 ?_
          refine g_top (y := nI (rpM V b)) (hr) ?_
          refine g_cV1 C (As := [.int (nI i), .int (nI (rpM V b))]) (w := .int (nI (dN (vP V i) (vP V (rpM V b))))) (mem3 := mem) iX3_distance (c_X3_distance l G g mem r (hi2) (hrn)) wd_523 ob_4 rfl ⟨Nat.le_of_ble_eq_true rfl, Nat.le_of_ble_eq_true rfl⟩ ⟨rfl, rfl⟩ rfl (Nat.le_of_ble_eq_true rfl) dX5_timeOfHearing_61 (rfl) (rfl) ?_
          refine g_top (y := nI (dR V b i)) (rfl) ?_
          refine g_iadd_n C (d := (wt V b wa i) + (dR V b i)) dX5_timeOfHearing_64 rfl ?_
          refine g_mmin C wd_538 wd_324 wd_13 wd_325 (by decide) (Nat.le_of_ble_eq_true rfl) dX5_timeOfHearing_65 ?_
          refine g_top (y := nI (min (hdF (ask V b wa f) (fun m => wt V b wa m + dR V b m) (wt V b wa f + dR V b f) i) (wt V b wa i + dR V b i))) (min_nI (by omega) (by omega)) ?_
          refine g_istore_n C (L2 := [(2, .int (nI (min (hdF (ask V b wa f) (fun m => wt V b wa m + dR V b m) (wt V b wa f + dR V b f) i) (wt V b wa i + dR V b i)))), (0, .ref (gad G 146)), (1, .ref (gad G 4)), (3, .int (nI i))]) dX5_timeOfHearing_68 (by decide) rfl ?_
          refine g_iinc C (v := nI (i + 1)) (L2 := [(3, .int (nI (i + 1))), (2, .int (nI (min (hdF (ask V b wa f) (fun m => wt V b wa m + dR V b m) (wt V b wa f + dR V b f) i) (wt V b wa i + dR V b i)))), (0, .ref (gad G 146)), (1, .ref (gad G 4))]) 3 dX5_timeOfHearing_69 rfl (nI_1 _) (by decide) rfl ?_
          refine g_goto C 27 dX5_timeOfHearing_72 (by decide) ?_
          refine g_loc (L2 := [(0, .ref (gad G 146)), (1, .ref (gad G 4)), (2, .int (nI (min (hdF (ask V b wa f) (fun m => wt V b wa m + dR V b m) (wt V b wa f + dR V b f) i) (wt V b wa i + dR V b i)))), (3, .int (nI (i + 1)))]) [2, 3, 1, 0] rfl ?_
          exact g_eq (ih_27 (i + 1) (hi2) (by omega)) (rfl) (gLc rfl (gLc rfl (gLc (congrArg Value.int (by first | rw [hd_t c_43] | rw [hd_f c_43])) (rfl)))) rfl
  refine g_loc (L2 := [(0, .ref (gad G 146)), (1, .ref (gad G 4)), (2, .int (nI ((wt V b wa f) + (dR V b f)))), (3, .int (nI 0))]) [2, 3, 1, 0] rfl ?_
  exact g_eq (lp_27 (_ + 1) 0 (Nat.zero_le _) (Nat.lt_succ_self _)) (rfl) (gLc rfl (gLc rfl (gLc (congrArg Value.int (rfl)) (rfl)))) rfl

theorem hrd_le {T : Nat} {V : Nat → Int32} {b wa f : Nat} (g : Good T V) (hwa : 1 ≤ wa) (hfn : f < vN V) (hrk : rpK V b < vZ V) : hrd V b wa f < wa + 1000 := by
  have h1 := wt_lt V b f hwa
  have h2 : dR V b f ≤ 1000 := dN_le (gd_p g hfn).2 (gd_p g (rp_lt g hrk)).2
  have h3 := hd_le (q := ask V b wa f) (x := fun m => wt V b wa m + dR V b m) (h0 := wt V b wa f + dR V b f) (vN V)
  show hdF _ _ _ _ < _
  omega
theorem step_le {T : Nat} {V : Nat → Int32} {b : Nat} (g : Good T V) (hrk : rpK V b < vZ V) : toN (V 1) * rpK V b ≤ 5000 := by
  have h1 := (gd_step g).2
  have h2 := gd_n10 g
  have h3 := (gd_z g).2
  have h4 : toN (V 1) * rpK V b ≤ 500 * 10 := Nat.mul_le_mul h1 (by omega)
  omega
theorem dR_le {T : Nat} {V : Nat → Int32} {b m : Nat} (g : Good T V) (hrk : rpK V b < vZ V) (hm : m < vN V) : dR V b m ≤ 1000 := dN_le (gd_p g hm).2 (gd_p g (rp_lt g hrk)).2
theorem tim_le {T : Nat} {V : Nat → Int32} {b wa f : Nat} (g : Good T V) (hwa : 1 ≤ wa) (hwa1 : wa ≤ 1000) (hfn : f < vN V) (hrk : rpK V b < vZ V) : tim V b wa f ≤ 8000 := by
  have h1 := hrd_le g hwa hfn hrk
  have h2 := step_le (b := b) g hrk
  refine tm_le fun m hm => ?_
  have h3 := dR_le (b := b) g hrk hm
  show hrd V b wa f + _ + _ ≤ _
  omega

def rm_X5_reckonTimes : Room := { frames := 3, cells := 0, slots := 0, locals := 68 }
theorem iX5_reckonTimes : gIv yX5_reckonTimes cX5_reckonTimes 6 none 2 := ⟨⟨wd_533, wd_12, by decide +kernel, by decide +kernel, by decide +kernel⟩, wd_531, wd_532⟩
set_option maxRecDepth 100000 in
set_option maxHeartbeats 4000000 in
theorem c_X5_reckonTimes (l : Launch) (G : gG) {T : Nat} {V : Nat → Int32} (g : Good T V) (mem : gM) (r : Rel V mem) {b wa f : Nat} (hb : b < 200) (hwa : 1 ≤ wa) (hwa1 : wa ≤ 1000) (ha : mem 146 3 = mk (ask V b wa f) (vN V)) (hrk : rpK V b < vZ V) (hr : mem 146 7 = nI (rpM V b)) (hl : mem 146 2 = mk (los V b) (vN V)) (hf : mem 146 6 = nI f) (hfn : f < vN V) (hfl : los V b f = true) (hw : ∀ m, m < vN V → los V b m = true → mem 148 m = nI (wt V b wa m)) (hq : mem 146 8 = nI (rpK V b)) : gMet l yX5_reckonTimes cX5_reckonTimes 6 none rm_X5_reckonTimes G [.ref (gad G 146), .ref (gad G 4), .int (nI (toN (V 1)))] mem (fun a u => a = none ∧ u = gr (gr mem 146 (upd (mem 146) 9 (nI (tim V b wa f)))) 150 (cpy (vN V) (fun j => if los V b j = true then nI (sent V b wa f + dR V b j) else mem 150 j) (mem 150))) := by
  refine g_of (own := RX5) (L0 := [(0, .ref (gad G 146)), (1, .ref (gad G 4)), (2, .int (nI (toN (V 1))))]) (by decide +kernel) rfl (Nat.le_of_ble_eq_true rfl) rfl ?_
  intro p e s m args below meth c C Q hQ
  have hn10 := gd_n10 g
  have hrn := rp_lt g hrk
  have hs1 := hrd_le g hwa hfn hrk
  have hs2 := step_le (b := b) g hrk
  have hs3 : sent V b wa f < 10000 := by show hrd V b wa f + _ < _; omega
  refine g_aload_n C 0 dX5_reckonTimes_0 rfl ?_
  refine g_aload_n C 1 dX5_reckonTimes_1 rfl ?_
  refine g_cV1 C (As := [.ref (gad G 4)]) (w := .int (nI (hrd V b wa f))) (mem3 := mem) iX5_timeOfHearing (c_X5_timeOfHearing l G g mem r hb hwa hwa1 (ha) hrk (hr) (hl) (hf) hfn hfl (hw)) wd_534 ob_146 rfl ⟨Nat.le_of_ble_eq_true rfl, Nat.le_of_ble_eq_true rfl⟩ ⟨rfl, rfl⟩ rfl (Nat.le_of_ble_eq_true rfl) dX5_reckonTimes_2 (rfl) (rfl) ?_
  refine g_iload_n C 2 dX5_reckonTimes_5 rfl ?_
  refine g_aload_n C 0 dX5_reckonTimes_6 rfl ?_
  refine g_get_i C ob_146 8 (by decide) rfl wd_244 dX5_reckonTimes_7 ?_
  refine g_top (y := nI (rpK V b)) (hq) ?_
  refine g_imul_n C (d := (toN (V 1)) * (rpK V b)) dX5_reckonTimes_10 rfl ?_
  refine g_iadd_n C (d := (hrd V b wa f) + ((toN (V 1)) * (rpK V b))) dX5_reckonTimes_11 rfl ?_
  refine g_top (y := nI (sent V b wa f)) (rfl) ?_
  refine g_istore_n C (L2 := [(3, .int (nI (sent V b wa f))), (0, .ref (gad G 146)), (1, .ref (gad G 4)), (2, .int (nI (toN (V 1))))]) dX5_reckonTimes_12 (by decide) rfl ?_
  refine g_aload_n C 1 dX5_reckonTimes_13 rfl ?_
  refine g_iconst C (nI 0) dX5_reckonTimes_14 (by decide) ?_
  refine g_put_i C ob_146 9 (by decide) rfl wd_246 rfl rfl dX5_reckonTimes_15 ?_
  refine g_iconst C (nI 0) dX5_reckonTimes_18 (by decide) ?_
  refine g_istore C (L2 := [(4, .int (nI 0)), (3, .int (nI (sent V b wa f))), (0, .ref (gad G 146)), (1, .ref (gad G 4)), (2, .int (nI (toN (V 1))))]) dX5_reckonTimes_19 (by decide) rfl ?_
  have lp_21 : ∀ (fu : Nat) (i : Nat), (i ≤ vN V) → vN V - i < fu → gV p l e rm_X5_reckonTimes s m args below meth c 0 0 Q G 6 (gr (gr mem 146 (upd (mem 146) 9 (nI (tmF (los V b) (fun m => sent V b wa f + dR V b m) i)))) 150 (cpy i (fun j => if los V b j = true then nI (sent V b wa f + dR V b j) else mem 150 j) (mem 150))) 21 [(0, .ref (gad G 146)), (1, .ref (gad G 4)), (2, .int (nI (toN (V 1)))), (3, .int (nI (sent V b wa f))), (4, .int (nI i))] [] := by
    intro fu
    induction fu with
    | zero => intro i _ hfu; exact absurd hfu (Nat.not_lt_zero _)
    | succ fu ih_21 =>
      intro i hi hfu_21
      refine g_iload C 4 dX5_reckonTimes_21 rfl ?_
      refine g_aload_n C 1 dX5_reckonTimes_23 rfl ?_
      refine g_get_i C ob_4 0 (by decide) rfl wd_54 dX5_reckonTimes_24 ?_
      refine g_top (y := mem 4 0) (rfl) ?_
      refine g_top (y := nI (vN V)) (r_n r g) ?_
      refine g_icmp_ge C 86 dX5_reckonTimes_27 (by decide) (fun c_27 => ?_) (fun c_27 => ?_)
      · have hin : i = vN V := by have q := (nI_leI (a := vN V) (b := i) (by omega) (by omega)).mp c_27; omega
        refine g_vret C hQ rfl dX5_reckonTimes_86 ?_
        exact ⟨rfl, by rw [hin]; rfl⟩
      · have hi2 : i < vN V := by have q := mt (nI_leI (a := vN V) (b := i) (by omega) (by omega)).mpr c_27; omega
        refine g_aload_n C 0 dX5_reckonTimes_30 rfl ?_
        refine g_get_i C ob_146 2 (by decide) rfl wd_230 dX5_reckonTimes_31 ?_
        refine g_top (y := mem 146 2) (rfl) ?_
        refine g_iload C 4 dX5_reckonTimes_34 rfl ?_
        refine g_cS1 C (As := [.int (mem 146 2), .int (nI i)]) (w := .int (b2i (hs (mem 146 2) i))) (mem3 := gr (gr mem 146 (upd (mem 146) 9 (nI (tmF (los V b) (fun m => sent V b wa f + dR V b m) i)))) 150 (cpy i (fun j => if los V b j = true then nI (sent V b wa f + dR V b j) else mem 150 j) (mem 150))) iX4_has (c_X4_has l G (gr (gr mem 146 (upd (mem 146) 9 (nI (tmF (los V b) (fun m => sent V b wa f + dR V b m) i)))) 150 (cpy i (fun j => if los V b j = true then nI (sent V b wa f + dR V b j) else mem 150 j) (mem 150))) (mem 146 2) i) wd_510 rfl ⟨Nat.le_of_ble_eq_true rfl, Nat.le_of_ble_eq_true rfl⟩ ⟨rfl, rfl⟩ rfl (Nat.le_of_ble_eq_true rfl) dX5_reckonTimes_36 (rfl) (rfl) ?_
        refine g_ifb_eq C 80 dX5_reckonTimes_39 (by decide) (fun c_39 => ?_) (fun c_39 => ?_)
        · have c_39 := (Bool.not_eq_true _).mp (mt (hs_los g hi2 hl).mpr c_39)
          refine g_iinc C (v := nI (i + 1)) (L2 := [(4, .int (nI (i + 1))), (0, .ref (gad G 146)), (1, .ref (gad G 4)), (2, .int (nI (toN (V 1)))), (3, .int (nI (sent V b wa f)))]) 4 dX5_reckonTimes_80 rfl (nI_1 _) (by decide) rfl ?_
          refine g_goto C 21 dX5_reckonTimes_83 (by decide) ?_
          refine g_loc (L2 := [(0, .ref (gad G 146)), (1, .ref (gad G 4)), (2, .int (nI (toN (V 1)))), (3, .int (nI (sent V b wa f))), (4, .int (nI (i + 1)))]) [1, 2, 3, 4, 0] rfl ?_
          exact g_eq (ih_21 (i + 1) (hi2) (by omega)) (by first | (rw [tm_f c_39, ← cpy_k (f := fun j => if los V b j = true then nI (sent V b wa f + dR V b j) else mem 150 j) (by rw [c_39]; rfl)]; done) | (rw [upd_upd, tm_t c_39, ← cpy_s (f := fun j => if los V b j = true then nI (sent V b wa f + dR V b j) else mem 150 j) (x := nI (sent V b wa f + dR V b i)) (by rw [if_pos c_39])]; done)) (rfl) rfl
        · have c_39 := (hs_los g hi2 hl).mp c_39
          have hdi := dR_le (b := b) g hrk hi2
          have htl : tmF (los V b) (fun m => sent V b wa f + dR V b m) i ≤ sent V b wa f + 1000 := tm_le fun m hm => by have := dR_le (b := b) (m := m) g hrk (by omega); omega
          refine g_iload_n C 3 dX5_reckonTimes_42 rfl ?_
          refine g_aload_n C 1 dX5_reckonTimes_43 rfl ?_
          refine g_iload C 4 dX5_reckonTimes_44 rfl ?_
          refine g_aload_n C 0 dX5_reckonTimes_46 rfl ?_
          refine g_get_i C ob_146 7 (by decide) rfl wd_242 dX5_reckonTimes_47 ?_
          refine g_top (y := mem 146 7) (rfl) ?_
          refine g_top (y := nI (rpM V b)) (hr) ?_
          refine g_cV1 C (As := [.int (nI i), .int (nI (rpM V b))]) (w := .int (nI (dN (vP V i) (vP V (rpM V b))))) (mem3 := gr (gr mem 146 (upd (mem 146) 9 (nI (tmF (los V b) (fun m => sent V b wa f + dR V b m) i)))) 150 (cpy i (fun j => if los V b j = true then nI (sent V b wa f + dR V b j) else mem 150 j) (mem 150))) iX3_distance (c_X3_distance l G g (gr (gr mem 146 (upd (mem 146) 9 (nI (tmF (los V b) (fun m => sent V b wa f + dR V b m) i)))) 150 (cpy i (fun j => if los V b j = true then nI (sent V b wa f + dR V b j) else mem 150 j) (mem 150))) (r_gr (by decide) (r_gr (by decide) r)) (hi2) (hrn)) wd_523 ob_4 rfl ⟨Nat.le_of_ble_eq_true rfl, Nat.le_of_ble_eq_true rfl⟩ ⟨rfl, rfl⟩ rfl (Nat.le_of_ble_eq_true rfl) dX5_reckonTimes_50 (rfl) (rfl) ?_
          refine g_top (y := nI (dR V b i)) (rfl) ?_
          refine g_iadd_n C (d := (sent V b wa f) + (dR V b i)) dX5_reckonTimes_53 rfl ?_
          refine g_istore C (L2 := [(5, .int (nI ((sent V b wa f) + (dR V b i)))), (0, .ref (gad G 146)), (1, .ref (gad G 4)), (2, .int (nI (toN (V 1)))), (3, .int (nI (sent V b wa f))), (4, .int (nI i))]) dX5_reckonTimes_54 (by decide) rfl ?_
          refine g_aload_n C 1 dX5_reckonTimes_56 rfl ?_
          refine g_get_r C ob_146 11 (by decide) rfl wd_250 dX5_reckonTimes_57 ?_
          refine g_iload C 5 dX5_reckonTimes_60 rfl ?_
          refine g_iload C 0 dX5_reckonTimes_62 rfl ?_
          refine g_cV0 C (As := [.int (nI i), .int (nI ((sent V b wa f) + (dR V b i)))]) (mem3 := gr (gr (gr mem 146 (upd (mem 146) 9 (nI (tmF (los V b) (fun m => sent V b wa f + dR V b m) i)))) 150 (cpy i (fun j => if los V b j = true then nI (sent V b wa f + dR V b j) else mem 150 j) (mem 150))) 150 (upd (cpy i (fun j => if los V b j = true then nI (sent V b wa f + dR V b j) else mem 150 j) (mem 150)) i (nI ((sent V b wa f) + (dR V b i))))) iX6_put (c_X6_put l G (gr (gr mem 146 (upd (mem 146) 9 (nI (tmF (los V b) (fun m => sent V b wa f + dR V b m) i)))) 150 (cpy i (fun j => if los V b j = true then nI (sent V b wa f + dR V b j) else mem 150 j) (mem 150))) ob_149 ar_150 (by decide) (by omega) (nI ((sent V b wa f) + (dR V b i)))) wd_518 ob_149 rfl ⟨Nat.le_of_ble_eq_true rfl, Nat.le_of_ble_eq_true rfl⟩ ⟨rfl, rfl⟩ rfl (Nat.le_of_ble_eq_true rfl) dX5_reckonTimes_64 (rfl) ?_
          refine g_mem (mem2 := gr (gr mem 146 (upd (mem 146) 9 (nI (tmF (los V b) (fun m => sent V b wa f + dR V b m) i)))) 150 (upd (cpy i (fun j => if los V b j = true then nI (sent V b wa f + dR V b j) else mem 150 j) (mem 150)) i (nI ((sent V b wa f) + (dR V b i))))) (gr_gr _ _ _ _) ?_
          refine g_aload_n C 1 dX5_reckonTimes_67 rfl ?_
          refine g_aload_n C 1 dX5_reckonTimes_68 rfl ?_
          refine g_get_i C ob_146 9 (by decide) rfl wd_246 dX5_reckonTimes_69 ?_
          refine g_top (y := nI (tmF (los V b) (fun m => sent V b wa f + dR V b m) i)) (rfl) ?_
          refine g_iload C 0 dX5_reckonTimes_72 rfl ?_
          refine g_mmax C wd_539 wd_540 wd_13 wd_541 (by decide) (Nat.le_of_ble_eq_true rfl) dX5_reckonTimes_74 ?_
          refine g_top (y := nI (max (tmF (los V b) (fun m => sent V b wa f + dR V b m) i) (sent V b wa f + dR V b i))) (max_nI (by omega) (by omega)) ?_
          refine g_put_i C ob_146 9 (by decide) rfl wd_246 rfl rfl dX5_reckonTimes_77 ?_
          refine g_mem (mem2 := gr (gr mem 146 (upd (upd (mem 146) 9 (nI (tmF (los V b) (fun m => sent V b wa f + dR V b m) i))) 9 (nI (max (tmF (los V b) (fun m => sent V b wa f + dR V b m) i) (sent V b wa f + dR V b i))))) 150 (upd (cpy i (fun j => if los V b j = true then nI (sent V b wa f + dR V b j) else mem 150 j) (mem 150)) i (nI ((sent V b wa f) + (dR V b i))))) ((gr_comm _ (by decide) _ _).trans (congrArg (fun z => gr z 150 (upd (cpy i (fun j => if los V b j = true then nI (sent V b wa f + dR V b j) else mem 150 j) (mem 150)) i (nI ((sent V b wa f) + (dR V b i))))) (gr_gr _ _ _ _))) ?_
          refine g_iinc C (v := nI (i + 1)) (L2 := [(4, .int (nI (i + 1))), (5, .int (nI ((sent V b wa f) + (dR V b i)))), (0, .ref (gad G 146)), (1, .ref (gad G 4)), (2, .int (nI (toN (V 1)))), (3, .int (nI (sent V b wa f)))]) 5 dX5_reckonTimes_80 rfl (nI_1 _) (by decide) rfl ?_
          refine g_goto C 21 dX5_reckonTimes_83 (by decide) ?_
          refine g_loc (L2 := [(0, .ref (gad G 146)), (1, .ref (gad G 4)), (2, .int (nI (toN (V 1)))), (3, .int (nI (sent V b wa f))), (4, .int (nI (i + 1)))]) [2, 3, 4, 5, 0] rfl ?_
          exact g_eq (ih_21 (i + 1) (hi2) (by omega)) (by first | (rw [tm_f c_39, ← cpy_k (f := fun j => if los V b j = true then nI (sent V b wa f + dR V b j) else mem 150 j) (by rw [c_39]; rfl)]; done) | (rw [upd_upd, tm_t c_39, ← cpy_s (f := fun j => if los V b j = true then nI (sent V b wa f + dR V b j) else mem 150 j) (x := nI (sent V b wa f + dR V b i)) (by rw [if_pos c_39])]; done)) (rfl) rfl
  refine g_loc (L2 := [(0, .ref (gad G 146)), (1, .ref (gad G 4)), (2, .int (nI (toN (V 1)))), (3, .int (nI (sent V b wa f))), (4, .int (nI 0))]) [2, 3, 4, 1, 0] rfl ?_
  exact g_eq (lp_21 (_ + 1) 0 (Nat.zero_le _) (Nat.lt_succ_self _)) (by rw [cpy_0, show mem 150 = (gr mem 146 (upd (mem 146) 9 (nI (tmF (los V b) (fun m => sent V b wa f + dR V b m) 0)))) 150 from rfl, gr_self]; rfl) (rfl) rfl
