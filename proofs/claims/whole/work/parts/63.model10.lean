def rm_X10_repair : Room := { frames := 4, cells := 0, slots := 0, locals := 95 }
theorem iX10_repair : gIv yX10_repair cX10_repair 2 (some .int) 1 := ⟨⟨wd_908, wd_32, by decide +kernel, by decide +kernel, by decide +kernel⟩, wd_906, wd_907⟩
set_option maxRecDepth 100000 in
set_option maxHeartbeats 4000000 in
theorem c_X10_repair (l : Launch) (G : gG) {T : Nat} (mem : gM) (g : Good T (mem 155)) {h : Nat} (hh : mem 154 2 = nI h) (h4 : h ≤ 4) (hT : T < 2 ^ 19) (x : Int32) : gMet l yX10_repair cX10_repair 2 (some .int) rm_X10_repair G [.ref (gad G 154), .int x] mem (fun a u => ∃ rr : Int32, a = some (.int rr) ∧ MX h mem u (blkP x ∧ hcd (mem 155) (toN x) = 0) (nI (tim (mem 155) (toN x) (toN (mem 155 0)) (fF (mem 155) (toN x) (toN (mem 155 0))))) (if blkP x then kState else kBad) (rpV (mem 155) (toN x) (toN (mem 155 0))) rr) := by
  refine g_of (own := RX10) (L0 := [(0, .ref (gad G 154)), (1, .int x)]) (by decide +kernel) rfl (Nat.le_of_ble_eq_true rfl) rfl ?_
  intro p e s m args below meth c C Q hQ
  have hn10 := gd_n10 g
  refine g_iload_n C 1 dX10_repair_0 rfl ?_
  refine g_cS1 C (As := [.int x]) (w := .int (b2i (blkP x))) (mem3 := mem) iX10_isBlock (c_X10_isBlock l G mem x) wd_874 rfl ⟨Nat.le_of_ble_eq_true rfl, Nat.le_of_ble_eq_true rfl⟩ ⟨rfl, rfl⟩ rfl (Nat.le_of_ble_eq_true rfl) dX10_repair_1 (rfl) (rfl) ?_
  refine g_ifb_ne C 10 dX10_repair_4 (by decide) (fun c_4 => ?_) (fun c_4 => ?_)
  · obtain ⟨b, hb, rfl⟩ := blkP_ex c_4
    have eb : toN (nI b) = b := toN_nI (by omega)
    refine g_aload_n C 0 dX10_repair_10 rfl ?_
    refine g_iload_n C 1 dX10_repair_11 rfl ?_
    refine g_aload_n C 0 dX10_repair_12 rfl ?_
    refine g_get_r C ob_154 0 (by decide) rfl wd_703 dX10_repair_13 ?_
    refine g_iconst C (nI 0) dX10_repair_16 (by decide) ?_
    refine g_iald_n C (j := 0) ar_155 rfl (by omega) (by decide) dX10_repair_17 ?_
    refine g_top (y := nI (toN (mem 155 0))) ((gd_wait g).1) ?_
    refine g_cVr C (As := [.int (nI b), .int (nI (toN (mem 155 0)))]) iX10_works (c_X10_works l G mem g (b := b) (wa := toN (mem 155 0)) (by omega) (gd_wait g).2.1 (gd_wait g).2.2) wd_909 ob_154 rfl ⟨Nat.le_of_ble_eq_true rfl, Nat.le_of_ble_eq_true rfl⟩ ⟨rfl, rfl⟩ rfl (Nat.le_of_ble_eq_true rfl) dX10_repair_18 (fun rr0 u1 hq => ?_)
    obtain ⟨rfl, q, w, rfl, hq2, hq7, hpl⟩ := hq
    refine g_if_eq C 27 dX10_repair_21 (by decide) (fun c_21 => ?_) (fun c_21 => ?_)
    · have hh0 := hcd_0 c_21
      obtain ⟨f, hp⟩ := hpl hh0
      obtain ⟨hfr, h12, h14, h15, h16, h17, h18, h19, h20, hwl⟩ := id hp
      have hfF := fF_eq hfr
      have hrk := (hc_0 hh0).2.2
      have hrn := rp_lt g hrk
      refine g_aload_n C 0 dX10_repair_27 rfl ?_
      refine g_cV0 C (As := []) (mem3 := gr (gr (gr (gr mem 154 q) 160 w) 156 (pshP h (mem 155) (mem 156))) 154 (upd q 2 (nI (pushN h)))) iX10_act (c_X10_act l G (gr (gr mem 154 q) 160 w) (hq2.trans hh) h4) wd_776 ob_154 rfl ⟨Nat.le_of_ble_eq_true rfl, Nat.le_of_ble_eq_true rfl⟩ ⟨rfl, rfl⟩ rfl (Nat.le_of_ble_eq_true rfl) dX10_repair_28 (rfl) ?_
      refine g_mem (mem2 := gr (gr (gr mem 154 (upd q 2 (nI (pushN h)))) 160 w) 156 (pshP h (mem 155) (mem 156))) ((gr_comm _ (by decide) _ _).trans (congrArg (fun z => gr z 156 (pshP h (mem 155) (mem 156))) ((gr_comm _ (by decide) _ _).trans (congrArg (fun z => gr z 160 w) (gr_gr _ _ _ _))))) ?_
      refine g_aload_n C 0 dX10_repair_31 rfl ?_
      refine g_iload_n C 1 dX10_repair_32 rfl ?_
      refine g_cV0 C (As := [.int (nI b)]) (mem3 := gr (gr (gr (gr mem 154 (upd q 2 (nI (pushN h)))) 160 w) 156 (pshP h (mem 155) (mem 156))) 155 (rpV (mem 155) b (toN (mem 155 0)))) iX10_makes (c_X10_makes l G (gr (gr (gr mem 154 (upd q 2 (nI (pushN h)))) 160 w) 156 (pshP h (mem 155) (mem 156))) g hT (b := b) (wa := toN (mem 155 0)) (f := f) (w := w) hb ⟨hfr, h12, h14, h15, h16, h17, h18, h19, h20, hwl⟩ hrk) wd_925 ob_154 rfl ⟨Nat.le_of_ble_eq_true rfl, Nat.le_of_ble_eq_true rfl⟩ ⟨rfl, rfl⟩ rfl (Nat.le_of_ble_eq_true rfl) dX10_repair_33 (rfl) ?_
      refine g_aload_n C 0 dX10_repair_36 rfl ?_
      refine g_get_i C ob_154 20 (by decide) rfl wd_723 dX10_repair_37 ?_
      refine g_top (y := q 20) (rfl) ?_
      refine g_top (y := nI (tim (mem 155) b (toN (mem 155 0)) f)) (h20) ?_
      refine g_iret C hQ rfl dX10_repair_40 ?_
      exact ⟨_, rfl, fun _ => ⟨by rw [eb, hfF], by rw [eb]; rfl, rfl, rfl, hq7, rfl, fun k hk => by rw [gr_n (by omega), gr_n (by omega), gr_n (by omega), gr_n (by omega)]⟩, fun z => absurd ⟨c_4, by rw [eb]; exact hh0⟩ z⟩
    · have hh0 : ¬ hcd (mem 155) b = 0 := fun q => c_21 (by rw [q]; rfl)
      refine g_ldc C wd_836 dX10_repair_24 ?_
      refine g_iret C hQ rfl dX10_repair_26 ?_
      exact ⟨_, rfl, fun z => absurd (eb ▸ z.2) hh0, fun _ => ⟨(if_pos c_4).symm, ⟨rfl, rfl, hq2, hq7, rfl, fun k hk => by rw [gr_n (by omega), gr_n (by omega)]⟩⟩⟩
  · refine g_ldc C wd_774 dX10_repair_7 ?_
    refine g_iret C hQ rfl dX10_repair_9 ?_
    exact ⟨_, rfl, fun q => absurd q (fun q => c_4 q.1), fun _ => ⟨(if_neg c_4).symm, MN.rf mem⟩⟩

def rm_X10_repairAll : Room := { frames := 4, cells := 0, slots := 0, locals := 95 }
theorem iX10_repairAll : gIv yX10_repairAll cX10_repairAll 3 (some .int) 0 := ⟨⟨wd_935, wd_32, by decide +kernel, by decide +kernel, by decide +kernel⟩, wd_933, wd_934⟩
set_option maxRecDepth 100000 in
set_option maxHeartbeats 4000000 in
theorem c_X10_repairAll (l : Launch) (G : gG) {T : Nat} (mem : gM) (g : Good T (mem 155)) {h : Nat} (hh : mem 154 2 = nI h) (h4 : h ≤ 4) (hT : T < 2 ^ 18) : gMet l yX10_repairAll cX10_repairAll 3 (some .int) rm_X10_repairAll G [.ref (gad G 154)] mem (fun a u => ∃ rr : Int32, a = some (.int rr) ∧ (rr = nI (raV (mem 155) (toN (mem 155 0)) 200).2 ∧ MA h mem u (raV (mem 155) (toN (mem 155 0)) 200).1)) := by
  refine g_of (own := RX10) (L0 := [(0, .ref (gad G 154))]) (by decide +kernel) rfl (Nat.le_of_ble_eq_true rfl) rfl ?_
  intro p e s m args below meth c C Q hQ
  have hn10 := gd_n10 g
  refine g_aload_n C 0 dX10_repairAll_0 rfl ?_
  refine g_cV0 C (As := []) (mem3 := gr (gr mem 156 (pshP h (mem 155) (mem 156))) 154 (upd (mem 154) 2 (nI (pushN h)))) iX10_act (c_X10_act l G mem hh h4) wd_776 ob_154 rfl ⟨Nat.le_of_ble_eq_true rfl, Nat.le_of_ble_eq_true rfl⟩ ⟨rfl, rfl⟩ rfl (Nat.le_of_ble_eq_true rfl) dX10_repairAll_1 (rfl) ?_
  refine g_iconst C (nI 0) dX10_repairAll_4 (by decide) ?_
  refine g_istore_n C (L2 := [(1, .int (nI 0)), (0, .ref (gad G 154))]) dX10_repairAll_5 (by decide) rfl ?_
  refine g_iconst C (nI 0) dX10_repairAll_6 (by decide) ?_
  refine g_istore_n C (L2 := [(2, .int (nI 0)), (1, .int (nI 0)), (0, .ref (gad G 154))]) dX10_repairAll_7 (by decide) rfl ?_
  have lp_8 : ∀ (fu : Nat) (i : Nat) (M1 : gM), (i ≤ 200) → (MA h mem M1 (raV (mem 155) (toN (mem 155 0)) i).1) → (Good (T + (raV (mem 155) (toN (mem 155 0)) i).2) (M1 155)) → 200 - i < fu → gV p l e rm_X10_repairAll s m args below meth c 0 0 Q G 3 M1 8 [(0, .ref (gad G 154)), (1, .int (nI ((raV (mem 155) (toN (mem 155 0)) i).2))), (2, .int (nI i))] [] := by
    intro fu
    induction fu with
    | zero => intro i M1 _ _ _ hfu; exact absurd hfu (Nat.not_lt_zero _)
    | succ fu ih_8 =>
      intro i M1 hi hm g1 hfu_8
      have hcn := ra_cnt (V := mem 155) (wa := toN (mem 155 0)) i
      refine g_iload_n C 2 dX10_repairAll_8 rfl ?_
      refine g_sipush C (nI 200) dX10_repairAll_9 (by decide) ?_
      refine g_icmp_ge C 43 dX10_repairAll_12 (by decide) (fun c_12 => ?_) (fun c_12 => ?_)
      · have hin : i = 200 := by have q := (nI_leI (a := 200) (b := i) (by omega) (by omega)).mp c_12; omega
        refine g_iload_n C 1 dX10_repairAll_43 rfl ?_
        refine g_iret C hQ rfl dX10_repairAll_44 ?_
        exact ⟨_, rfl, by rw [hin], by rw [← hin]; exact hm⟩
      · have hi2 : i < 200 := by have q := mt (nI_leI (a := 200) (b := i) (by omega) (by omega)).mpr c_12; omega
        refine g_aload_n C 0 dX10_repairAll_15 rfl ?_
        refine g_iload_n C 2 dX10_repairAll_16 rfl ?_
        refine g_aload_n C 0 dX10_repairAll_17 rfl ?_
        refine g_get_r C ob_154 0 (by decide) rfl wd_703 dX10_repairAll_18 ?_
        refine g_iconst C (nI 0) dX10_repairAll_21 (by decide) ?_
        refine g_iald_n C (j := 0) ar_155 rfl (by omega) (by decide) dX10_repairAll_22 ?_
        refine g_top (y := nI (toN (mem 155 0))) ((congrFun hm.1 0).trans ((ra_wait i).trans (gd_wait g).1)) ?_
        refine g_cVr C (As := [.int (nI i), .int (nI (toN (mem 155 0)))]) iX10_works (c_X10_works l G M1 g1 (b := i) (wa := toN (mem 155 0)) (by omega) (gd_wait g).2.1 (gd_wait g).2.2) wd_909 ob_154 rfl ⟨Nat.le_of_ble_eq_true rfl, Nat.le_of_ble_eq_true rfl⟩ ⟨rfl, rfl⟩ rfl (Nat.le_of_ble_eq_true rfl) dX10_repairAll_23 (fun rr0 u1 hq => ?_)
        obtain ⟨rfl, q, w, rfl, hq2, hq7, hpl⟩ := hq
        refine g_if_ne C 37 dX10_repairAll_26 (by decide) (fun c_26 => ?_) (fun c_26 => ?_)
        · have hh0 : ¬ hcd (raV (mem 155) (toN (mem 155 0)) i).1 i = 0 := fun z => c_26 (by rw [show M1 155 = _ from hm.1, z]; rfl)
          refine g_iinc C (v := nI (i + 1)) (L2 := [(2, .int (nI (i + 1))), (0, .ref (gad G 154)), (1, .int (nI ((raV (mem 155) (toN (mem 155 0)) i).2)))]) 2 dX10_repairAll_37 rfl (nI_1 _) (by decide) rfl ?_
          refine g_goto C 8 dX10_repairAll_40 (by decide) ?_
          refine g_loc (L2 := [(0, .ref (gad G 154)), (1, .int (nI ((raV (mem 155) (toN (mem 155 0)) i).2))), (2, .int (nI (i + 1)))]) [1, 2, 0] rfl ?_
          exact g_eq (ih_8 (i + 1) (gr (gr M1 154 q) 160 w) (hi2) (⟨by rw [ra_f hh0]; exact hm.1, hm.2.1, hq2.trans hm.2.2.1, hq7.trans hm.2.2.2.1, hm.2.2.2.2.1, fun k hk => by rw [gr_n (by omega), gr_n (by omega)]; exact hm.2.2.2.2.2 k hk⟩) (by rw [ra_f hh0]; exact g1) (by omega)) (rfl) (gLc rfl (gLc (congrArg Value.int (by rw [ra_f hh0])) (rfl))) rfl
        · have hh0 := hcd_0 c_26
          have hh1 : hcd (raV (mem 155) (toN (mem 155 0)) i).1 i = 0 := by rw [← hm.1]; exact hh0
          obtain ⟨f, hp⟩ := hpl hh0
          obtain ⟨hfr, h12, h14, h15, h16, h17, h18, h19, h20, hwl⟩ := id hp
          have hrk := (hc_0 hh0).2.2
          refine g_aload_n C 0 dX10_repairAll_29 rfl ?_
          refine g_iload_n C 2 dX10_repairAll_30 rfl ?_
          refine g_cV0 C (As := [.int (nI i)]) (mem3 := gr (gr (gr M1 154 q) 160 w) 155 (rpV (M1 155) i (toN (mem 155 0)))) iX10_makes (c_X10_makes l G (gr (gr M1 154 q) 160 w) g1 (by omega) (b := i) (wa := toN (mem 155 0)) (f := f) (w := w) hi2 ⟨hfr, h12, h14, h15, h16, h17, h18, h19, h20, hwl⟩ hrk) wd_925 ob_154 rfl ⟨Nat.le_of_ble_eq_true rfl, Nat.le_of_ble_eq_true rfl⟩ ⟨rfl, rfl⟩ rfl (Nat.le_of_ble_eq_true rfl) dX10_repairAll_31 (rfl) ?_
          refine g_iinc C (v := nI ((raV (mem 155) (toN (mem 155 0)) i).2 + 1)) (L2 := [(1, .int (nI ((raV (mem 155) (toN (mem 155 0)) i).2 + 1))), (0, .ref (gad G 154)), (2, .int (nI i))]) 1 dX10_repairAll_34 rfl (nI_1 _) (by decide) rfl ?_
          refine g_iinc C (v := nI (i + 1)) (L2 := [(2, .int (nI (i + 1))), (1, .int (nI ((raV (mem 155) (toN (mem 155 0)) i).2 + 1))), (0, .ref (gad G 154))]) 2 dX10_repairAll_37 rfl (nI_1 _) (by decide) rfl ?_
          refine g_goto C 8 dX10_repairAll_40 (by decide) ?_
          refine g_loc (L2 := [(0, .ref (gad G 154)), (1, .int (nI ((raV (mem 155) (toN (mem 155 0)) i).2 + 1))), (2, .int (nI (i + 1)))]) [2, 1, 0] rfl ?_
          exact g_eq (ih_8 (i + 1) (gr (gr (gr M1 154 q) 160 w) 155 (rpV (M1 155) i (toN (mem 155 0)))) (hi2) (⟨by rw [ra_t hh1, ← hm.1]; rfl, hm.2.1, hq2.trans hm.2.2.1, hq7.trans hm.2.2.2.1, hm.2.2.2.2.1, fun k hk => by rw [gr_n (by omega), gr_n (by omega), gr_n (by omega)]; exact hm.2.2.2.2.2 k hk⟩) (by rw [ra_t hh1]; exact good_rep (T := T + (raV (mem 155) (toN (mem 155 0)) i).2) g1 (by omega) hi2 hrk) (by omega)) (rfl) (gLc rfl (gLc (congrArg Value.int (by rw [ra_t hh1])) (rfl))) rfl
  refine g_loc (L2 := [(0, .ref (gad G 154)), (1, .int (nI 0)), (2, .int (nI 0))]) [2, 1, 0] rfl ?_
  exact g_eq (lp_8 (_ + 1) 0 (gr (gr mem 156 (pshP h (mem 155) (mem 156))) 154 (upd (mem 154) 2 (nI (pushN h)))) (Nat.zero_le _) (⟨rfl, rfl, rfl, rfl, rfl, fun k hk => by rw [gr_n (by omega), gr_n (by omega)]⟩) (g) (Nat.lt_succ_self _)) (rfl) (gLc rfl (gLc (congrArg Value.int (rfl)) (rfl))) rfl
