def rm_X10_wrongAt : Room := { frames := 2, cells := 0, slots := 0, locals := 45 }
theorem iX10_wrongAt : gIv yX10_wrongAt cX10_wrongAt 2 (some .int) 0 := ⟨⟨wd_892, wd_32, by decide +kernel, by decide +kernel, by decide +kernel⟩, wd_891, wd_12⟩
set_option maxRecDepth 100000 in
set_option maxHeartbeats 4000000 in
theorem c_X10_wrongAt (l : Launch) (G : gG) (mem : gM) {tx : Nat → Nat} {tl n : Nat} (hn : mem 155 5 = nI n) (hn10 : n ≤ 10) (tX : TXM tx tl mem) : gMet l yX10_wrongAt cX10_wrongAt 2 (some .int) rm_X10_wrongAt G [.ref (gad G 154)] mem (fun a u => ∃ rr : Int32, a = some (.int rr) ∧ (epI n tx tl rr ∧ (okT n tx tl → RG n tx tl mem u tl) ∧ (∀ j, j ≠ 8 → j ≠ 9 → j ≠ 11 → u 154 j = mem 154 j) ∧ ∀ k, k ≠ 154 → k ≠ 159 → u k = mem k)) := by
  refine g_of (own := RX10) (L0 := [(0, .ref (gad G 154))]) (by decide +kernel) rfl (Nat.le_of_ble_eq_true rfl) rfl ?_
  intro p e s m args below meth c C Q hQ
  have h60 := tX.2.1
  refine g_aload_n C 0 dX10_wrongAt_0 rfl ?_
  refine g_iconst C (nI 0) dX10_wrongAt_1 (by decide) ?_
  refine g_put_i C ob_154 8 (by decide) rfl wd_711 rfl rfl dX10_wrongAt_2 ?_
  refine g_aload_n C 0 dX10_wrongAt_5 rfl ?_
  refine g_iconst C (nI 0) dX10_wrongAt_6 (by decide) ?_
  refine g_put_i C ob_154 11 (by decide) rfl wd_714 rfl rfl dX10_wrongAt_7 ?_
  refine g_mem (mem2 := gr mem 154 (upd (upd (mem 154) 8 (nI 0)) 11 (nI 0))) (gr_gr _ _ _ _) ?_
  refine g_aload_n C 0 dX10_wrongAt_10 rfl ?_
  refine g_iconst C (((-1) : Int32)) dX10_wrongAt_11 (by decide) ?_
  refine g_put_i C ob_154 9 (by decide) rfl wd_712 rfl rfl dX10_wrongAt_12 ?_
  refine g_mem (mem2 := gr mem 154 (upd (upd (upd (mem 154) 8 (nI 0)) 11 (nI 0)) 9 ((-1) : Int32))) (gr_gr _ _ _ _) ?_
  refine g_iconst C (nI 1) dX10_wrongAt_15 (by decide) ?_
  refine g_istore_n C (L2 := [(1, .int (nI 1)), (0, .ref (gad G 154))]) dX10_wrongAt_16 (by decide) rfl ?_
  have lp_17 : ∀ (fu : Nat) (p1 : Nat) (M1 : gM) (f : Bool), (p1 ≤ tl) → (RG n tx tl mem M1 p1) → (WAS n tx tl p1 f) → tl - p1 < fu → gV p l e rm_X10_wrongAt s m args below meth c 0 0 Q G 2 M1 17 [(0, .ref (gad G 154)), (1, .int (b2i (f = true)))] [] := by
    intro fu
    induction fu with
    | zero => intro p1 M1 f _ _ _ hfu; exact absurd hfu (Nat.not_lt_zero _)
    | succ fu ih_17 =>
      intro p1 M1 f hp rg1 hs1 hfu_17
      have tX1 := rg_tx tX rg1
      have h1551 : M1 155 5 = mem 155 5 := congrFun (rg1.2.2.2.2.2 155 (by decide) (by decide)) 5
      refine g_iload_n C 1 dX10_wrongAt_17 rfl ?_
      refine g_ifb_eq C 69 dX10_wrongAt_18 (by decide) (fun c_18 => ?_) (fun c_18 => ?_)
      · have hf0 : f = false := Bool.eq_false_iff.mpr c_18
        obtain ⟨d, hau, hd0, hnm, hnc⟩ := hs1.2 hf0
        refine g_aload_n C 0 dX10_wrongAt_69 rfl ?_
        refine g_get_i C ob_154 8 (by decide) rfl wd_711 dX10_wrongAt_70 ?_
        refine g_top (y := nI p1) (rg1.1) ?_
        refine g_aload_n C 0 dX10_wrongAt_73 rfl ?_
        refine g_get_i C ob_154 7 (by decide) rfl wd_710 dX10_wrongAt_74 ?_
        refine g_top (y := nI tl) (tX1.1) ?_
        refine g_icmp_ge C 87 dX10_wrongAt_77 (by decide) (fun c_77 => ?_) (fun c_77 => ?_)
        · have hpe : p1 = tl := by have z := (nI_leI (a := tl) (b := p1) (by omega) (by omega)).mp c_77; omega
          refine g_aload_n C 0 dX10_wrongAt_87 rfl ?_
          refine g_get_i C ob_154 9 (by decide) rfl wd_712 dX10_wrongAt_88 ?_
          refine g_top (y := wrT tx tl p1) (rg1.2.1) ?_
          refine g_iret C hQ rfl dX10_wrongAt_91 ?_
          rw [hpe] at hau rg1
          exact ⟨_, rfl, ⟨fun _ => by rw [hpe], fun z => absurd ⟨d, hau, hd0⟩ z⟩, fun _ => rg1, rg1.2.2.2.2⟩
        · have hplt : p1 < tl := by have z := mt (nI_leI (a := tl) (b := p1) (by omega) (by omega)).mpr c_77; omega
          refine g_aload_n C 0 dX10_wrongAt_80 rfl ?_
          refine g_get_i C ob_154 8 (by decide) rfl wd_711 dX10_wrongAt_81 ?_
          refine g_top (y := nI p1) (rg1.1) ?_
          refine g_goto C 91 dX10_wrongAt_84 (by decide) ?_
          refine g_iret C hQ rfl dX10_wrongAt_91 ?_
          have hw := ws_in hplt hau (au_tn (fun z => hnm ⟨hplt, z⟩) (fun z => hnc ⟨hplt, z.1⟩))
          exact ⟨_, rfl, ⟨fun z => absurd z hw.1, fun _ => by rw [hw.2]⟩, fun z => absurd z hw.1, rg1.2.2.2.2⟩
      · obtain ⟨hau, hgs⟩ := hs1.1 c_18
        refine g_aload_n C 0 dX10_wrongAt_21 rfl ?_
        refine g_cVr C (As := []) iX10_readsGroup (c_X10_readsGroup l G M1 (n := n) (p1 := p1) (h1551.trans hn) hn10 tX1 hp mem rg1 hau hgs) wd_893 ob_154 rfl ⟨Nat.le_of_ble_eq_true rfl, Nat.le_of_ble_eq_true rfl⟩ ⟨rfl, rfl⟩ rfl (Nat.le_of_ble_eq_true rfl) dX10_wrongAt_22 (fun r2 M2 hq => ?_)
        rcases hq with ⟨rfl, q, rgq, hq1, hw1, hw2⟩ | ⟨rfl, q, d, hpq, hq1, hauq, hd0, hnm, rgq⟩
        · refine g_if_ne_f C 33 (by decide) dX10_wrongAt_25 (by decide) ?_
          refine g_aload_n C 0 dX10_wrongAt_28 rfl ?_
          refine g_get_i C ob_154 8 (by decide) rfl wd_711 dX10_wrongAt_29 ?_
          refine g_top (y := nI q) (rgq.1) ?_
          refine g_iret C hQ rfl dX10_wrongAt_32 ?_
          exact ⟨_, rfl, ⟨fun z => absurd z hw1, fun _ => by rw [hw2]⟩, fun z => absurd z hw1, rgq.2.2.2.2⟩
        · refine g_if_ne_t C 33 (by decide) dX10_wrongAt_25 (by decide) ?_
          have tX2 := rg_tx tX rgq
          refine g_aload_n C 0 dX10_wrongAt_33 rfl ?_
          refine g_cV1 C (As := []) (w := .int (sgI tx tl q)) (mem3 := M2) iX10_sign (c_X10_sign l G M2 tX2 (p1 := q) rgq.1 (by omega)) wd_897 ob_154 rfl ⟨Nat.le_of_ble_eq_true rfl, Nat.le_of_ble_eq_true rfl⟩ ⟨rfl, rfl⟩ rfl (Nat.le_of_ble_eq_true rfl) dX10_wrongAt_34 (rfl) (rfl) ?_
          refine g_bipush C (nI 59) dX10_wrongAt_37 (by decide) ?_
          refine g_icmp_ne C 46 dX10_wrongAt_39 (by decide) (fun c_39 => ?_) (fun c_39 => ?_)
          · have hnc := mt (sg_eq tX2 (by decide)).mpr c_39
            refine g_iconst C (nI 0) dX10_wrongAt_46 (by decide) ?_
            refine g_istore_n C (L2 := [(1, .int (nI 0)), (0, .ref (gad G 154))]) dX10_wrongAt_47 (by decide) rfl ?_
            refine g_aload_n C 1 dX10_wrongAt_48 rfl ?_
            refine g_dup C dX10_wrongAt_49 rfl ?_
            refine g_get_i C ob_154 8 (by decide) rfl wd_711 dX10_wrongAt_50 ?_
            refine g_top (y := nI q) (rgq.1) ?_
            refine g_iload_n C 0 dX10_wrongAt_53 rfl ?_
            refine g_if_eq_t C 61 (by decide) dX10_wrongAt_54 (by decide) ?_
            refine g_iconst C (nI 0) dX10_wrongAt_61 (by decide) ?_
            refine g_iadd_n C (d := q + 0) dX10_wrongAt_62 rfl ?_
            refine g_put_i C ob_154 8 (by decide) rfl wd_711 rfl rfl dX10_wrongAt_63 ?_
            refine g_goto C 17 dX10_wrongAt_66 (by decide) ?_
            refine g_loc (L2 := [(0, .ref (gad G 154)), (1, .int (nI 0))]) [1, 0] rfl ?_
            exact g_eq (ih_17 q (gr M2 154 (upd (M2 154) 8 (nI (q + 0)))) false (hq1) (rg_pl rgq rfl rfl) (⟨fun z => absurd z Bool.false_ne_true, fun _ => ⟨d, hauq, hd0, hnm, hnc⟩⟩) (by omega)) (rfl) (gLc rfl (gLc (congrArg Value.int (by decide)) (rfl))) rfl
          · have hc := (sg_eq tX2 (by decide)).mp c_39
            refine g_iconst C (nI 1) dX10_wrongAt_42 (by decide) ?_
            refine g_goto C 47 dX10_wrongAt_43 (by decide) ?_
            refine g_istore_n C (L2 := [(1, .int (nI 1)), (0, .ref (gad G 154))]) dX10_wrongAt_47 (by decide) rfl ?_
            refine g_aload_n C 1 dX10_wrongAt_48 rfl ?_
            refine g_dup C dX10_wrongAt_49 rfl ?_
            refine g_get_i C ob_154 8 (by decide) rfl wd_711 dX10_wrongAt_50 ?_
            refine g_top (y := nI q) (rgq.1) ?_
            refine g_iload_n C 0 dX10_wrongAt_53 rfl ?_
            refine g_if_eq_f C 61 (by decide) dX10_wrongAt_54 (by decide) ?_
            refine g_iconst C (nI 1) dX10_wrongAt_57 (by decide) ?_
            refine g_goto C 62 dX10_wrongAt_58 (by decide) ?_
            refine g_iadd_n C (d := q + 1) dX10_wrongAt_62 rfl ?_
            refine g_put_i C ob_154 8 (by decide) rfl wd_711 rfl rfl dX10_wrongAt_63 ?_
            refine g_goto C 17 dX10_wrongAt_66 (by decide) ?_
            refine g_loc (L2 := [(0, .ref (gad G 154)), (1, .int (nI 1))]) [1, 0] rfl ?_
            exact g_eq (ih_17 (q + 1) (gr M2 154 (upd (M2 154) 8 (nI (q + 1)))) true (hc.1) (rg_pl rgq (ls_n hauq (by omega)) (wr_no (gb_n (by omega)))) (⟨fun _ => ⟨by rw [au_s hauq, au_ts hn10 hc.2 hd0], gs_y hc.2⟩, fun z => absurd z.symm Bool.false_ne_true⟩) (by omega)) (rfl) (gLc rfl (gLc (congrArg Value.int (by decide)) (rfl))) rfl
  refine g_loc (L2 := [(0, .ref (gad G 154)), (1, .int (nI 1))]) [1, 0] rfl ?_
  exact g_eq (lp_17 (_ + 1) 0 (gr mem 154 (upd (upd (upd (mem 154) 8 (nI 0)) 11 (nI 0)) 9 ((-1) : Int32))) true (Nat.zero_le _) (rg_0 _ _ _ _) (⟨fun _ => ⟨rfl, rfl⟩, fun z => absurd z.symm Bool.false_ne_true⟩) (Nat.lt_succ_self _)) (rfl) (gLc rfl (gLc (congrArg Value.int (by decide)) (rfl))) rfl

def rm_X10_read : Room := { frames := 3, cells := 0, slots := 0, locals := 66 }
theorem iX10_read : gIv yX10_read cX10_read 6 (some .int) 0 := ⟨⟨wd_888, wd_32, by decide +kernel, by decide +kernel, by decide +kernel⟩, wd_886, wd_887⟩
set_option maxRecDepth 100000 in
set_option maxHeartbeats 4000000 in
theorem c_X10_read (l : Launch) (G : gG) {T : Nat} (mem : gM) (g : Good T (mem 155)) {h : Nat} (hh : mem 154 2 = nI h) (h4 : h ≤ 4) {tx : Nat → Nat} {tl : Nat} (tX : TXM tx tl mem) : gMet l yX10_read cX10_read 6 (some .int) rm_X10_read G [.ref (gad G 154)] mem (fun a u => ∃ rr : Int32, a = some (.int rr) ∧ RDM h (vN (mem 155)) tx tl mem u rr) := by
  refine g_of (own := RX10) (L0 := [(0, .ref (gad G 154))]) (by decide +kernel) rfl (Nat.le_of_ble_eq_true rfl) rfl ?_
  intro p e s m args below meth c C Q hQ
  have hn10 := gd_n10 g
  have h60 := tX.2.1
  refine g_aload_n C 0 dX10_read_0 rfl ?_
  refine g_cVr C (As := []) iX10_wrongAt (c_X10_wrongAt l G mem (gd_n g) hn10 tX) wd_889 ob_154 rfl ⟨Nat.le_of_ble_eq_true rfl, Nat.le_of_ble_eq_true rfl⟩ ⟨rfl, rfl⟩ rfl (Nat.le_of_ble_eq_true rfl) dX10_read_1 (fun r2 u0 hq => ?_)
  obtain ⟨hep, hrg, hf1, hf2⟩ := hq
  refine g_istore_n C (L2 := [(1, .int r2), (0, .ref (gad G 154))]) dX10_read_4 (by decide) rfl ?_
  refine g_iload_n C 0 dX10_read_5 rfl ?_
  refine g_if_lt C 14 dX10_read_6 (by decide) (fun c_6 => ?_) (fun c_6 => ?_)
  · have hrd := (ep_neg h60 hep).mp c_6
    obtain ⟨hok, hgf⟩ := id hrd
    have rgt := hrg hok
    have hls := ls_ok (n := vN (mem 155)) hn10 (wr_none hgf).1
    have hlen := ls_len (n := vN (mem 155)) (tl := tl) (tx := tx) tl
    have h155 : u0 155 = mem 155 := hf2 155 (by decide) (by decide)
    have h156 : u0 156 = mem 156 := hf2 156 (by decide) (by decide)
    refine g_aload_n C 1 dX10_read_14 rfl ?_
    refine g_cV0 C (As := []) (mem3 := gr (gr u0 156 (pshP h (u0 155) (u0 156))) 154 (upd (u0 154) 2 (nI (pushN h)))) iX10_act (c_X10_act l G u0 ((hf1 2 (by decide) (by decide) (by decide)).trans hh) h4) wd_776 ob_154 rfl ⟨Nat.le_of_ble_eq_true rfl, Nat.le_of_ble_eq_true rfl⟩ ⟨rfl, rfl⟩ rfl (Nat.le_of_ble_eq_true rfl) dX10_read_15 (rfl) ?_
    refine g_iconst C (nI 0) dX10_read_18 (by decide) ?_
    refine g_istore_n C (L2 := [(2, .int (nI 0)), (1, .int r2), (0, .ref (gad G 154))]) dX10_read_19 (by decide) rfl ?_
    refine g_iconst C (nI 0) dX10_read_20 (by decide) ?_
    refine g_istore_n C (L2 := [(3, .int (nI 0)), (2, .int (nI 0)), (1, .int r2), (0, .ref (gad G 154))]) dX10_read_21 (by decide) rfl ?_
    have lp_22 : ∀ (fu : Nat) (k : Nat), (k ≤ (lsT (vN (mem 155)) tx tl tl).length) → (lsT (vN (mem 155)) tx tl tl).length - k < fu → gV p l e rm_X10_read s m args below meth c 0 0 Q G 6 (gr (gr (gr u0 156 (pshP h (u0 155) (u0 156))) 154 (upd (u0 154) 2 (nI (pushN h)))) 155 ((apL (mem 155) ((lsT (vN (mem 155)) tx tl tl).take k)).1)) 22 [(0, .ref (gad G 154)), (1, .int r2), (2, .int (nI ((apL (mem 155) ((lsT (vN (mem 155)) tx tl tl).take k)).2))), (3, .int (nI k))] [] := by
      intro fu
      induction fu with
      | zero => intro k _ hfu; exact absurd hfu (Nat.not_lt_zero _)
      | succ fu ih_22 =>
        intro k hk hfu_22
        refine g_iload_n C 3 dX10_read_22 rfl ?_
        refine g_aload_n C 0 dX10_read_23 rfl ?_
        refine g_get_i C ob_154 11 (by decide) rfl wd_714 dX10_read_24 ?_
        refine g_top (y := u0 154 11) (rfl) ?_
        refine g_top (y := nI ((lsT (vN (mem 155)) tx tl tl).length)) (rgt.2.2.1) ?_
        refine g_icmp_ge C 95 dX10_read_27 (by decide) (fun c_27 => ?_) (fun c_27 => ?_)
        · have hin : k = (lsT (vN (mem 155)) tx tl tl).length := by have q := (nI_leI (a := (lsT (vN (mem 155)) tx tl tl).length) (b := k) (by omega) (by omega)).mp c_27; omega
          refine g_aload_n C 0 dX10_read_95 rfl ?_
          refine g_iconst C (nI 0) dX10_read_96 (by decide) ?_
          refine g_put_i C ob_154 7 (by decide) rfl wd_710 rfl rfl dX10_read_97 ?_
          refine g_mem (mem2 := gr (gr (gr u0 156 (pshP h (u0 155) (u0 156))) 154 (upd (upd (u0 154) 2 (nI (pushN h))) 7 (nI 0))) 155 ((apL (mem 155) ((lsT (vN (mem 155)) tx tl tl).take k)).1)) ((gr_comm _ (by decide) _ _).trans (congrArg (fun z => gr z 155 ((apL (mem 155) ((lsT (vN (mem 155)) tx tl tl).take k)).1)) (gr_gr _ _ _ _))) ?_
          refine g_iload_n C 2 dX10_read_100 rfl ?_
          refine g_iret C hQ rfl dX10_read_101 ?_
          rw [hin, List.take_length]
          exact ⟨_, rfl, fun _ => ⟨rfl, rfl, by show pshP h (u0 155) (u0 156) = _; rw [h155, h156], rfl, rfl, fun k hk => by rw [gr_n (by omega), gr_n (by omega), gr_n (by omega)]; exact hf2 k (by omega) (by omega)⟩, fun q => absurd hrd q⟩
        · have hi2 : k < (lsT (vN (mem 155)) tx tl tl).length := by have q := mt (nI_leI (a := (lsT (vN (mem 155)) tx tl tl).length) (b := k) (by omega) (by omega)).mpr c_27; omega
          obtain ⟨⟨b, m1⟩, hx⟩ : ∃ x, (lsT (vN (mem 155)) tx tl tl)[k]? = some x := ⟨_, List.getElem?_eq_getElem hi2⟩
          have hbm := hls (b, m1) (List.mem_of_getElem? hx)
          have hb : b < 200 := hbm.1
          have hm : m1 < vN (mem 155) := hbm.2
          refine g_aload_n C 0 dX10_read_30 rfl ?_
          refine g_get_r C ob_154 10 (by decide) rfl wd_713 dX10_read_31 ?_
          refine g_iload_n C 3 dX10_read_34 rfl ?_
          refine g_iald_n C (j := k) ar_159 rfl (by omega) (by decide) dX10_read_35 ?_
          refine g_top (y := u0 159 k) (rfl) ?_
          refine g_top (y := nI (10 * b + m1)) (rgt.2.2.2.1 k b m1 hx) ?_
          refine g_bipush C (nI 10) dX10_read_36 (by decide) ?_
          refine g_idiv C (by decide) dX10_read_38 ?_
          refine g_top (y := nI b) ((pk_div (by omega) (by decide) (by decide)).trans (congrArg nI (by omega))) ?_
          refine g_istore C (L2 := [(4, .int (nI b)), (0, .ref (gad G 154)), (1, .int r2), (2, .int (nI ((apL (mem 155) ((lsT (vN (mem 155)) tx tl tl).take k)).2))), (3, .int (nI k))]) dX10_read_39 (by decide) rfl ?_
          refine g_aload_n C 1 dX10_read_41 rfl ?_
          refine g_get_r C ob_154 10 (by decide) rfl wd_713 dX10_read_42 ?_
          refine g_iload_n C 4 dX10_read_45 rfl ?_
          refine g_iald_n C (j := k) ar_159 rfl (by omega) (by decide) dX10_read_46 ?_
          refine g_top (y := u0 159 k) (rfl) ?_
          refine g_top (y := nI (10 * b + m1)) (rgt.2.2.2.1 k b m1 hx) ?_
          refine g_bipush C (nI 10) dX10_read_47 (by decide) ?_
          refine g_irem C (by decide) dX10_read_49 ?_
          refine g_top (y := nI m1) ((pk_rem (by omega) (by decide) (by decide)).trans (congrArg nI (by omega))) ?_
          refine g_istore C (L2 := [(5, .int (nI m1)), (4, .int (nI b)), (0, .ref (gad G 154)), (1, .int r2), (2, .int (nI ((apL (mem 155) ((lsT (vN (mem 155)) tx tl tl).take k)).2))), (3, .int (nI k))]) dX10_read_50 (by decide) rfl ?_
          refine g_iload_n C 4 dX10_read_52 rfl ?_
          refine g_aload_n C 2 dX10_read_53 rfl ?_
          refine g_iload C 0 dX10_read_54 rfl ?_
          refine g_iload C 1 dX10_read_56 rfl ?_
          refine g_cV1 C (As := [.int (nI m1), .int (nI b)]) (w := .int (b2i (bt ((apL (mem 155) ((lsT (vN (mem 155)) tx tl tl).take k)).1 (150 + b)) m1 = false))) (mem3 := gr (gr (gr u0 156 (pshP h (u0 155) (u0 156))) 154 (upd (u0 154) 2 (nI (pushN h)))) 155 ((apL (mem 155) ((lsT (vN (mem 155)) tx tl tl).take k)).1)) iX10_has (c_X10_has l G (gr (gr (gr u0 156 (pshP h (u0 155) (u0 156))) 154 (upd (u0 154) 2 (nI (pushN h)))) 155 ((apL (mem 155) ((lsT (vN (mem 155)) tx tl tl).take k)).1)) (m1 := m1) (b := b) (by omega) hb) wd_808 ob_154 rfl ⟨Nat.le_of_ble_eq_true rfl, Nat.le_of_ble_eq_true rfl⟩ ⟨rfl, rfl⟩ rfl (Nat.le_of_ble_eq_true rfl) dX10_read_58 (rfl) (rfl) ?_
          refine g_ifb_eq C 68 dX10_read_61 (by decide) (fun c_61 => ?_) (fun c_61 => ?_)
          · refine g_iconst C (nI 0) dX10_read_68 (by decide) ?_
            refine g_iadd_n C (d := ((apL (mem 155) ((lsT (vN (mem 155)) tx tl tl).take k)).2) + 0) dX10_read_69 rfl ?_
            refine g_istore_n C (L2 := [(2, .int (nI (((apL (mem 155) ((lsT (vN (mem 155)) tx tl tl).take k)).2) + 0))), (5, .int (nI m1)), (4, .int (nI b)), (0, .ref (gad G 154)), (1, .int r2), (3, .int (nI k))]) dX10_read_70 (by decide) rfl ?_
            refine g_aload_n C 3 dX10_read_71 rfl ?_
            refine g_get_r C ob_154 0 (by decide) rfl wd_703 dX10_read_72 ?_
            refine g_sipush C (nI 150) dX10_read_75 (by decide) ?_
            refine g_iload C 2 dX10_read_78 rfl ?_
            refine g_iadd_n C (d := 150 + b) dX10_read_80 rfl ?_
            refine g_dup2 C dX10_read_81 rfl rfl ?_
            refine g_iald_n C (j := 150 + b) ar_155 rfl (by omega) (by decide) dX10_read_82 ?_
            refine g_top (y := (apL (mem 155) ((lsT (vN (mem 155)) tx tl tl).take k)).1 (150 + b)) (rfl) ?_
            refine g_iconst C (nI 1) dX10_read_83 (by decide) ?_
            refine g_iload C 1 dX10_read_84 rfl ?_
            refine g_ishl C dX10_read_86 ?_
            refine g_ior C dX10_read_87 ?_
            refine g_iast_n C (j := 150 + b) ar_155 rfl (by omega) (by decide) dX10_read_88 ?_
            refine g_mem (mem2 := gr (gr (gr u0 156 (pshP h (u0 155) (u0 156))) 154 (upd (u0 154) 2 (nI (pushN h)))) 155 (upd ((apL (mem 155) ((lsT (vN (mem 155)) tx tl tl).take k)).1) (150 + b) (((apL (mem 155) ((lsT (vN (mem 155)) tx tl tl).take k)).1 (150 + b)) ||| ((nI 1) <<< ((nI m1) &&& 31))))) (gr_gr _ _ _ _) ?_
            refine g_iinc C (v := nI (k + 1)) (L2 := [(3, .int (nI (k + 1))), (2, .int (nI (((apL (mem 155) ((lsT (vN (mem 155)) tx tl tl).take k)).2) + 0))), (5, .int (nI m1)), (4, .int (nI b)), (0, .ref (gad G 154)), (1, .int r2)]) 5 dX10_read_89 rfl (nI_1 _) (by decide) rfl ?_
            refine g_goto C 22 dX10_read_92 (by decide) ?_
            refine g_loc (L2 := [(0, .ref (gad G 154)), (1, .int r2), (2, .int (nI (((apL (mem 155) ((lsT (vN (mem 155)) tx tl tl).take k)).2) + 0))), (3, .int (nI (k + 1)))]) [4, 5, 1, 0] rfl ?_
            exact g_eq (ih_22 (k + 1) (hi2) (by omega)) (by rw [tk_s hx, ap_1]; rfl) (gLc rfl (gLc rfl (gLc (congrArg Value.int (by first | (rw [tk_s hx, ap_2n (by rw [c_61]; exact Bool.false_ne_true)]; done) | (rw [tk_s hx, ap_2y (Bool.not_eq_false _ ▸ c_61)]; rfl))) (rfl)))) rfl
          · refine g_iconst C (nI 1) dX10_read_64 (by decide) ?_
            refine g_goto C 69 dX10_read_65 (by decide) ?_
            refine g_iadd_n C (d := ((apL (mem 155) ((lsT (vN (mem 155)) tx tl tl).take k)).2) + 1) dX10_read_69 rfl ?_
            refine g_istore_n C (L2 := [(2, .int (nI (((apL (mem 155) ((lsT (vN (mem 155)) tx tl tl).take k)).2) + 1))), (5, .int (nI m1)), (4, .int (nI b)), (0, .ref (gad G 154)), (1, .int r2), (3, .int (nI k))]) dX10_read_70 (by decide) rfl ?_
            refine g_aload_n C 3 dX10_read_71 rfl ?_
            refine g_get_r C ob_154 0 (by decide) rfl wd_703 dX10_read_72 ?_
            refine g_sipush C (nI 150) dX10_read_75 (by decide) ?_
            refine g_iload C 2 dX10_read_78 rfl ?_
            refine g_iadd_n C (d := 150 + b) dX10_read_80 rfl ?_
            refine g_dup2 C dX10_read_81 rfl rfl ?_
            refine g_iald_n C (j := 150 + b) ar_155 rfl (by omega) (by decide) dX10_read_82 ?_
            refine g_top (y := (apL (mem 155) ((lsT (vN (mem 155)) tx tl tl).take k)).1 (150 + b)) (rfl) ?_
            refine g_iconst C (nI 1) dX10_read_83 (by decide) ?_
            refine g_iload C 1 dX10_read_84 rfl ?_
            refine g_ishl C dX10_read_86 ?_
            refine g_ior C dX10_read_87 ?_
            refine g_iast_n C (j := 150 + b) ar_155 rfl (by omega) (by decide) dX10_read_88 ?_
            refine g_mem (mem2 := gr (gr (gr u0 156 (pshP h (u0 155) (u0 156))) 154 (upd (u0 154) 2 (nI (pushN h)))) 155 (upd ((apL (mem 155) ((lsT (vN (mem 155)) tx tl tl).take k)).1) (150 + b) (((apL (mem 155) ((lsT (vN (mem 155)) tx tl tl).take k)).1 (150 + b)) ||| ((nI 1) <<< ((nI m1) &&& 31))))) (gr_gr _ _ _ _) ?_
            refine g_iinc C (v := nI (k + 1)) (L2 := [(3, .int (nI (k + 1))), (2, .int (nI (((apL (mem 155) ((lsT (vN (mem 155)) tx tl tl).take k)).2) + 1))), (5, .int (nI m1)), (4, .int (nI b)), (0, .ref (gad G 154)), (1, .int r2)]) 5 dX10_read_89 rfl (nI_1 _) (by decide) rfl ?_
            refine g_goto C 22 dX10_read_92 (by decide) ?_
            refine g_loc (L2 := [(0, .ref (gad G 154)), (1, .int r2), (2, .int (nI (((apL (mem 155) ((lsT (vN (mem 155)) tx tl tl).take k)).2) + 1))), (3, .int (nI (k + 1)))]) [4, 5, 1, 0] rfl ?_
            exact g_eq (ih_22 (k + 1) (hi2) (by omega)) (by rw [tk_s hx, ap_1]; rfl) (gLc rfl (gLc rfl (gLc (congrArg Value.int (by first | (rw [tk_s hx, ap_2n (by rw [c_61]; exact Bool.false_ne_true)]; done) | (rw [tk_s hx, ap_2y (Bool.not_eq_false _ ▸ c_61)]; rfl))) (rfl)))) rfl
    refine g_loc (L2 := [(0, .ref (gad G 154)), (1, .int r2), (2, .int (nI 0)), (3, .int (nI 0))]) [3, 2, 1, 0] rfl ?_
    exact g_eq (lp_22 (_ + 1) 0 (Nat.zero_le _) (Nat.lt_succ_self _)) (by show _ = gr _ 155 (mem 155); rw [← h155]; exact (gr_self _ 155).symm) (gLc rfl (gLc rfl (gLc (congrArg Value.int (rfl)) (rfl)))) rfl
  · have hrd := mt (ep_neg h60 hep).mpr c_6
    refine g_bipush C (((-100) : Int32)) dX10_read_9 (by decide) ?_
    refine g_iload_n C 0 dX10_read_11 rfl ?_
    refine g_isub C dX10_read_12 ?_
    refine g_iret C hQ rfl dX10_read_13 ?_
    exact ⟨_, rfl, fun q => absurd q hrd, fun _ => ⟨⟨r2, hep, rfl⟩, hf2 155 (by decide) (by decide), hf2 156 (by decide) (by decide), hf1 2 (by decide) (by decide) (by decide), hf1 7 (by decide) (by decide) (by decide), hf2 158 (by decide) (by decide), fun k hk => hf2 k (by omega) (by omega)⟩⟩
