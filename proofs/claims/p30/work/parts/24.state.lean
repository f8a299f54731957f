def rm_X7_blocksLostBy : Room := { frames := 1, cells := 0, slots := 0, locals := 21 }
theorem iX7_blocksLostBy : gIv yX7_blocksLostBy cX7_blocksLostBy 4 (some .int) 1 := ⟨⟨wd_381, wd_5, by decide +kernel, by decide +kernel, by decide +kernel⟩, wd_379, wd_380⟩
set_option maxRecDepth 100000 in
set_option maxHeartbeats 4000000 in
theorem c_X7_blocksLostBy (l : Launch) (G : gG) {T : Nat} {V : Nat → Int32} (g : Good T V) (mem : gM) (r : Rel V mem) {m1 : Nat} (hm : m1 < vN V) : gMet l yX7_blocksLostBy cX7_blocksLostBy 4 (some .int) rm_X7_blocksLostBy G [.ref (gad G 1), .int (nI m1)] mem (fun a u => a = some (.int (nI (fa_cnt (fun b => vLo V b m1) 200))) ∧ u = mem) := by
  refine g_of (own := RX7) (L0 := [(0, .ref (gad G 1)), (1, .int (nI m1))]) (by decide +kernel) rfl (Nat.le_of_ble_eq_true rfl) rfl ?_
  intro p e s m args below meth c C Q hQ
  have hn10 := gd_n10 g
  refine g_iconst C (nI 0) dX7_blocksLostBy_0 (by decide) ?_
  refine g_istore_n C (L2 := [(2, .int (nI 0)), (0, .ref (gad G 1)), (1, .int (nI m1))]) dX7_blocksLostBy_1 (by decide) rfl ?_
  refine g_iconst C (nI 0) dX7_blocksLostBy_2 (by decide) ?_
  refine g_istore_n C (L2 := [(3, .int (nI 0)), (2, .int (nI 0)), (0, .ref (gad G 1)), (1, .int (nI m1))]) dX7_blocksLostBy_3 (by decide) rfl ?_
  have lp_4 : ∀ (fu : Nat) (i : Nat), (i ≤ 200) → 200 - i < fu → gV p l e rm_X7_blocksLostBy s m args below meth c 0 0 Q G 4 mem 4 [(0, .ref (gad G 1)), (1, .int (nI m1)), (2, .int (nI (fa_cnt (fun b => vLo V b m1) i))), (3, .int (nI i))] [] := by
    intro fu
    induction fu with
    | zero => intro i _ hfu; exact absurd hfu (Nat.not_lt_zero _)
    | succ fu ih_4 =>
      intro i hi hfu_4
      refine g_iload_n C 3 dX7_blocksLostBy_4 rfl ?_
      refine g_sipush C (nI 200) dX7_blocksLostBy_5 (by decide) ?_
      refine g_icmp_ge C 40 dX7_blocksLostBy_8 (by decide) (fun c_8 => ?_) (fun c_8 => ?_)
      · have hin : i = 200 := by have q := (nI_leI (a := 200) (b := i) (by omega) (by omega)).mp c_8; omega
        refine g_iload_n C 2 dX7_blocksLostBy_40 rfl ?_
        refine g_iret C hQ rfl dX7_blocksLostBy_41 ?_
        exact ⟨by rw [hin], rfl⟩
      · have hi2 : i < 200 := by have q := mt (nI_leI (a := 200) (b := i) (by omega) (by omega)).mpr c_8; omega
        refine g_iload_n C 2 dX7_blocksLostBy_11 rfl ?_
        refine g_aload_n C 0 dX7_blocksLostBy_12 rfl ?_
        refine g_get_r C ob_1 3 (by decide) rfl wd_165 dX7_blocksLostBy_13 ?_
        refine g_iload_n C 3 dX7_blocksLostBy_16 rfl ?_
        refine g_cV1 C (As := [.int (nI i)]) (w := .int (mem 25 i)) (mem3 := mem) iX6_at (c_X6_at l G mem ob_24 ar_25 (by decide) (by omega)) wd_382 ob_24 rfl ⟨Nat.le_of_ble_eq_true rfl, Nat.le_of_ble_eq_true rfl⟩ ⟨rfl, rfl⟩ rfl (Nat.le_of_ble_eq_true rfl) dX7_blocksLostBy_17 (rfl) (rfl) ?_
        refine g_top (y := V (150 + i)) (r_lo r hi2) ?_
        refine g_iload_n C 1 dX7_blocksLostBy_20 rfl ?_
        refine g_cS1 C (As := [.int (V (150 + i)), .int (nI m1)]) (w := .int (b2i (hs (V (150 + i)) m1))) (mem3 := mem) iX4_has (c_X4_has l G mem (V (150 + i)) m1) wd_383 rfl ⟨Nat.le_of_ble_eq_true rfl, Nat.le_of_ble_eq_true rfl⟩ ⟨rfl, rfl⟩ rfl (Nat.le_of_ble_eq_true rfl) dX7_blocksLostBy_21 (rfl) (rfl) ?_
        refine g_ifb_eq C 31 dX7_blocksLostBy_24 (by decide) (fun c_24 => ?_) (fun c_24 => ?_)
        · refine g_iconst C (nI 0) dX7_blocksLostBy_31 (by decide) ?_
          refine g_iadd_n C (d := (fa_cnt (fun b => vLo V b m1) i) + 0) dX7_blocksLostBy_32 rfl ?_
          refine g_istore_n C (L2 := [(2, .int (nI ((fa_cnt (fun b => vLo V b m1) i) + 0))), (0, .ref (gad G 1)), (1, .int (nI m1)), (3, .int (nI i))]) dX7_blocksLostBy_33 (by decide) rfl ?_
          refine g_iinc C (v := nI (i + 1)) (L2 := [(3, .int (nI (i + 1))), (2, .int (nI ((fa_cnt (fun b => vLo V b m1) i) + 0))), (0, .ref (gad G 1)), (1, .int (nI m1))]) 3 dX7_blocksLostBy_34 rfl (nI_1 _) (by decide) rfl ?_
          refine g_goto C 4 dX7_blocksLostBy_37 (by decide) ?_
          refine g_loc (L2 := [(0, .ref (gad G 1)), (1, .int (nI m1)), (2, .int (nI ((fa_cnt (fun b => vLo V b m1) i) + 0))), (3, .int (nI (i + 1)))]) [2, 3, 1, 0] rfl ?_
          exact g_eq (ih_4 (i + 1) (hi2) (by omega)) (rfl) (gLc rfl (gLc rfl (gLc (congrArg Value.int (by first | rw [fa_cnt_yes (p := fun b => vLo V b m1) ((hs_bt (by omega)).mp c_24)] | rw [fa_cnt_no (p := fun b => vLo V b m1) ((nhs_bt (by omega)).mp c_24)]; rfl)) (rfl)))) rfl
        · refine g_iconst C (nI 1) dX7_blocksLostBy_27 (by decide) ?_
          refine g_goto C 32 dX7_blocksLostBy_28 (by decide) ?_
          refine g_iadd_n C (d := (fa_cnt (fun b => vLo V b m1) i) + 1) dX7_blocksLostBy_32 rfl ?_
          refine g_istore_n C (L2 := [(2, .int (nI ((fa_cnt (fun b => vLo V b m1) i) + 1))), (0, .ref (gad G 1)), (1, .int (nI m1)), (3, .int (nI i))]) dX7_blocksLostBy_33 (by decide) rfl ?_
          refine g_iinc C (v := nI (i + 1)) (L2 := [(3, .int (nI (i + 1))), (2, .int (nI ((fa_cnt (fun b => vLo V b m1) i) + 1))), (0, .ref (gad G 1)), (1, .int (nI m1))]) 3 dX7_blocksLostBy_34 rfl (nI_1 _) (by decide) rfl ?_
          refine g_goto C 4 dX7_blocksLostBy_37 (by decide) ?_
          refine g_loc (L2 := [(0, .ref (gad G 1)), (1, .int (nI m1)), (2, .int (nI ((fa_cnt (fun b => vLo V b m1) i) + 1))), (3, .int (nI (i + 1)))]) [2, 3, 1, 0] rfl ?_
          exact g_eq (ih_4 (i + 1) (hi2) (by omega)) (rfl) (gLc rfl (gLc rfl (gLc (congrArg Value.int (by first | rw [fa_cnt_yes (p := fun b => vLo V b m1) ((hs_bt (by omega)).mp c_24)] | rw [fa_cnt_no (p := fun b => vLo V b m1) ((nhs_bt (by omega)).mp c_24)]; rfl)) (rfl)))) rfl
  refine g_loc (L2 := [(0, .ref (gad G 1)), (1, .int (nI m1)), (2, .int (nI 0)), (3, .int (nI 0))]) [2, 3, 1, 0] rfl ?_
  exact g_eq (lp_4 (_ + 1) 0 (Nat.zero_le _) (Nat.lt_succ_self _)) (rfl) (gLc rfl (gLc rfl (gLc (congrArg Value.int (rfl)) (rfl)))) rfl

def rm_X2_kept : Room := { frames := 1, cells := 0, slots := 0, locals := 23 }
theorem iX2_kept : gIv yX2_kept cX2_kept 1 (some .int) 0 := ⟨⟨wd_597, wd_9, by decide +kernel, by decide +kernel, by decide +kernel⟩, wd_595, wd_596⟩
set_option maxRecDepth 100000 in
set_option maxHeartbeats 4000000 in
theorem c_X2_kept (l : Launch) (G : gG) (mem : gM) {md : Nat} (hmd : mem 26 0 = nI md) (hmd31 : md < 2 ^ 30) : gMet l yX2_kept cX2_kept 1 (some .int) rm_X2_kept G [.ref (gad G 26)] mem (fun a u => a = some (.int (nI (min md 20))) ∧ u = mem) := by
  refine g_of (own := RX2) (L0 := [(0, .ref (gad G 26))]) (by decide +kernel) rfl (Nat.le_of_ble_eq_true rfl) rfl ?_
  intro p e s m args below meth c C Q hQ
  refine g_aload_n C 0 dX2_kept_0 rfl ?_
  refine g_get_i C ob_26 0 (by decide) rfl wd_136 dX2_kept_1 ?_
  refine g_top (y := nI md) (hmd) ?_
  refine g_bipush C (nI 20) dX2_kept_4 (by decide) ?_
  refine g_mmin C wd_598 wd_324 wd_13 wd_325 (by decide) (Nat.le_of_ble_eq_true rfl) dX2_kept_6 ?_
  refine g_iret C hQ rfl dX2_kept_9 ?_
  refine ⟨?_, rfl⟩
  by_cases q : 20 < md
  · rw [if_pos (nI_lt q (by omega)), show min md 20 = 20 by omega]
  · rw [if_neg (nI_nlt (by omega) (by omega)), show min md 20 = md by omega]

def rm_X2_number : Room := { frames := 2, cells := 0, slots := 0, locals := 43 }
theorem iX2_number : gIv yX2_number cX2_number 3 (some .int) 2 := ⟨⟨wd_606, wd_9, by decide +kernel, by decide +kernel, by decide +kernel⟩, wd_604, wd_605⟩
set_option maxRecDepth 100000 in
set_option maxHeartbeats 4000000 in
theorem c_X2_number (l : Launch) (G : gG) (mem : gM) {md : Nat} (hmd : mem 26 0 = nI md) (hmd31 : md < 2 ^ 30) {i0 w0 : Nat} (hi0 : i0 < 2 ^ 31) (hw0 : w0 < 7) : gMet l yX2_number cX2_number 3 (some .int) rm_X2_number G [.ref (gad G 26), .int (nI i0), .int (nI w0)] mem (fun a u => a = some (.int (if i0 < min md 20 then mem 28 ((md - 1 - i0) % 20 * 7 + w0) else kNone)) ∧ u = mem) := by
  refine g_of (own := RX2) (L0 := [(0, .ref (gad G 26)), (1, .int (nI i0)), (2, .int (nI w0))]) (by decide +kernel) rfl (Nat.le_of_ble_eq_true rfl) rfl ?_
  intro p e s m args below meth c C Q hQ
  refine g_iload_n C 1 dX2_number_0 rfl ?_
  refine g_aload_n C 0 dX2_number_1 rfl ?_
  refine g_cV1 C (As := []) (w := .int (nI (min md 20))) (mem3 := mem) iX2_kept (c_X2_kept l G mem (hmd) (hmd31)) wd_607 ob_26 rfl ⟨Nat.le_of_ble_eq_true rfl, Nat.le_of_ble_eq_true rfl⟩ ⟨rfl, rfl⟩ rfl (Nat.le_of_ble_eq_true rfl) dX2_number_2 (rfl) (rfl) ?_
  refine g_icmp_lt C 11 dX2_number_5 (by decide) (fun c_5 => ?_) (fun c_5 => ?_)
  · have c_5 : i0 < min md 20 := (nI_ltI (by omega) (by omega)).mp c_5
    refine g_aload_n C 0 dX2_number_11 rfl ?_
    refine g_get_r C ob_26 3 (by decide) rfl wd_142 dX2_number_12 ?_
    refine g_aload_n C 0 dX2_number_15 rfl ?_
    refine g_get_i C ob_26 0 (by decide) rfl wd_136 dX2_number_16 ?_
    refine g_top (y := nI md) (hmd) ?_
    refine g_iconst C (nI 1) dX2_number_19 (by decide) ?_
    refine g_isub C dX2_number_20 ?_
    refine g_top (pk_sub (by omega)) ?_
    refine g_iload_n C 1 dX2_number_21 rfl ?_
    refine g_isub C dX2_number_22 ?_
    refine g_top (pk_sub (by omega)) ?_
    refine g_bipush C (nI 20) dX2_number_23 (by decide) ?_
    refine g_irem C (by decide) dX2_number_25 ?_
    refine g_top (y := nI ((md - 1 - i0) % 20)) (pk_rem (by omega) (by decide) (by decide)) ?_
    refine g_bipush C (nI 7) dX2_number_26 (by decide) ?_
    refine g_imul_n C (d := ((md - 1 - i0) % 20) * 7) dX2_number_28 rfl ?_
    refine g_iload_n C 2 dX2_number_29 rfl ?_
    refine g_iadd_n C (d := (((md - 1 - i0) % 20) * 7) + w0) dX2_number_30 rfl ?_
    refine g_cV1 C (As := [.int (nI ((((md - 1 - i0) % 20) * 7) + w0))]) (w := .int (mem 28 ((((md - 1 - i0) % 20) * 7) + w0))) (mem3 := mem) iX6_at (c_X6_at l G mem ob_27 ar_28 (by decide) (by omega)) wd_609 ob_27 rfl ⟨Nat.le_of_ble_eq_true rfl, Nat.le_of_ble_eq_true rfl⟩ ⟨rfl, rfl⟩ rfl (Nat.le_of_ble_eq_true rfl) dX2_number_31 (rfl) (rfl) ?_
    refine g_iret C hQ rfl dX2_number_34 ?_
    exact ⟨by rw [if_pos c_5], rfl⟩
  · have c_5 : ¬ i0 < min md 20 := fun q => c_5 (nI_lt q (by omega))
    refine g_ldc C wd_608 dX2_number_8 ?_
    refine g_iret C hQ rfl dX2_number_10 ?_
    exact ⟨by rw [if_neg c_5], rfl⟩

/-- the seven numbers of a repair, laid from place k on -/
def lay7 (f : Nat → Int32) (k : Nat) (a0 a1 a2 a3 a4 a5 a6 : Int32) : Nat → Int32 := upd (upd (upd (upd (upd (upd (upd f k a0) (k + 1) a1) (k + 2) a2) (k + 3) a3) (k + 4) a4) (k + 5) a5) (k + 6) a6

def rm_X2_add : Room := { frames := 1, cells := 0, slots := 0, locals := 22 }
theorem iX2_add : gIv yX2_add cX2_add 4 none 2 := ⟨⟨wd_550, wd_9, by decide +kernel, by decide +kernel, by decide +kernel⟩, wd_548, wd_549⟩
set_option maxRecDepth 100000 in
set_option maxHeartbeats 4000000 in
theorem c_X2_add (l : Launch) (G : gG) (mem : gM) {md : Nat} (hmd : mem 26 0 = nI md) (hmd31 : md < 2 ^ 30) (rd : Int32) : gMet l yX2_add cX2_add 4 none rm_X2_add G [.ref (gad G 26), .ref (gad G 146), .int rd] mem (fun a u => a = none ∧ u = gr (gr mem 28 (lay7 (mem 28) (md % 20 * 7) (mem 146 0) rd (mem 146 7) (mem 146 3) (mem 146 4) (mem 146 5) (mem 146 9))) 26 (upd (upd (upd (mem 26) 0 (nI (md + 1))) 1 (mem 26 1 + bcI (mem 146 3))) 2 (mem 26 2 + bcI (mem 146 4)))) := by
  refine g_of (own := RX2) (L0 := [(0, .ref (gad G 26)), (1, .ref (gad G 146)), (2, .int rd)]) (by decide +kernel) rfl (Nat.le_of_ble_eq_true rfl) rfl ?_
  intro p e s m args below meth c C Q hQ
  refine g_aload_n C 0 dX2_add_0 rfl ?_
  refine g_get_i C ob_26 0 (by decide) rfl wd_136 dX2_add_1 ?_
  refine g_top (y := nI md) (hmd) ?_
  refine g_bipush C (nI 20) dX2_add_4 (by decide) ?_
  refine g_irem C (by decide) dX2_add_6 ?_
  refine g_top (y := nI (md % 20)) (pk_rem (by omega) (by decide) (by decide)) ?_
  refine g_bipush C (nI 7) dX2_add_7 (by decide) ?_
  refine g_imul_n C (d := (md % 20) * 7) dX2_add_9 rfl ?_
  refine g_istore_n C (L2 := [(3, .int (nI ((md % 20) * 7))), (0, .ref (gad G 26)), (1, .ref (gad G 146)), (2, .int rd)]) dX2_add_10 (by decide) rfl ?_
  refine g_aload_n C 1 dX2_add_11 rfl ?_
  refine g_get_r C ob_26 3 (by decide) rfl wd_142 dX2_add_12 ?_
  refine g_iload_n C 0 dX2_add_15 rfl ?_
  refine g_aload_n C 2 dX2_add_16 rfl ?_
  refine g_get_i C ob_146 0 (by decide) rfl wd_226 dX2_add_17 ?_
  refine g_cV0 C (As := [.int (nI ((md % 20) * 7)), .int (mem 146 0)]) (mem3 := gr mem 28 (upd (mem 28) ((md % 20) * 7) (mem 146 0))) iX6_put (c_X6_put l G mem ob_27 ar_28 (by decide) (by omega) (mem 146 0)) wd_551 ob_27 rfl ⟨Nat.le_of_ble_eq_true rfl, Nat.le_of_ble_eq_true rfl⟩ ⟨rfl, rfl⟩ rfl (Nat.le_of_ble_eq_true rfl) dX2_add_20 (rfl) ?_
  refine g_aload_n C 1 dX2_add_23 rfl ?_
  refine g_get_r C ob_26 3 (by decide) rfl wd_142 dX2_add_24 ?_
  refine g_iload_n C 0 dX2_add_27 rfl ?_
  refine g_iconst C (nI 1) dX2_add_28 (by decide) ?_
  refine g_iadd_n C (d := ((md % 20) * 7) + 1) dX2_add_29 rfl ?_
  refine g_iload_n C 3 dX2_add_30 rfl ?_
  refine g_cV0 C (As := [.int (nI (((md % 20) * 7) + 1)), .int rd]) (mem3 := gr (gr mem 28 (upd (mem 28) ((md % 20) * 7) (mem 146 0))) 28 (upd (upd (mem 28) ((md % 20) * 7) (mem 146 0)) (((md % 20) * 7) + 1) rd)) iX6_put (c_X6_put l G (gr mem 28 (upd (mem 28) ((md % 20) * 7) (mem 146 0))) ob_27 ar_28 (by decide) (by omega) rd) wd_551 ob_27 rfl ⟨Nat.le_of_ble_eq_true rfl, Nat.le_of_ble_eq_true rfl⟩ ⟨rfl, rfl⟩ rfl (Nat.le_of_ble_eq_true rfl) dX2_add_31 (rfl) ?_
  refine g_mem (mem2 := gr mem 28 (upd (upd (mem 28) ((md % 20) * 7) (mem 146 0)) (((md % 20) * 7) + 1) rd)) (gr_gr _ _ _ _) ?_
  refine g_aload_n C 1 dX2_add_34 rfl ?_
  refine g_get_r C ob_26 3 (by decide) rfl wd_142 dX2_add_35 ?_
  refine g_iload_n C 0 dX2_add_38 rfl ?_
  refine g_iconst C (nI 2) dX2_add_39 (by decide) ?_
  refine g_iadd_n C (d := ((md % 20) * 7) + 2) dX2_add_40 rfl ?_
  refine g_aload_n C 2 dX2_add_41 rfl ?_
  refine g_get_i C ob_146 7 (by decide) rfl wd_241 dX2_add_42 ?_
  refine g_top (y := mem 146 7) (rfl) ?_
  refine g_cV0 C (As := [.int (nI (((md % 20) * 7) + 2)), .int (mem 146 7)]) (mem3 := gr (gr mem 28 (upd (upd (mem 28) ((md % 20) * 7) (mem 146 0)) (((md % 20) * 7) + 1) rd)) 28 (upd (upd (upd (mem 28) ((md % 20) * 7) (mem 146 0)) (((md % 20) * 7) + 1) rd) (((md % 20) * 7) + 2) (mem 146 7))) iX6_put (c_X6_put l G (gr mem 28 (upd (upd (mem 28) ((md % 20) * 7) (mem 146 0)) (((md % 20) * 7) + 1) rd)) ob_27 ar_28 (by decide) (by omega) (mem 146 7)) wd_551 ob_27 rfl ⟨Nat.le_of_ble_eq_true rfl, Nat.le_of_ble_eq_true rfl⟩ ⟨rfl, rfl⟩ rfl (Nat.le_of_ble_eq_true rfl) dX2_add_45 (rfl) ?_
  refine g_mem (mem2 := gr mem 28 (upd (upd (upd (mem 28) ((md % 20) * 7) (mem 146 0)) (((md % 20) * 7) + 1) rd) (((md % 20) * 7) + 2) (mem 146 7))) (gr_gr _ _ _ _) ?_
  refine g_aload_n C 1 dX2_add_48 rfl ?_
  refine g_get_r C ob_26 3 (by decide) rfl wd_142 dX2_add_49 ?_
  refine g_iload_n C 0 dX2_add_52 rfl ?_
  refine g_iconst C (nI 3) dX2_add_53 (by decide) ?_
  refine g_iadd_n C (d := ((md % 20) * 7) + 3) dX2_add_54 rfl ?_
  refine g_aload_n C 2 dX2_add_55 rfl ?_
  refine g_get_i C ob_146 3 (by decide) rfl wd_233 dX2_add_56 ?_
  refine g_top (y := mem 146 3) (rfl) ?_
  refine g_cV0 C (As := [.int (nI (((md % 20) * 7) + 3)), .int (mem 146 3)]) (mem3 := gr (gr mem 28 (upd (upd (upd (mem 28) ((md % 20) * 7) (mem 146 0)) (((md % 20) * 7) + 1) rd) (((md % 20) * 7) + 2) (mem 146 7))) 28 (upd (upd (upd (upd (mem 28) ((md % 20) * 7) (mem 146 0)) (((md % 20) * 7) + 1) rd) (((md % 20) * 7) + 2) (mem 146 7)) (((md % 20) * 7) + 3) (mem 146 3))) iX6_put (c_X6_put l G (gr mem 28 (upd (upd (upd (mem 28) ((md % 20) * 7) (mem 146 0)) (((md % 20) * 7) + 1) rd) (((md % 20) * 7) + 2) (mem 146 7))) ob_27 ar_28 (by decide) (by omega) (mem 146 3)) wd_551 ob_27 rfl ⟨Nat.le_of_ble_eq_true rfl, Nat.le_of_ble_eq_true rfl⟩ ⟨rfl, rfl⟩ rfl (Nat.le_of_ble_eq_true rfl) dX2_add_59 (rfl) ?_
  refine g_mem (mem2 := gr mem 28 (upd (upd (upd (upd (mem 28) ((md % 20) * 7) (mem 146 0)) (((md % 20) * 7) + 1) rd) (((md % 20) * 7) + 2) (mem 146 7)) (((md % 20) * 7) + 3) (mem 146 3))) (gr_gr _ _ _ _) ?_
  refine g_aload_n C 1 dX2_add_62 rfl ?_
  refine g_get_r C ob_26 3 (by decide) rfl wd_142 dX2_add_63 ?_
  refine g_iload_n C 0 dX2_add_66 rfl ?_
  refine g_iconst C (nI 4) dX2_add_67 (by decide) ?_
  refine g_iadd_n C (d := ((md % 20) * 7) + 4) dX2_add_68 rfl ?_
  refine g_aload_n C 2 dX2_add_69 rfl ?_
  refine g_get_i C ob_146 4 (by decide) rfl wd_235 dX2_add_70 ?_
  refine g_top (y := mem 146 4) (rfl) ?_
  refine g_cV0 C (As := [.int (nI (((md % 20) * 7) + 4)), .int (mem 146 4)]) (mem3 := gr (gr mem 28 (upd (upd (upd (upd (mem 28) ((md % 20) * 7) (mem 146 0)) (((md % 20) * 7) + 1) rd) (((md % 20) * 7) + 2) (mem 146 7)) (((md % 20) * 7) + 3) (mem 146 3))) 28 (upd (upd (upd (upd (upd (mem 28) ((md % 20) * 7) (mem 146 0)) (((md % 20) * 7) + 1) rd) (((md % 20) * 7) + 2) (mem 146 7)) (((md % 20) * 7) + 3) (mem 146 3)) (((md % 20) * 7) + 4) (mem 146 4))) iX6_put (c_X6_put l G (gr mem 28 (upd (upd (upd (upd (mem 28) ((md % 20) * 7) (mem 146 0)) (((md % 20) * 7) + 1) rd) (((md % 20) * 7) + 2) (mem 146 7)) (((md % 20) * 7) + 3) (mem 146 3))) ob_27 ar_28 (by decide) (by omega) (mem 146 4)) wd_551 ob_27 rfl ⟨Nat.le_of_ble_eq_true rfl, Nat.le_of_ble_eq_true rfl⟩ ⟨rfl, rfl⟩ rfl (Nat.le_of_ble_eq_true rfl) dX2_add_73 (rfl) ?_
  refine g_mem (mem2 := gr mem 28 (upd (upd (upd (upd (upd (mem 28) ((md % 20) * 7) (mem 146 0)) (((md % 20) * 7) + 1) rd) (((md % 20) * 7) + 2) (mem 146 7)) (((md % 20) * 7) + 3) (mem 146 3)) (((md % 20) * 7) + 4) (mem 146 4))) (gr_gr _ _ _ _) ?_
  refine g_aload_n C 1 dX2_add_76 rfl ?_
  refine g_get_r C ob_26 3 (by decide) rfl wd_142 dX2_add_77 ?_
  refine g_iload_n C 0 dX2_add_80 rfl ?_
  refine g_iconst C (nI 5) dX2_add_81 (by decide) ?_
  refine g_iadd_n C (d := ((md % 20) * 7) + 5) dX2_add_82 rfl ?_
  refine g_aload_n C 2 dX2_add_83 rfl ?_
  refine g_get_i C ob_146 5 (by decide) rfl wd_237 dX2_add_84 ?_
  refine g_top (y := mem 146 5) (rfl) ?_
  refine g_cV0 C (As := [.int (nI (((md % 20) * 7) + 5)), .int (mem 146 5)]) (mem3 := gr (gr mem 28 (upd (upd (upd (upd (upd (mem 28) ((md % 20) * 7) (mem 146 0)) (((md % 20) * 7) + 1) rd) (((md % 20) * 7) + 2) (mem 146 7)) (((md % 20) * 7) + 3) (mem 146 3)) (((md % 20) * 7) + 4) (mem 146 4))) 28 (upd (upd (upd (upd (upd (upd (mem 28) ((md % 20) * 7) (mem 146 0)) (((md % 20) * 7) + 1) rd) (((md % 20) * 7) + 2) (mem 146 7)) (((md % 20) * 7) + 3) (mem 146 3)) (((md % 20) * 7) + 4) (mem 146 4)) (((md % 20) * 7) + 5) (mem 146 5))) iX6_put (c_X6_put l G (gr mem 28 (upd (upd (upd (upd (upd (mem 28) ((md % 20) * 7) (mem 146 0)) (((md % 20) * 7) + 1) rd) (((md % 20) * 7) + 2) (mem 146 7)) (((md % 20) * 7) + 3) (mem 146 3)) (((md % 20) * 7) + 4) (mem 146 4))) ob_27 ar_28 (by decide) (by omega) (mem 146 5)) wd_551 ob_27 rfl ⟨Nat.le_of_ble_eq_true rfl, Nat.le_of_ble_eq_true rfl⟩ ⟨rfl, rfl⟩ rfl (Nat.le_of_ble_eq_true rfl) dX2_add_87 (rfl) ?_
  refine g_mem (mem2 := gr mem 28 (upd (upd (upd (upd (upd (upd (mem 28) ((md % 20) * 7) (mem 146 0)) (((md % 20) * 7) + 1) rd) (((md % 20) * 7) + 2) (mem 146 7)) (((md % 20) * 7) + 3) (mem 146 3)) (((md % 20) * 7) + 4) (mem 146 4)) (((md % 20) * 7) + 5) (mem 146 5))) (gr_gr _ _ _ _) ?_
  refine g_aload_n C 1 dX2_add_90 rfl ?_
  refine g_get_r C ob_26 3 (by decide) rfl wd_142 dX2_add_91 ?_
  refine g_iload_n C 0 dX2_add_94 rfl ?_
  refine g_bipush C (nI 6) dX2_add_95 (by decide) ?_
  refine g_iadd_n C (d := ((md % 20) * 7) + 6) dX2_add_97 rfl ?_
  refine g_aload_n C 2 dX2_add_98 rfl ?_
  refine g_get_i C ob_146 9 (by decide) rfl wd_245 dX2_add_99 ?_
  refine g_top (y := mem 146 9) (rfl) ?_
  refine g_cV0 C (As := [.int (nI (((md % 20) * 7) + 6)), .int (mem 146 9)]) (mem3 := gr (gr mem 28 (upd (upd (upd (upd (upd (upd (mem 28) ((md % 20) * 7) (mem 146 0)) (((md % 20) * 7) + 1) rd) (((md % 20) * 7) + 2) (mem 146 7)) (((md % 20) * 7) + 3) (mem 146 3)) (((md % 20) * 7) + 4) (mem 146 4)) (((md % 20) * 7) + 5) (mem 146 5))) 28 (upd (upd (upd (upd (upd (upd (upd (mem 28) ((md % 20) * 7) (mem 146 0)) (((md % 20) * 7) + 1) rd) (((md % 20) * 7) + 2) (mem 146 7)) (((md % 20) * 7) + 3) (mem 146 3)) (((md % 20) * 7) + 4) (mem 146 4)) (((md % 20) * 7) + 5) (mem 146 5)) (((md % 20) * 7) + 6) (mem 146 9))) iX6_put (c_X6_put l G (gr mem 28 (upd (upd (upd (upd (upd (upd (mem 28) ((md % 20) * 7) (mem 146 0)) (((md % 20) * 7) + 1) rd) (((md % 20) * 7) + 2) (mem 146 7)) (((md % 20) * 7) + 3) (mem 146 3)) (((md % 20) * 7) + 4) (mem 146 4)) (((md % 20) * 7) + 5) (mem 146 5))) ob_27 ar_28 (by decide) (by omega) (mem 146 9)) wd_551 ob_27 rfl ⟨Nat.le_of_ble_eq_true rfl, Nat.le_of_ble_eq_true rfl⟩ ⟨rfl, rfl⟩ rfl (Nat.le_of_ble_eq_true rfl) dX2_add_102 (rfl) ?_
  refine g_mem (mem2 := gr mem 28 (upd (upd (upd (upd (upd (upd (upd (mem 28) ((md % 20) * 7) (mem 146 0)) (((md % 20) * 7) + 1) rd) (((md % 20) * 7) + 2) (mem 146 7)) (((md % 20) * 7) + 3) (mem 146 3)) (((md % 20) * 7) + 4) (mem 146 4)) (((md % 20) * 7) + 5) (mem 146 5)) (((md % 20) * 7) + 6) (mem 146 9))) (gr_gr _ _ _ _) ?_
  refine g_aload_n C 1 dX2_add_105 rfl ?_
  refine g_dup C dX2_add_106 rfl ?_
  refine g_get_i C ob_26 0 (by decide) rfl wd_136 dX2_add_107 ?_
  refine g_top (y := mem 26 0) (rfl) ?_
  refine g_top (y := nI md) (hmd) ?_
  refine g_iconst C (nI 1) dX2_add_110 (by decide) ?_
  refine g_iadd_n C (d := md + 1) dX2_add_111 rfl ?_
  refine g_put_i C ob_26 0 (by decide) rfl wd_136 rfl rfl dX2_add_112 ?_
  refine g_aload_n C 1 dX2_add_115 rfl ?_
  refine g_dup C dX2_add_116 rfl ?_
  refine g_get_i C ob_26 1 (by decide) rfl wd_138 dX2_add_117 ?_
  refine g_top (y := mem 26 1) (rfl) ?_
  refine g_aload_n C 2 dX2_add_120 rfl ?_
  refine g_get_i C ob_146 3 (by decide) rfl wd_233 dX2_add_121 ?_
  refine g_top (y := mem 146 3) (rfl) ?_
  refine g_cS1 C (As := [.int (mem 146 3)]) (w := .int (bcI (mem 146 3))) (mem3 := gr (gr mem 28 (upd (upd (upd (upd (upd (upd (upd (mem 28) ((md % 20) * 7) (mem 146 0)) (((md % 20) * 7) + 1) rd) (((md % 20) * 7) + 2) (mem 146 7)) (((md % 20) * 7) + 3) (mem 146 3)) (((md % 20) * 7) + 4) (mem 146 4)) (((md % 20) * 7) + 5) (mem 146 5)) (((md % 20) * 7) + 6) (mem 146 9))) 26 (upd (mem 26) 0 (nI (md + 1)))) iJ6_bitCount_0f7a4 (c_bc l G (gr (gr mem 28 (upd (upd (upd (upd (upd (upd (upd (mem 28) ((md % 20) * 7) (mem 146 0)) (((md % 20) * 7) + 1) rd) (((md % 20) * 7) + 2) (mem 146 7)) (((md % 20) * 7) + 3) (mem 146 3)) (((md % 20) * 7) + 4) (mem 146 4)) (((md % 20) * 7) + 5) (mem 146 5)) (((md % 20) * 7) + 6) (mem 146 9))) 26 (upd (mem 26) 0 (nI (md + 1)))) (mem 146 3)) wd_552 rfl ⟨Nat.le_of_ble_eq_true rfl, Nat.le_of_ble_eq_true rfl⟩ ⟨rfl, rfl⟩ rfl (Nat.le_of_ble_eq_true rfl) dX2_add_124 (rfl) (rfl) ?_
  refine g_iadd C dX2_add_127 ?_
  refine g_put_i C ob_26 1 (by decide) rfl wd_138 rfl rfl dX2_add_128 ?_
  refine g_mem (mem2 := gr (gr mem 28 (upd (upd (upd (upd (upd (upd (upd (mem 28) ((md % 20) * 7) (mem 146 0)) (((md % 20) * 7) + 1) rd) (((md % 20) * 7) + 2) (mem 146 7)) (((md % 20) * 7) + 3) (mem 146 3)) (((md % 20) * 7) + 4) (mem 146 4)) (((md % 20) * 7) + 5) (mem 146 5)) (((md % 20) * 7) + 6) (mem 146 9))) 26 (upd (upd (mem 26) 0 (nI (md + 1))) 1 ((mem 26 1) + (bcI (mem 146 3))))) (gr_gr _ _ _ _) ?_
  refine g_aload_n C 1 dX2_add_131 rfl ?_
  refine g_dup C dX2_add_132 rfl ?_
  refine g_get_i C ob_26 2 (by decide) rfl wd_140 dX2_add_133 ?_
  refine g_top (y := mem 26 2) (rfl) ?_
  refine g_aload_n C 2 dX2_add_136 rfl ?_
  refine g_get_i C ob_146 4 (by decide) rfl wd_235 dX2_add_137 ?_
  refine g_top (y := mem 146 4) (rfl) ?_
  refine g_cS1 C (As := [.int (mem 146 4)]) (w := .int (bcI (mem 146 4))) (mem3 := gr (gr mem 28 (upd (upd (upd (upd (upd (upd (upd (mem 28) ((md % 20) * 7) (mem 146 0)) (((md % 20) * 7) + 1) rd) (((md % 20) * 7) + 2) (mem 146 7)) (((md % 20) * 7) + 3) (mem 146 3)) (((md % 20) * 7) + 4) (mem 146 4)) (((md % 20) * 7) + 5) (mem 146 5)) (((md % 20) * 7) + 6) (mem 146 9))) 26 (upd (upd (mem 26) 0 (nI (md + 1))) 1 ((mem 26 1) + (bcI (mem 146 3))))) iJ6_bitCount_0f7a4 (c_bc l G (gr (gr mem 28 (upd (upd (upd (upd (upd (upd (upd (mem 28) ((md % 20) * 7) (mem 146 0)) (((md % 20) * 7) + 1) rd) (((md % 20) * 7) + 2) (mem 146 7)) (((md % 20) * 7) + 3) (mem 146 3)) (((md % 20) * 7) + 4) (mem 146 4)) (((md % 20) * 7) + 5) (mem 146 5)) (((md % 20) * 7) + 6) (mem 146 9))) 26 (upd (upd (mem 26) 0 (nI (md + 1))) 1 ((mem 26 1) + (bcI (mem 146 3))))) (mem 146 4)) wd_552 rfl ⟨Nat.le_of_ble_eq_true rfl, Nat.le_of_ble_eq_true rfl⟩ ⟨rfl, rfl⟩ rfl (Nat.le_of_ble_eq_true rfl) dX2_add_140 (rfl) (rfl) ?_
  refine g_iadd C dX2_add_143 ?_
  refine g_put_i C ob_26 2 (by decide) rfl wd_140 rfl rfl dX2_add_144 ?_
  refine g_mem (mem2 := gr (gr mem 28 (upd (upd (upd (upd (upd (upd (upd (mem 28) ((md % 20) * 7) (mem 146 0)) (((md % 20) * 7) + 1) rd) (((md % 20) * 7) + 2) (mem 146 7)) (((md % 20) * 7) + 3) (mem 146 3)) (((md % 20) * 7) + 4) (mem 146 4)) (((md % 20) * 7) + 5) (mem 146 5)) (((md % 20) * 7) + 6) (mem 146 9))) 26 (upd (upd (upd (mem 26) 0 (nI (md + 1))) 1 ((mem 26 1) + (bcI (mem 146 3)))) 2 ((mem 26 2) + (bcI (mem 146 4))))) (gr_gr _ _ _ _) ?_
  refine g_vret C hQ rfl dX2_add_147 ?_
  exact ⟨rfl, rfl⟩

/-- credits and missed duties behind a repair -/
def coC (ms fine : Int32) (c : Nat → Int32) (j : Nat) : Int32 := if hs ms j then c j + -fine else c j
def coM (ms : Int32) (c : Nat → Int32) (j : Nat) : Int32 := if hs ms j then c j + nI 1 else c j

def rm_X7_carryOut : Room := { frames := 2, cells := 0, slots := 0, locals := 45 }
theorem iX7_carryOut : gIv yX7_carryOut cX7_carryOut 3 none 1 := ⟨⟨wd_545, wd_5, by decide +kernel, by decide +kernel, by decide +kernel⟩, wd_543, wd_544⟩
set_option maxRecDepth 100000 in
set_option maxHeartbeats 4000000 in
theorem c_X7_carryOut (l : Launch) (G : gG) (mem : gM) {n b rp md : Nat} (hn : mem 4 0 = nI n) (hn10 : n ≤ 10) (hb : mem 146 0 = nI b) (hb200 : b < 200) (hrp : mem 146 7 = nI rp) (hrp10 : rp < 10) (hmd : mem 26 0 = nI md) (hmd31 : md < 2 ^ 30) : gMet l yX7_carryOut cX7_carryOut 3 none rm_X7_carryOut G [.ref (gad G 1), .ref (gad G 146)] mem (fun a u => a = none ∧ u = gr (gr (gr (gr (gr (gr mem 25 (upd (mem 25) b (mem 25 b &&& (mem 146 2 ^^^ (-1 : Int32))))) 10 (cpy n (coC (mem 146 5) (mem 3 4) (upd (mem 10) rp (mem 10 rp + mem 3 3))) (upd (mem 10) rp (mem 10 rp + mem 3 3)))) 12 (upd (mem 12) rp (mem 12 rp + nI 1))) 14 (cpy n (coM (mem 146 5) (mem 14)) (mem 14))) 28 (lay7 (mem 28) (md % 20 * 7) (mem 146 0) (mem 21 0) (mem 146 7) (mem 146 3) (mem 146 4) (mem 146 5) (mem 146 9))) 26 (upd (upd (upd (mem 26) 0 (nI (md + 1))) 1 (mem 26 1 + bcI (mem 146 3))) 2 (mem 26 2 + bcI (mem 146 4)))) := by
  refine g_of (own := RX7) (L0 := [(0, .ref (gad G 1)), (1, .ref (gad G 146))]) (by decide +kernel) rfl (Nat.le_of_ble_eq_true rfl) rfl ?_
  intro p e s m args below meth c C Q hQ
  refine g_aload_n C 0 dX7_carryOut_0 rfl ?_
  refine g_get_r C ob_1 3 (by decide) rfl wd_165 dX7_carryOut_1 ?_
  refine g_aload_n C 1 dX7_carryOut_4 rfl ?_
  refine g_get_i C ob_146 0 (by decide) rfl wd_227 dX7_carryOut_5 ?_
  refine g_top (y := nI b) (hb) ?_
  refine g_aload_n C 0 dX7_carryOut_8 rfl ?_
  refine g_get_r C ob_1 3 (by decide) rfl wd_165 dX7_carryOut_9 ?_
  refine g_aload_n C 1 dX7_carryOut_12 rfl ?_
  refine g_get_i C ob_146 0 (by decide) rfl wd_227 dX7_carryOut_13 ?_
  refine g_top (y := nI b) (hb) ?_
  refine g_cV1 C (As := [.int (nI b)]) (w := .int (mem 25 b)) (mem3 := mem) iX6_at (c_X6_at l G mem ob_24 ar_25 (by decide) (by omega)) wd_382 ob_24 rfl ⟨Nat.le_of_ble_eq_true rfl, Nat.le_of_ble_eq_true rfl⟩ ⟨rfl, rfl⟩ rfl (Nat.le_of_ble_eq_true rfl) dX7_carryOut_16 (rfl) (rfl) ?_
  refine g_aload_n C 1 dX7_carryOut_19 rfl ?_
  refine g_get_i C ob_146 2 (by decide) rfl wd_231 dX7_carryOut_20 ?_
  refine g_iconst C (((-1) : Int32)) dX7_carryOut_23 (by decide) ?_
  refine g_ixor C dX7_carryOut_24 ?_
  refine g_iand C dX7_carryOut_25 ?_
  refine g_cV0 C (As := [.int (nI b), .int ((mem 25 b) &&& ((mem 146 2) ^^^ ((-1) : Int32)))]) (mem3 := gr mem 25 (upd (mem 25) b ((mem 25 b) &&& ((mem 146 2) ^^^ ((-1) : Int32))))) iX6_put (c_X6_put l G mem ob_24 ar_25 (by decide) (by omega) ((mem 25 b) &&& ((mem 146 2) ^^^ ((-1) : Int32)))) wd_152 ob_24 rfl ⟨Nat.le_of_ble_eq_true rfl, Nat.le_of_ble_eq_true rfl⟩ ⟨rfl, rfl⟩ rfl (Nat.le_of_ble_eq_true rfl) dX7_carryOut_26 (rfl) ?_
  refine g_aload_n C 0 dX7_carryOut_29 rfl ?_
  refine g_get_r C ob_1 1 (by decide) rfl wd_159 dX7_carryOut_30 ?_
  refine g_get_r C ob_4 4 (by decide) rfl wd_64 dX7_carryOut_33 ?_
  refine g_aload_n C 1 dX7_carryOut_36 rfl ?_
  refine g_get_i C ob_146 7 (by decide) rfl wd_243 dX7_carryOut_37 ?_
  refine g_top (y := mem 146 7) (rfl) ?_
  refine g_top (y := nI rp) (hrp) ?_
  refine g_aload_n C 0 dX7_carryOut_40 rfl ?_
  refine g_get_r C ob_1 0 (by decide) rfl wd_156 dX7_carryOut_41 ?_
  refine g_iconst C (nI 3) dX7_carryOut_44 (by decide) ?_
  refine g_cV1 C (As := [.int (nI 3)]) (w := .int (mem 3 3)) (mem3 := gr mem 25 (upd (mem 25) b ((mem 25 b) &&& ((mem 146 2) ^^^ ((-1) : Int32))))) iX6_at (c_X6_at l G (gr mem 25 (upd (mem 25) b ((mem 25 b) &&& ((mem 146 2) ^^^ ((-1) : Int32))))) ob_2 ar_3 (by decide) (by omega)) wd_382 ob_2 rfl ⟨Nat.le_of_ble_eq_true rfl, Nat.le_of_ble_eq_true rfl⟩ ⟨rfl, rfl⟩ rfl (Nat.le_of_ble_eq_true rfl) dX7_carryOut_45 (rfl) (rfl) ?_
  refine g_cV0 C (As := [.int (nI rp), .int (mem 3 3)]) (mem3 := gr (gr mem 25 (upd (mem 25) b ((mem 25 b) &&& ((mem 146 2) ^^^ ((-1) : Int32))))) 10 (upd (mem 10) rp (mem 10 rp + (mem 3 3)))) iX6_add (c_X6_add l G (gr mem 25 (upd (mem 25) b ((mem 25 b) &&& ((mem 146 2) ^^^ ((-1) : Int32))))) ob_9 ar_10 (by decide) (by omega) (mem 3 3)) wd_546 ob_9 rfl ⟨Nat.le_of_ble_eq_true rfl, Nat.le_of_ble_eq_true rfl⟩ ⟨rfl, rfl⟩ rfl (Nat.le_of_ble_eq_true rfl) dX7_carryOut_48 (rfl) ?_
  refine g_aload_n C 0 dX7_carryOut_51 rfl ?_
  refine g_get_r C ob_1 1 (by decide) rfl wd_159 dX7_carryOut_52 ?_
  refine g_get_r C ob_4 5 (by decide) rfl wd_67 dX7_carryOut_55 ?_
  refine g_aload_n C 1 dX7_carryOut_58 rfl ?_
  refine g_get_i C ob_146 7 (by decide) rfl wd_243 dX7_carryOut_59 ?_
  refine g_top (y := mem 146 7) (rfl) ?_
  refine g_top (y := nI rp) (hrp) ?_
  refine g_iconst C (nI 1) dX7_carryOut_62 (by decide) ?_
  refine g_cV0 C (As := [.int (nI rp), .int (nI 1)]) (mem3 := gr (gr (gr mem 25 (upd (mem 25) b ((mem 25 b) &&& ((mem 146 2) ^^^ ((-1) : Int32))))) 10 (upd (mem 10) rp (mem 10 rp + (mem 3 3)))) 12 (upd (mem 12) rp (mem 12 rp + (nI 1)))) iX6_add (c_X6_add l G (gr (gr mem 25 (upd (mem 25) b ((mem 25 b) &&& ((mem 146 2) ^^^ ((-1) : Int32))))) 10 (upd (mem 10) rp (mem 10 rp + (mem 3 3)))) ob_11 ar_12 (by decide) (by omega) (nI 1)) wd_546 ob_11 rfl ⟨Nat.le_of_ble_eq_true rfl, Nat.le_of_ble_eq_true rfl⟩ ⟨rfl, rfl⟩ rfl (Nat.le_of_ble_eq_true rfl) dX7_carryOut_63 (rfl) ?_
  refine g_iconst C (nI 0) dX7_carryOut_66 (by decide) ?_
  refine g_istore_n C (L2 := [(2, .int (nI 0)), (0, .ref (gad G 1)), (1, .ref (gad G 146))]) dX7_carryOut_67 (by decide) rfl ?_
  have lp_68 : ∀ (fu : Nat) (i : Nat), (i ≤ n) → n - i < fu → gV p l e rm_X7_carryOut s m args below meth c 0 0 Q G 3 (gr (gr (gr (gr mem 25 (upd (mem 25) b (mem 25 b &&& (mem 146 2 ^^^ (-1 : Int32))))) 10 (cpy i (coC (mem 146 5) (mem 3 4) (upd (mem 10) rp (mem 10 rp + mem 3 3))) (upd (mem 10) rp (mem 10 rp + mem 3 3)))) 12 (upd (mem 12) rp (mem 12 rp + nI 1))) 14 (cpy i (coM (mem 146 5) (mem 14)) (mem 14))) 68 [(0, .ref (gad G 1)), (1, .ref (gad G 146)), (2, .int (nI i))] [] := by
    intro fu
    induction fu with
    | zero => intro i _ hfu; exact absurd hfu (Nat.not_lt_zero _)
    | succ fu ih_68 =>
      intro i hi hfu_68
      refine g_iload_n C 2 dX7_carryOut_68 rfl ?_
      refine g_aload_n C 0 dX7_carryOut_69 rfl ?_
      refine g_get_r C ob_1 1 (by decide) rfl wd_159 dX7_carryOut_70 ?_
      refine g_get_i C ob_4 0 (by decide) rfl wd_53 dX7_carryOut_73 ?_
      refine g_top (y := mem 4 0) (rfl) ?_
      refine g_top (y := nI n) (hn) ?_
      refine g_icmp_ge C 128 dX7_carryOut_76 (by decide) (fun c_76 => ?_) (fun c_76 => ?_)
      · have hin : i = n := by have q := (nI_leI (a := n) (b := i) (by omega) (by omega)).mp c_76; omega
        rw [hin]
        refine g_aload_n C 0 dX7_carryOut_128 rfl ?_
        refine g_get_r C ob_1 4 (by decide) rfl wd_168 dX7_carryOut_129 ?_
        refine g_aload_n C 1 dX7_carryOut_132 rfl ?_
        refine g_aload_n C 0 dX7_carryOut_133 rfl ?_
        refine g_get_r C ob_1 2 (by decide) rfl wd_162 dX7_carryOut_134 ?_
        refine g_get_i C ob_21 0 (by decide) rfl wd_110 dX7_carryOut_137 ?_
        refine g_top (y := mem 21 0) (rfl) ?_
        refine g_cV0 C (As := [.ref (gad G 146), .int (mem 21 0)]) (mem3 := gr (gr (gr (gr (gr (gr mem 25 (upd (mem 25) b (mem 25 b &&& (mem 146 2 ^^^ (-1 : Int32))))) 10 (cpy n (coC (mem 146 5) (mem 3 4) (upd (mem 10) rp (mem 10 rp + mem 3 3))) (upd (mem 10) rp (mem 10 rp + mem 3 3)))) 12 (upd (mem 12) rp (mem 12 rp + nI 1))) 14 (cpy n (coM (mem 146 5) (mem 14)) (mem 14))) 28 (lay7 (mem 28) (md % 20 * 7) (mem 146 0) (mem 21 0) (mem 146 7) (mem 146 3) (mem 146 4) (mem 146 5) (mem 146 9))) 26 (upd (upd (upd (mem 26) 0 (nI (md + 1))) 1 (mem 26 1 + bcI (mem 146 3))) 2 (mem 26 2 + bcI (mem 146 4)))) iX2_add (c_X2_add l G (gr (gr (gr (gr mem 25 (upd (mem 25) b (mem 25 b &&& (mem 146 2 ^^^ (-1 : Int32))))) 10 (cpy n (coC (mem 146 5) (mem 3 4) (upd (mem 10) rp (mem 10 rp + mem 3 3))) (upd (mem 10) rp (mem 10 rp + mem 3 3)))) 12 (upd (mem 12) rp (mem 12 rp + nI 1))) 14 (cpy n (coM (mem 146 5) (mem 14)) (mem 14))) (hmd) (hmd31) (mem 21 0)) wd_547 ob_26 rfl ⟨Nat.le_of_ble_eq_true rfl, Nat.le_of_ble_eq_true rfl⟩ ⟨rfl, rfl⟩ rfl (Nat.le_of_ble_eq_true rfl) dX7_carryOut_140 (rfl) ?_
        refine g_vret C hQ rfl dX7_carryOut_143 ?_
        exact ⟨rfl, rfl⟩
      · have hi2 : i < n := by have q := mt (nI_leI (a := n) (b := i) (by omega) (by omega)).mpr c_76; omega
        refine g_aload_n C 1 dX7_carryOut_79 rfl ?_
        refine g_get_i C ob_146 5 (by decide) rfl wd_238 dX7_carryOut_80 ?_
        refine g_top (y := mem 146 5) (rfl) ?_
        refine g_iload_n C 2 dX7_carryOut_83 rfl ?_
        refine g_cS1 C (As := [.int (mem 146 5), .int (nI i)]) (w := .int (b2i (hs (mem 146 5) i))) (mem3 := gr (gr (gr (gr mem 25 (upd (mem 25) b (mem 25 b &&& (mem 146 2 ^^^ (-1 : Int32))))) 10 (cpy i (coC (mem 146 5) (mem 3 4) (upd (mem 10) rp (mem 10 rp + mem 3 3))) (upd (mem 10) rp (mem 10 rp + mem 3 3)))) 12 (upd (mem 12) rp (mem 12 rp + nI 1))) 14 (cpy i (coM (mem 146 5) (mem 14)) (mem 14))) iX4_has (c_X4_has l G (gr (gr (gr (gr mem 25 (upd (mem 25) b (mem 25 b &&& (mem 146 2 ^^^ (-1 : Int32))))) 10 (cpy i (coC (mem 146 5) (mem 3 4) (upd (mem 10) rp (mem 10 rp + mem 3 3))) (upd (mem 10) rp (mem 10 rp + mem 3 3)))) 12 (upd (mem 12) rp (mem 12 rp + nI 1))) 14 (cpy i (coM (mem 146 5) (mem 14)) (mem 14))) (mem 146 5) i) wd_383 rfl ⟨Nat.le_of_ble_eq_true rfl, Nat.le_of_ble_eq_true rfl⟩ ⟨rfl, rfl⟩ rfl (Nat.le_of_ble_eq_true rfl) dX7_carryOut_84 (rfl) (rfl) ?_
        refine g_ifb_eq C 122 dX7_carryOut_87 (by decide) (fun c_87 => ?_) (fun c_87 => ?_)
        · refine g_iinc C (v := nI (i + 1)) (L2 := [(2, .int (nI (i + 1))), (0, .ref (gad G 1)), (1, .ref (gad G 146))]) 2 dX7_carryOut_122 rfl (nI_1 _) (by decide) rfl ?_
          refine g_goto C 68 dX7_carryOut_125 (by decide) ?_
          refine g_loc (L2 := [(0, .ref (gad G 1)), (1, .ref (gad G 146)), (2, .int (nI (i + 1)))]) [1, 2, 0] rfl ?_
          exact g_eq (ih_68 (i + 1) (hi2) (by omega)) (by first | rw [cpy_s (f := coC (mem 146 5) (mem 3 4) (upd (mem 10) rp (mem 10 rp + mem 3 3))) (by rw [coC, if_pos c_87, cpy_out (Nat.le_refl i)]), cpy_s (f := coM (mem 146 5) (mem 14)) (by rw [coM, if_pos c_87, cpy_out (Nat.le_refl i)])] | rw [cpy_k (f := coC (mem 146 5) (mem 3 4) (upd (mem 10) rp (mem 10 rp + mem 3 3))) (by rw [coC, if_neg c_87]), cpy_k (f := coM (mem 146 5) (mem 14)) (by rw [coM, if_neg c_87])]) (rfl) rfl
        · refine g_aload_n C 0 dX7_carryOut_90 rfl ?_
          refine g_get_r C ob_1 1 (by decide) rfl wd_159 dX7_carryOut_91 ?_
          refine g_get_r C ob_4 4 (by decide) rfl wd_64 dX7_carryOut_94 ?_
          refine g_iload_n C 2 dX7_carryOut_97 rfl ?_
          refine g_aload_n C 0 dX7_carryOut_98 rfl ?_
          refine g_get_r C ob_1 0 (by decide) rfl wd_156 dX7_carryOut_99 ?_
          refine g_iconst C (nI 4) dX7_carryOut_102 (by decide) ?_
          refine g_cV1 C (As := [.int (nI 4)]) (w := .int (mem 3 4)) (mem3 := gr (gr (gr (gr mem 25 (upd (mem 25) b (mem 25 b &&& (mem 146 2 ^^^ (-1 : Int32))))) 10 (cpy i (coC (mem 146 5) (mem 3 4) (upd (mem 10) rp (mem 10 rp + mem 3 3))) (upd (mem 10) rp (mem 10 rp + mem 3 3)))) 12 (upd (mem 12) rp (mem 12 rp + nI 1))) 14 (cpy i (coM (mem 146 5) (mem 14)) (mem 14))) iX6_at (c_X6_at l G (gr (gr (gr (gr mem 25 (upd (mem 25) b (mem 25 b &&& (mem 146 2 ^^^ (-1 : Int32))))) 10 (cpy i (coC (mem 146 5) (mem 3 4) (upd (mem 10) rp (mem 10 rp + mem 3 3))) (upd (mem 10) rp (mem 10 rp + mem 3 3)))) 12 (upd (mem 12) rp (mem 12 rp + nI 1))) 14 (cpy i (coM (mem 146 5) (mem 14)) (mem 14))) ob_2 ar_3 (by decide) (by omega)) wd_382 ob_2 rfl ⟨Nat.le_of_ble_eq_true rfl, Nat.le_of_ble_eq_true rfl⟩ ⟨rfl, rfl⟩ rfl (Nat.le_of_ble_eq_true rfl) dX7_carryOut_103 (rfl) (rfl) ?_
          refine g_ineg C dX7_carryOut_106 ?_
          refine g_cV0 C (As := [.int (nI i), .int (-(mem 3 4))]) (mem3 := gr (gr (gr (gr (gr mem 25 (upd (mem 25) b (mem 25 b &&& (mem 146 2 ^^^ (-1 : Int32))))) 10 (cpy i (coC (mem 146 5) (mem 3 4) (upd (mem 10) rp (mem 10 rp + mem 3 3))) (upd (mem 10) rp (mem 10 rp + mem 3 3)))) 12 (upd (mem 12) rp (mem 12 rp + nI 1))) 14 (cpy i (coM (mem 146 5) (mem 14)) (mem 14))) 10 (upd (cpy i (coC (mem 146 5) (mem 3 4) (upd (mem 10) rp (mem 10 rp + mem 3 3))) (upd (mem 10) rp (mem 10 rp + mem 3 3))) i (cpy i (coC (mem 146 5) (mem 3 4) (upd (mem 10) rp (mem 10 rp + mem 3 3))) (upd (mem 10) rp (mem 10 rp + mem 3 3)) i + (-(mem 3 4))))) iX6_add (c_X6_add l G (gr (gr (gr (gr mem 25 (upd (mem 25) b (mem 25 b &&& (mem 146 2 ^^^ (-1 : Int32))))) 10 (cpy i (coC (mem 146 5) (mem 3 4) (upd (mem 10) rp (mem 10 rp + mem 3 3))) (upd (mem 10) rp (mem 10 rp + mem 3 3)))) 12 (upd (mem 12) rp (mem 12 rp + nI 1))) 14 (cpy i (coM (mem 146 5) (mem 14)) (mem 14))) ob_9 ar_10 (by decide) (by omega) (-(mem 3 4))) wd_546 ob_9 rfl ⟨Nat.le_of_ble_eq_true rfl, Nat.le_of_ble_eq_true rfl⟩ ⟨rfl, rfl⟩ rfl (Nat.le_of_ble_eq_true rfl) dX7_carryOut_107 (rfl) ?_
          refine g_mem (mem2 := gr (gr (gr (gr mem 25 (upd (mem 25) b (mem 25 b &&& (mem 146 2 ^^^ (-1 : Int32))))) 10 (upd (cpy i (coC (mem 146 5) (mem 3 4) (upd (mem 10) rp (mem 10 rp + mem 3 3))) (upd (mem 10) rp (mem 10 rp + mem 3 3))) i (cpy i (coC (mem 146 5) (mem 3 4) (upd (mem 10) rp (mem 10 rp + mem 3 3))) (upd (mem 10) rp (mem 10 rp + mem 3 3)) i + (-(mem 3 4))))) 12 (upd (mem 12) rp (mem 12 rp + nI 1))) 14 (cpy i (coM (mem 146 5) (mem 14)) (mem 14))) ((gr_comm _ (by decide) _ _).trans (congrArg (fun z => gr z 14 (cpy i (coM (mem 146 5) (mem 14)) (mem 14))) ((gr_comm _ (by decide) _ _).trans (congrArg (fun z => gr z 12 (upd (mem 12) rp (mem 12 rp + nI 1))) (gr_gr _ _ _ _))))) ?_
          refine g_aload_n C 0 dX7_carryOut_110 rfl ?_
          refine g_get_r C ob_1 1 (by decide) rfl wd_159 dX7_carryOut_111 ?_
          refine g_get_r C ob_4 6 (by decide) rfl wd_70 dX7_carryOut_114 ?_
          refine g_iload_n C 2 dX7_carryOut_117 rfl ?_
          refine g_iconst C (nI 1) dX7_carryOut_118 (by decide) ?_
          refine g_cV0 C (As := [.int (nI i), .int (nI 1)]) (mem3 := gr (gr (gr (gr (gr mem 25 (upd (mem 25) b (mem 25 b &&& (mem 146 2 ^^^ (-1 : Int32))))) 10 (upd (cpy i (coC (mem 146 5) (mem 3 4) (upd (mem 10) rp (mem 10 rp + mem 3 3))) (upd (mem 10) rp (mem 10 rp + mem 3 3))) i (cpy i (coC (mem 146 5) (mem 3 4) (upd (mem 10) rp (mem 10 rp + mem 3 3))) (upd (mem 10) rp (mem 10 rp + mem 3 3)) i + (-(mem 3 4))))) 12 (upd (mem 12) rp (mem 12 rp + nI 1))) 14 (cpy i (coM (mem 146 5) (mem 14)) (mem 14))) 14 (upd (cpy i (coM (mem 146 5) (mem 14)) (mem 14)) i (cpy i (coM (mem 146 5) (mem 14)) (mem 14) i + (nI 1)))) iX6_add (c_X6_add l G (gr (gr (gr (gr mem 25 (upd (mem 25) b (mem 25 b &&& (mem 146 2 ^^^ (-1 : Int32))))) 10 (upd (cpy i (coC (mem 146 5) (mem 3 4) (upd (mem 10) rp (mem 10 rp + mem 3 3))) (upd (mem 10) rp (mem 10 rp + mem 3 3))) i (cpy i (coC (mem 146 5) (mem 3 4) (upd (mem 10) rp (mem 10 rp + mem 3 3))) (upd (mem 10) rp (mem 10 rp + mem 3 3)) i + (-(mem 3 4))))) 12 (upd (mem 12) rp (mem 12 rp + nI 1))) 14 (cpy i (coM (mem 146 5) (mem 14)) (mem 14))) ob_13 ar_14 (by decide) (by omega) (nI 1)) wd_546 ob_13 rfl ⟨Nat.le_of_ble_eq_true rfl, Nat.le_of_ble_eq_true rfl⟩ ⟨rfl, rfl⟩ rfl (Nat.le_of_ble_eq_true rfl) dX7_carryOut_119 (rfl) ?_
          refine g_mem (mem2 := gr (gr (gr (gr mem 25 (upd (mem 25) b (mem 25 b &&& (mem 146 2 ^^^ (-1 : Int32))))) 10 (upd (cpy i (coC (mem 146 5) (mem 3 4) (upd (mem 10) rp (mem 10 rp + mem 3 3))) (upd (mem 10) rp (mem 10 rp + mem 3 3))) i (cpy i (coC (mem 146 5) (mem 3 4) (upd (mem 10) rp (mem 10 rp + mem 3 3))) (upd (mem 10) rp (mem 10 rp + mem 3 3)) i + (-(mem 3 4))))) 12 (upd (mem 12) rp (mem 12 rp + nI 1))) 14 (upd (cpy i (coM (mem 146 5) (mem 14)) (mem 14)) i (cpy i (coM (mem 146 5) (mem 14)) (mem 14) i + (nI 1)))) (gr_gr _ _ _ _) ?_
          refine g_iinc C (v := nI (i + 1)) (L2 := [(2, .int (nI (i + 1))), (0, .ref (gad G 1)), (1, .ref (gad G 146))]) 2 dX7_carryOut_122 rfl (nI_1 _) (by decide) rfl ?_
          refine g_goto C 68 dX7_carryOut_125 (by decide) ?_
          refine g_loc (L2 := [(0, .ref (gad G 1)), (1, .ref (gad G 146)), (2, .int (nI (i + 1)))]) [1, 2, 0] rfl ?_
          exact g_eq (ih_68 (i + 1) (hi2) (by omega)) (by first | rw [cpy_s (f := coC (mem 146 5) (mem 3 4) (upd (mem 10) rp (mem 10 rp + mem 3 3))) (by rw [coC, if_pos c_87, cpy_out (Nat.le_refl i)]), cpy_s (f := coM (mem 146 5) (mem 14)) (by rw [coM, if_pos c_87, cpy_out (Nat.le_refl i)])] | rw [cpy_k (f := coC (mem 146 5) (mem 3 4) (upd (mem 10) rp (mem 10 rp + mem 3 3))) (by rw [coC, if_neg c_87]), cpy_k (f := coM (mem 146 5) (mem 14)) (by rw [coM, if_neg c_87])]) (rfl) rfl
  refine g_loc (L2 := [(0, .ref (gad G 1)), (1, .ref (gad G 146)), (2, .int (nI 0))]) [1, 2, 0] rfl ?_
  exact g_eq (lp_68 (_ + 1) 0 (Nat.zero_le _) (Nat.lt_succ_self _)) (by rw [cpy_0, cpy_0, show mem 14 = (gr (gr (gr mem 25 (upd (mem 25) b (mem 25 b &&& (mem 146 2 ^^^ (-1 : Int32))))) 10 (upd (mem 10) rp (mem 10 rp + mem 3 3))) 12 (upd (mem 12) rp (mem 12 rp + nI 1))) 14 from rfl, gr_self]) (rfl) rfl
