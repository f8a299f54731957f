def rm_X0_weightOfOthers : Room := { frames := 1, cells := 0, slots := 0, locals := 21 }
theorem iX0_weightOfOthers : gIs yX0_weightOfOthers cX0_weightOfOthers 4 (some .int) 2 := ⟨⟨wd_454, wd_8, by decide +kernel, by decide +kernel, by decide +kernel⟩, wd_453⟩
set_option maxRecDepth 100000 in
set_option maxHeartbeats 4000000 in
theorem c_X0_weightOfOthers (l : Launch) (G : gG) (mem : gM) {n : Nat} {W : Nat → Nat} (hn : mem 4 0 = nI n) (hn10 : n ≤ 10) (hw : ∀ m, m < n → mem 6 m = nI (W m)) (hW : ∀ m, m < n → 1 ≤ W m ∧ W m ≤ 9) (ls : Int32) : gMet l yX0_weightOfOthers cX0_weightOfOthers 4 (some .int) rm_X0_weightOfOthers G [.ref (gad G 4), .int ls] mem (fun a u => a = some (.int (nI (wSum W ls n))) ∧ u = mem) := by
  refine g_of (own := RX0) (L0 := [(0, .ref (gad G 4)), (1, .int ls)]) (by decide +kernel) rfl (Nat.le_of_ble_eq_true rfl) rfl ?_
  intro p e s m args below meth c C Q hQ
  refine g_iconst C (nI 0) dX0_weightOfOthers_0 (by decide) ?_
  refine g_istore_n C (L2 := [(2, .int (nI 0)), (0, .ref (gad G 4)), (1, .int ls)]) dX0_weightOfOthers_1 (by decide) rfl ?_
  refine g_iconst C (nI 0) dX0_weightOfOthers_2 (by decide) ?_
  refine g_istore_n C (L2 := [(3, .int (nI 0)), (2, .int (nI 0)), (0, .ref (gad G 4)), (1, .int ls)]) dX0_weightOfOthers_3 (by decide) rfl ?_
  have lp_4 : ∀ (fu : Nat) (i : Nat), (i ≤ n) → n - i < fu → gV p l e rm_X0_weightOfOthers s m args below meth c 0 0 Q G 4 mem 4 [(0, .ref (gad G 4)), (1, .int ls), (2, .int (nI (wSum W ls i))), (3, .int (nI i))] [] := by
    intro fu
    induction fu with
    | zero => intro i _ hfu; exact absurd hfu (Nat.not_lt_zero _)
    | succ fu ih_4 =>
      intro i hi hfu_4
      refine g_iload_n C 3 dX0_weightOfOthers_4 rfl ?_
      refine g_aload_n C 0 dX0_weightOfOthers_5 rfl ?_
      refine g_get_i C ob_4 0 (by decide) rfl wd_51 dX0_weightOfOthers_6 ?_
      refine g_top (y := nI n) (hn) ?_
      refine g_icmp_ge C 37 dX0_weightOfOthers_9 (by decide) (fun c_9 => ?_) (fun c_9 => ?_)
      · have hin : i = n := by have q := (nI_leI (a := n) (b := i) (by omega) (by omega)).mp c_9; omega
        refine g_iload_n C 2 dX0_weightOfOthers_37 rfl ?_
        refine g_iret C hQ rfl dX0_weightOfOthers_38 ?_
        exact ⟨by rw [hin], rfl⟩
      · have hi2 : i < n := by have q := mt (nI_leI (a := n) (b := i) (by omega) (by omega)).mpr c_9; omega
        refine g_iload_n C 1 dX0_weightOfOthers_12 rfl ?_
        refine g_iload_n C 3 dX0_weightOfOthers_13 rfl ?_
        refine g_cS1 C (As := [.int ls, .int (nI i)]) (w := .int (b2i (hs ls i))) (mem3 := mem) iX4_has (c_X4_has l G mem ls i) wd_446 rfl ⟨Nat.le_of_ble_eq_true rfl, Nat.le_of_ble_eq_true rfl⟩ ⟨rfl, rfl⟩ rfl (Nat.le_of_ble_eq_true rfl) dX0_weightOfOthers_14 (rfl) (rfl) ?_
        refine g_ifb_ne C 31 dX0_weightOfOthers_17 (by decide) (fun c_17 => ?_) (fun c_17 => ?_)
        · refine g_iinc C (v := nI (i + 1)) (L2 := [(3, .int (nI (i + 1))), (0, .ref (gad G 4)), (1, .int ls), (2, .int (nI (wSum W ls i)))]) 3 dX0_weightOfOthers_31 rfl (nI_1 _) (by decide) rfl ?_
          refine g_goto C 4 dX0_weightOfOthers_34 (by decide) ?_
          refine g_loc (L2 := [(0, .ref (gad G 4)), (1, .int ls), (2, .int (nI (wSum W ls i))), (3, .int (nI (i + 1)))]) [1, 2, 3, 0] rfl ?_
          exact g_eq (ih_4 (i + 1) (hi2) (by omega)) (rfl) (gLc rfl (gLc rfl (gLc (congrArg Value.int (by first | rw [wS_t c_17] | rw [wS_f c_17])) (rfl)))) rfl
        · refine g_iload_n C 2 dX0_weightOfOthers_20 rfl ?_
          refine g_aload_n C 0 dX0_weightOfOthers_21 rfl ?_
          refine g_get_r C ob_4 2 (by decide) rfl wd_60 dX0_weightOfOthers_22 ?_
          refine g_iload_n C 3 dX0_weightOfOthers_25 rfl ?_
          refine g_cV1 C (As := [.int (nI i)]) (w := .int (mem 6 i)) (mem3 := mem) iX6_at (c_X6_at l G mem ob_5 ar_6 (by decide) (by omega)) wd_376 ob_5 rfl ⟨Nat.le_of_ble_eq_true rfl, Nat.le_of_ble_eq_true rfl⟩ ⟨rfl, rfl⟩ rfl (Nat.le_of_ble_eq_true rfl) dX0_weightOfOthers_26 (rfl) (rfl) ?_
          refine g_top (y := nI (W i)) (hw i hi2) ?_
          refine g_iadd_n C (d := (wSum W ls i) + (W i)) dX0_weightOfOthers_29 rfl ?_
          refine g_istore_n C (L2 := [(2, .int (nI ((wSum W ls i) + (W i)))), (0, .ref (gad G 4)), (1, .int ls), (3, .int (nI i))]) dX0_weightOfOthers_30 (by decide) rfl ?_
          refine g_iinc C (v := nI (i + 1)) (L2 := [(3, .int (nI (i + 1))), (2, .int (nI ((wSum W ls i) + (W i)))), (0, .ref (gad G 4)), (1, .int ls)]) 3 dX0_weightOfOthers_31 rfl (nI_1 _) (by decide) rfl ?_
          refine g_goto C 4 dX0_weightOfOthers_34 (by decide) ?_
          refine g_loc (L2 := [(0, .ref (gad G 4)), (1, .int ls), (2, .int (nI ((wSum W ls i) + (W i)))), (3, .int (nI (i + 1)))]) [2, 3, 1, 0] rfl ?_
          exact g_eq (ih_4 (i + 1) (hi2) (by omega)) (rfl) (gLc rfl (gLc rfl (gLc (congrArg Value.int (by first | rw [wS_t c_17] | rw [wS_f c_17])) (rfl)))) rfl
  refine g_loc (L2 := [(0, .ref (gad G 4)), (1, .int ls), (2, .int (nI 0)), (3, .int (nI 0))]) [2, 3, 1, 0] rfl ?_
  exact g_eq (lp_4 (_ + 1) 0 (Nat.zero_le _) (Nat.lt_succ_self _)) (rfl) (gLc rfl (gLc rfl (gLc (congrArg Value.int (rfl)) (rfl)))) rfl

def rm_X0_memberOfLot : Room := { frames := 1, cells := 0, slots := 0, locals := 21 }
theorem iX0_memberOfLot : gIs yX0_memberOfLot cX0_memberOfLot 5 (some .int) 3 := ⟨⟨wd_460, wd_8, by decide +kernel, by decide +kernel, by decide +kernel⟩, wd_459⟩
set_option maxRecDepth 100000 in
set_option maxHeartbeats 4000000 in
theorem c_X0_memberOfLot (l : Launch) (G : gG) (mem : gM) {n : Nat} {W : Nat → Nat} (hn : mem 4 0 = nI n) (hn10 : n ≤ 10) (hw : ∀ m, m < n → mem 6 m = nI (W m)) (hW : ∀ m, m < n → 1 ≤ W m ∧ W m ≤ 9) (ls : Int32) {lot : Nat} (hlot : lot < wSum W ls n) : gMet l yX0_memberOfLot cX0_memberOfLot 5 (some .int) rm_X0_memberOfLot G [.ref (gad G 4), .int ls, .int (nI lot)] mem (fun a u => a = some (.int (nI (pkM W ls lot n))) ∧ u = mem) := by
  refine g_of (own := RX0) (L0 := [(0, .ref (gad G 4)), (1, .int ls), (2, .int (nI lot))]) (by decide +kernel) rfl (Nat.le_of_ble_eq_true rfl) rfl ?_
  intro p e s m args below meth c C Q hQ
  have hs90 : wSum W ls n ≤ n * 9 := wS_le fun m hm => (hW m hm).2
  refine g_iconst C (nI 0) dX0_memberOfLot_0 (by decide) ?_
  refine g_istore_n C (L2 := [(3, .int (nI 0)), (0, .ref (gad G 4)), (1, .int ls), (2, .int (nI lot))]) dX0_memberOfLot_1 (by decide) rfl ?_
  refine g_iconst C (nI 0) dX0_memberOfLot_2 (by decide) ?_
  refine g_istore C (L2 := [(4, .int (nI 0)), (3, .int (nI 0)), (0, .ref (gad G 4)), (1, .int ls), (2, .int (nI lot))]) dX0_memberOfLot_3 (by decide) rfl ?_
  have lp_5 : ∀ (fu : Nat) (i : Nat), (i ≤ n) → (∀ k, k < i → pkP W ls lot k = false) → n - i < fu → gV p l e rm_X0_memberOfLot s m args below meth c 0 0 Q G 5 mem 5 [(0, .ref (gad G 4)), (1, .int ls), (2, .int (nI lot)), (3, .int (nI (wSum W ls i))), (4, .int (nI i))] [] := by
    intro fu
    induction fu with
    | zero => intro i _ _ hfu; exact absurd hfu (Nat.not_lt_zero _)
    | succ fu ih_5 =>
      intro i hi hno hfu_5
      refine g_iload C 4 dX0_memberOfLot_5 rfl ?_
      refine g_aload_n C 0 dX0_memberOfLot_7 rfl ?_
      refine g_get_i C ob_4 0 (by decide) rfl wd_51 dX0_memberOfLot_8 ?_
      refine g_top (y := nI n) (hn) ?_
      refine g_icmp_ge C 49 dX0_memberOfLot_11 (by decide) (fun c_11 => ?_) (fun c_11 => ?_)
      · have hin : i = n := by have q := (nI_leI (a := n) (b := i) (by omega) (by omega)).mp c_11; omega
        refine g_iconst C (nI 0) dX0_memberOfLot_49 (by decide) ?_
        refine g_iret C hQ rfl dX0_memberOfLot_50 ?_
        exact absurd (pkm_no (by omega) (hin ▸ hno)) (by omega)
      · have hi2 : i < n := by have q := mt (nI_leI (a := n) (b := i) (by omega) (by omega)).mpr c_11; omega
        refine g_iload_n C 1 dX0_memberOfLot_14 rfl ?_
        refine g_iload C 4 dX0_memberOfLot_15 rfl ?_
        refine g_cS1 C (As := [.int ls, .int (nI i)]) (w := .int (b2i (hs ls i))) (mem3 := mem) iX4_has (c_X4_has l G mem ls i) wd_446 rfl ⟨Nat.le_of_ble_eq_true rfl, Nat.le_of_ble_eq_true rfl⟩ ⟨rfl, rfl⟩ rfl (Nat.le_of_ble_eq_true rfl) dX0_memberOfLot_17 (rfl) (rfl) ?_
        refine g_ifb_ne C 43 dX0_memberOfLot_20 (by decide) (fun c_20 => ?_) (fun c_20 => ?_)
        · refine g_iinc C (v := nI (i + 1)) (L2 := [(4, .int (nI (i + 1))), (0, .ref (gad G 4)), (1, .int ls), (2, .int (nI lot)), (3, .int (nI (wSum W ls i)))]) 4 dX0_memberOfLot_43 rfl (nI_1 _) (by decide) rfl ?_
          refine g_goto C 5 dX0_memberOfLot_46 (by decide) ?_
          refine g_loc (L2 := [(0, .ref (gad G 4)), (1, .int ls), (2, .int (nI lot)), (3, .int (nI (wSum W ls i))), (4, .int (nI (i + 1)))]) [1, 2, 3, 4, 0] rfl ?_
          exact g_eq (ih_5 (i + 1) (hi2) (by
      intro k hk
      by_cases e : k = i
      · subst e
        unfold pkP
        first
          | (rw [(hs_bt (by omega)).mp c_20]; rfl)
          | (rw [decide_eq_false c_37, Bool.and_false])
      · exact hno k (by omega)) (by omega)) (rfl) (gLc rfl (gLc rfl (gLc rfl (gLc (congrArg Value.int (by first | rw [wS_t c_20] | rw [wS_f c_20])) (rfl))))) rfl
        · have hmo := wS_mono (W := W) (ls := ls) (a := i + 1) (n := n) hi2
          have hsf := wS_f (W := W) c_20
          have hbt := (nhs_bt (by omega)).mp c_20
          refine g_iload_n C 3 dX0_memberOfLot_23 rfl ?_
          refine g_aload_n C 0 dX0_memberOfLot_24 rfl ?_
          refine g_get_r C ob_4 2 (by decide) rfl wd_60 dX0_memberOfLot_25 ?_
          refine g_iload C 4 dX0_memberOfLot_28 rfl ?_
          refine g_cV1 C (As := [.int (nI i)]) (w := .int (mem 6 i)) (mem3 := mem) iX6_at (c_X6_at l G mem ob_5 ar_6 (by decide) (by omega)) wd_376 ob_5 rfl ⟨Nat.le_of_ble_eq_true rfl, Nat.le_of_ble_eq_true rfl⟩ ⟨rfl, rfl⟩ rfl (Nat.le_of_ble_eq_true rfl) dX0_memberOfLot_30 (rfl) (rfl) ?_
          refine g_top (y := nI (W i)) (hw i hi2) ?_
          refine g_iadd_n C (d := (wSum W ls i) + (W i)) dX0_memberOfLot_33 rfl ?_
          refine g_istore_n C (L2 := [(3, .int (nI ((wSum W ls i) + (W i)))), (0, .ref (gad G 4)), (1, .int ls), (2, .int (nI lot)), (4, .int (nI i))]) dX0_memberOfLot_34 (by decide) rfl ?_
          refine g_iload_n C 0 dX0_memberOfLot_35 rfl ?_
          refine g_iload_n C 3 dX0_memberOfLot_36 rfl ?_
          refine g_icmp_le C 43 dX0_memberOfLot_37 (by decide) (fun c_37 => ?_) (fun c_37 => ?_)
          · have c_37 : ¬ lot < wSum W ls (i + 1) := by have q := (nI_leI (by omega) (by omega)).mp c_37; omega
            refine g_iinc C (v := nI (i + 1)) (L2 := [(4, .int (nI (i + 1))), (3, .int (nI ((wSum W ls i) + (W i)))), (0, .ref (gad G 4)), (1, .int ls), (2, .int (nI lot))]) 4 dX0_memberOfLot_43 rfl (nI_1 _) (by decide) rfl ?_
            refine g_goto C 5 dX0_memberOfLot_46 (by decide) ?_
            refine g_loc (L2 := [(0, .ref (gad G 4)), (1, .int ls), (2, .int (nI lot)), (3, .int (nI ((wSum W ls i) + (W i)))), (4, .int (nI (i + 1)))]) [2, 3, 4, 1, 0] rfl ?_
            exact g_eq (ih_5 (i + 1) (hi2) (by
      intro k hk
      by_cases e : k = i
      · subst e
        unfold pkP
        first
          | (rw [(hs_bt (by omega)).mp c_20]; rfl)
          | (rw [decide_eq_false c_37, Bool.and_false])
      · exact hno k (by omega)) (by omega)) (rfl) (gLc rfl (gLc rfl (gLc rfl (gLc (congrArg Value.int (by first | rw [wS_t c_20] | rw [wS_f c_20])) (rfl))))) rfl
          · have c_37 : lot < wSum W ls (i + 1) := by have q := mt (nI_leI (by omega) (by omega)).mpr c_37; omega
            refine g_iload C 4 dX0_memberOfLot_40 rfl ?_
            refine g_iret C hQ rfl dX0_memberOfLot_42 ?_
            exact ⟨by rw [pkM, fa_first_is hno (by unfold pkP; rw [hbt, decide_eq_true c_37]; rfl) hi2], rfl⟩
  refine g_loc (L2 := [(0, .ref (gad G 4)), (1, .int ls), (2, .int (nI lot)), (3, .int (nI 0)), (4, .int (nI 0))]) [2, 3, 4, 1, 0] rfl ?_
  exact g_eq (lp_5 (_ + 1) 0 (Nat.zero_le _) (fun k hk => absurd hk (Nat.not_lt_zero k)) (Nat.lt_succ_self _)) (rfl) (gLc rfl (gLc rfl (gLc rfl (gLc (congrArg Value.int (rfl)) (rfl))))) rfl

def rm_X0_drawList : Room := { frames := 2, cells := 0, slots := 0, locals := 45 }
theorem iX0_drawList : gIv yX0_drawList cX0_drawList 7 none 1 := ⟨⟨wd_451, wd_8, by decide +kernel, by decide +kernel, by decide +kernel⟩, wd_449, wd_450⟩
set_option maxRecDepth 100000 in
set_option maxHeartbeats 4000000 in
theorem c_X0_drawList_21 (l : Launch) (G : gG) (mem : gM) {n : Nat} {W : Nat → Nat} (hn : mem 4 0 = nI n) (hn10 : n ≤ 10) (hw : ∀ m, m < n → mem 6 m = nI (W m)) (hW : ∀ m, m < n → 1 ≤ W m ∧ W m ≤ 9) : gMet l yX0_drawList cX0_drawList 7 none rm_X0_drawList G [.ref (gad G 21), .ref (gad G 4)] mem (fun a u => a = none ∧ u = gr (gr mem 23 (cpy n (fun k => nI (dM W n (mem 21 1) k)) (mem 23))) 21 (upd (mem 21) 2 (nI n))) := by
  refine g_of (own := RX0) (L0 := [(0, .ref (gad G 21)), (1, .ref (gad G 4))]) (by decide +kernel) rfl (Nat.le_of_ble_eq_true rfl) rfl ?_
  intro p e s m args below meth c C Q hQ
  have hdr := dr_all (W := W) (n := n) (by omega) (fun m hm => (hW m hm).1) (mem 21 1)
  refine g_aload_n C 0 dX0_drawList_0 rfl ?_
  refine g_get_i C ob_21 1 (by decide) rfl wd_112 dX0_drawList_1 ?_
  refine g_istore_n C (L2 := [(2, .int (mem 21 1)), (0, .ref (gad G 21)), (1, .ref (gad G 4))]) dX0_drawList_4 (by decide) rfl ?_
  refine g_iconst C (nI 0) dX0_drawList_5 (by decide) ?_
  refine g_istore_n C (L2 := [(3, .int (nI 0)), (2, .int (mem 21 1)), (0, .ref (gad G 21)), (1, .ref (gad G 4))]) dX0_drawList_6 (by decide) rfl ?_
  refine g_iconst C (nI 0) dX0_drawList_7 (by decide) ?_
  refine g_istore C (L2 := [(4, .int (nI 0)), (3, .int (nI 0)), (2, .int (mem 21 1)), (0, .ref (gad G 21)), (1, .ref (gad G 4))]) dX0_drawList_8 (by decide) rfl ?_
  have lp_10 : ∀ (fu : Nat) (i : Nat), (i ≤ n) → n - i < fu → gV p l e rm_X0_drawList s m args below meth c 0 0 Q G 7 (gr mem 23 (cpy i (fun k => nI (dM W n (mem 21 1) k)) (mem 23))) 10 [(0, .ref (gad G 21)), (1, .ref (gad G 4)), (2, .int (dSt (mem 21 1) i)), (3, .int (dLs W n (mem 21 1) i)), (4, .int (nI i))] [] := by
    intro fu
    induction fu with
    | zero => intro i _ hfu; exact absurd hfu (Nat.not_lt_zero _)
    | succ fu ih_10 =>
      intro i hi hfu_10
      refine g_iload C 4 dX0_drawList_10 rfl ?_
      refine g_aload_n C 1 dX0_drawList_12 rfl ?_
      refine g_get_i C ob_4 0 (by decide) rfl wd_51 dX0_drawList_13 ?_
      refine g_top (y := mem 4 0) (rfl) ?_
      refine g_top (y := nI n) (hn) ?_
      refine g_icmp_ge C 68 dX0_drawList_16 (by decide) (fun c_16 => ?_) (fun c_16 => ?_)
      · have hin : i = n := by have q := (nI_leI (a := n) (b := i) (by omega) (by omega)).mp c_16; omega
        refine g_aload_n C 0 dX0_drawList_68 rfl ?_
        refine g_aload_n C 1 dX0_drawList_69 rfl ?_
        refine g_get_i C ob_4 0 (by decide) rfl wd_51 dX0_drawList_70 ?_
        refine g_top (y := mem 4 0) (rfl) ?_
        refine g_top (y := nI n) (hn) ?_
        refine g_put_i C ob_21 2 (by decide) rfl wd_115 rfl rfl dX0_drawList_73 ?_
        refine g_vret C hQ rfl dX0_drawList_76 ?_
        exact ⟨rfl, by rw [hin]; rfl⟩
      · have hi2 : i < n := by have q := mt (nI_leI (a := n) (b := i) (by omega) (by omega)).mpr c_16; omega
        refine g_iload_n C 2 dX0_drawList_19 rfl ?_
        refine g_cS1 C (As := [.int (dSt (mem 21 1) i)]) (w := .int (mixI (dSt (mem 21 1) i))) (mem3 := gr mem 23 (cpy i (fun k => nI (dM W n (mem 21 1) k)) (mem 23))) iX4_mixed (c_X4_mixed l G (gr mem 23 (cpy i (fun k => nI (dM W n (mem 21 1) k)) (mem 23))) (dSt (mem 21 1) i)) wd_447 rfl ⟨Nat.le_of_ble_eq_true rfl, Nat.le_of_ble_eq_true rfl⟩ ⟨rfl, rfl⟩ rfl (Nat.le_of_ble_eq_true rfl) dX0_drawList_20 (rfl) (rfl) ?_
        refine g_top (y := dSt (mem 21 1) (i + 1)) (rfl) ?_
        refine g_istore_n C (L2 := [(2, .int (dSt (mem 21 1) (i + 1))), (0, .ref (gad G 21)), (1, .ref (gad G 4)), (3, .int (dLs W n (mem 21 1) i)), (4, .int (nI i))]) dX0_drawList_23 (by decide) rfl ?_
        have hp0 := (hdr i (by omega)).2.2.2 hi2
        refine g_iload_n C 0 dX0_drawList_24 rfl ?_
        refine g_aload_n C 2 dX0_drawList_25 rfl ?_
        refine g_iload_n C 3 dX0_drawList_26 rfl ?_
        refine g_cS1 C (As := [.ref (gad G 4), .int (dLs W n (mem 21 1) i)]) (w := .int (nI (wSum W (dLs W n (mem 21 1) i) n))) (mem3 := gr mem 23 (cpy i (fun k => nI (dM W n (mem 21 1) k)) (mem 23))) iX0_weightOfOthers (c_X0_weightOfOthers l G (gr mem 23 (cpy i (fun k => nI (dM W n (mem 21 1) k)) (mem 23))) hn hn10 hw hW (dLs W n (mem 21 1) i)) wd_452 rfl ⟨Nat.le_of_ble_eq_true rfl, Nat.le_of_ble_eq_true rfl⟩ ⟨rfl, rfl⟩ rfl (Nat.le_of_ble_eq_true rfl) dX0_drawList_27 (rfl) (rfl) ?_
        refine g_cS1 C (As := [.int (dSt (mem 21 1) (i + 1)), .int (nI (wSum W (dLs W n (mem 21 1) i) n))]) (w := .int (nI (lotN (dSt (mem 21 1) (i + 1)) (wSum W (dLs W n (mem 21 1) i) n)))) (mem3 := gr mem 23 (cpy i (fun k => nI (dM W n (mem 21 1) k)) (mem 23))) iX4_lot (c_X4_lot l G (gr mem 23 (cpy i (fun k => nI (dM W n (mem 21 1) k)) (mem 23))) (dSt (mem 21 1) (i + 1)) (nI (wSum W (dLs W n (mem 21 1) i) n))) wd_455 rfl ⟨Nat.le_of_ble_eq_true rfl, Nat.le_of_ble_eq_true rfl⟩ ⟨rfl, rfl⟩ rfl (Nat.le_of_ble_eq_true rfl) dX0_drawList_30 (congrArg Value.int (lot_n _ (hp0) (by have q : wSum W (dLs W n (mem 21 1) i) n ≤ n * 9 := wS_le fun m hm => (hW m hm).2; omega))) (rfl) ?_
        refine g_istore C (L2 := [(5, .int (nI (lotN (dSt (mem 21 1) (i + 1)) (wSum W (dLs W n (mem 21 1) i) n)))), (2, .int (dSt (mem 21 1) (i + 1))), (0, .ref (gad G 21)), (1, .ref (gad G 4)), (3, .int (dLs W n (mem 21 1) i)), (4, .int (nI i))]) dX0_drawList_33 (by decide) rfl ?_
        refine g_aload_n C 3 dX0_drawList_35 rfl ?_
        refine g_iload_n C 4 dX0_drawList_36 rfl ?_
        refine g_iload C 0 dX0_drawList_37 rfl ?_
        refine g_cS1 C (As := [.ref (gad G 4), .int (dLs W n (mem 21 1) i), .int (nI (lotN (dSt (mem 21 1) (i + 1)) (wSum W (dLs W n (mem 21 1) i) n)))]) (w := .int (nI (pkM W (dLs W n (mem 21 1) i) (lotN (dSt (mem 21 1) (i + 1)) (wSum W (dLs W n (mem 21 1) i) n)) n))) (mem3 := gr mem 23 (cpy i (fun k => nI (dM W n (mem 21 1) k)) (mem 23))) iX0_memberOfLot (c_X0_memberOfLot l G (gr mem 23 (cpy i (fun k => nI (dM W n (mem 21 1) k)) (mem 23))) hn hn10 hw hW (dLs W n (mem 21 1) i) (lotN_lt _ hp0)) wd_458 rfl ⟨Nat.le_of_ble_eq_true rfl, Nat.le_of_ble_eq_true rfl⟩ ⟨rfl, rfl⟩ rfl (Nat.le_of_ble_eq_true rfl) dX0_drawList_39 (rfl) (rfl) ?_
        refine g_top (y := nI (dM W n (mem 21 1) i)) (rfl) ?_
        refine g_istore C (L2 := [(6, .int (nI (dM W n (mem 21 1) i))), (5, .int (nI (lotN (dSt (mem 21 1) (i + 1)) (wSum W (dLs W n (mem 21 1) i) n)))), (2, .int (dSt (mem 21 1) (i + 1))), (0, .ref (gad G 21)), (1, .ref (gad G 4)), (3, .int (dLs W n (mem 21 1) i)), (4, .int (nI i))]) dX0_drawList_42 (by decide) rfl ?_
        refine g_aload_n C 3 dX0_drawList_44 rfl ?_
        refine g_get_r C ob_21 3 (by decide) rfl wd_118 dX0_drawList_45 ?_
        refine g_iload C 6 dX0_drawList_48 rfl ?_
        refine g_iload C 0 dX0_drawList_50 rfl ?_
        refine g_cV0 C (As := [.int (nI i), .int (nI (dM W n (mem 21 1) i))]) (mem3 := gr (gr mem 23 (cpy i (fun k => nI (dM W n (mem 21 1) k)) (mem 23))) 23 (upd (cpy i (fun k => nI (dM W n (mem 21 1) k)) (mem 23)) i (nI (dM W n (mem 21 1) i)))) iX6_put (c_X6_put l G (gr mem 23 (cpy i (fun k => nI (dM W n (mem 21 1) k)) (mem 23))) ob_22 ar_23 (by decide) (by omega) (nI (dM W n (mem 21 1) i))) wd_461 ob_22 rfl ⟨Nat.le_of_ble_eq_true rfl, Nat.le_of_ble_eq_true rfl⟩ ⟨rfl, rfl⟩ rfl (Nat.le_of_ble_eq_true rfl) dX0_drawList_52 (rfl) ?_
        refine g_mem (mem2 := gr mem 23 (upd (cpy i (fun k => nI (dM W n (mem 21 1) k)) (mem 23)) i (nI (dM W n (mem 21 1) i)))) (gr_gr _ _ _ _) ?_
        refine g_iload_n C 5 dX0_drawList_55 rfl ?_
        refine g_iconst C (nI 1) dX0_drawList_56 (by decide) ?_
        refine g_iload C 0 dX0_drawList_57 rfl ?_
        refine g_ishl C dX0_drawList_59 ?_
        refine g_ior C dX0_drawList_60 ?_
        refine g_istore_n C (L2 := [(3, .int ((dLs W n (mem 21 1) i) ||| ((nI 1) <<< ((nI (dM W n (mem 21 1) i)) &&& 31)))), (6, .int (nI (dM W n (mem 21 1) i))), (5, .int (nI (lotN (dSt (mem 21 1) (i + 1)) (wSum W (dLs W n (mem 21 1) i) n)))), (2, .int (dSt (mem 21 1) (i + 1))), (0, .ref (gad G 21)), (1, .ref (gad G 4)), (4, .int (nI i))]) dX0_drawList_61 (by decide) rfl ?_
        refine g_iinc C (v := nI (i + 1)) (L2 := [(4, .int (nI (i + 1))), (3, .int ((dLs W n (mem 21 1) i) ||| ((nI 1) <<< ((nI (dM W n (mem 21 1) i)) &&& 31)))), (6, .int (nI (dM W n (mem 21 1) i))), (5, .int (nI (lotN (dSt (mem 21 1) (i + 1)) (wSum W (dLs W n (mem 21 1) i) n)))), (2, .int (dSt (mem 21 1) (i + 1))), (0, .ref (gad G 21)), (1, .ref (gad G 4))]) 6 dX0_drawList_62 rfl (nI_1 _) (by decide) rfl ?_
        refine g_goto C 10 dX0_drawList_65 (by decide) ?_
        refine g_loc (L2 := [(0, .ref (gad G 21)), (1, .ref (gad G 4)), (2, .int (dSt (mem 21 1) (i + 1))), (3, .int ((dLs W n (mem 21 1) i) ||| ((nI 1) <<< ((nI (dM W n (mem 21 1) i)) &&& 31)))), (4, .int (nI (i + 1)))]) [5, 6, 4, 1, 0] rfl ?_
        exact g_eq (ih_10 (i + 1) (hi2) (by omega)) (by rw [cpy_s (f := fun k => nI (dM W n (mem 21 1) k)) rfl]) (gLc rfl (gLc rfl (gLc rfl (gLc (congrArg Value.int (rfl)) (rfl))))) rfl
  refine g_loc (L2 := [(0, .ref (gad G 21)), (1, .ref (gad G 4)), (2, .int (mem 21 1)), (3, .int (nI 0)), (4, .int (nI 0))]) [3, 4, 2, 1, 0] rfl ?_
  exact g_eq (lp_10 (_ + 1) 0 (Nat.zero_le _) (Nat.lt_succ_self _)) (by rw [cpy_0, gr_self]) (gLc rfl (gLc rfl (gLc (congrArg Value.int (rfl)) (gLc (congrArg Value.int (rfl)) (rfl))))) rfl

def rm_X0_drawNext : Room := { frames := 3, cells := 0, slots := 0, locals := 71 }
theorem iX0_drawNext : gIv yX0_drawNext cX0_drawNext 5 none 3 := ⟨⟨wd_445, wd_8, by decide +kernel, by decide +kernel, by decide +kernel⟩, wd_443, wd_444⟩
set_option maxRecDepth 100000 in
set_option maxHeartbeats 4000000 in
theorem c_X0_drawNext_21 (l : Launch) (G : gG) (mem : gM) {n : Nat} {W : Nat → Nat} (hn : mem 4 0 = nI n) (hn10 : n ≤ 10) (hw : ∀ m, m < n → mem 6 m = nI (W m)) (hW : ∀ m, m < n → 1 ≤ W m ∧ W m ≤ 9) (x rev : Int32) : gMet l yX0_drawNext cX0_drawNext 5 none rm_X0_drawNext G [.ref (gad G 21), .int x, .ref (gad G 4), .int rev] mem (fun a u => a = none ∧ u = gr (gr mem 21 (upd (upd (upd (mem 21) 0 (x + nI 1)) 1 (sdF rev (mem 20) (x + nI 1) n)) 2 (nI n))) 23 (cpy n (fun k => nI (dM W n (sdF rev (mem 20) (x + nI 1) n) k)) (mem 23))) := by
  refine g_of (own := RX0) (L0 := [(0, .ref (gad G 21)), (1, .int x), (2, .ref (gad G 4)), (3, .int rev)]) (by decide +kernel) rfl (Nat.le_of_ble_eq_true rfl) rfl ?_
  intro p e s m args below meth c C Q hQ
  refine g_aload_n C 0 dX0_drawNext_0 rfl ?_
  refine g_iload_n C 1 dX0_drawNext_1 rfl ?_
  refine g_iconst C (nI 1) dX0_drawNext_2 (by decide) ?_
  refine g_iadd C dX0_drawNext_3 ?_
  refine g_put_i C ob_21 0 (by decide) rfl wd_108 rfl rfl dX0_drawNext_4 ?_
  refine g_aload_n C 0 dX0_drawNext_7 rfl ?_
  refine g_aload_n C 0 dX0_drawNext_8 rfl ?_
  refine g_get_i C ob_21 0 (by decide) rfl wd_108 dX0_drawNext_9 ?_
  refine g_top (y := x + (nI 1)) (rfl) ?_
  refine g_put_i C ob_21 1 (by decide) rfl wd_112 rfl rfl dX0_drawNext_12 ?_
  refine g_mem (mem2 := gr mem 21 (upd (upd (mem 21) 0 (x + (nI 1))) 1 (x + (nI 1)))) (gr_gr _ _ _ _) ?_
  refine g_iconst C (nI 0) dX0_drawNext_15 (by decide) ?_
  refine g_istore C (L2 := [(4, .int (nI 0)), (0, .ref (gad G 21)), (1, .int x), (2, .ref (gad G 4)), (3, .int rev)]) dX0_drawNext_16 (by decide) rfl ?_
  have lp_18 : ∀ (fu : Nat) (i : Nat), (i ≤ n) → n - i < fu → gV p l e rm_X0_drawNext s m args below meth c 0 0 Q G 5 (gr mem 21 (upd (upd (mem 21) 0 (x + nI 1)) 1 (sdF rev (mem 20) (x + nI 1) i))) 18 [(0, .ref (gad G 21)), (1, .int x), (2, .ref (gad G 4)), (3, .int rev), (4, .int (nI i))] [] := by
    intro fu
    induction fu with
    | zero => intro i _ hfu; exact absurd hfu (Nat.not_lt_zero _)
    | succ fu ih_18 =>
      intro i hi hfu_18
      refine g_iload C 4 dX0_drawNext_18 rfl ?_
      refine g_aload_n C 2 dX0_drawNext_20 rfl ?_
      refine g_get_i C ob_4 0 (by decide) rfl wd_51 dX0_drawNext_21 ?_
      refine g_top (y := mem 4 0) (rfl) ?_
      refine g_top (y := nI n) (hn) ?_
      refine g_icmp_ge C 63 dX0_drawNext_24 (by decide) (fun c_24 => ?_) (fun c_24 => ?_)
      · have hin : i = n := by have q := (nI_leI (a := n) (b := i) (by omega) (by omega)).mp c_24; omega
        rw [hin]
        refine g_aload_n C 0 dX0_drawNext_63 rfl ?_
        refine g_aload_n C 2 dX0_drawNext_64 rfl ?_
        refine g_cV0 C (As := [.ref (gad G 4)]) (mem3 := gr (gr mem 21 (upd (upd (upd (mem 21) 0 (x + nI 1)) 1 (sdF rev (mem 20) (x + nI 1) n)) 2 (nI n))) 23 (cpy n (fun k => nI (dM W n (sdF rev (mem 20) (x + nI 1) n) k)) (mem 23))) iX0_drawList (c_X0_drawList_21 l G (gr mem 21 (upd (upd (mem 21) 0 (x + nI 1)) 1 (sdF rev (mem 20) (x + nI 1) n))) hn hn10 hw hW) wd_448 ob_21 rfl ⟨Nat.le_of_ble_eq_true rfl, Nat.le_of_ble_eq_true rfl⟩ ⟨rfl, rfl⟩ rfl (Nat.le_of_ble_eq_true rfl) dX0_drawNext_65 ((gr_comm _ (by decide) _ _).trans (congrArg (fun z => gr z 23 (cpy n (fun k => nI (dM W n (sdF rev (mem 20) (x + nI 1) n) k)) (mem 23))) (gr_gr _ _ _ _))) ?_
        refine g_vret C hQ rfl dX0_drawNext_68 ?_
        exact ⟨rfl, rfl⟩
      · have hi2 : i < n := by have q := mt (nI_leI (a := n) (b := i) (by omega) (by omega)).mpr c_24; omega
        refine g_iload_n C 3 dX0_drawNext_27 rfl ?_
        refine g_iload C 4 dX0_drawNext_28 rfl ?_
        refine g_cS1 C (As := [.int rev, .int (nI i)]) (w := .int (b2i (hs rev i))) (mem3 := gr mem 21 (upd (upd (mem 21) 0 (x + nI 1)) 1 (sdF rev (mem 20) (x + nI 1) i))) iX4_has (c_X4_has l G (gr mem 21 (upd (upd (mem 21) 0 (x + nI 1)) 1 (sdF rev (mem 20) (x + nI 1) i))) rev i) wd_446 rfl ⟨Nat.le_of_ble_eq_true rfl, Nat.le_of_ble_eq_true rfl⟩ ⟨rfl, rfl⟩ rfl (Nat.le_of_ble_eq_true rfl) dX0_drawNext_30 (rfl) (rfl) ?_
        refine g_ifb_eq C 57 dX0_drawNext_33 (by decide) (fun c_33 => ?_) (fun c_33 => ?_)
        · refine g_iinc C (v := nI (i + 1)) (L2 := [(4, .int (nI (i + 1))), (0, .ref (gad G 21)), (1, .int x), (2, .ref (gad G 4)), (3, .int rev)]) 4 dX0_drawNext_57 rfl (nI_1 _) (by decide) rfl ?_
          refine g_goto C 18 dX0_drawNext_60 (by decide) ?_
          refine g_loc (L2 := [(0, .ref (gad G 21)), (1, .int x), (2, .ref (gad G 4)), (3, .int rev), (4, .int (nI (i + 1)))]) [1, 2, 3, 4, 0] rfl ?_
          exact g_eq (ih_18 (i + 1) (hi2) (by omega)) (by first | rw [upd_upd, sd_t c_33] | rw [sd_f c_33]) (rfl) rfl
        · refine g_aload_n C 0 dX0_drawNext_36 rfl ?_
          refine g_aload_n C 0 dX0_drawNext_37 rfl ?_
          refine g_get_i C ob_21 1 (by decide) rfl wd_112 dX0_drawNext_38 ?_
          refine g_top (y := sdF rev (mem 20) (x + nI 1) i) (rfl) ?_
          refine g_aload_n C 2 dX0_drawNext_41 rfl ?_
          refine g_get_r C ob_4 9 (by decide) rfl wd_77 dX0_drawNext_42 ?_
          refine g_iload C 4 dX0_drawNext_45 rfl ?_
          refine g_cV1 C (As := [.int (nI i)]) (w := .int (mem 20 i)) (mem3 := gr mem 21 (upd (upd (mem 21) 0 (x + nI 1)) 1 (sdF rev (mem 20) (x + nI 1) i))) iX6_at (c_X6_at l G (gr mem 21 (upd (upd (mem 21) 0 (x + nI 1)) 1 (sdF rev (mem 20) (x + nI 1) i))) ob_19 ar_20 (by decide) (by omega)) wd_376 ob_19 rfl ⟨Nat.le_of_ble_eq_true rfl, Nat.le_of_ble_eq_true rfl⟩ ⟨rfl, rfl⟩ rfl (Nat.le_of_ble_eq_true rfl) dX0_drawNext_47 (rfl) (rfl) ?_
          refine g_ixor C dX0_drawNext_50 ?_
          refine g_cS1 C (As := [.int ((sdF rev (mem 20) (x + nI 1) i) ^^^ (mem 20 i))]) (w := .int (mixI ((sdF rev (mem 20) (x + nI 1) i) ^^^ (mem 20 i)))) (mem3 := gr mem 21 (upd (upd (mem 21) 0 (x + nI 1)) 1 (sdF rev (mem 20) (x + nI 1) i))) iX4_mixed (c_X4_mixed l G (gr mem 21 (upd (upd (mem 21) 0 (x + nI 1)) 1 (sdF rev (mem 20) (x + nI 1) i))) ((sdF rev (mem 20) (x + nI 1) i) ^^^ (mem 20 i))) wd_447 rfl ⟨Nat.le_of_ble_eq_true rfl, Nat.le_of_ble_eq_true rfl⟩ ⟨rfl, rfl⟩ rfl (Nat.le_of_ble_eq_true rfl) dX0_drawNext_51 (rfl) (rfl) ?_
          refine g_put_i C ob_21 1 (by decide) rfl wd_112 rfl rfl dX0_drawNext_54 ?_
          refine g_mem (mem2 := gr mem 21 (upd (upd (upd (mem 21) 0 (x + nI 1)) 1 (sdF rev (mem 20) (x + nI 1) i)) 1 (mixI ((sdF rev (mem 20) (x + nI 1) i) ^^^ (mem 20 i))))) (gr_gr _ _ _ _) ?_
          refine g_iinc C (v := nI (i + 1)) (L2 := [(4, .int (nI (i + 1))), (0, .ref (gad G 21)), (1, .int x), (2, .ref (gad G 4)), (3, .int rev)]) 4 dX0_drawNext_57 rfl (nI_1 _) (by decide) rfl ?_
          refine g_goto C 18 dX0_drawNext_60 (by decide) ?_
          refine g_loc (L2 := [(0, .ref (gad G 21)), (1, .int x), (2, .ref (gad G 4)), (3, .int rev), (4, .int (nI (i + 1)))]) [1, 2, 3, 4, 0] rfl ?_
          exact g_eq (ih_18 (i + 1) (hi2) (by omega)) (by first | rw [upd_upd, sd_t c_33] | rw [sd_f c_33]) (rfl) rfl
  refine g_loc (L2 := [(0, .ref (gad G 21)), (1, .int x), (2, .ref (gad G 4)), (3, .int rev), (4, .int (nI 0))]) [1, 2, 3, 4, 0] rfl ?_
  exact g_eq (lp_18 (_ + 1) 0 (Nat.zero_le _) (Nat.lt_succ_self _)) (rfl) (rfl) rfl

set_option maxRecDepth 100000 in
set_option maxHeartbeats 4000000 in
theorem c_X0_drawList_151 (l : Launch) (G : gG) (mem : gM) {n : Nat} {W : Nat → Nat} (hn : mem 4 0 = nI n) (hn10 : n ≤ 10) (hw : ∀ m, m < n → mem 6 m = nI (W m)) (hW : ∀ m, m < n → 1 ≤ W m ∧ W m ≤ 9) : gMet l yX0_drawList cX0_drawList 7 none rm_X0_drawList G [.ref (gad G 151), .ref (gad G 4)] mem (fun a u => a = none ∧ u = gr (gr mem 153 (cpy n (fun k => nI (dM W n (mem 151 1) k)) (mem 153))) 151 (upd (mem 151) 2 (nI n))) := by
  refine g_of (own := RX0) (L0 := [(0, .ref (gad G 151)), (1, .ref (gad G 4))]) (by decide +kernel) rfl (Nat.le_of_ble_eq_true rfl) rfl ?_
  intro p e s m args below meth c C Q hQ
  have hdr := dr_all (W := W) (n := n) (by omega) (fun m hm => (hW m hm).1) (mem 151 1)
  refine g_aload_n C 0 dX0_drawList_0 rfl ?_
  refine g_get_i C ob_151 1 (by decide) rfl wd_112 dX0_drawList_1 ?_
  refine g_istore_n C (L2 := [(2, .int (mem 151 1)), (0, .ref (gad G 151)), (1, .ref (gad G 4))]) dX0_drawList_4 (by decide) rfl ?_
  refine g_iconst C (nI 0) dX0_drawList_5 (by decide) ?_
  refine g_istore_n C (L2 := [(3, .int (nI 0)), (2, .int (mem 151 1)), (0, .ref (gad G 151)), (1, .ref (gad G 4))]) dX0_drawList_6 (by decide) rfl ?_
  refine g_iconst C (nI 0) dX0_drawList_7 (by decide) ?_
  refine g_istore C (L2 := [(4, .int (nI 0)), (3, .int (nI 0)), (2, .int (mem 151 1)), (0, .ref (gad G 151)), (1, .ref (gad G 4))]) dX0_drawList_8 (by decide) rfl ?_
  have lp_10 : ∀ (fu : Nat) (i : Nat), (i ≤ n) → n - i < fu → gV p l e rm_X0_drawList s m args below meth c 0 0 Q G 7 (gr mem 153 (cpy i (fun k => nI (dM W n (mem 151 1) k)) (mem 153))) 10 [(0, .ref (gad G 151)), (1, .ref (gad G 4)), (2, .int (dSt (mem 151 1) i)), (3, .int (dLs W n (mem 151 1) i)), (4, .int (nI i))] [] := by
    intro fu
    induction fu with
    | zero => intro i _ hfu; exact absurd hfu (Nat.not_lt_zero _)
    | succ fu ih_10 =>
      intro i hi hfu_10
      refine g_iload C 4 dX0_drawList_10 rfl ?_
      refine g_aload_n C 1 dX0_drawList_12 rfl ?_
      refine g_get_i C ob_4 0 (by decide) rfl wd_51 dX0_drawList_13 ?_
      refine g_top (y := mem 4 0) (rfl) ?_
      refine g_top (y := nI n) (hn) ?_
      refine g_icmp_ge C 68 dX0_drawList_16 (by decide) (fun c_16 => ?_) (fun c_16 => ?_)
      · have hin : i = n := by have q := (nI_leI (a := n) (b := i) (by omega) (by omega)).mp c_16; omega
        refine g_aload_n C 0 dX0_drawList_68 rfl ?_
        refine g_aload_n C 1 dX0_drawList_69 rfl ?_
        refine g_get_i C ob_4 0 (by decide) rfl wd_51 dX0_drawList_70 ?_
        refine g_top (y := mem 4 0) (rfl) ?_
        refine g_top (y := nI n) (hn) ?_
        refine g_put_i C ob_151 2 (by decide) rfl wd_115 rfl rfl dX0_drawList_73 ?_
        refine g_vret C hQ rfl dX0_drawList_76 ?_
        exact ⟨rfl, by rw [hin]; rfl⟩
      · have hi2 : i < n := by have q := mt (nI_leI (a := n) (b := i) (by omega) (by omega)).mpr c_16; omega
        refine g_iload_n C 2 dX0_drawList_19 rfl ?_
        refine g_cS1 C (As := [.int (dSt (mem 151 1) i)]) (w := .int (mixI (dSt (mem 151 1) i))) (mem3 := gr mem 153 (cpy i (fun k => nI (dM W n (mem 151 1) k)) (mem 153))) iX4_mixed (c_X4_mixed l G (gr mem 153 (cpy i (fun k => nI (dM W n (mem 151 1) k)) (mem 153))) (dSt (mem 151 1) i)) wd_447 rfl ⟨Nat.le_of_ble_eq_true rfl, Nat.le_of_ble_eq_true rfl⟩ ⟨rfl, rfl⟩ rfl (Nat.le_of_ble_eq_true rfl) dX0_drawList_20 (rfl) (rfl) ?_
        refine g_top (y := dSt (mem 151 1) (i + 1)) (rfl) ?_
        refine g_istore_n C (L2 := [(2, .int (dSt (mem 151 1) (i + 1))), (0, .ref (gad G 151)), (1, .ref (gad G 4)), (3, .int (dLs W n (mem 151 1) i)), (4, .int (nI i))]) dX0_drawList_23 (by decide) rfl ?_
        have hp0 := (hdr i (by omega)).2.2.2 hi2
        refine g_iload_n C 0 dX0_drawList_24 rfl ?_
        refine g_aload_n C 2 dX0_drawList_25 rfl ?_
        refine g_iload_n C 3 dX0_drawList_26 rfl ?_
        refine g_cS1 C (As := [.ref (gad G 4), .int (dLs W n (mem 151 1) i)]) (w := .int (nI (wSum W (dLs W n (mem 151 1) i) n))) (mem3 := gr mem 153 (cpy i (fun k => nI (dM W n (mem 151 1) k)) (mem 153))) iX0_weightOfOthers (c_X0_weightOfOthers l G (gr mem 153 (cpy i (fun k => nI (dM W n (mem 151 1) k)) (mem 153))) hn hn10 hw hW (dLs W n (mem 151 1) i)) wd_452 rfl ⟨Nat.le_of_ble_eq_true rfl, Nat.le_of_ble_eq_true rfl⟩ ⟨rfl, rfl⟩ rfl (Nat.le_of_ble_eq_true rfl) dX0_drawList_27 (rfl) (rfl) ?_
        refine g_cS1 C (As := [.int (dSt (mem 151 1) (i + 1)), .int (nI (wSum W (dLs W n (mem 151 1) i) n))]) (w := .int (nI (lotN (dSt (mem 151 1) (i + 1)) (wSum W (dLs W n (mem 151 1) i) n)))) (mem3 := gr mem 153 (cpy i (fun k => nI (dM W n (mem 151 1) k)) (mem 153))) iX4_lot (c_X4_lot l G (gr mem 153 (cpy i (fun k => nI (dM W n (mem 151 1) k)) (mem 153))) (dSt (mem 151 1) (i + 1)) (nI (wSum W (dLs W n (mem 151 1) i) n))) wd_455 rfl ⟨Nat.le_of_ble_eq_true rfl, Nat.le_of_ble_eq_true rfl⟩ ⟨rfl, rfl⟩ rfl (Nat.le_of_ble_eq_true rfl) dX0_drawList_30 (congrArg Value.int (lot_n _ (hp0) (by have q : wSum W (dLs W n (mem 151 1) i) n ≤ n * 9 := wS_le fun m hm => (hW m hm).2; omega))) (rfl) ?_
        refine g_istore C (L2 := [(5, .int (nI (lotN (dSt (mem 151 1) (i + 1)) (wSum W (dLs W n (mem 151 1) i) n)))), (2, .int (dSt (mem 151 1) (i + 1))), (0, .ref (gad G 151)), (1, .ref (gad G 4)), (3, .int (dLs W n (mem 151 1) i)), (4, .int (nI i))]) dX0_drawList_33 (by decide) rfl ?_
        refine g_aload_n C 3 dX0_drawList_35 rfl ?_
        refine g_iload_n C 4 dX0_drawList_36 rfl ?_
        refine g_iload C 0 dX0_drawList_37 rfl ?_
        refine g_cS1 C (As := [.ref (gad G 4), .int (dLs W n (mem 151 1) i), .int (nI (lotN (dSt (mem 151 1) (i + 1)) (wSum W (dLs W n (mem 151 1) i) n)))]) (w := .int (nI (pkM W (dLs W n (mem 151 1) i) (lotN (dSt (mem 151 1) (i + 1)) (wSum W (dLs W n (mem 151 1) i) n)) n))) (mem3 := gr mem 153 (cpy i (fun k => nI (dM W n (mem 151 1) k)) (mem 153))) iX0_memberOfLot (c_X0_memberOfLot l G (gr mem 153 (cpy i (fun k => nI (dM W n (mem 151 1) k)) (mem 153))) hn hn10 hw hW (dLs W n (mem 151 1) i) (lotN_lt _ hp0)) wd_458 rfl ⟨Nat.le_of_ble_eq_true rfl, Nat.le_of_ble_eq_true rfl⟩ ⟨rfl, rfl⟩ rfl (Nat.le_of_ble_eq_true rfl) dX0_drawList_39 (rfl) (rfl) ?_
        refine g_top (y := nI (dM W n (mem 151 1) i)) (rfl) ?_
        refine g_istore C (L2 := [(6, .int (nI (dM W n (mem 151 1) i))), (5, .int (nI (lotN (dSt (mem 151 1) (i + 1)) (wSum W (dLs W n (mem 151 1) i) n)))), (2, .int (dSt (mem 151 1) (i + 1))), (0, .ref (gad G 151)), (1, .ref (gad G 4)), (3, .int (dLs W n (mem 151 1) i)), (4, .int (nI i))]) dX0_drawList_42 (by decide) rfl ?_
        refine g_aload_n C 3 dX0_drawList_44 rfl ?_
        refine g_get_r C ob_151 3 (by decide) rfl wd_118 dX0_drawList_45 ?_
        refine g_iload C 6 dX0_drawList_48 rfl ?_
        refine g_iload C 0 dX0_drawList_50 rfl ?_
        refine g_cV0 C (As := [.int (nI i), .int (nI (dM W n (mem 151 1) i))]) (mem3 := gr (gr mem 153 (cpy i (fun k => nI (dM W n (mem 151 1) k)) (mem 153))) 153 (upd (cpy i (fun k => nI (dM W n (mem 151 1) k)) (mem 153)) i (nI (dM W n (mem 151 1) i)))) iX6_put (c_X6_put l G (gr mem 153 (cpy i (fun k => nI (dM W n (mem 151 1) k)) (mem 153))) ob_152 ar_153 (by decide) (by omega) (nI (dM W n (mem 151 1) i))) wd_461 ob_152 rfl ⟨Nat.le_of_ble_eq_true rfl, Nat.le_of_ble_eq_true rfl⟩ ⟨rfl, rfl⟩ rfl (Nat.le_of_ble_eq_true rfl) dX0_drawList_52 (rfl) ?_
        refine g_mem (mem2 := gr mem 153 (upd (cpy i (fun k => nI (dM W n (mem 151 1) k)) (mem 153)) i (nI (dM W n (mem 151 1) i)))) (gr_gr _ _ _ _) ?_
        refine g_iload_n C 5 dX0_drawList_55 rfl ?_
        refine g_iconst C (nI 1) dX0_drawList_56 (by decide) ?_
        refine g_iload C 0 dX0_drawList_57 rfl ?_
        refine g_ishl C dX0_drawList_59 ?_
        refine g_ior C dX0_drawList_60 ?_
        refine g_istore_n C (L2 := [(3, .int ((dLs W n (mem 151 1) i) ||| ((nI 1) <<< ((nI (dM W n (mem 151 1) i)) &&& 31)))), (6, .int (nI (dM W n (mem 151 1) i))), (5, .int (nI (lotN (dSt (mem 151 1) (i + 1)) (wSum W (dLs W n (mem 151 1) i) n)))), (2, .int (dSt (mem 151 1) (i + 1))), (0, .ref (gad G 151)), (1, .ref (gad G 4)), (4, .int (nI i))]) dX0_drawList_61 (by decide) rfl ?_
        refine g_iinc C (v := nI (i + 1)) (L2 := [(4, .int (nI (i + 1))), (3, .int ((dLs W n (mem 151 1) i) ||| ((nI 1) <<< ((nI (dM W n (mem 151 1) i)) &&& 31)))), (6, .int (nI (dM W n (mem 151 1) i))), (5, .int (nI (lotN (dSt (mem 151 1) (i + 1)) (wSum W (dLs W n (mem 151 1) i) n)))), (2, .int (dSt (mem 151 1) (i + 1))), (0, .ref (gad G 151)), (1, .ref (gad G 4))]) 6 dX0_drawList_62 rfl (nI_1 _) (by decide) rfl ?_
        refine g_goto C 10 dX0_drawList_65 (by decide) ?_
        refine g_loc (L2 := [(0, .ref (gad G 151)), (1, .ref (gad G 4)), (2, .int (dSt (mem 151 1) (i + 1))), (3, .int ((dLs W n (mem 151 1) i) ||| ((nI 1) <<< ((nI (dM W n (mem 151 1) i)) &&& 31)))), (4, .int (nI (i + 1)))]) [5, 6, 4, 1, 0] rfl ?_
        exact g_eq (ih_10 (i + 1) (hi2) (by omega)) (by rw [cpy_s (f := fun k => nI (dM W n (mem 151 1) k)) rfl]) (gLc rfl (gLc rfl (gLc rfl (gLc (congrArg Value.int (rfl)) (rfl))))) rfl
  refine g_loc (L2 := [(0, .ref (gad G 151)), (1, .ref (gad G 4)), (2, .int (mem 151 1)), (3, .int (nI 0)), (4, .int (nI 0))]) [3, 4, 2, 1, 0] rfl ?_
  exact g_eq (lp_10 (_ + 1) 0 (Nat.zero_le _) (Nat.lt_succ_self _)) (by rw [cpy_0, gr_self]) (gLc rfl (gLc rfl (gLc (congrArg Value.int (rfl)) (gLc (congrArg Value.int (rfl)) (rfl))))) rfl

set_option maxRecDepth 100000 in
set_option maxHeartbeats 4000000 in
theorem c_X0_drawNext_151 (l : Launch) (G : gG) (mem : gM) {n : Nat} {W : Nat → Nat} (hn : mem 4 0 = nI n) (hn10 : n ≤ 10) (hw : ∀ m, m < n → mem 6 m = nI (W m)) (hW : ∀ m, m < n → 1 ≤ W m ∧ W m ≤ 9) (x rev : Int32) : gMet l yX0_drawNext cX0_drawNext 5 none rm_X0_drawNext G [.ref (gad G 151), .int x, .ref (gad G 4), .int rev] mem (fun a u => a = none ∧ u = gr (gr mem 151 (upd (upd (upd (mem 151) 0 (x + nI 1)) 1 (sdF rev (mem 20) (x + nI 1) n)) 2 (nI n))) 153 (cpy n (fun k => nI (dM W n (sdF rev (mem 20) (x + nI 1) n) k)) (mem 153))) := by
  refine g_of (own := RX0) (L0 := [(0, .ref (gad G 151)), (1, .int x), (2, .ref (gad G 4)), (3, .int rev)]) (by decide +kernel) rfl (Nat.le_of_ble_eq_true rfl) rfl ?_
  intro p e s m args below meth c C Q hQ
  refine g_aload_n C 0 dX0_drawNext_0 rfl ?_
  refine g_iload_n C 1 dX0_drawNext_1 rfl ?_
  refine g_iconst C (nI 1) dX0_drawNext_2 (by decide) ?_
  refine g_iadd C dX0_drawNext_3 ?_
  refine g_put_i C ob_151 0 (by decide) rfl wd_108 rfl rfl dX0_drawNext_4 ?_
  refine g_aload_n C 0 dX0_drawNext_7 rfl ?_
  refine g_aload_n C 0 dX0_drawNext_8 rfl ?_
  refine g_get_i C ob_151 0 (by decide) rfl wd_108 dX0_drawNext_9 ?_
  refine g_top (y := x + (nI 1)) (rfl) ?_
  refine g_put_i C ob_151 1 (by decide) rfl wd_112 rfl rfl dX0_drawNext_12 ?_
  refine g_mem (mem2 := gr mem 151 (upd (upd (mem 151) 0 (x + (nI 1))) 1 (x + (nI 1)))) (gr_gr _ _ _ _) ?_
  refine g_iconst C (nI 0) dX0_drawNext_15 (by decide) ?_
  refine g_istore C (L2 := [(4, .int (nI 0)), (0, .ref (gad G 151)), (1, .int x), (2, .ref (gad G 4)), (3, .int rev)]) dX0_drawNext_16 (by decide) rfl ?_
  have lp_18 : ∀ (fu : Nat) (i : Nat), (i ≤ n) → n - i < fu → gV p l e rm_X0_drawNext s m args below meth c 0 0 Q G 5 (gr mem 151 (upd (upd (mem 151) 0 (x + nI 1)) 1 (sdF rev (mem 20) (x + nI 1) i))) 18 [(0, .ref (gad G 151)), (1, .int x), (2, .ref (gad G 4)), (3, .int rev), (4, .int (nI i))] [] := by
    intro fu
    induction fu with
    | zero => intro i _ hfu; exact absurd hfu (Nat.not_lt_zero _)
    | succ fu ih_18 =>
      intro i hi hfu_18
      refine g_iload C 4 dX0_drawNext_18 rfl ?_
      refine g_aload_n C 2 dX0_drawNext_20 rfl ?_
      refine g_get_i C ob_4 0 (by decide) rfl wd_51 dX0_drawNext_21 ?_
      refine g_top (y := mem 4 0) (rfl) ?_
      refine g_top (y := nI n) (hn) ?_
      refine g_icmp_ge C 63 dX0_drawNext_24 (by decide) (fun c_24 => ?_) (fun c_24 => ?_)
      · have hin : i = n := by have q := (nI_leI (a := n) (b := i) (by omega) (by omega)).mp c_24; omega
        rw [hin]
        refine g_aload_n C 0 dX0_drawNext_63 rfl ?_
        refine g_aload_n C 2 dX0_drawNext_64 rfl ?_
        refine g_cV0 C (As := [.ref (gad G 4)]) (mem3 := gr (gr mem 151 (upd (upd (upd (mem 151) 0 (x + nI 1)) 1 (sdF rev (mem 20) (x + nI 1) n)) 2 (nI n))) 153 (cpy n (fun k => nI (dM W n (sdF rev (mem 20) (x + nI 1) n) k)) (mem 153))) iX0_drawList (c_X0_drawList_151 l G (gr mem 151 (upd (upd (mem 151) 0 (x + nI 1)) 1 (sdF rev (mem 20) (x + nI 1) n))) hn hn10 hw hW) wd_448 ob_151 rfl ⟨Nat.le_of_ble_eq_true rfl, Nat.le_of_ble_eq_true rfl⟩ ⟨rfl, rfl⟩ rfl (Nat.le_of_ble_eq_true rfl) dX0_drawNext_65 ((gr_comm _ (by decide) _ _).trans (congrArg (fun z => gr z 153 (cpy n (fun k => nI (dM W n (sdF rev (mem 20) (x + nI 1) n) k)) (mem 153))) (gr_gr _ _ _ _))) ?_
        refine g_vret C hQ rfl dX0_drawNext_68 ?_
        exact ⟨rfl, rfl⟩
      · have hi2 : i < n := by have q := mt (nI_leI (a := n) (b := i) (by omega) (by omega)).mpr c_24; omega
        refine g_iload_n C 3 dX0_drawNext_27 rfl ?_
        refine g_iload C 4 dX0_drawNext_28 rfl ?_
        refine g_cS1 C (As := [.int rev, .int (nI i)]) (w := .int (b2i (hs rev i))) (mem3 := gr mem 151 (upd (upd (mem 151) 0 (x + nI 1)) 1 (sdF rev (mem 20) (x + nI 1) i))) iX4_has (c_X4_has l G (gr mem 151 (upd (upd (mem 151) 0 (x + nI 1)) 1 (sdF rev (mem 20) (x + nI 1) i))) rev i) wd_446 rfl ⟨Nat.le_of_ble_eq_true rfl, Nat.le_of_ble_eq_true rfl⟩ ⟨rfl, rfl⟩ rfl (Nat.le_of_ble_eq_true rfl) dX0_drawNext_30 (rfl) (rfl) ?_
        refine g_ifb_eq C 57 dX0_drawNext_33 (by decide) (fun c_33 => ?_) (fun c_33 => ?_)
        · refine g_iinc C (v := nI (i + 1)) (L2 := [(4, .int (nI (i + 1))), (0, .ref (gad G 151)), (1, .int x), (2, .ref (gad G 4)), (3, .int rev)]) 4 dX0_drawNext_57 rfl (nI_1 _) (by decide) rfl ?_
          refine g_goto C 18 dX0_drawNext_60 (by decide) ?_
          refine g_loc (L2 := [(0, .ref (gad G 151)), (1, .int x), (2, .ref (gad G 4)), (3, .int rev), (4, .int (nI (i + 1)))]) [1, 2, 3, 4, 0] rfl ?_
          exact g_eq (ih_18 (i + 1) (hi2) (by omega)) (by first | rw [upd_upd, sd_t c_33] | rw [sd_f c_33]) (rfl) rfl
        · refine g_aload_n C 0 dX0_drawNext_36 rfl ?_
          refine g_aload_n C 0 dX0_drawNext_37 rfl ?_
          refine g_get_i C ob_151 1 (by decide) rfl wd_112 dX0_drawNext_38 ?_
          refine g_top (y := sdF rev (mem 20) (x + nI 1) i) (rfl) ?_
          refine g_aload_n C 2 dX0_drawNext_41 rfl ?_
          refine g_get_r C ob_4 9 (by decide) rfl wd_77 dX0_drawNext_42 ?_
          refine g_iload C 4 dX0_drawNext_45 rfl ?_
          refine g_cV1 C (As := [.int (nI i)]) (w := .int (mem 20 i)) (mem3 := gr mem 151 (upd (upd (mem 151) 0 (x + nI 1)) 1 (sdF rev (mem 20) (x + nI 1) i))) iX6_at (c_X6_at l G (gr mem 151 (upd (upd (mem 151) 0 (x + nI 1)) 1 (sdF rev (mem 20) (x + nI 1) i))) ob_19 ar_20 (by decide) (by omega)) wd_376 ob_19 rfl ⟨Nat.le_of_ble_eq_true rfl, Nat.le_of_ble_eq_true rfl⟩ ⟨rfl, rfl⟩ rfl (Nat.le_of_ble_eq_true rfl) dX0_drawNext_47 (rfl) (rfl) ?_
          refine g_ixor C dX0_drawNext_50 ?_
          refine g_cS1 C (As := [.int ((sdF rev (mem 20) (x + nI 1) i) ^^^ (mem 20 i))]) (w := .int (mixI ((sdF rev (mem 20) (x + nI 1) i) ^^^ (mem 20 i)))) (mem3 := gr mem 151 (upd (upd (mem 151) 0 (x + nI 1)) 1 (sdF rev (mem 20) (x + nI 1) i))) iX4_mixed (c_X4_mixed l G (gr mem 151 (upd (upd (mem 151) 0 (x + nI 1)) 1 (sdF rev (mem 20) (x + nI 1) i))) ((sdF rev (mem 20) (x + nI 1) i) ^^^ (mem 20 i))) wd_447 rfl ⟨Nat.le_of_ble_eq_true rfl, Nat.le_of_ble_eq_true rfl⟩ ⟨rfl, rfl⟩ rfl (Nat.le_of_ble_eq_true rfl) dX0_drawNext_51 (rfl) (rfl) ?_
          refine g_put_i C ob_151 1 (by decide) rfl wd_112 rfl rfl dX0_drawNext_54 ?_
          refine g_mem (mem2 := gr mem 151 (upd (upd (upd (mem 151) 0 (x + nI 1)) 1 (sdF rev (mem 20) (x + nI 1) i)) 1 (mixI ((sdF rev (mem 20) (x + nI 1) i) ^^^ (mem 20 i))))) (gr_gr _ _ _ _) ?_
          refine g_iinc C (v := nI (i + 1)) (L2 := [(4, .int (nI (i + 1))), (0, .ref (gad G 151)), (1, .int x), (2, .ref (gad G 4)), (3, .int rev)]) 4 dX0_drawNext_57 rfl (nI_1 _) (by decide) rfl ?_
          refine g_goto C 18 dX0_drawNext_60 (by decide) ?_
          refine g_loc (L2 := [(0, .ref (gad G 151)), (1, .int x), (2, .ref (gad G 4)), (3, .int rev), (4, .int (nI (i + 1)))]) [1, 2, 3, 4, 0] rfl ?_
          exact g_eq (ih_18 (i + 1) (hi2) (by omega)) (by first | rw [upd_upd, sd_t c_33] | rw [sd_f c_33]) (rfl) rfl
  refine g_loc (L2 := [(0, .ref (gad G 151)), (1, .int x), (2, .ref (gad G 4)), (3, .int rev), (4, .int (nI 0))]) [1, 2, 3, 4, 0] rfl ?_
  exact g_eq (lp_18 (_ + 1) 0 (Nat.zero_le _) (Nat.lt_succ_self _)) (rfl) (rfl) rfl

/-- the number at rank x of a list of z, or NONE -/
def atI (f : Nat → Int32) (z : Nat) (x : Int32) : Int32 := if 0 ≤ x ∧ x < nI z then f (toN x) else kNone
theorem atI_n {f : Nat → Int32} {z j : Nat} (hz : z < 2 ^ 31) (h : j < z) : atI f z (nI j) = f j := by
  unfold atI
  rw [if_pos ⟨nI_pos' (by omega), nI_lt h hz⟩, toN_nI (by omega)]

def rm_X0_memberAt : Room := { frames := 1, cells := 0, slots := 0, locals := 21 }
theorem iX0_memberAt : gIv yX0_memberAt cX0_memberAt 2 (some .int) 1 := ⟨⟨wd_478, wd_8, by decide +kernel, by decide +kernel, by decide +kernel⟩, wd_476, wd_477⟩
set_option maxRecDepth 100000 in
set_option maxHeartbeats 4000000 in
theorem c_X0_memberAt_21 (l : Launch) (G : gG) (mem : gM) {z : Nat} (hz : mem 21 2 = nI z) (hz10 : z ≤ 10) (x : Int32) : gMet l yX0_memberAt cX0_memberAt 2 (some .int) rm_X0_memberAt G [.ref (gad G 21), .int x] mem (fun a u => a = some (.int (atI (mem 23) z x)) ∧ u = mem) := by
  refine g_of (own := RX0) (L0 := [(0, .ref (gad G 21)), (1, .int x)]) (by decide +kernel) rfl (Nat.le_of_ble_eq_true rfl) rfl ?_
  intro p e s m args below meth c C Q hQ
  refine g_iload_n C 1 dX0_memberAt_0 rfl ?_
  refine g_if_lt C 23 dX0_memberAt_1 (by decide) (fun c_1 => ?_) (fun c_1 => ?_)
  · refine g_ldc C wd_377 dX0_memberAt_23 ?_
    refine g_iret C hQ rfl dX0_memberAt_25 ?_
    first
      | exact ⟨by rw [atI_n (by omega) hjz], rfl⟩
      | exact ⟨by rw [atI, if_neg (fun q => absurd c_1 (Int32.not_lt.mpr q.1))], rfl⟩
      | exact ⟨by rw [atI, if_neg (fun q => absurd q.2 (Int32.not_lt.mpr c_9))], rfl⟩
  · have h0 : 0 ≤ x := Int32.not_lt.mp c_1
    refine g_iload_n C 1 dX0_memberAt_4 rfl ?_
    refine g_aload_n C 0 dX0_memberAt_5 rfl ?_
    refine g_get_i C ob_21 2 (by decide) rfl wd_115 dX0_memberAt_6 ?_
    refine g_top (y := nI z) (hz) ?_
    refine g_icmp_ge C 23 dX0_memberAt_9 (by decide) (fun c_9 => ?_) (fun c_9 => ?_)
    · refine g_ldc C wd_377 dX0_memberAt_23 ?_
      refine g_iret C hQ rfl dX0_memberAt_25 ?_
      first
        | exact ⟨by rw [atI_n (by omega) hjz], rfl⟩
        | exact ⟨by rw [atI, if_neg (fun q => absurd c_1 (Int32.not_lt.mpr q.1))], rfl⟩
        | exact ⟨by rw [atI, if_neg (fun q => absurd q.2 (Int32.not_lt.mpr c_9))], rfl⟩
    · have hx := Int32.not_le.mp c_9
      obtain ⟨j, hj31, hj⟩ := nI_of c_1
      have hjz : j < z := by rw [hj] at hx; exact (nI_ltI (by omega) (by omega)).mp hx
      subst hj
      refine g_aload_n C 0 dX0_memberAt_12 rfl ?_
      refine g_get_r C ob_21 3 (by decide) rfl wd_118 dX0_memberAt_13 ?_
      refine g_iload_n C 1 dX0_memberAt_16 rfl ?_
      refine g_cV1 C (As := [.int (nI j)]) (w := .int (mem 23 j)) (mem3 := mem) iX6_at (c_X6_at l G mem ob_22 ar_23 (by decide) (by omega)) wd_376 ob_22 rfl ⟨Nat.le_of_ble_eq_true rfl, Nat.le_of_ble_eq_true rfl⟩ ⟨rfl, rfl⟩ rfl (Nat.le_of_ble_eq_true rfl) dX0_memberAt_17 (rfl) (rfl) ?_
      refine g_goto C 25 dX0_memberAt_20 (by decide) ?_
      refine g_iret C hQ rfl dX0_memberAt_25 ?_
      first
        | exact ⟨by rw [atI_n (by omega) hjz], rfl⟩
        | exact ⟨by rw [atI, if_neg (fun q => absurd c_1 (Int32.not_lt.mpr q.1))], rfl⟩
        | exact ⟨by rw [atI, if_neg (fun q => absurd q.2 (Int32.not_lt.mpr c_9))], rfl⟩

set_option maxRecDepth 100000 in
set_option maxHeartbeats 4000000 in
theorem c_X0_memberAt_151 (l : Launch) (G : gG) (mem : gM) {z : Nat} (hz : mem 151 2 = nI z) (hz10 : z ≤ 10) (x : Int32) : gMet l yX0_memberAt cX0_memberAt 2 (some .int) rm_X0_memberAt G [.ref (gad G 151), .int x] mem (fun a u => a = some (.int (atI (mem 153) z x)) ∧ u = mem) := by
  refine g_of (own := RX0) (L0 := [(0, .ref (gad G 151)), (1, .int x)]) (by decide +kernel) rfl (Nat.le_of_ble_eq_true rfl) rfl ?_
  intro p e s m args below meth c C Q hQ
  refine g_iload_n C 1 dX0_memberAt_0 rfl ?_
  refine g_if_lt C 23 dX0_memberAt_1 (by decide) (fun c_1 => ?_) (fun c_1 => ?_)
  · refine g_ldc C wd_377 dX0_memberAt_23 ?_
    refine g_iret C hQ rfl dX0_memberAt_25 ?_
    first
      | exact ⟨by rw [atI_n (by omega) hjz], rfl⟩
      | exact ⟨by rw [atI, if_neg (fun q => absurd c_1 (Int32.not_lt.mpr q.1))], rfl⟩
      | exact ⟨by rw [atI, if_neg (fun q => absurd q.2 (Int32.not_lt.mpr c_9))], rfl⟩
  · have h0 : 0 ≤ x := Int32.not_lt.mp c_1
    refine g_iload_n C 1 dX0_memberAt_4 rfl ?_
    refine g_aload_n C 0 dX0_memberAt_5 rfl ?_
    refine g_get_i C ob_151 2 (by decide) rfl wd_115 dX0_memberAt_6 ?_
    refine g_top (y := nI z) (hz) ?_
    refine g_icmp_ge C 23 dX0_memberAt_9 (by decide) (fun c_9 => ?_) (fun c_9 => ?_)
    · refine g_ldc C wd_377 dX0_memberAt_23 ?_
      refine g_iret C hQ rfl dX0_memberAt_25 ?_
      first
        | exact ⟨by rw [atI_n (by omega) hjz], rfl⟩
        | exact ⟨by rw [atI, if_neg (fun q => absurd c_1 (Int32.not_lt.mpr q.1))], rfl⟩
        | exact ⟨by rw [atI, if_neg (fun q => absurd q.2 (Int32.not_lt.mpr c_9))], rfl⟩
    · have hx := Int32.not_le.mp c_9
      obtain ⟨j, hj31, hj⟩ := nI_of c_1
      have hjz : j < z := by rw [hj] at hx; exact (nI_ltI (by omega) (by omega)).mp hx
      subst hj
      refine g_aload_n C 0 dX0_memberAt_12 rfl ?_
      refine g_get_r C ob_151 3 (by decide) rfl wd_118 dX0_memberAt_13 ?_
      refine g_iload_n C 1 dX0_memberAt_16 rfl ?_
      refine g_cV1 C (As := [.int (nI j)]) (w := .int (mem 153 j)) (mem3 := mem) iX6_at (c_X6_at l G mem ob_152 ar_153 (by decide) (by omega)) wd_376 ob_152 rfl ⟨Nat.le_of_ble_eq_true rfl, Nat.le_of_ble_eq_true rfl⟩ ⟨rfl, rfl⟩ rfl (Nat.le_of_ble_eq_true rfl) dX0_memberAt_17 (rfl) (rfl) ?_
      refine g_goto C 25 dX0_memberAt_20 (by decide) ?_
      refine g_iret C hQ rfl dX0_memberAt_25 ?_
      first
        | exact ⟨by rw [atI_n (by omega) hjz], rfl⟩
        | exact ⟨by rw [atI, if_neg (fun q => absurd c_1 (Int32.not_lt.mpr q.1))], rfl⟩
        | exact ⟨by rw [atI, if_neg (fun q => absurd q.2 (Int32.not_lt.mpr c_9))], rfl⟩

def rm_X0_rankOf : Room := { frames := 1, cells := 0, slots := 0, locals := 21 }
theorem iX0_rankOf : gIv yX0_rankOf cX0_rankOf 3 (some .int) 1 := ⟨⟨wd_375, wd_8, by decide +kernel, by decide +kernel, by decide +kernel⟩, wd_373, wd_374⟩
set_option maxRecDepth 100000 in
set_option maxHeartbeats 4000000 in
theorem c_X0_rankOf (l : Launch) (G : gG) {T : Nat} {V : Nat → Int32} (g : Good T V) (mem : gM) (r : Rel V mem) {m1 : Nat} (hm : m1 < vN V) : gMet l yX0_rankOf cX0_rankOf 3 (some .int) rm_X0_rankOf G [.ref (gad G 21), .int (nI m1)] mem (fun a u => a = some (.int (V (34 + 12 * m1))) ∧ u = mem) := by
  refine g_of (own := RX0) (L0 := [(0, .ref (gad G 21)), (1, .int (nI m1))]) (by decide +kernel) rfl (Nat.le_of_ble_eq_true rfl) rfl ?_
  intro p e s m args below meth c C Q hQ
  have hn10 := gd_n10 g
  have hzn := (gd_z g).2
  refine g_iconst C (nI 0) dX0_rankOf_0 (by decide) ?_
  refine g_istore_n C (L2 := [(2, .int (nI 0)), (0, .ref (gad G 21)), (1, .int (nI m1))]) dX0_rankOf_1 (by decide) rfl ?_
  have lp_2 : ∀ (fu : Nat) (i : Nat), (i ≤ vZ V) → (∀ q, q < i → vL V q ≠ m1) → vZ V - i < fu → gV p l e rm_X0_rankOf s m args below meth c 0 0 Q G 3 mem 2 [(0, .ref (gad G 21)), (1, .int (nI m1)), (2, .int (nI i))] [] := by
    intro fu
    induction fu with
    | zero => intro i _ _ hfu; exact absurd hfu (Nat.not_lt_zero _)
    | succ fu ih_2 =>
      intro i hi hno hfu_2
      refine g_iload_n C 2 dX0_rankOf_2 rfl ?_
      refine g_aload_n C 0 dX0_rankOf_3 rfl ?_
      refine g_get_i C ob_21 2 (by decide) rfl wd_115 dX0_rankOf_4 ?_
      refine g_top (y := nI (vZ V)) (r_z r g) ?_
      refine g_icmp_ge C 30 dX0_rankOf_7 (by decide) (fun c_7 => ?_) (fun c_7 => ?_)
      · have hin : i = vZ V := by have q := (nI_leI (a := vZ V) (b := i) (by omega) (by omega)).mp c_7; omega
        refine g_ldc C wd_377 dX0_rankOf_30 ?_
        refine g_iret C hQ rfl dX0_rankOf_32 ?_
        exact ⟨by rw [gd_none g hm (hin ▸ hno)], rfl⟩
      · have hi2 : i < vZ V := by have q := mt (nI_leI (a := vZ V) (b := i) (by omega) (by omega)).mpr c_7; omega
        refine g_aload_n C 0 dX0_rankOf_10 rfl ?_
        refine g_get_r C ob_21 3 (by decide) rfl wd_118 dX0_rankOf_11 ?_
        refine g_iload_n C 2 dX0_rankOf_14 rfl ?_
        refine g_cV1 C (As := [.int (nI i)]) (w := .int (mem 23 i)) (mem3 := mem) iX6_at (c_X6_at l G mem ob_22 ar_23 (by decide) (by omega)) wd_376 ob_22 rfl ⟨Nat.le_of_ble_eq_true rfl, Nat.le_of_ble_eq_true rfl⟩ ⟨rfl, rfl⟩ rfl (Nat.le_of_ble_eq_true rfl) dX0_rankOf_15 (rfl) (rfl) ?_
        refine g_top (y := nI (vL V i)) (r_l r g hi2) ?_
        refine g_iload_n C 1 dX0_rankOf_18 rfl ?_
        refine g_icmp_ne C 24 dX0_rankOf_19 (by decide) (fun c_19 => ?_) (fun c_19 => ?_)
        · refine g_iinc C (v := nI (i + 1)) (L2 := [(2, .int (nI (i + 1))), (0, .ref (gad G 21)), (1, .int (nI m1))]) 2 dX0_rankOf_24 rfl (nI_1 _) (by decide) rfl ?_
          refine g_goto C 2 dX0_rankOf_27 (by decide) ?_
          refine g_loc (L2 := [(0, .ref (gad G 21)), (1, .int (nI m1)), (2, .int (nI (i + 1)))]) [1, 2, 0] rfl ?_
          exact g_eq (ih_2 (i + 1) (hi2) (fun q hq e => (Nat.lt_or_ge q i).elim (fun e2 => hno q e2 e) (fun e2 => c_19 (by rw [show i = q by omega, e]))) (by omega)) (rfl) (rfl) rfl
        · have c_19 : vL V i = m1 := by have q2 := (gd_l g hi2).2.1; exact (nI_iff (by omega) (by omega)).mp c_19
          refine g_iload_n C 2 dX0_rankOf_22 rfl ?_
          refine g_iret C hQ rfl dX0_rankOf_23 ?_
          exact ⟨by rw [← c_19, (gd_l g hi2).2.2], rfl⟩
  refine g_loc (L2 := [(0, .ref (gad G 21)), (1, .int (nI m1)), (2, .int (nI 0))]) [1, 2, 0] rfl ?_
  exact g_eq (lp_2 (_ + 1) 0 (Nat.zero_le _) (fun q hq => absurd hq (Nat.not_lt_zero q)) (Nat.lt_succ_self _)) (rfl) (rfl) rfl
