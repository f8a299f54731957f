def rm_J6_bitCount_0f7a4 : Room := { frames := 0, cells := 0, slots := 0, locals := 0 }
theorem iJ6_bitCount_0f7a4 : gIs yJ6_bitCount_0f7a4 cJ6_bitCount_0f7a4 1 (some .int) 1 := ⟨⟨wd_438, wd_15, by decide +kernel, by decide +kernel, by decide +kernel⟩, wd_437⟩
set_option maxRecDepth 100000 in
set_option maxHeartbeats 4000000 in
theorem c_bc (l : Launch) (G : gG) (mem : gM) (x : Int32) : gMet l yJ6_bitCount_0f7a4 cJ6_bitCount_0f7a4 1 (some .int) rm_J6_bitCount_0f7a4 G [.int x] mem (fun a u => a = some (.int (bcI x)) ∧ u = mem) := by
  refine g_of (own := RJ6) (L0 := [(0, .int x)]) (by decide +kernel) rfl (Nat.le_of_ble_eq_true rfl) rfl ?_
  intro p e s m args below meth c C Q hQ
  refine g_iload_n C 0 dJ6_bitCount_0f7a4_0 rfl ?_
  refine g_iload_n C 0 dJ6_bitCount_0f7a4_1 rfl ?_
  refine g_iconst C (nI 1) dJ6_bitCount_0f7a4_2 (by decide) ?_
  refine g_iushr C dJ6_bitCount_0f7a4_3 ?_
  refine g_ldcw C wd_439 dJ6_bitCount_0f7a4_4 ?_
  refine g_iand C dJ6_bitCount_0f7a4_7 ?_
  refine g_isub C dJ6_bitCount_0f7a4_8 ?_
  refine g_istore_n C (L2 := [(0, .int (x - ((g_ushr x (nI 1)) &&& (1431655765 : Int32))))]) dJ6_bitCount_0f7a4_9 (by decide) rfl ?_
  refine g_iload_n C 0 dJ6_bitCount_0f7a4_10 rfl ?_
  refine g_ldcw C wd_440 dJ6_bitCount_0f7a4_11 ?_
  refine g_iand C dJ6_bitCount_0f7a4_14 ?_
  refine g_iload_n C 0 dJ6_bitCount_0f7a4_15 rfl ?_
  refine g_iconst C (nI 2) dJ6_bitCount_0f7a4_16 (by decide) ?_
  refine g_iushr C dJ6_bitCount_0f7a4_17 ?_
  refine g_ldcw C wd_440 dJ6_bitCount_0f7a4_18 ?_
  refine g_iand C dJ6_bitCount_0f7a4_21 ?_
  refine g_iadd C dJ6_bitCount_0f7a4_22 ?_
  refine g_istore_n C (L2 := [(0, .int (((x - ((g_ushr x (nI 1)) &&& (1431655765 : Int32))) &&& (858993459 : Int32)) + ((g_ushr (x - ((g_ushr x (nI 1)) &&& (1431655765 : Int32))) (nI 2)) &&& (858993459 : Int32))))]) dJ6_bitCount_0f7a4_23 (by decide) rfl ?_
  refine g_iload_n C 0 dJ6_bitCount_0f7a4_24 rfl ?_
  refine g_iload_n C 0 dJ6_bitCount_0f7a4_25 rfl ?_
  refine g_iconst C (nI 4) dJ6_bitCount_0f7a4_26 (by decide) ?_
  refine g_iushr C dJ6_bitCount_0f7a4_27 ?_
  refine g_iadd C dJ6_bitCount_0f7a4_28 ?_
  refine g_ldcw C wd_441 dJ6_bitCount_0f7a4_29 ?_
  refine g_iand C dJ6_bitCount_0f7a4_32 ?_
  refine g_istore_n C (L2 := [(0, .int (((((x - ((g_ushr x (nI 1)) &&& (1431655765 : Int32))) &&& (858993459 : Int32)) + ((g_ushr (x - ((g_ushr x (nI 1)) &&& (1431655765 : Int32))) (nI 2)) &&& (858993459 : Int32))) + (g_ushr (((x - ((g_ushr x (nI 1)) &&& (1431655765 : Int32))) &&& (858993459 : Int32)) + ((g_ushr (x - ((g_ushr x (nI 1)) &&& (1431655765 : Int32))) (nI 2)) &&& (858993459 : Int32))) (nI 4))) &&& (252645135 : Int32)))]) dJ6_bitCount_0f7a4_33 (by decide) rfl ?_
  refine g_iload_n C 0 dJ6_bitCount_0f7a4_34 rfl ?_
  refine g_iload_n C 0 dJ6_bitCount_0f7a4_35 rfl ?_
  refine g_bipush C (nI 8) dJ6_bitCount_0f7a4_36 (by decide) ?_
  refine g_iushr C dJ6_bitCount_0f7a4_38 ?_
  refine g_iadd C dJ6_bitCount_0f7a4_39 ?_
  refine g_istore_n C (L2 := [(0, .int ((((((x - ((g_ushr x (nI 1)) &&& (1431655765 : Int32))) &&& (858993459 : Int32)) + ((g_ushr (x - ((g_ushr x (nI 1)) &&& (1431655765 : Int32))) (nI 2)) &&& (858993459 : Int32))) + (g_ushr (((x - ((g_ushr x (nI 1)) &&& (1431655765 : Int32))) &&& (858993459 : Int32)) + ((g_ushr (x - ((g_ushr x (nI 1)) &&& (1431655765 : Int32))) (nI 2)) &&& (858993459 : Int32))) (nI 4))) &&& (252645135 : Int32)) + (g_ushr (((((x - ((g_ushr x (nI 1)) &&& (1431655765 : Int32))) &&& (858993459 : Int32)) + ((g_ushr (x - ((g_ushr x (nI 1)) &&& (1431655765 : Int32))) (nI 2)) &&& (858993459 : Int32))) + (g_ushr (((x - ((g_ushr x (nI 1)) &&& (1431655765 : Int32))) &&& (858993459 : Int32)) + ((g_ushr (x - ((g_ushr x (nI 1)) &&& (1431655765 : Int32))) (nI 2)) &&& (858993459 : Int32))) (nI 4))) &&& (252645135 : Int32)) (nI 8))))]) dJ6_bitCount_0f7a4_40 (by decide) rfl ?_
  refine g_iload_n C 0 dJ6_bitCount_0f7a4_41 rfl ?_
  refine g_iload_n C 0 dJ6_bitCount_0f7a4_42 rfl ?_
  refine g_bipush C (nI 16) dJ6_bitCount_0f7a4_43 (by decide) ?_
  refine g_iushr C dJ6_bitCount_0f7a4_45 ?_
  refine g_iadd C dJ6_bitCount_0f7a4_46 ?_
  refine g_istore_n C (L2 := [(0, .int (((((((x - ((g_ushr x (nI 1)) &&& (1431655765 : Int32))) &&& (858993459 : Int32)) + ((g_ushr (x - ((g_ushr x (nI 1)) &&& (1431655765 : Int32))) (nI 2)) &&& (858993459 : Int32))) + (g_ushr (((x - ((g_ushr x (nI 1)) &&& (1431655765 : Int32))) &&& (858993459 : Int32)) + ((g_ushr (x - ((g_ushr x (nI 1)) &&& (1431655765 : Int32))) (nI 2)) &&& (858993459 : Int32))) (nI 4))) &&& (252645135 : Int32)) + (g_ushr (((((x - ((g_ushr x (nI 1)) &&& (1431655765 : Int32))) &&& (858993459 : Int32)) + ((g_ushr (x - ((g_ushr x (nI 1)) &&& (1431655765 : Int32))) (nI 2)) &&& (858993459 : Int32))) + (g_ushr (((x - ((g_ushr x (nI 1)) &&& (1431655765 : Int32))) &&& (858993459 : Int32)) + ((g_ushr (x - ((g_ushr x (nI 1)) &&& (1431655765 : Int32))) (nI 2)) &&& (858993459 : Int32))) (nI 4))) &&& (252645135 : Int32)) (nI 8))) + (g_ushr ((((((x - ((g_ushr x (nI 1)) &&& (1431655765 : Int32))) &&& (858993459 : Int32)) + ((g_ushr (x - ((g_ushr x (nI 1)) &&& (1431655765 : Int32))) (nI 2)) &&& (858993459 : Int32))) + (g_ushr (((x - ((g_ushr x (nI 1)) &&& (1431655765 : Int32))) &&& (858993459 : Int32)) + ((g_ushr (x - ((g_ushr x (nI 1)) &&& (1431655765 : Int32))) (nI 2)) &&& (858993459 : Int32))) (nI 4))) &&& (252645135 : Int32)) + (g_ushr (((((x - ((g_ushr x (nI 1)) &&& (1431655765 : Int32))) &&& (858993459 : Int32)) + ((g_ushr (x - ((g_ushr x (nI 1)) &&& (1431655765 : Int32))) (nI 2)) &&& (858993459 : Int32))) + (g_ushr (((x - ((g_ushr x (nI 1)) &&& (1431655765 : Int32))) &&& (858993459 : Int32)) + ((g_ushr (x - ((g_ushr x (nI 1)) &&& (1431655765 : Int32))) (nI 2)) &&& (858993459 : Int32))) (nI 4))) &&& (252645135 : Int32)) (nI 8))) (nI 16))))]) dJ6_bitCount_0f7a4_47 (by decide) rfl ?_
  refine g_iload_n C 0 dJ6_bitCount_0f7a4_48 rfl ?_
  refine g_bipush C (nI 63) dJ6_bitCount_0f7a4_49 (by decide) ?_
  refine g_iand C dJ6_bitCount_0f7a4_51 ?_
  refine g_iret C hQ rfl dJ6_bitCount_0f7a4_52 ?_
  exact ⟨rfl, rfl⟩

def rm_X3_lives : Room := { frames := 1, cells := 0, slots := 0, locals := 21 }
theorem iX3_lives : gIv yX3_lives cX3_lives 2 (some .boolean) 1 := ⟨⟨wd_360, wd_7, by decide +kernel, by decide +kernel, by decide +kernel⟩, wd_358, wd_359⟩
set_option maxRecDepth 100000 in
set_option maxHeartbeats 4000000 in
theorem c_X3_lives (l : Launch) (G : gG) {T : Nat} {V : Nat → Int32} (g : Good T V) (mem : gM) (r : Rel V mem) {m1 : Nat} (hm : m1 < vN V) : gMet l yX3_lives cX3_lives 2 (some .boolean) rm_X3_lives G [.ref (gad G 4), .int (nI m1)] mem (fun a u => a = some (.int (b2i (vLv V m1 = true))) ∧ u = mem) := by
  refine g_of (own := RX3) (L0 := [(0, .ref (gad G 4)), (1, .int (nI m1))]) (by decide +kernel) rfl (Nat.le_of_ble_eq_true rfl) rfl ?_
  intro p e s m args below meth c C Q hQ
  refine g_aload_n C 0 dX3_lives_0 rfl ?_
  refine g_get_i C ob_4 1 (by decide) rfl wd_56 dX3_lives_1 ?_
  refine g_iload_n C 1 dX3_lives_4 rfl ?_
  refine g_cS1 C (As := [.int (mem 4 1), .int (nI m1)]) (w := .int (b2i (hs (mem 4 1) m1))) (mem3 := mem) iX4_has (c_X4_has l G mem (mem 4 1) m1) wd_361 rfl ⟨Nat.le_of_ble_eq_true rfl, Nat.le_of_ble_eq_true rfl⟩ ⟨rfl, rfl⟩ rfl (Nat.le_of_ble_eq_true rfl) dX3_lives_5 (rfl) (rfl) ?_
  refine g_zret C hQ rfl (b2i_01 _) dX3_lives_8 ?_
  exact ⟨by rw [b2i_congr (P2 := vLv V m1 = true) (by rw [r_lv r]; exact mk_hs (by have := gd_n10 g; omega) hm)], rfl⟩

def rm_X3_distance : Room := { frames := 1, cells := 0, slots := 0, locals := 23 }
theorem iX3_distance : gIv yX3_distance cX3_distance 3 (some .int) 2 := ⟨⟨wd_526, wd_7, by decide +kernel, by decide +kernel, by decide +kernel⟩, wd_524, wd_525⟩
set_option maxRecDepth 100000 in
set_option maxHeartbeats 4000000 in
theorem c_X3_distance (l : Launch) (G : gG) {T : Nat} {V : Nat → Int32} (g : Good T V) (mem : gM) (r : Rel V mem) {m1 m2 : Nat} (h1 : m1 < vN V) (h2 : m2 < vN V) : gMet l yX3_distance cX3_distance 3 (some .int) rm_X3_distance G [.ref (gad G 4), .int (nI m1), .int (nI m2)] mem (fun a u => a = some (.int (nI (dN (vP V m1) (vP V m2)))) ∧ u = mem) := by
  refine g_of (own := RX3) (L0 := [(0, .ref (gad G 4)), (1, .int (nI m1)), (2, .int (nI m2))]) (by decide +kernel) rfl (Nat.le_of_ble_eq_true rfl) rfl ?_
  intro p e s m args below meth c C Q hQ
  have hn10 := gd_n10 g
  have q1 := (gd_p g h1).2
  have q2 := (gd_p g h2).2
  refine g_aload_n C 0 dX3_distance_0 rfl ?_
  refine g_get_r C ob_4 3 (by decide) rfl wd_61 dX3_distance_1 ?_
  refine g_iload_n C 1 dX3_distance_4 rfl ?_
  refine g_cV1 C (As := [.int (nI m1)]) (w := .int (mem 8 m1)) (mem3 := mem) iX6_at (c_X6_at l G mem ob_7 ar_8 (by decide) (by omega)) wd_431 ob_7 rfl ⟨Nat.le_of_ble_eq_true rfl, Nat.le_of_ble_eq_true rfl⟩ ⟨rfl, rfl⟩ rfl (Nat.le_of_ble_eq_true rfl) dX3_distance_5 (rfl) (rfl) ?_
  refine g_top (y := nI (vP V m1)) ((r_p r h1).trans (gd_p g h1).1) ?_
  refine g_aload_n C 0 dX3_distance_8 rfl ?_
  refine g_get_r C ob_4 3 (by decide) rfl wd_61 dX3_distance_9 ?_
  refine g_iload_n C 2 dX3_distance_12 rfl ?_
  refine g_cV1 C (As := [.int (nI m2)]) (w := .int (mem 8 m2)) (mem3 := mem) iX6_at (c_X6_at l G mem ob_7 ar_8 (by decide) (by omega)) wd_431 ob_7 rfl ⟨Nat.le_of_ble_eq_true rfl, Nat.le_of_ble_eq_true rfl⟩ ⟨rfl, rfl⟩ rfl (Nat.le_of_ble_eq_true rfl) dX3_distance_13 (rfl) (rfl) ?_
  refine g_top (y := nI (vP V m2)) ((r_p r h2).trans (gd_p g h2).1) ?_
  refine g_isub C dX3_distance_16 ?_
  refine g_mabs C wd_527 wd_528 wd_13 wd_529 (by decide) (Nat.le_of_ble_eq_true rfl) dX3_distance_17 ?_
  refine g_iret C hQ rfl dX3_distance_20 ?_
  exact ⟨by rw [abs_n (by omega) (by omega)], rfl⟩

def vRR (V : Nat → Int32) (m : Nat) : Bool := decide (V (38 + 12 * m) = nI 2)

def rm_X3_rightReveals : Room := { frames := 1, cells := 0, slots := 0, locals := 21 }
theorem iX3_rightReveals : gIv yX3_rightReveals cX3_rightReveals 3 (some .int) 0 := ⟨⟨wd_430, wd_7, by decide +kernel, by decide +kernel, by decide +kernel⟩, wd_428, wd_429⟩
set_option maxRecDepth 100000 in
set_option maxHeartbeats 4000000 in
theorem c_X3_rightReveals (l : Launch) (G : gG) {T : Nat} {V : Nat → Int32} (g : Good T V) (mem : gM) (r : Rel V mem) : gMet l yX3_rightReveals cX3_rightReveals 3 (some .int) rm_X3_rightReveals G [.ref (gad G 4)] mem (fun a u => a = some (.int (mk (vRR V) (vN V))) ∧ u = mem) := by
  refine g_of (own := RX3) (L0 := [(0, .ref (gad G 4))]) (by decide +kernel) rfl (Nat.le_of_ble_eq_true rfl) rfl ?_
  intro p e s m args below meth c C Q hQ
  have hn10 := gd_n10 g
  refine g_iconst C (nI 0) dX3_rightReveals_0 (by decide) ?_
  refine g_istore_n C (L2 := [(1, .int (nI 0)), (0, .ref (gad G 4))]) dX3_rightReveals_1 (by decide) rfl ?_
  refine g_iconst C (nI 0) dX3_rightReveals_2 (by decide) ?_
  refine g_istore_n C (L2 := [(2, .int (nI 0)), (1, .int (nI 0)), (0, .ref (gad G 4))]) dX3_rightReveals_3 (by decide) rfl ?_
  have lp_4 : ∀ (fu : Nat) (i : Nat), (i ≤ vN V) → vN V - i < fu → gV p l e rm_X3_rightReveals s m args below meth c 0 0 Q G 3 mem 4 [(0, .ref (gad G 4)), (1, .int (mk (vRR V) i)), (2, .int (nI i))] [] := by
    intro fu
    induction fu with
    | zero => intro i _ hfu; exact absurd hfu (Nat.not_lt_zero _)
    | succ fu ih_4 =>
      intro i hi hfu_4
      refine g_iload_n C 2 dX3_rightReveals_4 rfl ?_
      refine g_aload_n C 0 dX3_rightReveals_5 rfl ?_
      refine g_get_i C ob_4 0 (by decide) rfl wd_50 dX3_rightReveals_6 ?_
      refine g_top (y := nI (vN V)) (r_n r g) ?_
      refine g_icmp_ge C 36 dX3_rightReveals_9 (by decide) (fun c_9 => ?_) (fun c_9 => ?_)
      · have hin : i = vN V := by have q := (nI_leI (a := vN V) (b := i) (by omega) (by omega)).mp c_9; omega
        refine g_iload_n C 1 dX3_rightReveals_36 rfl ?_
        refine g_iret C hQ rfl dX3_rightReveals_37 ?_
        exact ⟨by rw [hin], rfl⟩
      · have hi2 : i < vN V := by have q := mt (nI_leI (a := vN V) (b := i) (by omega) (by omega)).mpr c_9; omega
        refine g_aload_n C 0 dX3_rightReveals_12 rfl ?_
        refine g_get_r C ob_4 7 (by decide) rfl wd_72 dX3_rightReveals_13 ?_
        refine g_iload_n C 2 dX3_rightReveals_16 rfl ?_
        refine g_cV1 C (As := [.int (nI i)]) (w := .int (mem 16 i)) (mem3 := mem) iX6_at (c_X6_at l G mem ob_15 ar_16 (by decide) (by omega)) wd_431 ob_15 rfl ⟨Nat.le_of_ble_eq_true rfl, Nat.le_of_ble_eq_true rfl⟩ ⟨rfl, rfl⟩ rfl (Nat.le_of_ble_eq_true rfl) dX3_rightReveals_17 (rfl) (rfl) ?_
        refine g_top (y := V (38 + 12 * i)) (r_st r hi2) ?_
        refine g_iconst C (nI 2) dX3_rightReveals_20 (by decide) ?_
        refine g_icmp_ne C 30 dX3_rightReveals_21 (by decide) (fun c_21 => ?_) (fun c_21 => ?_)
        · refine g_iinc C (v := nI (i + 1)) (L2 := [(2, .int (nI (i + 1))), (0, .ref (gad G 4)), (1, .int (mk (vRR V) i))]) 2 dX3_rightReveals_30 rfl (nI_1 _) (by decide) rfl ?_
          refine g_goto C 4 dX3_rightReveals_33 (by decide) ?_
          refine g_loc (L2 := [(0, .ref (gad G 4)), (1, .int (mk (vRR V) i)), (2, .int (nI (i + 1)))]) [1, 2, 0] rfl ?_
          exact g_eq (ih_4 (i + 1) (hi2) (by omega)) (rfl) (gLc rfl (gLc (congrArg Value.int (by first | exact (mk_t (decide_eq_true c_21)).symm | exact (mk_f (decide_eq_false c_21)).symm)) (rfl))) rfl
        · refine g_iload_n C 1 dX3_rightReveals_24 rfl ?_
          refine g_iconst C (nI 1) dX3_rightReveals_25 (by decide) ?_
          refine g_iload_n C 2 dX3_rightReveals_26 rfl ?_
          refine g_ishl C dX3_rightReveals_27 ?_
          refine g_ior C dX3_rightReveals_28 ?_
          refine g_istore_n C (L2 := [(1, .int ((mk (vRR V) i) ||| ((nI 1) <<< ((nI i) &&& 31)))), (0, .ref (gad G 4)), (2, .int (nI i))]) dX3_rightReveals_29 (by decide) rfl ?_
          refine g_iinc C (v := nI (i + 1)) (L2 := [(2, .int (nI (i + 1))), (1, .int ((mk (vRR V) i) ||| ((nI 1) <<< ((nI i) &&& 31)))), (0, .ref (gad G 4))]) 2 dX3_rightReveals_30 rfl (nI_1 _) (by decide) rfl ?_
          refine g_goto C 4 dX3_rightReveals_33 (by decide) ?_
          refine g_loc (L2 := [(0, .ref (gad G 4)), (1, .int ((mk (vRR V) i) ||| ((nI 1) <<< ((nI i) &&& 31)))), (2, .int (nI (i + 1)))]) [2, 1, 0] rfl ?_
          exact g_eq (ih_4 (i + 1) (hi2) (by omega)) (rfl) (gLc rfl (gLc (congrArg Value.int (by first | exact (mk_t (decide_eq_true c_21)).symm | exact (mk_f (decide_eq_false c_21)).symm)) (rfl))) rfl
  refine g_loc (L2 := [(0, .ref (gad G 4)), (1, .int (nI 0)), (2, .int (nI 0))]) [2, 1, 0] rfl ?_
  exact g_eq (lp_4 (_ + 1) 0 (Nat.zero_le _) (Nat.lt_succ_self _)) (rfl) (gLc rfl (gLc (congrArg Value.int (rfl)) (rfl))) rfl

/-- credits behind a draw -/
def elC (st cr : Nat → Int32) (fine : Int32) (j : Nat) : Int32 := if st j = nI 1 ∨ st j = nI 3 then cr j + -fine else cr j

def rm_X3_endLottery : Room := { frames := 2, cells := 0, slots := 0, locals := 45 }
theorem iX3_endLottery : gIv yX3_endLottery cX3_endLottery 4 none 1 := ⟨⟨wd_465, wd_7, by decide +kernel, by decide +kernel, by decide +kernel⟩, wd_463, wd_464⟩
set_option maxRecDepth 100000 in
set_option maxHeartbeats 4000000 in
theorem c_X3_endLottery (l : Launch) (G : gG) (mem : gM) {n : Nat} (hn : mem 4 0 = nI n) (hn10 : n ≤ 10) (x : Int32) : gMet l yX3_endLottery cX3_endLottery 4 none rm_X3_endLottery G [.ref (gad G 4), .int x] mem (fun a u => a = none ∧ u = gr (gr mem 16 (cpy n (fun _ => nI 0) (mem 16))) 10 (cpy n (elC (mem 16) (mem 10) x) (mem 10))) := by
  refine g_of (own := RX3) (L0 := [(0, .ref (gad G 4)), (1, .int x)]) (by decide +kernel) rfl (Nat.le_of_ble_eq_true rfl) rfl ?_
  intro p e s m args below meth c C Q hQ
  refine g_iconst C (nI 0) dX3_endLottery_0 (by decide) ?_
  refine g_istore_n C (L2 := [(2, .int (nI 0)), (0, .ref (gad G 4)), (1, .int x)]) dX3_endLottery_1 (by decide) rfl ?_
  have lp_2 : ∀ (fu : Nat) (i : Nat), (i ≤ n) → n - i < fu → gV p l e rm_X3_endLottery s m args below meth c 0 0 Q G 4 (gr (gr mem 16 (cpy i (fun _ => nI 0) (mem 16))) 10 (cpy i (elC (mem 16) (mem 10) x) (mem 10))) 2 [(0, .ref (gad G 4)), (1, .int x), (2, .int (nI i))] [] := by
    intro fu
    induction fu with
    | zero => intro i _ hfu; exact absurd hfu (Nat.not_lt_zero _)
    | succ fu ih_2 =>
      intro i hi hfu_2
      refine g_iload_n C 2 dX3_endLottery_2 rfl ?_
      refine g_aload_n C 0 dX3_endLottery_3 rfl ?_
      refine g_get_i C ob_4 0 (by decide) rfl wd_50 dX3_endLottery_4 ?_
      refine g_top (y := mem 4 0) (rfl) ?_
      refine g_top (y := nI n) (hn) ?_
      refine g_icmp_ge C 46 dX3_endLottery_7 (by decide) (fun c_7 => ?_) (fun c_7 => ?_)
      · have hin : i = n := by have q := (nI_leI (a := n) (b := i) (by omega) (by omega)).mp c_7; omega
        refine g_vret C hQ rfl dX3_endLottery_46 ?_
        exact ⟨rfl, by rw [hin]⟩
      · have hi2 : i < n := by have q := mt (nI_leI (a := n) (b := i) (by omega) (by omega)).mpr c_7; omega
        refine g_aload_n C 0 dX3_endLottery_10 rfl ?_
        refine g_get_r C ob_4 7 (by decide) rfl wd_72 dX3_endLottery_11 ?_
        refine g_iload_n C 2 dX3_endLottery_14 rfl ?_
        refine g_iconst C (nI 0) dX3_endLottery_15 (by decide) ?_
        refine g_cV1 C (As := [.int (nI i), .int (nI 0)]) (w := .int (cpy i (fun _ => nI 0) (mem 16) i)) (mem3 := gr (gr (gr mem 16 (cpy i (fun _ => nI 0) (mem 16))) 10 (cpy i (elC (mem 16) (mem 10) x) (mem 10))) 16 (upd (cpy i (fun _ => nI 0) (mem 16)) i (nI 0))) iX6_swap (c_X6_swap l G (gr (gr mem 16 (cpy i (fun _ => nI 0) (mem 16))) 10 (cpy i (elC (mem 16) (mem 10) x) (mem 10))) ob_15 ar_16 (by decide) (by omega) (nI 0)) wd_466 ob_15 rfl ⟨Nat.le_of_ble_eq_true rfl, Nat.le_of_ble_eq_true rfl⟩ ⟨rfl, rfl⟩ rfl (Nat.le_of_ble_eq_true rfl) dX3_endLottery_16 (rfl) (rfl) ?_
        refine g_mem (mem2 := gr (gr mem 16 (upd (cpy i (fun _ => nI 0) (mem 16)) i (nI 0))) 10 (cpy i (elC (mem 16) (mem 10) x) (mem 10))) ((gr_comm _ (by decide) _ _).trans (congrArg (fun z => gr z 10 (cpy i (elC (mem 16) (mem 10) x) (mem 10))) (gr_gr _ _ _ _))) ?_
        refine g_top (y := mem 16 i) (cpy_out (Nat.le_refl i)) ?_
        refine g_istore_n C (L2 := [(3, .int (mem 16 i)), (0, .ref (gad G 4)), (1, .int x), (2, .int (nI i))]) dX3_endLottery_19 (by decide) rfl ?_
        refine g_iload_n C 0 dX3_endLottery_20 rfl ?_
        refine g_iconst C (nI 1) dX3_endLottery_21 (by decide) ?_
        refine g_icmp_eq C 30 dX3_endLottery_22 (by decide) (fun c_22 => ?_) (fun c_22 => ?_)
        · refine g_aload_n C 1 dX3_endLottery_30 rfl ?_
          refine g_get_r C ob_4 4 (by decide) rfl wd_63 dX3_endLottery_31 ?_
          refine g_iload_n C 3 dX3_endLottery_34 rfl ?_
          refine g_iload_n C 2 dX3_endLottery_35 rfl ?_
          refine g_ineg C dX3_endLottery_36 ?_
          refine g_cV0 C (As := [.int (nI i), .int (-x)]) (mem3 := gr (gr (gr mem 16 (upd (cpy i (fun _ => nI 0) (mem 16)) i (nI 0))) 10 (cpy i (elC (mem 16) (mem 10) x) (mem 10))) 10 (upd (cpy i (elC (mem 16) (mem 10) x) (mem 10)) i (cpy i (elC (mem 16) (mem 10) x) (mem 10) i + (-x)))) iX6_add (c_X6_add l G (gr (gr mem 16 (upd (cpy i (fun _ => nI 0) (mem 16)) i (nI 0))) 10 (cpy i (elC (mem 16) (mem 10) x) (mem 10))) ob_9 ar_10 (by decide) (by omega) (-x)) wd_467 ob_9 rfl ⟨Nat.le_of_ble_eq_true rfl, Nat.le_of_ble_eq_true rfl⟩ ⟨rfl, rfl⟩ rfl (Nat.le_of_ble_eq_true rfl) dX3_endLottery_37 (rfl) ?_
          refine g_mem (mem2 := gr (gr mem 16 (upd (cpy i (fun _ => nI 0) (mem 16)) i (nI 0))) 10 (upd (cpy i (elC (mem 16) (mem 10) x) (mem 10)) i (cpy i (elC (mem 16) (mem 10) x) (mem 10) i + (-x)))) (gr_gr _ _ _ _) ?_
          refine g_iinc C (v := nI (i + 1)) (L2 := [(2, .int (nI (i + 1))), (3, .int (mem 16 i)), (0, .ref (gad G 4)), (1, .int x)]) 3 dX3_endLottery_40 rfl (nI_1 _) (by decide) rfl ?_
          refine g_goto C 2 dX3_endLottery_43 (by decide) ?_
          refine g_loc (L2 := [(0, .ref (gad G 4)), (1, .int x), (2, .int (nI (i + 1)))]) [2, 3, 0] rfl ?_
          exact g_eq (ih_2 (i + 1) (hi2) (by omega)) (by first | rw [cpy_s (f := fun _ => nI 0) rfl, cpy_s (f := elC (mem 16) (mem 10) x) (by rw [elC, if_pos (by first | exact Or.inl c_22 | exact Or.inr c_27), cpy_out (Nat.le_refl i)])] | rw [cpy_s (f := fun _ => nI 0) rfl, cpy_k (f := elC (mem 16) (mem 10) x) (by rw [elC, if_neg (fun q => q.elim c_22 c_27)])]) (rfl) rfl
        · refine g_iload_n C 0 dX3_endLottery_25 rfl ?_
          refine g_iconst C (nI 3) dX3_endLottery_26 (by decide) ?_
          refine g_icmp_ne C 40 dX3_endLottery_27 (by decide) (fun c_27 => ?_) (fun c_27 => ?_)
          · refine g_iinc C (v := nI (i + 1)) (L2 := [(2, .int (nI (i + 1))), (3, .int (mem 16 i)), (0, .ref (gad G 4)), (1, .int x)]) 3 dX3_endLottery_40 rfl (nI_1 _) (by decide) rfl ?_
            refine g_goto C 2 dX3_endLottery_43 (by decide) ?_
            refine g_loc (L2 := [(0, .ref (gad G 4)), (1, .int x), (2, .int (nI (i + 1)))]) [2, 3, 0] rfl ?_
            exact g_eq (ih_2 (i + 1) (hi2) (by omega)) (by first | rw [cpy_s (f := fun _ => nI 0) rfl, cpy_s (f := elC (mem 16) (mem 10) x) (by rw [elC, if_pos (by first | exact Or.inl c_22 | exact Or.inr c_27), cpy_out (Nat.le_refl i)])] | rw [cpy_s (f := fun _ => nI 0) rfl, cpy_k (f := elC (mem 16) (mem 10) x) (by rw [elC, if_neg (fun q => q.elim c_22 c_27)])]) (rfl) rfl
          · refine g_aload_n C 1 dX3_endLottery_30 rfl ?_
            refine g_get_r C ob_4 4 (by decide) rfl wd_63 dX3_endLottery_31 ?_
            refine g_iload_n C 3 dX3_endLottery_34 rfl ?_
            refine g_iload_n C 2 dX3_endLottery_35 rfl ?_
            refine g_ineg C dX3_endLottery_36 ?_
            refine g_cV0 C (As := [.int (nI i), .int (-x)]) (mem3 := gr (gr (gr mem 16 (upd (cpy i (fun _ => nI 0) (mem 16)) i (nI 0))) 10 (cpy i (elC (mem 16) (mem 10) x) (mem 10))) 10 (upd (cpy i (elC (mem 16) (mem 10) x) (mem 10)) i (cpy i (elC (mem 16) (mem 10) x) (mem 10) i + (-x)))) iX6_add (c_X6_add l G (gr (gr mem 16 (upd (cpy i (fun _ => nI 0) (mem 16)) i (nI 0))) 10 (cpy i (elC (mem 16) (mem 10) x) (mem 10))) ob_9 ar_10 (by decide) (by omega) (-x)) wd_467 ob_9 rfl ⟨Nat.le_of_ble_eq_true rfl, Nat.le_of_ble_eq_true rfl⟩ ⟨rfl, rfl⟩ rfl (Nat.le_of_ble_eq_true rfl) dX3_endLottery_37 (rfl) ?_
            refine g_mem (mem2 := gr (gr mem 16 (upd (cpy i (fun _ => nI 0) (mem 16)) i (nI 0))) 10 (upd (cpy i (elC (mem 16) (mem 10) x) (mem 10)) i (cpy i (elC (mem 16) (mem 10) x) (mem 10) i + (-x)))) (gr_gr _ _ _ _) ?_
            refine g_iinc C (v := nI (i + 1)) (L2 := [(2, .int (nI (i + 1))), (3, .int (mem 16 i)), (0, .ref (gad G 4)), (1, .int x)]) 3 dX3_endLottery_40 rfl (nI_1 _) (by decide) rfl ?_
            refine g_goto C 2 dX3_endLottery_43 (by decide) ?_
            refine g_loc (L2 := [(0, .ref (gad G 4)), (1, .int x), (2, .int (nI (i + 1)))]) [2, 3, 0] rfl ?_
            exact g_eq (ih_2 (i + 1) (hi2) (by omega)) (by first | rw [cpy_s (f := fun _ => nI 0) rfl, cpy_s (f := elC (mem 16) (mem 10) x) (by rw [elC, if_pos (by first | exact Or.inl c_22 | exact Or.inr c_27), cpy_out (Nat.le_refl i)])] | rw [cpy_s (f := fun _ => nI 0) rfl, cpy_k (f := elC (mem 16) (mem 10) x) (by rw [elC, if_neg (fun q => q.elim c_22 c_27)])]) (rfl) rfl
  refine g_loc (L2 := [(0, .ref (gad G 4)), (1, .int x), (2, .int (nI 0))]) [1, 2, 0] rfl ?_
  exact g_eq (lp_2 (_ + 1) 0 (Nat.zero_le _) (Nat.lt_succ_self _)) (by simp only [cpy_0, gr_self]) (rfl) rfl

def rm_X3_enter : Room := { frames := 1, cells := 0, slots := 0, locals := 22 }
theorem iX3_enter : gIv yX3_enter cX3_enter 4 (some .int) 2 := ⟨⟨wd_347, wd_7, by decide +kernel, by decide +kernel, by decide +kernel⟩, wd_345, wd_346⟩
set_option maxRecDepth 100000 in
set_option maxHeartbeats 4000000 in
theorem c_X3_enter (l : Launch) (G : gG) (mem : gM) {n : Nat} (hn : mem 4 0 = nI n) (hn9 : n < 10) (x y : Int32) : gMet l yX3_enter cX3_enter 4 (some .int) rm_X3_enter G [.ref (gad G 4), .int x, .int y] mem (fun a u => a = some (.int (nI n)) ∧ u = gr (gr (gr mem 6 (upd (mem 6) n x)) 8 (upd (mem 8) n y)) 4 (upd (upd (mem 4) 1 (mem 4 1 ||| bit n)) 0 (nI (n + 1)))) := by
  refine g_of (own := RX3) (L0 := [(0, .ref (gad G 4)), (1, .int x), (2, .int y)]) (by decide +kernel) rfl (Nat.le_of_ble_eq_true rfl) rfl ?_
  intro p e s m args below meth c C Q hQ
  refine g_aload_n C 0 dX3_enter_0 rfl ?_
  refine g_get_i C ob_4 0 (by decide) rfl wd_50 dX3_enter_1 ?_
  refine g_top (y := nI n) (hn) ?_
  refine g_istore_n C (L2 := [(3, .int (nI n)), (0, .ref (gad G 4)), (1, .int x), (2, .int y)]) dX3_enter_4 (by decide) rfl ?_
  refine g_aload_n C 1 dX3_enter_5 rfl ?_
  refine g_get_r C ob_4 2 (by decide) rfl wd_58 dX3_enter_6 ?_
  refine g_iload_n C 0 dX3_enter_9 rfl ?_
  refine g_iload_n C 2 dX3_enter_10 rfl ?_
  refine g_cV0 C (As := [.int (nI n), .int x]) (mem3 := gr mem 6 (upd (mem 6) n x)) iX6_put (c_X6_put l G mem ob_5 ar_6 (by decide) (by omega) x) wd_348 ob_5 rfl ⟨Nat.le_of_ble_eq_true rfl, Nat.le_of_ble_eq_true rfl⟩ ⟨rfl, rfl⟩ rfl (Nat.le_of_ble_eq_true rfl) dX3_enter_11 (rfl) ?_
  refine g_aload_n C 1 dX3_enter_14 rfl ?_
  refine g_get_r C ob_4 3 (by decide) rfl wd_61 dX3_enter_15 ?_
  refine g_iload_n C 0 dX3_enter_18 rfl ?_
  refine g_iload_n C 3 dX3_enter_19 rfl ?_
  refine g_cV0 C (As := [.int (nI n), .int y]) (mem3 := gr (gr mem 6 (upd (mem 6) n x)) 8 (upd (mem 8) n y)) iX6_put (c_X6_put l G (gr mem 6 (upd (mem 6) n x)) ob_7 ar_8 (by decide) (by omega) y) wd_348 ob_7 rfl ⟨Nat.le_of_ble_eq_true rfl, Nat.le_of_ble_eq_true rfl⟩ ⟨rfl, rfl⟩ rfl (Nat.le_of_ble_eq_true rfl) dX3_enter_20 (rfl) ?_
  refine g_aload_n C 1 dX3_enter_23 rfl ?_
  refine g_dup C dX3_enter_24 rfl ?_
  refine g_get_i C ob_4 1 (by decide) rfl wd_56 dX3_enter_25 ?_
  refine g_top (y := mem 4 1) (rfl) ?_
  refine g_iconst C (nI 1) dX3_enter_28 (by decide) ?_
  refine g_iload_n C 0 dX3_enter_29 rfl ?_
  refine g_ishl C dX3_enter_30 ?_
  refine g_ior C dX3_enter_31 ?_
  refine g_put_i C ob_4 1 (by decide) rfl wd_56 rfl rfl dX3_enter_32 ?_
  refine g_aload_n C 1 dX3_enter_35 rfl ?_
  refine g_dup C dX3_enter_36 rfl ?_
  refine g_get_i C ob_4 0 (by decide) rfl wd_50 dX3_enter_37 ?_
  refine g_top (y := mem 4 0) (rfl) ?_
  refine g_top (y := nI n) (hn) ?_
  refine g_iconst C (nI 1) dX3_enter_40 (by decide) ?_
  refine g_iadd_n C (d := n + 1) dX3_enter_41 rfl ?_
  refine g_put_i C ob_4 0 (by decide) rfl wd_50 rfl rfl dX3_enter_42 ?_
  refine g_mem (mem2 := gr (gr (gr mem 6 (upd (mem 6) n x)) 8 (upd (mem 8) n y)) 4 (upd (upd (mem 4) 1 ((mem 4 1) ||| ((nI 1) <<< ((nI n) &&& 31)))) 0 (nI (n + 1)))) (gr_gr _ _ _ _) ?_
  refine g_iload_n C 0 dX3_enter_45 rfl ?_
  refine g_iret C hQ rfl dX3_enter_46 ?_
  exact ⟨rfl, rfl⟩
