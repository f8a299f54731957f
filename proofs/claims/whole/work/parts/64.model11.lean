theorem i2l_n {a : Nat} (ha : a < 2 ^ 31) : (nI a).toInt64 = Int64.ofNat a := Int64.toInt_inj.mp (by rw [Int32.toInt_toInt64, nI_toInt ha, Int64.toInt_ofNat_of_lt (by omega)])
theorem lof_lt {a b : Nat} (ha : a < 2 ^ 62) (hb : b < 2 ^ 62) : Int64.ofNat a < Int64.ofNat b ↔ a < b := by
  rw [Int64.lt_iff_toInt_lt, Int64.toInt_ofNat_of_lt (by omega), Int64.toInt_ofNat_of_lt (by omega)]
  omega
theorem lcmp_n {a b : Nat} (ha : a < 2 ^ 62) (hb : b < 2 ^ 62) : 0 ≤ lg_cmp (Int64.ofNat a) (Int64.ofNat b) ↔ b ≤ a := by
  unfold lg_cmp
  by_cases h : b < a
  · rw [if_pos (show Int64.ofNat a > Int64.ofNat b from (lof_lt hb ha).mpr h)]
    exact ⟨fun _ => by omega, fun _ => by decide⟩
  · rw [if_neg (show ¬ Int64.ofNat a > Int64.ofNat b from fun q => h ((lof_lt hb ha).mp q))]
    by_cases h2 : a = b
    · rw [if_pos (by rw [h2])]
      exact ⟨fun _ => by omega, fun _ => by decide⟩
    · rw [if_neg (fun q => h2 (by
        have q2 := congrArg Int64.toInt q
        rw [Int64.toInt_ofNat_of_lt (by omega), Int64.toInt_ofNat_of_lt (by omega)] at q2
        omega))]
      exact ⟨fun q => absurd q (by decide), fun q => by omega⟩
theorem tim_l {s t : Nat} (ht : t < 2 ^ 31) : Int64.ofNat s + (nI t).toInt64 = Int64.ofNat (s + t) := by
  rw [i2l_n ht, Int64.ofNat_add]
def bwN : Option (Nat × Nat) → Nat
  | none => 0
  | some q => q.2

theorem st_c (V : Nat → Int32) (wa : Nat) : ∀ b, (stF V wa b).2 ≤ b
  | 0 => Nat.le_refl _
  | b + 1 => by
    have ih := st_c V wa b
    by_cases h : hcd V b = 0
    · rw [st_t h]; show (stF V wa b).2 + 1 ≤ b + 1; omega
    · rw [st_f h]; omega

def rm_X10_bestWait : Room := { frames := 4, cells := 0, slots := 0, locals := 95 }
theorem iX10_bestWait : gIv yX10_bestWait cX10_bestWait 9 (some .int) 0 := ⟨⟨wd_963, wd_32, by decide +kernel, by decide +kernel, by decide +kernel⟩, wd_961, wd_962⟩
set_option maxRecDepth 100000 in
set_option maxHeartbeats 4000000 in
theorem c_X10_bestWait (l : Launch) (G : gG) {T : Nat} (mem : gM) (g : Good T (mem 155)) : gMet l yX10_bestWait cX10_bestWait 9 (some .int) rm_X10_bestWait G [.ref (gad G 154)] mem (fun a u => ∃ rr : Int32, a = some (.int rr) ∧ (rr = bwI (bwF (mem 155) 6) ∧ MN mem u)) := by
  refine g_of (own := RX10) (L0 := [(0, .ref (gad G 154))]) (by decide +kernel) rfl (Nat.le_of_ble_eq_true rfl) rfl ?_
  intro p e s m args below meth c C Q hQ
  have hn10 := gd_n10 g
  refine g_ldc C wd_783 dX10_bestWait_0 ?_
  refine g_istore_n C (L2 := [(1, .int ((-1000009) : Int32)), (0, .ref (gad G 154))]) dX10_bestWait_2 (by decide) rfl ?_
  refine g_lconst C 0 dX10_bestWait_3 (by decide) ?_
  refine g_lstore_n C (L2 := [(2, .long (0 : Int64)), (1, .int ((-1000009) : Int32)), (0, .ref (gad G 154))]) dX10_bestWait_4 (by decide) rfl ?_
  refine g_iconst C (nI 0) dX10_bestWait_5 (by decide) ?_
  refine g_istore C (L2 := [(4, .int (nI 0)), (2, .long (0 : Int64)), (1, .int ((-1000009) : Int32)), (0, .ref (gad G 154))]) dX10_bestWait_6 (by decide) rfl ?_
  have lp_8 : ∀ (fu : Nat) (j : Nat) (M1 : gM), (j ≤ 6) → (MN mem M1) → 6 - j < fu → gV p l e rm_X10_bestWait s m args below meth c 0 0 Q G 9 M1 8 [(0, .ref (gad G 154)), (1, .int (bwI (bwF (mem 155) j))), (2, .long (Int64.ofNat (bwN (bwF (mem 155) j)))), (4, .int (nI j))] [] := by
    intro fu
    induction fu with
    | zero => intro j M1 _ _ hfu; exact absurd hfu (Nat.not_lt_zero _)
    | succ fu ih_8 =>
      intro j M1 hj hMN1 hfu_8
      refine g_iload C 3 dX10_bestWait_8 rfl ?_
      refine g_bipush C (nI 6) dX10_bestWait_10 (by decide) ?_
      refine g_icmp_ge C 96 dX10_bestWait_12 (by decide) (fun c_12 => ?_) (fun c_12 => ?_)
      · have hin6 : j = 6 := by have q := (nI_leI (a := 6) (b := j) (by omega) (by omega)).mp c_12; omega
        refine g_iload_n C 1 dX10_bestWait_96 rfl ?_
        refine g_iret C hQ rfl dX10_bestWait_97 ?_
        exact ⟨_, rfl, by rw [hin6], hMN1⟩
      · have hj2 : j < 6 := by have q := mt (nI_leI (a := 6) (b := j) (by omega) (by omega)).mpr c_12; omega
        refine g_lconst C 0 dX10_bestWait_15 (by decide) ?_
        refine g_lstore C (L2 := [(5, .long (0 : Int64)), (0, .ref (gad G 154)), (1, .int (bwI (bwF (mem 155) j))), (2, .long (Int64.ofNat (bwN (bwF (mem 155) j)))), (4, .int (nI j))]) dX10_bestWait_16 (by decide) rfl ?_
        refine g_iconst C (nI 0) dX10_bestWait_18 (by decide) ?_
        refine g_istore C (L2 := [(7, .int (nI 0)), (5, .long (0 : Int64)), (0, .ref (gad G 154)), (1, .int (bwI (bwF (mem 155) j))), (2, .long (Int64.ofNat (bwN (bwF (mem 155) j)))), (4, .int (nI j))]) dX10_bestWait_19 (by decide) rfl ?_
        refine g_iconst C (nI 0) dX10_bestWait_21 (by decide) ?_
        refine g_istore C (L2 := [(8, .int (nI 0)), (7, .int (nI 0)), (5, .long (0 : Int64)), (0, .ref (gad G 154)), (1, .int (bwI (bwF (mem 155) j))), (2, .long (Int64.ofNat (bwN (bwF (mem 155) j)))), (4, .int (nI j))]) dX10_bestWait_22 (by decide) rfl ?_
        have lp_24 : ∀ (fu : Nat) (i : Nat) (M2 : gM), (i ≤ 200) → (MN mem M2) → 200 - i < fu → gV p l e rm_X10_bestWait s m args below meth c 0 0 Q G 9 M2 24 [(0, .ref (gad G 154)), (1, .int (bwI (bwF (mem 155) j))), (2, .long (Int64.ofNat (bwN (bwF (mem 155) j)))), (4, .int (nI j)), (5, .long (Int64.ofNat (stF (mem 155) (tw j) i).1)), (7, .int (nI ((stF (mem 155) (tw j) i).2))), (8, .int (nI i))] [] := by
          intro fu
          induction fu with
          | zero => intro i M2 _ _ hfu; exact absurd hfu (Nat.not_lt_zero _)
          | succ fu ih_24 =>
            intro i M2 hi hMN2 hfu_24
            have hsl := st_le g (tw_ok j hj2).2.1 (tw_ok j hj2).2.2 i
            have hsc := st_c (mem 155) (tw j) i
            refine g_iload C 6 dX10_bestWait_24 rfl ?_
            refine g_sipush C (nI 200) dX10_bestWait_26 (by decide) ?_
            refine g_icmp_ge C 65 dX10_bestWait_29 (by decide) (fun c_29 => ?_) (fun c_29 => ?_)
            · have hin : i = 200 := by have q := (nI_leI (a := 200) (b := i) (by omega) (by omega)).mp c_29; omega
              rw [hin] at hsl hsc
              rw [hin]
              refine g_iload C 5 dX10_bestWait_65 rfl ?_
              refine g_if_le C 90 dX10_bestWait_67 (by decide) (fun c_67 => ?_) (fun c_67 => ?_)
              · have hs0 : (stF (mem 155) (tw j) 200).2 = 0 := by have q := (nI_leI (b := 0) (by omega) (by decide)).mp c_67; omega
                refine g_iinc C (v := nI (j + 1)) (L2 := [(4, .int (nI (j + 1))), (0, .ref (gad G 154)), (1, .int (bwI (bwF (mem 155) j))), (2, .long (Int64.ofNat (bwN (bwF (mem 155) j)))), (5, .long (Int64.ofNat (stF (mem 155) (tw j) 200).1)), (7, .int (nI ((stF (mem 155) (tw j) 200).2))), (8, .int (nI 200))]) 3 dX10_bestWait_90 rfl (nI_1 _) (by decide) rfl ?_
                refine g_goto C 8 dX10_bestWait_93 (by decide) ?_
                refine g_loc (L2 := [(0, .ref (gad G 154)), (1, .int (bwI (bwF (mem 155) j))), (2, .long (Int64.ofNat (bwN (bwF (mem 155) j)))), (4, .int (nI (j + 1)))]) [1, 2, 3, 0] rfl ?_
                exact g_eq (ih_8 (j + 1) M2 (hj2) (hMN2) (by omega)) (rfl) (gLc rfl (gLc (congrArg Value.int (by first | (rw [bw_0 hs0]; done) | (rw [bw_n hs0 hbw]; rfl) | (rw [bw_lt hs0 hbw c_78]; rfl) | (rw [bw_ge hs0 hbw c_78]; rfl))) (gLc (congrArg Value.long (by first | (rw [bw_0 hs0]; done) | (rw [bw_n hs0 hbw]; rfl) | (rw [bw_lt hs0 hbw c_78]; rfl) | (rw [bw_ge hs0 hbw c_78]; rfl))) (rfl)))) rfl
              · have hs0 : ¬ (stF (mem 155) (tw j) 200).2 = 0 := fun q => c_67 (by rw [q]; decide)
                rcases hbw : bwF (mem 155) j with _ | q1
                · refine g_iload_n C 1 dX10_bestWait_70 rfl ?_
                  refine g_top (y := kNone) (rfl) ?_
                  refine g_if_lt_t C 81 (by decide) dX10_bestWait_71 (by decide) ?_
                  refine g_iload C 3 dX10_bestWait_81 rfl ?_
                  refine g_cS1 C (As := [.int (nI j)]) (w := .int (nI (tw j))) (mem3 := M2) iX10_waitOf (c_X10_waitOf l G M2 (j := j) (by omega)) wd_964 rfl ⟨Nat.le_of_ble_eq_true rfl, Nat.le_of_ble_eq_true rfl⟩ ⟨rfl, rfl⟩ rfl (Nat.le_of_ble_eq_true rfl) dX10_bestWait_83 (rfl) (rfl) ?_
                  refine g_istore_n C (L2 := [(1, .int (nI (tw j))), (0, .ref (gad G 154)), (2, .long (Int64.ofNat (bwN none))), (4, .int (nI j)), (5, .long (Int64.ofNat (stF (mem 155) (tw j) 200).1)), (7, .int (nI ((stF (mem 155) (tw j) 200).2))), (8, .int (nI 200))]) dX10_bestWait_86 (by decide) rfl ?_
                  refine g_lload C 4 dX10_bestWait_87 rfl ?_
                  refine g_lstore_n C (L2 := [(2, .long (Int64.ofNat (stF (mem 155) (tw j) 200).1)), (1, .int (nI (tw j))), (0, .ref (gad G 154)), (4, .int (nI j)), (5, .long (Int64.ofNat (stF (mem 155) (tw j) 200).1)), (7, .int (nI ((stF (mem 155) (tw j) 200).2))), (8, .int (nI 200))]) dX10_bestWait_89 (by decide) rfl ?_
                  refine g_iinc C (v := nI (j + 1)) (L2 := [(4, .int (nI (j + 1))), (2, .long (Int64.ofNat (stF (mem 155) (tw j) 200).1)), (1, .int (nI (tw j))), (0, .ref (gad G 154)), (5, .long (Int64.ofNat (stF (mem 155) (tw j) 200).1)), (7, .int (nI ((stF (mem 155) (tw j) 200).2))), (8, .int (nI 200))]) 3 dX10_bestWait_90 rfl (nI_1 _) (by decide) rfl ?_
                  refine g_goto C 8 dX10_bestWait_93 (by decide) ?_
                  refine g_loc (L2 := [(0, .ref (gad G 154)), (1, .int (nI (tw j))), (2, .long (Int64.ofNat (stF (mem 155) (tw j) 200).1)), (4, .int (nI (j + 1)))]) [3, 2, 1, 0] rfl ?_
                  exact g_eq (ih_8 (j + 1) M2 (hj2) (hMN2) (by omega)) (rfl) (gLc rfl (gLc (congrArg Value.int (by first | (rw [bw_0 hs0]; done) | (rw [bw_n hs0 hbw]; rfl) | (rw [bw_lt hs0 hbw c_78]; rfl) | (rw [bw_ge hs0 hbw c_78]; rfl))) (gLc (congrArg Value.long (by first | (rw [bw_0 hs0]; done) | (rw [bw_n hs0 hbw]; rfl) | (rw [bw_lt hs0 hbw c_78]; rfl) | (rw [bw_ge hs0 hbw c_78]; rfl))) (rfl)))) rfl
                · have hbl := bw_le g (by omega) hbw
                  have hbn : bwN (some q1) = q1.2 := rfl
                  refine g_iload_n C 1 dX10_bestWait_70 rfl ?_
                  refine g_top (y := nI (q1.1)) (rfl) ?_
                  refine g_if_lt_f C 81 (Int32.not_lt.mpr (nI_pos' (by omega))) dX10_bestWait_71 (by decide) ?_
                  refine g_lload C 4 dX10_bestWait_74 rfl ?_
                  refine g_lload_n C 2 dX10_bestWait_76 rfl ?_
                  refine g_lcmp C dX10_bestWait_77 ?_
                  refine g_if_ge C 90 dX10_bestWait_78 (by decide) (fun c_78 => ?_) (fun c_78 => ?_)
                  · have c_78 : ¬ (stF (mem 155) (tw j) 200).1 < q1.2 := by have q := (lcmp_n (by omega) (by omega)).mp c_78; omega
                    refine g_iinc C (v := nI (j + 1)) (L2 := [(4, .int (nI (j + 1))), (0, .ref (gad G 154)), (1, .int (nI q1.1)), (2, .long (Int64.ofNat (q1.2))), (5, .long (Int64.ofNat (stF (mem 155) (tw j) 200).1)), (7, .int (nI ((stF (mem 155) (tw j) 200).2))), (8, .int (nI 200))]) 3 dX10_bestWait_90 rfl (nI_1 _) (by decide) rfl ?_
                    refine g_goto C 8 dX10_bestWait_93 (by decide) ?_
                    refine g_loc (L2 := [(0, .ref (gad G 154)), (1, .int (nI q1.1)), (2, .long (Int64.ofNat (q1.2))), (4, .int (nI (j + 1)))]) [1, 2, 3, 0] rfl ?_
                    exact g_eq (ih_8 (j + 1) M2 (hj2) (hMN2) (by omega)) (rfl) (gLc rfl (gLc (congrArg Value.int (by first | (rw [bw_0 hs0]; done) | (rw [bw_n hs0 hbw]; rfl) | (rw [bw_lt hs0 hbw c_78]; rfl) | (rw [bw_ge hs0 hbw c_78]; rfl))) (gLc (congrArg Value.long (by first | (rw [bw_0 hs0]; done) | (rw [bw_n hs0 hbw]; rfl) | (rw [bw_lt hs0 hbw c_78]; rfl) | (rw [bw_ge hs0 hbw c_78]; rfl))) (rfl)))) rfl
                  · have c_78 : (stF (mem 155) (tw j) 200).1 < q1.2 := by have q := mt (lcmp_n (by omega) (by omega)).mpr c_78; omega
                    refine g_iload C 3 dX10_bestWait_81 rfl ?_
                    refine g_cS1 C (As := [.int (nI j)]) (w := .int (nI (tw j))) (mem3 := M2) iX10_waitOf (c_X10_waitOf l G M2 (j := j) (by omega)) wd_964 rfl ⟨Nat.le_of_ble_eq_true rfl, Nat.le_of_ble_eq_true rfl⟩ ⟨rfl, rfl⟩ rfl (Nat.le_of_ble_eq_true rfl) dX10_bestWait_83 (rfl) (rfl) ?_
                    refine g_istore_n C (L2 := [(1, .int (nI (tw j))), (0, .ref (gad G 154)), (2, .long (Int64.ofNat (q1.2))), (4, .int (nI j)), (5, .long (Int64.ofNat (stF (mem 155) (tw j) 200).1)), (7, .int (nI ((stF (mem 155) (tw j) 200).2))), (8, .int (nI 200))]) dX10_bestWait_86 (by decide) rfl ?_
                    refine g_lload C 4 dX10_bestWait_87 rfl ?_
                    refine g_lstore_n C (L2 := [(2, .long (Int64.ofNat (stF (mem 155) (tw j) 200).1)), (1, .int (nI (tw j))), (0, .ref (gad G 154)), (4, .int (nI j)), (5, .long (Int64.ofNat (stF (mem 155) (tw j) 200).1)), (7, .int (nI ((stF (mem 155) (tw j) 200).2))), (8, .int (nI 200))]) dX10_bestWait_89 (by decide) rfl ?_
                    refine g_iinc C (v := nI (j + 1)) (L2 := [(4, .int (nI (j + 1))), (2, .long (Int64.ofNat (stF (mem 155) (tw j) 200).1)), (1, .int (nI (tw j))), (0, .ref (gad G 154)), (5, .long (Int64.ofNat (stF (mem 155) (tw j) 200).1)), (7, .int (nI ((stF (mem 155) (tw j) 200).2))), (8, .int (nI 200))]) 3 dX10_bestWait_90 rfl (nI_1 _) (by decide) rfl ?_
                    refine g_goto C 8 dX10_bestWait_93 (by decide) ?_
                    refine g_loc (L2 := [(0, .ref (gad G 154)), (1, .int (nI (tw j))), (2, .long (Int64.ofNat (stF (mem 155) (tw j) 200).1)), (4, .int (nI (j + 1)))]) [3, 2, 1, 0] rfl ?_
                    exact g_eq (ih_8 (j + 1) M2 (hj2) (hMN2) (by omega)) (rfl) (gLc rfl (gLc (congrArg Value.int (by first | (rw [bw_0 hs0]; done) | (rw [bw_n hs0 hbw]; rfl) | (rw [bw_lt hs0 hbw c_78]; rfl) | (rw [bw_ge hs0 hbw c_78]; rfl))) (gLc (congrArg Value.long (by first | (rw [bw_0 hs0]; done) | (rw [bw_n hs0 hbw]; rfl) | (rw [bw_lt hs0 hbw c_78]; rfl) | (rw [bw_ge hs0 hbw c_78]; rfl))) (rfl)))) rfl
            · have hi2 : i < 200 := by have q := mt (nI_leI (a := 200) (b := i) (by omega) (by omega)).mpr c_29; omega
              refine g_aload_n C 0 dX10_bestWait_32 rfl ?_
              refine g_iload C 6 dX10_bestWait_33 rfl ?_
              refine g_iload C 3 dX10_bestWait_35 rfl ?_
              refine g_cS1 C (As := [.int (nI j)]) (w := .int (nI (tw j))) (mem3 := M2) iX10_waitOf (c_X10_waitOf l G M2 (j := j) (by omega)) wd_964 rfl ⟨Nat.le_of_ble_eq_true rfl, Nat.le_of_ble_eq_true rfl⟩ ⟨rfl, rfl⟩ rfl (Nat.le_of_ble_eq_true rfl) dX10_bestWait_37 (rfl) (rfl) ?_
              refine g_cVr C (As := [.int (nI i), .int (nI (tw j))]) iX10_works (c_X10_works l G M2 (hMN2.1.symm ▸ g) (b := i) (wa := tw j) (by omega) (tw_ok j hj2).2.1 (tw_ok j hj2).2.2) wd_909 ob_154 rfl ⟨Nat.le_of_ble_eq_true rfl, Nat.le_of_ble_eq_true rfl⟩ ⟨rfl, rfl⟩ rfl (Nat.le_of_ble_eq_true rfl) dX10_bestWait_40 (fun rr0 u1 hq => ?_)
              obtain ⟨rfl, q, w, rfl, hq2, hq7, hpl⟩ := hq
              rw [hMN2.1] at hpl
              refine g_if_ne C 59 dX10_bestWait_43 (by decide) (fun c_43 => ?_) (fun c_43 => ?_)
              · have hh0 : ¬ hcd (mem 155) i = 0 := fun z => c_43 (by rw [hMN2.1, z]; rfl)
                refine g_iinc C (v := nI (i + 1)) (L2 := [(8, .int (nI (i + 1))), (0, .ref (gad G 154)), (1, .int (bwI (bwF (mem 155) j))), (2, .long (Int64.ofNat (bwN (bwF (mem 155) j)))), (4, .int (nI j)), (5, .long (Int64.ofNat (stF (mem 155) (tw j) i).1)), (7, .int (nI ((stF (mem 155) (tw j) i).2)))]) 6 dX10_bestWait_59 rfl (nI_1 _) (by decide) rfl ?_
                refine g_goto C 24 dX10_bestWait_62 (by decide) ?_
                refine g_loc (L2 := [(0, .ref (gad G 154)), (1, .int (bwI (bwF (mem 155) j))), (2, .long (Int64.ofNat (bwN (bwF (mem 155) j)))), (4, .int (nI j)), (5, .long (Int64.ofNat (stF (mem 155) (tw j) i).1)), (7, .int (nI ((stF (mem 155) (tw j) i).2))), (8, .int (nI (i + 1)))]) [1, 2, 3, 4, 5, 6, 0] rfl ?_
                exact g_eq (ih_24 (i + 1) (gr (gr M2 154 q) 160 w) (hi2) (⟨hMN2.1, hMN2.2.1, hq2.trans hMN2.2.2.1, hq7.trans hMN2.2.2.2.1, hMN2.2.2.2.2.1, fun k hk => by rw [gr_n (by omega), gr_n (by omega)]; exact hMN2.2.2.2.2.2 k hk⟩) (by omega)) (rfl) (gLc rfl (gLc rfl (gLc rfl (gLc rfl (gLc (congrArg Value.long (by first | (rw [st_f hh0]; done) | (rw [st_t hh0, tim_l (by omega), hfF]; done))) (gLc (congrArg Value.int (by first | (rw [st_f hh0]; done) | (rw [st_t hh0]; done))) (rfl))))))) rfl
              · have hh0 : hcd (mem 155) i = 0 := by have z := c_43; rw [hMN2.1] at z; exact hcd_0 z
                obtain ⟨f, hp⟩ := hpl hh0
                obtain ⟨hfr, h12, h14, h15, h16, h17, h18, h19, h20, hwl⟩ := id hp
                have hfF := fF_eq hfr
                have htl := tim_le (wa := tw j) (f := f) g (tw_ok j hj2).2.1 (tw_ok j hj2).2.2 (fr_some hfr).1 (hc_0 hh0).2.2
                refine g_lload C 4 dX10_bestWait_46 rfl ?_
                refine g_aload_n C 0 dX10_bestWait_48 rfl ?_
                refine g_get_i C ob_154 20 (by decide) rfl wd_723 dX10_bestWait_49 ?_
                refine g_top (y := q 20) (rfl) ?_
                refine g_top (y := nI (tim (mem 155) i (tw j) f)) (h20) ?_
                refine g_i2l C dX10_bestWait_52 ?_
                refine g_ladd C dX10_bestWait_53 ?_
                refine g_lstore C (L2 := [(5, .long ((Int64.ofNat (stF (mem 155) (tw j) i).1) + ((nI (tim (mem 155) i (tw j) f)).toInt64))), (0, .ref (gad G 154)), (1, .int (bwI (bwF (mem 155) j))), (2, .long (Int64.ofNat (bwN (bwF (mem 155) j)))), (4, .int (nI j)), (7, .int (nI ((stF (mem 155) (tw j) i).2))), (8, .int (nI i))]) dX10_bestWait_54 (by decide) rfl ?_
                refine g_iinc C (v := nI ((stF (mem 155) (tw j) i).2 + 1)) (L2 := [(7, .int (nI ((stF (mem 155) (tw j) i).2 + 1))), (5, .long ((Int64.ofNat (stF (mem 155) (tw j) i).1) + ((nI (tim (mem 155) i (tw j) f)).toInt64))), (0, .ref (gad G 154)), (1, .int (bwI (bwF (mem 155) j))), (2, .long (Int64.ofNat (bwN (bwF (mem 155) j)))), (4, .int (nI j)), (8, .int (nI i))]) 5 dX10_bestWait_56 rfl (nI_1 _) (by decide) rfl ?_
                refine g_iinc C (v := nI (i + 1)) (L2 := [(8, .int (nI (i + 1))), (7, .int (nI ((stF (mem 155) (tw j) i).2 + 1))), (5, .long ((Int64.ofNat (stF (mem 155) (tw j) i).1) + ((nI (tim (mem 155) i (tw j) f)).toInt64))), (0, .ref (gad G 154)), (1, .int (bwI (bwF (mem 155) j))), (2, .long (Int64.ofNat (bwN (bwF (mem 155) j)))), (4, .int (nI j))]) 6 dX10_bestWait_59 rfl (nI_1 _) (by decide) rfl ?_
                refine g_goto C 24 dX10_bestWait_62 (by decide) ?_
                refine g_loc (L2 := [(0, .ref (gad G 154)), (1, .int (bwI (bwF (mem 155) j))), (2, .long (Int64.ofNat (bwN (bwF (mem 155) j)))), (4, .int (nI j)), (5, .long ((Int64.ofNat (stF (mem 155) (tw j) i).1) + ((nI (tim (mem 155) i (tw j) f)).toInt64))), (7, .int (nI ((stF (mem 155) (tw j) i).2 + 1))), (8, .int (nI (i + 1)))]) [3, 4, 5, 6, 2, 1, 0] rfl ?_
                exact g_eq (ih_24 (i + 1) (gr (gr M2 154 q) 160 w) (hi2) (⟨hMN2.1, hMN2.2.1, hq2.trans hMN2.2.2.1, hq7.trans hMN2.2.2.2.1, hMN2.2.2.2.2.1, fun k hk => by rw [gr_n (by omega), gr_n (by omega)]; exact hMN2.2.2.2.2.2 k hk⟩) (by omega)) (rfl) (gLc rfl (gLc rfl (gLc rfl (gLc rfl (gLc (congrArg Value.long (by first | (rw [st_f hh0]; done) | (rw [st_t hh0, tim_l (by omega), hfF]; done))) (gLc (congrArg Value.int (by first | (rw [st_f hh0]; done) | (rw [st_t hh0]; done))) (rfl))))))) rfl
        refine g_loc (L2 := [(0, .ref (gad G 154)), (1, .int (bwI (bwF (mem 155) j))), (2, .long (Int64.ofNat (bwN (bwF (mem 155) j)))), (4, .int (nI j)), (5, .long (0 : Int64)), (7, .int (nI 0)), (8, .int (nI 0))]) [3, 4, 5, 6, 2, 1, 0] rfl ?_
        exact g_eq (lp_24 (_ + 1) 0 M1 (Nat.zero_le _) (hMN1) (Nat.lt_succ_self _)) (rfl) (gLc rfl (gLc rfl (gLc rfl (gLc rfl (gLc (congrArg Value.long (rfl)) (gLc (congrArg Value.int (rfl)) (rfl))))))) rfl
  refine g_loc (L2 := [(0, .ref (gad G 154)), (1, .int ((-1000009) : Int32)), (2, .long (0 : Int64)), (4, .int (nI 0))]) [3, 2, 1, 0] rfl ?_
  exact g_eq (lp_8 (_ + 1) 0 mem (Nat.zero_le _) (MN.rf mem) (Nat.lt_succ_self _)) (rfl) (gLc rfl (gLc (congrArg Value.int (rfl)) (gLc (congrArg Value.long (rfl)) (rfl)))) rfl
