set_option maxRecDepth 100000 in
set_option maxHeartbeats 4000000 in
theorem law_loop {p : Program} {l : Launch} {e : Env} {s : State} {m : MethodId} {args : Array Value} {below : List Frame} {meth : Method} {c : Code} {Q : State → Prop} {G : gG} {b N mc ms : Nat} {xs : Nat → Int32} {rt : Option FieldType} (C : gC G RL cL_law rt 8 p room_1 s m args meth c mc ms) (hN : N ≤ 2048) (X : sX G b N xs s) (hend : ∀ (mem : gM) (L : List (Nat × Value)), gV p l e room_1 s m args below meth c mc ms Q G 8 mem 882 L [.int (nI 1)]) (mem : gM) (hI : INV 0 mem) : gV p l e room_1 s m args below meth c mc ms Q G 8 mem 18 [(0, .ref b), (1, .ref (gad G 0)), (2, .ref (gad G 154)), (3, .int (nI 0))] [] := by
  have lp_18 : ∀ (fu : Nat) (i T : Nat) (M1 : gM), (4 * i ≤ N) → (T ≤ 200 * i) → (INV T M1) → N - 4 * i < fu → gV p l e room_1 s m args below meth c mc ms Q G 8 M1 18 [(0, .ref b), (1, .ref (gad G 0)), (2, .ref (gad G 154)), (3, .int (nI (4 * i)))] [] := by
    intro fu
    induction fu with
    | zero => intro i T M1 _ _ _ hfu; exact absurd hfu (Nat.not_lt_zero _)
    | succ fu ih_18 =>
      intro i T M1 hi0 hT hI1 hfu_18
      refine g_iload_n C 3 dL_law_18 rfl ?_
      refine g_aload_n C 0 dL_law_19 rfl ?_
      refine g_slen C X dL_law_20 ?_
      refine g_iconst C (nI 4) dL_law_21 (by decide) ?_
      refine g_isub C dL_law_22 ?_
      refine g_icmp_gt C 881 dL_law_23 (by decide) (fun c_23 => ?_) (fun c_23 => ?_)
      · refine g_iconst C (nI 1) dL_law_881 (by decide) ?_
        exact hend _ _
      · have hi : 4 * i + 4 ≤ N := (lw_more hi0 hN).mp c_23
        have kk : ∀ (T2 : Nat) (u : gM), T2 ≤ T + 200 → INV T2 u → gV p l e room_1 s m args below meth c mc ms Q G 8 u 875 [(0, .ref b), (1, .ref (gad G 0)), (2, .ref (gad G 154)), (3, .int (nI (4 * i)))] [] := by
          intro T2 u hT2 hI2
          refine g_iinc C (v := nI (4 * (i + 1))) (L2 := [(3, .int (nI (4 * (i + 1)))), (0, .ref b), (1, .ref (gad G 0)), (2, .ref (gad G 154))]) 3 dL_law_875 rfl (nI_add (4 * i) 4) (by decide) rfl ?_
          refine g_goto C 18 dL_law_878 (by decide) ?_
          refine g_loc (L2 := [(0, .ref b), (1, .ref (gad G 0)), (2, .ref (gad G 154)), (3, .int (nI (4 * (i + 1))))]) [1, 2, 3, 0] rfl ?_
          exact g_eq (ih_18 (i + 1) T2 u (by omega) (by omega) (hI2) (by omega)) (rfl) (rfl) rfl
        refine g_aload_n C 0 dL_law_26 rfl ?_
        refine g_iload_n C 3 dL_law_27 rfl ?_
        refine g_sld C X (j := 4 * i) (by omega) (by omega) dL_law_28 ?_
        refine g_bipush C (nI 31) dL_law_29 (by decide) ?_
        refine g_iand C dL_law_31 ?_
        rcases tsw_cases ((xs (4 * i)) &&& (nI 31)) 27 (by decide) with hsw | ⟨jsw, hsw, esw⟩
        · refine g_tswOut C 875 dL_law_32 (tsw_out hsw (by decide)) (by decide) ?_
          exact kk T M1 (by omega) hI1
        · match jsw, hsw, esw with
          | 0, _, esw =>
            refine g_tswIn C (off := 124) 156 dL_law_32 (by rw [esw]; decide) (by rw [esw]; decide) (by rw [esw]; decide) (by decide) ?_
            exact law_0 C hN X hi hT hI1 kk
          | 1, _, esw =>
            refine g_tswIn C (off := 157) 189 dL_law_32 (by rw [esw]; decide) (by rw [esw]; decide) (by rw [esw]; decide) (by decide) ?_
            exact law_1 C hN X hi hT hI1 kk
          | 2, _, esw =>
            refine g_tswIn C (off := 200) 232 dL_law_32 (by rw [esw]; decide) (by rw [esw]; decide) (by rw [esw]; decide) (by decide) ?_
            exact law_2 C hN X hi hT hI1 kk
          | 3, _, esw =>
            refine g_tswIn C (off := 249) 281 dL_law_32 (by rw [esw]; decide) (by rw [esw]; decide) (by rw [esw]; decide) (by decide) ?_
            exact law_3 C hN X hi hT hI1 kk
          | 4, _, esw =>
            refine g_tswIn C (off := 282) 314 dL_law_32 (by rw [esw]; decide) (by rw [esw]; decide) (by rw [esw]; decide) (by decide) ?_
            exact law_4 C hN X hi hT hI1 kk
          | 5, _, esw =>
            refine g_tswIn C (off := 315) 347 dL_law_32 (by rw [esw]; decide) (by rw [esw]; decide) (by rw [esw]; decide) (by decide) ?_
            exact law_5 C hN X hi hT hI1 kk
          | 6, _, esw =>
            refine g_tswIn C (off := 338) 370 dL_law_32 (by rw [esw]; decide) (by rw [esw]; decide) (by rw [esw]; decide) (by decide) ?_
            exact law_6 C hN X hi hT hI1 kk
          | 7, _, esw =>
            refine g_tswIn C (off := 361) 393 dL_law_32 (by rw [esw]; decide) (by rw [esw]; decide) (by rw [esw]; decide) (by decide) ?_
            exact law_7 C hN X hi hT hI1 kk
          | 8, _, esw =>
            refine g_tswIn C (off := 394) 426 dL_law_32 (by rw [esw]; decide) (by rw [esw]; decide) (by rw [esw]; decide) (by decide) ?_
            exact law_8 C hN X hi hT hI1 kk
          | 9, _, esw =>
            refine g_tswIn C (off := 427) 459 dL_law_32 (by rw [esw]; decide) (by rw [esw]; decide) (by rw [esw]; decide) (by decide) ?_
            exact law_9 C hN X hi hT hI1 kk
          | 10, _, esw =>
            refine g_tswIn C (off := 440) 472 dL_law_32 (by rw [esw]; decide) (by rw [esw]; decide) (by rw [esw]; decide) (by decide) ?_
            exact law_10 C hN X hi hT hI1 kk
          | 11, _, esw =>
            refine g_tswIn C (off := 454) 486 dL_law_32 (by rw [esw]; decide) (by rw [esw]; decide) (by rw [esw]; decide) (by decide) ?_
            exact law_11 C hN X hi hT hI1 kk
          | 12, _, esw =>
            refine g_tswIn C (off := 477) 509 dL_law_32 (by rw [esw]; decide) (by rw [esw]; decide) (by rw [esw]; decide) (by decide) ?_
            exact law_12 C hN X hi hT hI1 kk
          | 13, _, esw =>
            refine g_tswIn C (off := 510) 542 dL_law_32 (by rw [esw]; decide) (by rw [esw]; decide) (by rw [esw]; decide) (by decide) ?_
            exact law_13 C hN X hi hT hI1 kk
          | 14, _, esw =>
            refine g_tswIn C (off := 543) 575 dL_law_32 (by rw [esw]; decide) (by rw [esw]; decide) (by rw [esw]; decide) (by decide) ?_
            exact law_14 C hN X hi hT hI1 kk
          | 15, _, esw =>
            refine g_tswIn C (off := 566) 598 dL_law_32 (by rw [esw]; decide) (by rw [esw]; decide) (by rw [esw]; decide) (by decide) ?_
            exact law_15 C hN X hi hT hI1 kk
          | 16, _, esw =>
            refine g_tswIn C (off := 579) 611 dL_law_32 (by rw [esw]; decide) (by rw [esw]; decide) (by rw [esw]; decide) (by decide) ?_
            exact law_16 C hN X hi hT hI1 kk
          | 17, _, esw =>
            refine g_tswIn C (off := 592) 624 dL_law_32 (by rw [esw]; decide) (by rw [esw]; decide) (by rw [esw]; decide) (by decide) ?_
            exact law_17 C hN X hi hT hI1 kk
          | 18, _, esw =>
            refine g_tswIn C (off := 625) 657 dL_law_32 (by rw [esw]; decide) (by rw [esw]; decide) (by rw [esw]; decide) (by decide) ?_
            exact law_18 C hN X hi hT hI1 kk
          | 19, _, esw =>
            refine g_tswIn C (off := 648) 680 dL_law_32 (by rw [esw]; decide) (by rw [esw]; decide) (by rw [esw]; decide) (by decide) ?_
            exact law_19 C hN X hi hT hI1 kk
          | 20, _, esw =>
            refine g_tswIn C (off := 661) 693 dL_law_32 (by rw [esw]; decide) (by rw [esw]; decide) (by rw [esw]; decide) (by decide) ?_
            exact law_20 C hN X hi hT hI1 kk
          | 21, _, esw =>
            refine g_tswIn C (off := 704) 736 dL_law_32 (by rw [esw]; decide) (by rw [esw]; decide) (by rw [esw]; decide) (by decide) ?_
            exact law_21 C hN X hi hT hI1 kk
          | 22, _, esw =>
            refine g_tswIn C (off := 737) 769 dL_law_32 (by rw [esw]; decide) (by rw [esw]; decide) (by rw [esw]; decide) (by decide) ?_
            exact law_22 C hN X hi hT hI1 kk
          | 23, _, esw =>
            refine g_tswIn C (off := 760) 792 dL_law_32 (by rw [esw]; decide) (by rw [esw]; decide) (by rw [esw]; decide) (by decide) ?_
            exact law_23 C hN X hi hT hI1 kk
          | 24, _, esw =>
            refine g_tswIn C (off := 803) 835 dL_law_32 (by rw [esw]; decide) (by rw [esw]; decide) (by rw [esw]; decide) (by decide) ?_
            exact law_24 C hN X hi hT hI1 kk
          | 25, _, esw =>
            refine g_tswIn C (off := 816) 848 dL_law_32 (by rw [esw]; decide) (by rw [esw]; decide) (by rw [esw]; decide) (by decide) ?_
            exact law_25 C hN X hi hT hI1 kk
          | 26, _, esw =>
            refine g_tswIn C (off := 829) 861 dL_law_32 (by rw [esw]; decide) (by rw [esw]; decide) (by rw [esw]; decide) (by decide) ?_
            exact law_26 C hN X hi hT hI1 kk
          | jsw + 27, hsw, _ => exact absurd hsw (by omega)
  exact g_eq (lp_18 (_ + 1) 0 0 mem (Nat.zero_le _) (Nat.zero_le _) (hI) (Nat.lt_succ_self _)) (rfl) (gLc rfl (gLc rfl (gLc rfl (gLc (congrArg Value.int (rfl)) (rfl))))) rfl
