set_option maxRecDepth 100000 in
set_option maxHeartbeats 4000000 in
theorem law_loop {p : Program} {l : Launch} {e : Env} {s : State} {m : MethodId} {args : Array Value} {below : List Frame} {meth : Method} {c : Code} {Q : State → Prop} {G : gG} {b N : Nat} {xs : Nat → Int32} {rt : Option FieldType} (C0 : gC G RL cL_law rt 15 p room_1 s m args meth c 154 2474) (hN : N ≤ 260) (X : sX G b N xs s) (hA : upA (gA G)) (hx0 : G.2.2.1.2.2 = 0) (hend : ∀ (mem : gM) (L : List (Nat × Value)), gV p l e room_1 s m args below meth c 202 2954 Q G 15 mem 812 L [.int (nI 1)]) {n : Nat} (hn2 : 2 ≤ n) (hn9 : n ≤ 9) (mem : gM) (hI0 : LI 200 n mem) : gV p l e room_1 s m args below meth c 154 2474 Q G 15 mem 204 [(0, .ref b), (1, .ref (gad G 0)), (2, .int (nI n)), (3, .int (nI 0))] [] := by
  have lp_204 : ∀ (fu : Nat) (k : Nat) (M1 : gM), (k ≤ 24) → (LI (200 + 256 * k) n M1) → 24 - k < fu → gV p l e room_1 s m args below meth c (154 + 2 * k) (2474 + 20 * k) Q G 15 M1 204 [(0, .ref b), (1, .ref (gad G 0)), (2, .int (nI n)), (3, .int (nI k))] [] := by
    intro fu
    induction fu with
    | zero => intro k M1 _ _ hfu; exact absurd hfu (Nat.not_lt_zero _)
    | succ fu ih_204 =>
      intro k M1 hk hI hfu_204
      have hkc : 154 + 2 * k + 2 ≤ room_1.cells := by show 154 + 2 * k + 2 ≤ 600000; omega
      have hks : 2474 + 20 * k + 20 ≤ room_1.slots := by show 2474 + 20 * k + 20 ≤ 7302250; omega
      have C := C0.cnt (mc2 := 154 + 2 * k) (ms2 := 2474 + 20 * k) (by omega) (by omega)
      refine g_iload_n C 3 dL_law_204 rfl ?_
      refine g_bipush C (nI 24) dL_law_205 (by decide) ?_
      refine g_icmp_ge C 739 dL_law_207 (by decide) (fun c_207 => ?_) (fun c_207 => ?_)
      · have hk24 : k = 24 := by have q := (nI_leI (a := 24) (b := k) (by omega) (by omega)).mp c_207; omega
        obtain ⟨V, Vs, h, A, B, L, g, x, hnV⟩ := hI
        have hT : 200 + 256 * k < 2 ^ 20 := by omega
        obtain ⟨a0, n0, ea, en, ha, hn0⟩ := sil_b g hT
        refine g_aload_n C 1 dL_law_739 rfl ?_
        refine g_bipush C (nI 8) dL_law_740 (by decide) ?_
        refine g_cV1 C (As := [.int (nI 8)]) (w := .int (V 8)) (mem3 := M1) iX9_about (c_X9_about l G g M1 L.1 (nI 8)) wd_401 ob_0 rfl ⟨Nat.le_of_ble_eq_true rfl, Nat.le_of_ble_eq_true rfl⟩ ⟨rfl, rfl⟩ rfl (Nat.le_of_ble_eq_true rfl) dL_law_742 (congrArg Value.int (about_n (by decide))) (rfl) ?_
        refine g_aload_n C 1 dL_law_745 rfl ?_
        refine g_bipush C (nI 9) dL_law_746 (by decide) ?_
        refine g_cV1 C (As := [.int (nI 9)]) (w := .int (V 9)) (mem3 := M1) iX9_about (c_X9_about l G g M1 L.1 (nI 9)) wd_401 ob_0 rfl ⟨Nat.le_of_ble_eq_true rfl, Nat.le_of_ble_eq_true rfl⟩ ⟨rfl, rfl⟩ rfl (Nat.le_of_ble_eq_true rfl) dL_law_748 (congrArg Value.int (about_n (by decide))) (rfl) ?_
        refine g_iadd C dL_law_751 ?_
        refine g_if_ne C 759 dL_law_752 (by decide) (fun c_752 => ?_) (fun c_752 => ?_)
        · refine g_aload_n C 1 dL_law_759 rfl ?_
          refine g_bipush C (nI 9) dL_law_760 (by decide) ?_
          refine g_cV1 C (As := [.int (nI 9)]) (w := .int (V 9)) (mem3 := M1) iX9_about (c_X9_about l G g M1 L.1 (nI 9)) wd_401 ob_0 rfl ⟨Nat.le_of_ble_eq_true rfl, Nat.le_of_ble_eq_true rfl⟩ ⟨rfl, rfl⟩ rfl (Nat.le_of_ble_eq_true rfl) dL_law_762 (congrArg Value.int (about_n (by decide))) (rfl) ?_
          refine g_i2f C dL_law_765 ?_
          refine g_aload_n C 1 dL_law_766 rfl ?_
          refine g_bipush C (nI 8) dL_law_767 (by decide) ?_
          refine g_cV1 C (As := [.int (nI 8)]) (w := .int (V 8)) (mem3 := M1) iX9_about (c_X9_about l G g M1 L.1 (nI 8)) wd_401 ob_0 rfl ⟨Nat.le_of_ble_eq_true rfl, Nat.le_of_ble_eq_true rfl⟩ ⟨rfl, rfl⟩ rfl (Nat.le_of_ble_eq_true rfl) dL_law_769 (congrArg Value.int (about_n (by decide))) (rfl) ?_
          refine g_aload_n C 1 dL_law_772 rfl ?_
          refine g_bipush C (nI 9) dL_law_773 (by decide) ?_
          refine g_cV1 C (As := [.int (nI 9)]) (w := .int (V 9)) (mem3 := M1) iX9_about (c_X9_about l G g M1 L.1 (nI 9)) wd_401 ob_0 rfl ⟨Nat.le_of_ble_eq_true rfl, Nat.le_of_ble_eq_true rfl⟩ ⟨rfl, rfl⟩ rfl (Nat.le_of_ble_eq_true rfl) dL_law_775 (congrArg Value.int (about_n (by decide))) (rfl) ?_
          refine g_iadd C dL_law_778 ?_
          refine g_i2f C dL_law_779 ?_
          refine g_fdiv C (by rw [ea, en]; exact fx_div (Nat.pos_of_ne_zero fun z => c_752 (by rw [ea, z]; rfl)) ha hn0) dL_law_780 ?_
          refine g_fstore_n C (L2 := [(3, .float (FP.fdiv (FP.i2f (V 9)) (FP.i2f ((V 8) + (V 9))))), (0, .ref b), (1, .ref (gad G 0)), (2, .int (nI n))]) dL_law_781 (by decide) rfl ?_
          refine g_aload_n C 2 dL_law_782 rfl ?_
          refine g_cV1 C (As := []) (w := .float (silR V)) (mem3 := M1) iX9_silence (c_X9_silence l G g M1 L.1 hT) wd_557 ob_0 rfl ⟨Nat.le_of_ble_eq_true rfl, Nat.le_of_ble_eq_true rfl⟩ ⟨rfl, rfl⟩ rfl (Nat.le_of_ble_eq_true rfl) dL_law_783 (rfl) (rfl) ?_
          refine g_fload_n C 0 dL_law_786 rfl ?_
          refine g_fcmp C (v := (0 : Int32)) dL_law_787 (sil_cmp g hT (if_neg c_752)) ?_
          refine g_if_ne_f C 811 (rfl) dL_law_788 (by decide) ?_
          refine g_aload_n C 2 dL_law_791 rfl ?_
          refine g_iload_n C 3 dL_law_792 rfl ?_
          refine g_cS1 C (As := [.ref (gad G 0), .int (nI n)]) (w := .int (nI 1)) (mem3 := M1) iL_agrees (c_agrees_n l G hnV g M1 L hT x) wd_653 rfl ⟨Nat.le_of_ble_eq_true rfl, Nat.le_of_ble_eq_true rfl⟩ ⟨rfl, rfl⟩ rfl (Nat.le_of_ble_eq_true rfl) dL_law_793 (rfl) (rfl) ?_
          refine g_if_eq_f C 811 (by decide) dL_law_796 (by decide) ?_
          refine g_aload_n C 2 dL_law_799 rfl ?_
          refine g_iload_n C 3 dL_law_800 rfl ?_
          refine g_cSf C (As := [.ref (gad G 0), .int (nI n)]) (v := .int (nI 1)) iL_fails (c_fails_n l G hnV g M1 L hT) wd_618 rfl ⟨Nat.le_of_ble_eq_true rfl, Nat.le_of_ble_eq_true rfl⟩ ⟨rfl, rfl⟩ rfl (Nat.le_of_ble_eq_true rfl) dL_law_801 (fun uz hq => ?_)
          have Lz := hq
          refine g_if_eq_f C 811 (by decide) dL_law_804 (by decide) ?_
          refine g_iconst C (nI 1) dL_law_807 (by decide) ?_
          refine g_goto C 812 dL_law_808 (by decide) ?_
          refine g_widen (mc2 := 202) (ms2 := 2954) (by omega) (by omega) ?_
          exact hend _ _
        · refine g_fconst0 C dL_law_755 ?_
          refine g_goto C 781 dL_law_756 (by decide) ?_
          refine g_fstore_n C (L2 := [(3, .float (0 : UInt32)), (0, .ref b), (1, .ref (gad G 0)), (2, .int (nI n))]) dL_law_781 (by decide) rfl ?_
          refine g_aload_n C 2 dL_law_782 rfl ?_
          refine g_cV1 C (As := []) (w := .float (silR V)) (mem3 := M1) iX9_silence (c_X9_silence l G g M1 L.1 hT) wd_557 ob_0 rfl ⟨Nat.le_of_ble_eq_true rfl, Nat.le_of_ble_eq_true rfl⟩ ⟨rfl, rfl⟩ rfl (Nat.le_of_ble_eq_true rfl) dL_law_783 (rfl) (rfl) ?_
          refine g_fload_n C 0 dL_law_786 rfl ?_
          refine g_fcmp C (v := (0 : Int32)) dL_law_787 (sil_cmp g hT (if_pos c_752)) ?_
          refine g_if_ne_f C 811 (rfl) dL_law_788 (by decide) ?_
          refine g_aload_n C 2 dL_law_791 rfl ?_
          refine g_iload_n C 3 dL_law_792 rfl ?_
          refine g_cS1 C (As := [.ref (gad G 0), .int (nI n)]) (w := .int (nI 1)) (mem3 := M1) iL_agrees (c_agrees_n l G hnV g M1 L hT x) wd_653 rfl ⟨Nat.le_of_ble_eq_true rfl, Nat.le_of_ble_eq_true rfl⟩ ⟨rfl, rfl⟩ rfl (Nat.le_of_ble_eq_true rfl) dL_law_793 (rfl) (rfl) ?_
          refine g_if_eq_f C 811 (by decide) dL_law_796 (by decide) ?_
          refine g_aload_n C 2 dL_law_799 rfl ?_
          refine g_iload_n C 3 dL_law_800 rfl ?_
          refine g_cSf C (As := [.ref (gad G 0), .int (nI n)]) (v := .int (nI 1)) iL_fails (c_fails_n l G hnV g M1 L hT) wd_618 rfl ⟨Nat.le_of_ble_eq_true rfl, Nat.le_of_ble_eq_true rfl⟩ ⟨rfl, rfl⟩ rfl (Nat.le_of_ble_eq_true rfl) dL_law_801 (fun uz hq => ?_)
          have Lz := hq
          refine g_if_eq_f C 811 (by decide) dL_law_804 (by decide) ?_
          refine g_iconst C (nI 1) dL_law_807 (by decide) ?_
          refine g_goto C 812 dL_law_808 (by decide) ?_
          refine g_widen (mc2 := 202) (ms2 := 2954) (by omega) (by omega) ?_
          exact hend _ _
      · have hk2 : k < 24 := by have q := mt (nI_leI (a := 24) (b := k) (by omega) (by omega)).mpr c_207; omega
        have kk : ∀ (T2 : Nat) (u : gM), T2 ≤ 200 + 256 * k + 256 → LI T2 n u → gV p l e room_1 s m args below meth c (154 + 2 * k + 2) (2474 + 20 * k + 20) Q G 15 u 733 [(0, .ref b), (1, .ref (gad G 0)), (2, .int (nI n)), (3, .int (nI k))] [] := by
          intro T2 u hT2 hI2
          have C := C.cnt hkc hks
          refine g_iinc C (v := nI (k + 1)) (L2 := [(3, .int (nI (k + 1))), (0, .ref b), (1, .ref (gad G 0)), (2, .int (nI n))]) 3 dL_law_733 rfl (nI_1 _) (by decide) rfl ?_
          refine g_goto C 204 dL_law_736 (by decide) ?_
          refine g_widen (mc2 := 154 + 2 * (k + 1)) (ms2 := 2474 + 20 * (k + 1)) (by omega) (by omega) ?_
          refine g_loc (L2 := [(0, .ref b), (1, .ref (gad G 0)), (2, .int (nI n)), (3, .int (nI (k + 1)))]) [1, 2, 3, 0] rfl ?_
          exact g_eq (ih_204 (k + 1) u (hk2) (hI2.more (by omega)) (by omega)) (rfl) (rfl) rfl
        refine g_aload_n C 0 dL_law_210 rfl ?_
        refine g_bipush C (nI 10) dL_law_211 (by decide) ?_
        refine g_iload_n C 3 dL_law_213 rfl ?_
        refine g_iadd_n C (d := 10 + k) dL_law_214 rfl ?_
        refine g_cell C X hN (k := 10 + k) (by omega) wd_610 ⟨Nat.le_of_ble_eq_true rfl, Nat.le_of_ble_eq_true rfl⟩ (Nat.le_of_ble_eq_true rfl) dL_law_215 (fun rc1 => ?_)
        refine g_istore C (L2 := [(4, .int rc1), (0, .ref b), (1, .ref (gad G 0)), (2, .int (nI n)), (3, .int (nI k))]) dL_law_218 (by decide) rfl ?_
        refine g_iload C 0 dL_law_220 rfl ?_
        refine g_iconst C (nI 4) dL_law_222 (by decide) ?_
        refine g_ishr C dL_law_223 ?_
        refine g_istore C (L2 := [(5, .int (rc1 >>> ((nI 4) &&& 31))), (4, .int rc1), (0, .ref b), (1, .ref (gad G 0)), (2, .int (nI n)), (3, .int (nI k))]) dL_law_224 (by decide) rfl ?_
        refine g_iload C 0 dL_law_226 rfl ?_
        refine g_iload_n C 4 dL_law_228 rfl ?_
        refine g_cS1 C (As := [.int (rc1 >>> ((nI 4) &&& 31)), .int (nI n)]) (w := .int (nI (upN (rc1 >>> ((nI 4) &&& 31)) n))) (mem3 := M1) iL_up (c_L_up l G M1 (rc1 >>> ((nI 4) &&& 31)) (k := n) (by omega) (by omega)) wd_614 rfl ⟨Nat.le_of_ble_eq_true rfl, Nat.le_of_ble_eq_true rfl⟩ ⟨rfl, rfl⟩ rfl (Nat.le_of_ble_eq_true rfl) dL_law_229 (rfl) (rfl) ?_
        refine g_istore C (L2 := [(6, .int (nI (upN (rc1 >>> ((nI 4) &&& 31)) n))), (5, .int (rc1 >>> ((nI 4) &&& 31))), (4, .int rc1), (0, .ref b), (1, .ref (gad G 0)), (2, .int (nI n)), (3, .int (nI k))]) dL_law_232 (by decide) rfl ?_
        refine g_iload C 1 dL_law_234 rfl ?_
        refine g_iconst C (nI 4) dL_law_236 (by decide) ?_
        refine g_ishr C dL_law_237 ?_
        refine g_bipush C (nI 6) dL_law_238 (by decide) ?_
        refine g_cS1 C (As := [.int ((rc1 >>> ((nI 4) &&& 31)) >>> ((nI 4) &&& 31)), .int (nI 6)]) (w := .int (nI (upN ((rc1 >>> ((nI 4) &&& 31)) >>> ((nI 4) &&& 31)) 6))) (mem3 := M1) iL_up (c_L_up l G M1 ((rc1 >>> ((nI 4) &&& 31)) >>> ((nI 4) &&& 31)) (k := 6) (by omega) (by omega)) wd_614 rfl ⟨Nat.le_of_ble_eq_true rfl, Nat.le_of_ble_eq_true rfl⟩ ⟨rfl, rfl⟩ rfl (Nat.le_of_ble_eq_true rfl) dL_law_240 (rfl) (rfl) ?_
        refine g_bipush C (nI 39) dL_law_243 (by decide) ?_
        refine g_imul_n C (d := (upN ((rc1 >>> ((nI 4) &&& 31)) >>> ((nI 4) &&& 31)) 6) * 39) dL_law_245 rfl ?_
        refine g_istore C (L2 := [(7, .int (nI ((upN ((rc1 >>> ((nI 4) &&& 31)) >>> ((nI 4) &&& 31)) 6) * 39))), (6, .int (nI (upN (rc1 >>> ((nI 4) &&& 31)) n))), (5, .int (rc1 >>> ((nI 4) &&& 31))), (4, .int rc1), (0, .ref b), (1, .ref (gad G 0)), (2, .int (nI n)), (3, .int (nI k))]) dL_law_246 (by decide) rfl ?_
        have hbb : (upN ((rc1 >>> ((nI 4) &&& 31)) >>> ((nI 4) &&& 31)) 6) * 39 < 200 := by have q := up_lt ((rc1 >>> ((nI 4) &&& 31)) >>> ((nI 4) &&& 31)) (k := 6) (by decide); omega
        refine g_iconst C (nI 1) dL_law_248 (by decide) ?_
        refine g_istore C (L2 := [(8, .int (nI 1)), (7, .int (nI ((upN ((rc1 >>> ((nI 4) &&& 31)) >>> ((nI 4) &&& 31)) 6) * 39))), (6, .int (nI (upN (rc1 >>> ((nI 4) &&& 31)) n))), (5, .int (rc1 >>> ((nI 4) &&& 31))), (4, .int rc1), (0, .ref b), (1, .ref (gad G 0)), (2, .int (nI n)), (3, .int (nI k))]) dL_law_249 (by decide) rfl ?_
        refine g_iload C 4 dL_law_251 rfl ?_
        refine g_bipush C (nI 10) dL_law_253 (by decide) ?_
        refine g_cS1 C (As := [.int rc1, .int (nI 10)]) (w := .int (nI (upN rc1 10))) (mem3 := M1) iL_up (c_L_up l G M1 rc1 (k := 10) (by omega) (by omega)) wd_614 rfl ⟨Nat.le_of_ble_eq_true rfl, Nat.le_of_ble_eq_true rfl⟩ ⟨rfl, rfl⟩ rfl (Nat.le_of_ble_eq_true rfl) dL_law_255 (rfl) (rfl) ?_
        refine g_istore C (L2 := [(9, .int (nI (upN rc1 10))), (8, .int (nI 1)), (7, .int (nI ((upN ((rc1 >>> ((nI 4) &&& 31)) >>> ((nI 4) &&& 31)) 6) * 39))), (6, .int (nI (upN (rc1 >>> ((nI 4) &&& 31)) n))), (5, .int (rc1 >>> ((nI 4) &&& 31))), (4, .int rc1), (0, .ref b), (1, .ref (gad G 0)), (2, .int (nI n)), (3, .int (nI k))]) dL_law_258 (by decide) rfl ?_
        refine g_iload C 0 dL_law_260 rfl ?_
        refine g_iconst C (nI 3) dL_law_262 (by decide) ?_
        refine g_icmp_ge C 336 dL_law_263 (by decide) (fun c_263 => ?_) (fun c_263 => ?_)
        · refine g_iload C 0 dL_law_336 rfl ?_
          refine g_iconst C (nI 5) dL_law_338 (by decide) ?_
          refine g_icmp_ge C 515 dL_law_339 (by decide) (fun c_339 => ?_) (fun c_339 => ?_)
          · refine g_iload C 0 dL_law_515 rfl ?_
            refine g_iconst C (nI 5) dL_law_517 (by decide) ?_
            refine g_icmp_ne C 531 dL_law_518 (by decide) (fun c_518 => ?_) (fun c_518 => ?_)
            · refine g_iload C 0 dL_law_531 rfl ?_
              refine g_bipush C (nI 8) dL_law_533 (by decide) ?_
              refine g_icmp_ge C 550 dL_law_535 (by decide) (fun c_535 => ?_) (fun c_535 => ?_)
              · refine g_iload C 0 dL_law_550 rfl ?_
                refine g_bipush C (nI 8) dL_law_552 (by decide) ?_
                refine g_icmp_ne C 600 dL_law_554 (by decide) (fun c_554 => ?_) (fun c_554 => ?_)
                · refine g_loc (L2 := [(0, .ref b), (1, .ref (gad G 0)), (2, .int (nI n)), (3, .int (nI k)), (4, .int rc1), (5, .int (rc1 >>> ((nI 4) &&& 31))), (6, .int (nI (upN (rc1 >>> ((nI 4) &&& 31)) n))), (7, .int (nI ((upN ((rc1 >>> ((nI 4) &&& 31)) >>> ((nI 4) &&& 31)) 6) * 39))), (8, .int (nI 1)), (9, .int (nI (upN rc1 10)))]) [6, 7, 8, 9, 5, 4, 3, 2, 1, 0] rfl ?_
                  exact law_F C hN X hA hx0 hkc hks hn2 hn9 hk2 (by omega) hI (up_lt _ (by omega)) hbb kk
                · refine g_loc (L2 := [(0, .ref b), (1, .ref (gad G 0)), (2, .int (nI n)), (3, .int (nI k)), (4, .int rc1), (5, .int (rc1 >>> ((nI 4) &&& 31))), (6, .int (nI (upN (rc1 >>> ((nI 4) &&& 31)) n))), (7, .int (nI ((upN ((rc1 >>> ((nI 4) &&& 31)) >>> ((nI 4) &&& 31)) 6) * 39))), (8, .int (nI 1)), (9, .int (nI (upN rc1 10)))]) [6, 7, 8, 9, 5, 4, 3, 2, 1, 0] rfl ?_
                  exact law_E C hN X hA hx0 hkc hks hn2 hn9 hk2 (by omega) hI (up_lt _ (by omega)) hbb kk
              · refine g_loc (L2 := [(0, .ref b), (1, .ref (gad G 0)), (2, .int (nI n)), (3, .int (nI k)), (4, .int rc1), (5, .int (rc1 >>> ((nI 4) &&& 31))), (6, .int (nI (upN (rc1 >>> ((nI 4) &&& 31)) n))), (7, .int (nI ((upN ((rc1 >>> ((nI 4) &&& 31)) >>> ((nI 4) &&& 31)) 6) * 39))), (8, .int (nI 1)), (9, .int (nI (upN rc1 10)))]) [6, 7, 8, 9, 5, 4, 3, 2, 1, 0] rfl ?_
                exact law_D C hN X hA hx0 hkc hks hn2 hn9 hk2 (by omega) hI (up_lt _ (by omega)) hbb kk
            · refine g_loc (L2 := [(0, .ref b), (1, .ref (gad G 0)), (2, .int (nI n)), (3, .int (nI k)), (4, .int rc1), (5, .int (rc1 >>> ((nI 4) &&& 31))), (6, .int (nI (upN (rc1 >>> ((nI 4) &&& 31)) n))), (7, .int (nI ((upN ((rc1 >>> ((nI 4) &&& 31)) >>> ((nI 4) &&& 31)) 6) * 39))), (8, .int (nI 1)), (9, .int (nI (upN rc1 10)))]) [6, 7, 8, 9, 5, 4, 3, 2, 1, 0] rfl ?_
              exact law_C C hN X hA hx0 hkc hks hn2 hn9 hk2 (by omega) hI (up_lt _ (by omega)) hbb kk
          · refine g_loc (L2 := [(0, .ref b), (1, .ref (gad G 0)), (2, .int (nI n)), (3, .int (nI k)), (4, .int rc1), (5, .int (rc1 >>> ((nI 4) &&& 31))), (6, .int (nI (upN (rc1 >>> ((nI 4) &&& 31)) n))), (7, .int (nI ((upN ((rc1 >>> ((nI 4) &&& 31)) >>> ((nI 4) &&& 31)) 6) * 39))), (8, .int (nI 1)), (9, .int (nI (upN rc1 10)))]) [6, 7, 8, 9, 5, 4, 3, 2, 1, 0] rfl ?_
            exact law_B C hN X hA hx0 hkc hks hn2 hn9 hk2 (by omega) hI (up_lt _ (by omega)) hbb kk
        · refine g_loc (L2 := [(0, .ref b), (1, .ref (gad G 0)), (2, .int (nI n)), (3, .int (nI k)), (4, .int rc1), (5, .int (rc1 >>> ((nI 4) &&& 31))), (6, .int (nI (upN (rc1 >>> ((nI 4) &&& 31)) n))), (7, .int (nI ((upN ((rc1 >>> ((nI 4) &&& 31)) >>> ((nI 4) &&& 31)) 6) * 39))), (8, .int (nI 1)), (9, .int (nI (upN rc1 10)))]) [6, 7, 8, 9, 5, 4, 3, 2, 1, 0] rfl ?_
          exact law_A C hN X hA hx0 hkc hks hn2 hn9 hk2 (by omega) hI (up_lt _ (by omega)) hbb kk
  exact g_eq (lp_204 (_ + 1) 0 mem (Nat.zero_le _) (hI0) (Nat.lt_succ_self _)) (rfl) (rfl) rfl

set_option maxRecDepth 100000 in
set_option maxHeartbeats 4000000 in
theorem law_init {p : Program} {l : Launch} {e : Env} {s : State} {m : MethodId} {args : Array Value} {below : List Frame} {meth : Method} {c : Code} {Q : State → Prop} {G : gG} {b N : Nat} {xs : Nat → Int32} {rt : Option FieldType} (C0 : gC G RL cL_law rt 15 p room_1 s m args meth c 154 2474) (hN : N ≤ 260) (X : sX G b N xs s) (hA : upA (gA G)) (hx0 : G.2.2.1.2.2 = 0) (hend : ∀ (mem : gM) (L : List (Nat × Value)), gV p l e room_1 s m args below meth c 202 2954 Q G 15 mem 812 L [.int (nI 1)]) (mem : gM) {A B : Nat → Int32} (L : kLS 0 set5 (fun _ _ => 0) 0 A B mem) : gV p l e room_1 s m args below meth c 154 2474 Q G 15 mem 8 [(0, .ref b), (1, .ref (gad G 0))] [] := by
  have C := C0
  have g := good_0
  have x := ex_0
  refine g_aload_n C 1 dL_law_8 rfl ?_
  refine g_cVr C (As := []) iX9_undo (c_X9_undo l G g mem L.1 L.2.1.choose_spec) wd_572 ob_0 rfl ⟨Nat.le_of_ble_eq_true rfl, Nat.le_of_ble_eq_true rfl⟩ ⟨rfl, rfl⟩ rfl (Nat.le_of_ble_eq_true rfl) dL_law_9 (fun r241 u238 hq => ?_)
  obtain ⟨e240, L239⟩ := ux_0 L hq
  subst e240
  refine g_ldc C wd_626 dL_law_12 ?_
  refine g_icmp_ne_f C 93 (rfl) dL_law_14 (by decide) ?_
  refine g_aload_n C 1 dL_law_17 rfl ?_
  refine g_iconst C (nI 5) dL_law_18 (by decide) ?_
  refine g_cV1 C (As := [.int (nI 5)]) (w := .int (nI 0)) (mem3 := u238) iX9_about (c_X9_about l G g u238 L239.1 (nI 5)) wd_401 ob_0 rfl ⟨Nat.le_of_ble_eq_true rfl, Nat.le_of_ble_eq_true rfl⟩ ⟨rfl, rfl⟩ rfl (Nat.le_of_ble_eq_true rfl) dL_law_19 (congrArg Value.int ((about_n (V := set5) (k := 5) (by decide)).trans (set5_0 (by decide)))) (rfl) ?_
  refine g_if_ne_f C 93 (by decide) dL_law_22 (by decide) ?_
  refine g_aload_n C 1 dL_law_25 rfl ?_
  refine g_iconst C (nI 0) dL_law_26 (by decide) ?_
  refine g_cV1 C (As := [.int (nI 0)]) (w := .int kNone) (mem3 := u238) iX9_duty (c_X9_duty l G g u238 L239.1 (nI 0)) wd_471 ob_0 rfl ⟨Nat.le_of_ble_eq_true rfl, Nat.le_of_ble_eq_true rfl⟩ ⟨rfl, rfl⟩ rfl (Nat.le_of_ble_eq_true rfl) dL_law_27 (congrArg Value.int (duty_out g (i := 0) (Nat.le_of_eq set5_z) (by decide))) (rfl) ?_
  refine g_ldc C wd_626 dL_law_30 ?_
  refine g_icmp_ne_f C 93 (rfl) dL_law_32 (by decide) ?_
  refine g_aload_n C 1 dL_law_35 rfl ?_
  refine g_cVr C (As := []) iX9_draw (c_X9_draw l G g u238 L239.1 L239.2.1.choose_spec) wd_423 ob_0 rfl ⟨Nat.le_of_ble_eq_true rfl, Nat.le_of_ble_eq_true rfl⟩ ⟨rfl, rfl⟩ rfl (Nat.le_of_ble_eq_true rfl) dL_law_36 (fun r245 u242 hq => ?_)
  obtain ⟨e244, L243⟩ := ax_no L239 hq (s5_draw)
  have e244 : r245 = kState := e244.trans (rfl)
  subst e244
  refine g_ldc C wd_661 dL_law_39 ?_
  refine g_icmp_ne_f C 93 (rfl) dL_law_41 (by decide) ?_
  refine g_aload_n C 1 dL_law_44 rfl ?_
  refine g_iconst C (nI 0) dL_law_45 (by decide) ?_
  refine g_cVf C (As := [.int (nI 0)]) (v := .int (whyR set5 (nI 0))) iX9_why (c_X9_why l G g u242 L243.1 (nI 0)) wd_553 ob_0 rfl ⟨Nat.le_of_ble_eq_true rfl, Nat.le_of_ble_eq_true rfl⟩ ⟨rfl, rfl⟩ rfl (Nat.le_of_ble_eq_true rfl) dL_law_46 (fun u246 hq => ?_)
  have L247 := ls_fr L243 hq
  refine g_top (y := nI 1) ((why_n (by decide)).trans (congrArg nI (s5_hcd 0))) ?_
  refine g_iconst C (nI 1) dL_law_49 (by decide) ?_
  refine g_icmp_ne_f C 93 (by decide) dL_law_50 (by decide) ?_
  refine g_aload_n C 1 dL_law_53 rfl ?_
  refine g_cVr C (As := []) iX9_bestWait (c_X9_bestWait l G g u246 L247.1) wd_561 ob_0 rfl ⟨Nat.le_of_ble_eq_true rfl, Nat.le_of_ble_eq_true rfl⟩ ⟨rfl, rfl⟩ rfl (Nat.le_of_ble_eq_true rfl) dL_law_54 (fun r251 u248 hq => ?_)
  obtain ⟨e250, hf⟩ := hq
  have L249 := ls_fr L247 hf
  have e250 : r251 = kNone := e250.trans (bw_no s5_cnt)
  subst e250
  refine g_ldc C wd_626 dL_law_57 ?_
  refine g_icmp_ne_f C 93 (rfl) dL_law_59 (by decide) ?_
  refine g_aload_n C 1 dL_law_62 rfl ?_
  refine g_cV1 C (As := []) (w := .float (silR set5)) (mem3 := u248) iX9_silence (c_X9_silence l G g u248 L249.1 (by decide)) wd_557 ob_0 rfl ⟨Nat.le_of_ble_eq_true rfl, Nat.le_of_ble_eq_true rfl⟩ ⟨rfl, rfl⟩ rfl (Nat.le_of_ble_eq_true rfl) dL_law_63 (rfl) (rfl) ?_
  refine g_fconst0 C dL_law_66 ?_
  refine g_fcmp C (v := (0 : Int32)) dL_law_67 (sil_cmp g (by decide) s5_sil) ?_
  refine g_if_ne_f C 93 (rfl) dL_law_68 (by decide) ?_
  refine g_aload_n C 1 dL_law_71 rfl ?_
  refine g_cVr C (As := []) iX9_repairAll (c_X9_repairAll l G g u248 L249.1 L249.2.1.choose_spec (by omega)) wd_491 ob_0 rfl ⟨Nat.le_of_ble_eq_true rfl, Nat.le_of_ble_eq_true rfl⟩ ⟨rfl, rfl⟩ rfl (Nat.le_of_ble_eq_true rfl) dL_law_72 (fun r255 u252 hq => ?_)
  obtain ⟨⟨e254, xp⟩, gS⟩ := hq
  have hra := ra_all g x 200 (Nat.le_refl _) (by omega)
  have L253 := (ls_xp L249 xp).more (Nat.le_add_right 0 200)
  have e254 : r255 = nI 0 := e254.trans ((congrArg nI hra.2.1).trans (congrArg nI s5_cnt))
  subst e254
  refine g_if_ne_f C 93 (by decide) dL_law_75 (by decide) ?_
  refine g_aload_n C 1 dL_law_78 rfl ?_
  refine g_cVr C (As := []) iX9_undo (c_X9_undo l G gS u252 L253.1 L253.2.1.choose_spec) wd_572 ob_0 rfl ⟨Nat.le_of_ble_eq_true rfl, Nat.le_of_ble_eq_true rfl⟩ ⟨rfl, rfl⟩ rfl (Nat.le_of_ble_eq_true rfl) dL_law_79 (fun r259 u256 hq => ?_)
  obtain ⟨e258, L257⟩ := ux_top L253 (Nat.zero_le _) hq
  have e258 : r259 = nI 0 := e258.trans (by decide)
  subst e258
  have g2 : Good 200 set5 := good_0.more (by decide)
  have x2 : Ex 200 set5 := ex_0.more (by decide)
  refine g_if_ne_f C 93 (by decide) dL_law_82 (by decide) ?_
  refine g_aload_n C 1 dL_law_85 rfl ?_
  refine g_iconst C (nI 0) dL_law_86 (by decide) ?_
  refine g_cSf C (As := [.ref (gad G 0), .int (nI 0)]) (v := .int (nI 1)) iL_fails (c_fails_n l G set5_n g2 u256 L257 (T := 200) (by decide)) wd_618 rfl ⟨Nat.le_of_ble_eq_true rfl, Nat.le_of_ble_eq_true rfl⟩ ⟨rfl, rfl⟩ rfl (Nat.le_of_ble_eq_true rfl) dL_law_87 (fun u260 hq => ?_)
  have L261 := hq
  refine g_if_ne_t C 95 (by decide) dL_law_90 (by decide) ?_
  refine g_iconst C (nI 2) dL_law_95 (by decide) ?_
  refine g_aload_n C 0 dL_law_96 rfl ?_
  refine g_iconst C (nI 0) dL_law_97 (by decide) ?_
  refine g_cell C X hN (k := 0) (by omega) wd_610 ⟨Nat.le_of_ble_eq_true rfl, Nat.le_of_ble_eq_true rfl⟩ (Nat.le_of_ble_eq_true rfl) dL_law_98 (fun rc1 => ?_)
  refine g_bipush C (nI 8) dL_law_101 (by decide) ?_
  refine g_cS1 C (As := [.int rc1, .int (nI 8)]) (w := .int (nI (upN rc1 8))) (mem3 := u260) iL_up (c_L_up l G u260 rc1 (k := 8) (by omega) (by omega)) wd_614 rfl ⟨Nat.le_of_ble_eq_true rfl, Nat.le_of_ble_eq_true rfl⟩ ⟨rfl, rfl⟩ rfl (Nat.le_of_ble_eq_true rfl) dL_law_103 (rfl) (rfl) ?_
  refine g_iadd_n C (d := 2 + (upN rc1 8)) dL_law_106 rfl ?_
  obtain ⟨n, en, hn2, hn9⟩ : ∃ n, 2 + (upN rc1 8) = n ∧ 2 ≤ n ∧ n ≤ 9 := ⟨_, rfl, by omega, by have := up_lt rc1 (k := 8) (by decide); omega⟩
  rw [en]
  refine g_istore_n C (L2 := [(2, .int (nI n)), (0, .ref b), (1, .ref (gad G 0))]) dL_law_107 (by decide) rfl ?_
  refine g_iconst C (nI 0) dL_law_108 (by decide) ?_
  refine g_istore_n C (L2 := [(3, .int (nI 0)), (2, .int (nI n)), (0, .ref b), (1, .ref (gad G 0))]) dL_law_109 (by decide) rfl ?_
  have lp_110 : ∀ (fu : Nat) (m1 : Nat) (M1 : gM), (m1 ≤ n) → (∃ (V : Nat → Int32) (Vs : Nat → Nat → Int32) (h : Nat) (A B : Nat → Int32), kLS 200 V Vs h A B M1 ∧ Good 200 V ∧ Ex 200 V ∧ vN V = m1 ∧ V 2 = nI 2) → n - m1 < fu → gV p l e room_1 s m args below meth c 154 2474 Q G 15 M1 110 [(0, .ref b), (1, .ref (gad G 0)), (2, .int (nI n)), (3, .int (nI m1))] [] := by
    intro fu
    induction fu with
    | zero => intro m1 M1 _ _ hfu; exact absurd hfu (Nat.not_lt_zero _)
    | succ fu ih_110 =>
      intro m1 M1 hm LJ hfu_110
      obtain ⟨V, Vs, h, A, B, L, g, x, hnV, h2v⟩ := LJ
      refine g_iload_n C 3 dL_law_110 rfl ?_
      refine g_iload_n C 2 dL_law_111 rfl ?_
      refine g_icmp_ge C 170 dL_law_112 (by decide) (fun c_112 => ?_) (fun c_112 => ?_)
      · have hin : m1 = n := by have q := (nI_leI (a := n) (b := m1) (by omega) (by omega)).mp c_112; omega
        have hnV : vN V = n := hnV.trans hin
        refine g_aload_n C 1 dL_law_170 rfl ?_
        refine g_iconst C (nI 2) dL_law_171 (by decide) ?_
        refine g_iconst C (nI 1) dL_law_172 (by decide) ?_
        refine g_aload_n C 0 dL_law_173 rfl ?_
        refine g_iconst C (nI 0) dL_law_174 (by decide) ?_
        refine g_cell C X hN (k := 0) (by omega) wd_610 ⟨Nat.le_of_ble_eq_true rfl, Nat.le_of_ble_eq_true rfl⟩ (Nat.le_of_ble_eq_true rfl) dL_law_175 (fun rc2 => ?_)
        refine g_iconst C (nI 4) dL_law_178 (by decide) ?_
        refine g_ishr C dL_law_179 ?_
        refine g_iconst C (nI 2) dL_law_180 (by decide) ?_
        refine g_cS1 C (As := [.int (rc2 >>> ((nI 4) &&& 31)), .int (nI 2)]) (w := .int (nI (upN (rc2 >>> ((nI 4) &&& 31)) 2))) (mem3 := M1) iL_up (c_L_up l G M1 (rc2 >>> ((nI 4) &&& 31)) (k := 2) (by omega) (by omega)) wd_614 rfl ⟨Nat.le_of_ble_eq_true rfl, Nat.le_of_ble_eq_true rfl⟩ ⟨rfl, rfl⟩ rfl (Nat.le_of_ble_eq_true rfl) dL_law_181 (rfl) (rfl) ?_
        refine g_iadd_n C (d := 1 + (upN (rc2 >>> ((nI 4) &&& 31)) 2)) dL_law_184 rfl ?_
        have hst : setP (nI 2) (nI (1 + (upN (rc2 >>> ((nI 4) &&& 31)) 2))) := (set_j (j := 2) (by decide) set_z.2.2.2.2.1 set_z.2.2.2.2.2.1).mpr ⟨nI_le (by omega) (by have := up_lt (rc2 >>> ((nI 4) &&& 31)) (k := 2) (by decide); omega), nI_le (by have := up_lt (rc2 >>> ((nI 4) &&& 31)) (k := 2) (by decide); omega) (by decide)⟩
        refine g_cVr C (As := [.int (nI 2), .int (nI (1 + (upN (rc2 >>> ((nI 4) &&& 31)) 2)))]) iX9_set (c_X9_set l G g M1 L.1 L.2.1.choose_spec (nI 2) (nI (1 + (upN (rc2 >>> ((nI 4) &&& 31)) 2)))) wd_384 ob_0 rfl ⟨Nat.le_of_ble_eq_true rfl, Nat.le_of_ble_eq_true rfl⟩ ⟨rfl, rfl⟩ rfl (Nat.le_of_ble_eq_true rfl) dL_law_185 (fun r265 u262 hq => ?_)
        rw [toN_nI (show 2 < 2 ^ 31 by decide)] at hq
        obtain ⟨e264, L263⟩ := ax_ok L hq (hst)
        have e264 : r265 = nI 2 := e264.trans (h2v)
        subst e264
        have g2 : Good 200 (upd V 2 (nI (1 + (upN (rc2 >>> ((nI 4) &&& 31)) 2)))) := good_set g (j := 2) (by decide) hst
        have x2 : Ex 200 (upd V 2 (nI (1 + (upN (rc2 >>> ((nI 4) &&& 31)) 2)))) := ex_upd x (by decide) (fun m _ => by omega)
        have hn3 : vN (upd V 2 (nI (1 + (upN (rc2 >>> ((nI 4) &&& 31)) 2)))) = n := (vN_upd (by decide)).trans hnV
        refine g_iconst C (nI 2) dL_law_188 (by decide) ?_
        refine g_icmp_ne_f C 200 (by decide) dL_law_189 (by decide) ?_
        refine g_aload_n C 1 dL_law_192 rfl ?_
        refine g_iload_n C 2 dL_law_193 rfl ?_
        refine g_cSf C (As := [.ref (gad G 0), .int (nI n)]) (v := .int (nI 1)) iL_fails (c_fails_n l G hn3 g2 u262 L263 (T := 200) (by decide)) wd_618 rfl ⟨Nat.le_of_ble_eq_true rfl, Nat.le_of_ble_eq_true rfl⟩ ⟨rfl, rfl⟩ rfl (Nat.le_of_ble_eq_true rfl) dL_law_194 (fun u266 hq => ?_)
        have L267 := hq
        refine g_if_ne_t C 202 (by decide) dL_law_197 (by decide) ?_
        refine g_iconst C (nI 0) dL_law_202 (by decide) ?_
        refine g_istore_n C (L2 := [(3, .int (nI 0)), (0, .ref b), (1, .ref (gad G 0)), (2, .int (nI n))]) dL_law_203 (by decide) rfl ?_
        refine g_loc (L2 := [(0, .ref b), (1, .ref (gad G 0)), (2, .int (nI n)), (3, .int (nI 0))]) [1, 2, 3, 0] rfl ?_
        exact law_loop C0 hN X hA hx0 hend hn2 hn9 u266 ⟨_, _, _, _, _, L267, g2, x2, hn3⟩
      · have hm2 : m1 < n := by have q := mt (nI_leI (a := n) (b := m1) (by omega) (by omega)).mpr c_112; omega
        refine g_aload_n C 0 dL_law_115 rfl ?_
        refine g_iconst C (nI 1) dL_law_116 (by decide) ?_
        refine g_iload_n C 3 dL_law_117 rfl ?_
        refine g_iadd_n C (d := 1 + m1) dL_law_118 rfl ?_
        refine g_cell C X hN (k := 1 + m1) (by omega) wd_610 ⟨Nat.le_of_ble_eq_true rfl, Nat.le_of_ble_eq_true rfl⟩ (Nat.le_of_ble_eq_true rfl) dL_law_119 (fun rc3 => ?_)
        refine g_istore C (L2 := [(4, .int rc3), (0, .ref b), (1, .ref (gad G 0)), (2, .int (nI n)), (3, .int (nI m1))]) dL_law_122 (by decide) rfl ?_
        refine g_aload_n C 2 dL_law_124 rfl ?_
        refine g_iconst C (nI 1) dL_law_125 (by decide) ?_
        refine g_iload C 0 dL_law_126 rfl ?_
        refine g_bipush C (nI 9) dL_law_128 (by decide) ?_
        refine g_cS1 C (As := [.int rc3, .int (nI 9)]) (w := .int (nI (upN rc3 9))) (mem3 := M1) iL_up (c_L_up l G M1 rc3 (k := 9) (by omega) (by omega)) wd_614 rfl ⟨Nat.le_of_ble_eq_true rfl, Nat.le_of_ble_eq_true rfl⟩ ⟨rfl, rfl⟩ rfl (Nat.le_of_ble_eq_true rfl) dL_law_130 (rfl) (rfl) ?_
        refine g_iadd_n C (d := 1 + (upN rc3 9)) dL_law_133 rfl ?_
        refine g_iload C 0 dL_law_134 rfl ?_
        refine g_iconst C (nI 4) dL_law_136 (by decide) ?_
        refine g_ishr C dL_law_137 ?_
        refine g_sipush C (nI 1001) dL_law_138 (by decide) ?_
        refine g_cS1 C (As := [.int (rc3 >>> ((nI 4) &&& 31)), .int (nI 1001)]) (w := .int (nI (upN (rc3 >>> ((nI 4) &&& 31)) 1001))) (mem3 := M1) iL_up (c_L_up l G M1 (rc3 >>> ((nI 4) &&& 31)) (k := 1001) (by omega) (by omega)) wd_614 rfl ⟨Nat.le_of_ble_eq_true rfl, Nat.le_of_ble_eq_true rfl⟩ ⟨rfl, rfl⟩ rfl (Nat.le_of_ble_eq_true rfl) dL_law_141 (rfl) (rfl) ?_
        have hw9 : wOK (nI (1 + (upN rc3 9))) := ⟨nI_le (by omega) (by have := up_lt rc3 (k := 9) (by decide); omega), nI_le (by have := up_lt rc3 (k := 9) (by decide); omega) (by decide)⟩
        have hp1 : pOK (nI (upN (rc3 >>> ((nI 4) &&& 31)) 1001)) := ⟨nI_pos' (by have := up_lt (rc3 >>> ((nI 4) &&& 31)) (k := 1001) (by decide); omega), nI_le (by have := up_lt (rc3 >>> ((nI 4) &&& 31)) (k := 1001) (by decide); omega) (by decide)⟩
        refine g_cVr C (As := [.int (nI (1 + (upN rc3 9))), .int (nI (upN (rc3 >>> ((nI 4) &&& 31)) 1001))]) iX9_join (c_X9_join l G g M1 L.1 L.2.1.choose_spec (nI (1 + (upN rc3 9))) (nI (upN (rc3 >>> ((nI 4) &&& 31)) 1001))) wd_295 ob_0 rfl ⟨Nat.le_of_ble_eq_true rfl, Nat.le_of_ble_eq_true rfl⟩ ⟨rfl, rfl⟩ rfl (Nat.le_of_ble_eq_true rfl) dL_law_144 (fun r271 u268 hq => ?_)
        obtain ⟨e270, L269⟩ := ax_ok L hq (⟨⟨hw9, hp1⟩, by rw [hnV]; omega⟩)
        have e270 : r271 = nI m1 := e270.trans (congrArg nI hnV)
        subst e270
        obtain ⟨V2, hV2⟩ : ∃ V2, V2 = (jnV V (nI (1 + (upN rc3 9))) (nI (upN (rc3 >>> ((nI 4) &&& 31)) 1001))) := ⟨_, rfl⟩
        rw [← hV2] at L269
        have g2 : Good 200 V2 := hV2 ▸ good_join g (by rw [hnV]; omega) hw9 hp1
        have x2 : Ex 200 V2 := hV2 ▸ ex_join g x (by rw [hnV]; omega) _ _
        have hn3 : vN V2 = m1 + 1 := by
          show toN (V2 5) = _
          rw [hV2, jn_new.2.2.2.2, hnV, toN_nI (by omega)]
        have h2w : V2 2 = nI 2 := by rw [hV2]; exact (jn_old (by decide) (by omega)).trans h2v
        have hrk : V2 (34 + 12 * m1) = kNone := by rw [hV2, ← hnV]; exact jn_new.2.2.2.1
        refine g_iload_n C 4 dL_law_147 rfl ?_
        refine g_icmp_ne_f C 162 (rfl) dL_law_148 (by decide) ?_
        refine g_aload_n C 2 dL_law_151 rfl ?_
        refine g_iload_n C 4 dL_law_152 rfl ?_
        refine g_iconst C (nI 4) dL_law_153 (by decide) ?_
        refine g_cV1 C (As := [.int (nI m1), .int (nI 4)]) (w := .int kNone) (mem3 := u268) iX9_member (c_X9_member l G g2 u268 L269.1 (nI m1) (nI 4)) wd_364 ob_0 rfl ⟨Nat.le_of_ble_eq_true rfl, Nat.le_of_ble_eq_true rfl⟩ ⟨rfl, rfl⟩ rfl (Nat.le_of_ble_eq_true rfl) dL_law_154 (congrArg Value.int ((mem_n g2 (by rw [hn3]; exact Nat.lt_succ_self m1) (w := 4) (by decide) (by omega)).trans hrk)) (rfl) ?_
        refine g_ldc C wd_626 dL_law_157 ?_
        refine g_icmp_eq_t C 164 (rfl) dL_law_159 (by decide) ?_
        refine g_iinc C (v := nI (m1 + 1)) (L2 := [(3, .int (nI (m1 + 1))), (4, .int rc3), (0, .ref b), (1, .ref (gad G 0)), (2, .int (nI n))]) 4 dL_law_164 rfl (nI_1 _) (by decide) rfl ?_
        refine g_goto C 110 dL_law_167 (by decide) ?_
        refine g_loc (L2 := [(0, .ref b), (1, .ref (gad G 0)), (2, .int (nI n)), (3, .int (nI (m1 + 1)))]) [2, 3, 4, 0] rfl ?_
        exact g_eq (ih_110 (m1 + 1) u268 (hm2) (⟨V2, _, _, _, _, L269, g2, x2, hn3, h2w⟩) (by omega)) (rfl) (rfl) rfl
  refine g_loc (L2 := [(0, .ref b), (1, .ref (gad G 0)), (2, .int (nI n)), (3, .int (nI 0))]) [2, 3, 1, 0] rfl ?_
  exact g_eq (lp_110 (_ + 1) 0 u260 (Nat.zero_le _) (⟨set5, _, _, _, _, L261, g2, x2, set5_n, set5_2⟩) (Nat.lt_succ_self _)) (rfl) (rfl) rfl
