def rm_L_repairs : Room := { frames := 6, cells := 1, slots := 10, locals := 147 }
theorem iL_repairs : gIs yL_repairs cL_repairs 18 (some .boolean) 3 := ⟨⟨wd_660, wd_3, by decide +kernel, by decide +kernel, by decide +kernel⟩, wd_659⟩
set_option maxRecDepth 100000 in
set_option maxHeartbeats 4000000 in
theorem c_L_repairs (l : Launch) (G : gG) (hA : upA (gA G)) (hx0 : G.2.2.1.2.2 = 0) {T : Nat} {V : Nat → Int32} {Vs : Nat → Nat → Int32} {h : Nat} {A B : Nat → Int32} (g : Good T V) (mem : gM) (L : kLS T V Vs h A B mem) (hT : T + 1 < 2 ^ 20) (x : Ex T V) (hn : 0 < vN V) {b : Nat} (hb : b < 200) : gMetX l yL_repairs cL_repairs 18 (some .boolean) rm_L_repairs G [.ref (gad G 0), .int (nI (vN V)), .int (nI b)] mem (fun a u => a = some (.int (nI 1)) ∧ LI (T + 1) (vN V) u) 1 10 := by
  refine g_ofx (own := RL) (L0 := [(0, .ref (gad G 0)), (1, .int (nI (vN V))), (2, .int (nI b))]) hA (by decide +kernel) rfl (Nat.le_of_ble_eq_true rfl) rfl ?_
  intro p e s m args below meth c C hfr Q hQ
  have hn10 := gd_n10 g
  have hzn := (gd_z g).2
  have hT1 : T < 2 ^ 20 := by omega
  have h4 := ls_h4 L
  refine g_aload_n C 0 dL_repairs_0 rfl ?_
  refine g_iload_n C 2 dL_repairs_1 rfl ?_
  refine g_cVf C (As := [.int (nI b)]) (v := .int (whyR V (nI b))) iX9_why (c_X9_why l G g mem L.1 (nI b)) wd_553 ob_0 rfl ⟨Nat.le_of_ble_eq_true rfl, Nat.le_of_ble_eq_true rfl⟩ ⟨rfl, rfl⟩ rfl (Nat.le_of_ble_eq_true rfl) dL_repairs_2 (fun u130 hq => ?_)
  have L131 := ls_fr L hq
  refine g_top (y := nI (hcd V b)) (why_n hb) ?_
  refine g_istore_n C (L2 := [(3, .int (nI (hcd V b))), (0, .ref (gad G 0)), (1, .int (nI (vN V))), (2, .int (nI b))]) dL_repairs_5 (by decide) rfl ?_
  refine g_aload_n C 1 dL_repairs_6 rfl ?_
  refine g_cV1 C (As := []) (w := .long (fpR V)) (mem3 := u130) iX9_fingerprint (c_X9_fingerprint l G g u130 L131.1 hT1) wd_580 ob_0 rfl ⟨Nat.le_of_ble_eq_true rfl, Nat.le_of_ble_eq_true rfl⟩ ⟨rfl, rfl⟩ rfl (Nat.le_of_ble_eq_true rfl) dL_repairs_7 (rfl) (rfl) ?_
  refine g_lstore C (L2 := [(4, .long (fpR V)), (3, .int (nI (hcd V b))), (0, .ref (gad G 0)), (1, .int (nI (vN V))), (2, .int (nI b))]) dL_repairs_10 (by decide) rfl ?_
  refine g_iload_n C 1 dL_repairs_12 rfl ?_
  refine g_if_eq C 90 dL_repairs_13 (by decide) (fun c_13 => ?_) (fun c_13 => ?_)
  · have h0 := hcd_0 c_13
    have hk := (hc_0 h0).2.2
    have hrn := rp_lt g hk
    have hfn := (rF_ok g h0).2.1
    have hwa : rWA V ≤ 1000 := (gd_wait g).2.2
    refine g_iconst C (nI 0) dL_repairs_90 (by decide) ?_
    refine g_istore C (L2 := [(6, .int (nI 0)), (4, .long (fpR V)), (3, .int (nI (hcd V b))), (0, .ref (gad G 0)), (1, .int (nI (vN V))), (2, .int (nI b))]) dL_repairs_91 (by decide) rfl ?_
    refine g_iconst C (nI 0) dL_repairs_93 (by decide) ?_
    refine g_istore C (L2 := [(7, .int (nI 0)), (6, .int (nI 0)), (4, .long (fpR V)), (3, .int (nI (hcd V b))), (0, .ref (gad G 0)), (1, .int (nI (vN V))), (2, .int (nI b))]) dL_repairs_94 (by decide) rfl ?_
    refine g_iconst C (nI 0) dL_repairs_96 (by decide) ?_
    refine g_istore C (L2 := [(8, .int (nI 0)), (7, .int (nI 0)), (6, .int (nI 0)), (4, .long (fpR V)), (3, .int (nI (hcd V b))), (0, .ref (gad G 0)), (1, .int (nI (vN V))), (2, .int (nI b))]) dL_repairs_97 (by decide) rfl ?_
    refine g_iconst C (((-1) : Int32)) dL_repairs_99 (by decide) ?_
    refine g_istore C (L2 := [(9, .int ((-1) : Int32)), (8, .int (nI 0)), (7, .int (nI 0)), (6, .int (nI 0)), (4, .long (fpR V)), (3, .int (nI (hcd V b))), (0, .ref (gad G 0)), (1, .int (nI (vN V))), (2, .int (nI b))]) dL_repairs_100 (by decide) rfl ?_
    refine g_iconst C (nI 0) dL_repairs_102 (by decide) ?_
    refine g_istore C (L2 := [(10, .int (nI 0)), (9, .int ((-1) : Int32)), (8, .int (nI 0)), (7, .int (nI 0)), (6, .int (nI 0)), (4, .long (fpR V)), (3, .int (nI (hcd V b))), (0, .ref (gad G 0)), (1, .int (nI (vN V))), (2, .int (nI b))]) dL_repairs_103 (by decide) rfl ?_
    refine g_iconst C (nI 0) dL_repairs_105 (by decide) ?_
    refine g_istore C (L2 := [(11, .int (nI 0)), (10, .int (nI 0)), (9, .int ((-1) : Int32)), (8, .int (nI 0)), (7, .int (nI 0)), (6, .int (nI 0)), (4, .long (fpR V)), (3, .int (nI (hcd V b))), (0, .ref (gad G 0)), (1, .int (nI (vN V))), (2, .int (nI b))]) dL_repairs_106 (by decide) rfl ?_
    refine g_bipush C (nI 10) dL_repairs_108 (by decide) ?_
    refine g_new10 C hfr (x := 0) hx0 wd_41 (mc2 := 1) (ms2 := 10) rfl rfl ⟨Nat.le_of_ble_eq_true rfl, Nat.le_of_ble_eq_true rfl⟩ dL_repairs_110 (fun G1 S1 x1 k1 C => ?_)
    rw [k1 0 (by decide)]
    have hfr1 : ∀ q, s.heap.size ≤ q → gA G1 q := S1.1 ▸ hfr
    refine g_mem (mem2 := (gr u130 154 fun _ => 0)) rfl ?_
    have L132 := ls_a L131 (fun _ => 0)
    generalize (gr u130 154 fun _ => 0) = u133 at L132 ⊢
    refine g_astore C (L2 := [(12, .ref (gad G1 154)), (11, .int (nI 0)), (10, .int (nI 0)), (9, .int ((-1) : Int32)), (8, .int (nI 0)), (7, .int (nI 0)), (6, .int (nI 0)), (4, .long (fpR V)), (3, .int (nI (hcd V b))), (0, .ref (gad G1 0)), (1, .int (nI (vN V))), (2, .int (nI b))]) dL_repairs_112 (by decide) rfl ?_
    refine g_iconst C (nI 0) dL_repairs_114 (by decide) ?_
    refine g_istore C (L2 := [(13, .int (nI 0)), (12, .ref (gad G1 154)), (11, .int (nI 0)), (10, .int (nI 0)), (9, .int ((-1) : Int32)), (8, .int (nI 0)), (7, .int (nI 0)), (6, .int (nI 0)), (4, .long (fpR V)), (3, .int (nI (hcd V b))), (0, .ref (gad G1 0)), (1, .int (nI (vN V))), (2, .int (nI b))]) dL_repairs_115 (by decide) rfl ?_
    have lp_117 : ∀ (fu : Nat) (m1 : Nat) (M1 : gM), (m1 ≤ vN V) → (kLS T V Vs h (cpy m1 (fun q => V (33 + 12 * q)) (fun _ => 0)) B M1) → vN V - m1 < fu → gV p l e rm_L_repairs s m args below meth c 1 10 Q G1 18 M1 117 [(0, .ref (gad G1 0)), (1, .int (nI (vN V))), (2, .int (nI b)), (3, .int (nI (hcd V b))), (4, .long (fpR V)), (6, .int (mk (ask V b (rWA V) (rF V b)) m1)), (7, .int (mk (sil V b (rWA V) (rF V b)) m1)), (8, .int (mk (mis V b) m1)), (9, .int (rpI V b m1)), (10, .int (nI (fsN (rF V b) m1))), (11, .int (nI (tmF (los V b) (rX V b) m1))), (12, .ref (gad G1 154)), (13, .int (nI m1))] [] := by
      intro fu
      induction fu with
      | zero => intro m1 M1 _ _ hfu; exact absurd hfu (Nat.not_lt_zero _)
      | succ fu ih_117 =>
        intro m1 M1 hm LM hfu_117
        refine g_iload C 12 dL_repairs_117 rfl ?_
        refine g_iload_n C 1 dL_repairs_119 rfl ?_
        refine g_icmp_ge C 425 dL_repairs_120 (by decide) (fun c_120 => ?_) (fun c_120 => ?_)
        · have hin : m1 = vN V := by have q := (nI_leI (a := vN V) (b := m1) (by omega) (by omega)).mp c_120; omega
          rw [hin] at LM ⊢
          refine g_eq (mem2 := M1) (L2 := [(0, .ref (gad G1 0)), (1, .int (nI (vN V))), (2, .int (nI b)), (3, .int (nI (hcd V b))), (4, .long (fpR V)), (6, .int (mk (ask V b (rWA V) (rF V b)) (vN V))), (7, .int (mk (sil V b (rWA V) (rF V b)) (vN V))), (8, .int (msF V (rpK V b))), (9, .int (nI (rpM V b))), (10, .int (nI 1)), (11, .int (nI (tim V b (rWA V) (rF V b)))), (12, .ref (gad G1 154)), (13, .int (nI (vN V)))]) (st2 := []) ?_ rfl (gLc rfl (gLc rfl (gLc rfl (gLc rfl (gLc rfl (gLc rfl (gLc rfl (gLc (congrArg Value.int (mk_mis g (by omega))) (gLc (congrArg Value.int (rpI_in hrn)) (gLc (congrArg Value.int (fs_in hfn)) (gLc (congrArg Value.int (rfl)) (rfl)))))))))))) rfl
          refine g_iload C 9 dL_repairs_425 rfl ?_
          refine g_iconst C (nI 1) dL_repairs_427 (by decide) ?_
          refine g_icmp_ne_f C 457 (by decide) dL_repairs_428 (by decide) ?_
          refine g_iload C 8 dL_repairs_431 rfl ?_
          refine g_if_lt_f C 457 (nI_pos (by omega)) dL_repairs_433 (by decide) ?_
          refine g_aload_n C 0 dL_repairs_436 rfl ?_
          refine g_iload C 8 dL_repairs_437 rfl ?_
          refine g_iload_n C 2 dL_repairs_439 rfl ?_
          refine g_cV1 C (As := [.int (nI (rpM V b)), .int (nI b)]) (w := .int (nI 0)) (mem3 := M1) iX9_lost (c_X9_lost l G1 g M1 LM.1 (nI (rpM V b)) (nI b)) wd_486 ob_0 rfl ⟨Nat.le_of_ble_eq_true rfl, Nat.le_of_ble_eq_true rfl⟩ ⟨rfl, rfl⟩ rfl (Nat.le_of_ble_eq_true rfl) dL_repairs_440 (congrArg Value.int ((lost_n g hrn hb).trans (if_neg (by rw [(rp_ok hk).2]; decide)))) (rfl) ?_
          refine g_iconst C (nI 1) dL_repairs_443 (by decide) ?_
          refine g_icmp_eq_f C 457 (by decide) dL_repairs_444 (by decide) ?_
          refine g_aload_n C 0 dL_repairs_447 rfl ?_
          refine g_iload C 8 dL_repairs_448 rfl ?_
          refine g_iconst C (nI 2) dL_repairs_450 (by decide) ?_
          refine g_cV1 C (As := [.int (nI (rpM V b)), .int (nI 2)]) (w := .int (nI 1)) (mem3 := M1) iX9_member (c_X9_member l G1 g M1 LM.1 (nI (rpM V b)) (nI 2)) wd_364 ob_0 rfl ⟨Nat.le_of_ble_eq_true rfl, Nat.le_of_ble_eq_true rfl⟩ ⟨rfl, rfl⟩ rfl (Nat.le_of_ble_eq_true rfl) dL_repairs_451 (congrArg Value.int ((mem_n g hrn (w := 2) (by decide) (by omega)).trans (lv_1 (rp_ok hk).1))) (rfl) ?_
          refine g_if_ne_t C 459 (by decide) dL_repairs_454 (by decide) ?_
          refine g_aload_n C 0 dL_repairs_459 rfl ?_
          refine g_bipush C (nI 8) dL_repairs_460 (by decide) ?_
          refine g_cV1 C (As := [.int (nI 8)]) (w := .int (V 8)) (mem3 := M1) iX9_about (c_X9_about l G1 g M1 LM.1 (nI 8)) wd_401 ob_0 rfl ⟨Nat.le_of_ble_eq_true rfl, Nat.le_of_ble_eq_true rfl⟩ ⟨rfl, rfl⟩ rfl (Nat.le_of_ble_eq_true rfl) dL_repairs_462 (congrArg Value.int (about_n (by decide))) (rfl) ?_
          refine g_istore C (L2 := [(13, .int (V 8)), (0, .ref (gad G1 0)), (1, .int (nI (vN V))), (2, .int (nI b)), (3, .int (nI (hcd V b))), (4, .long (fpR V)), (6, .int (mk (ask V b (rWA V) (rF V b)) (vN V))), (7, .int (mk (sil V b (rWA V) (rF V b)) (vN V))), (8, .int (msF V (rpK V b))), (9, .int (nI (rpM V b))), (10, .int (nI 1)), (11, .int (nI (tim V b (rWA V) (rF V b)))), (12, .ref (gad G1 154))]) dL_repairs_465 (by decide) rfl ?_
          refine g_aload_n C 1 dL_repairs_467 rfl ?_
          refine g_bipush C (nI 9) dL_repairs_468 (by decide) ?_
          refine g_cV1 C (As := [.int (nI 9)]) (w := .int (V 9)) (mem3 := M1) iX9_about (c_X9_about l G1 g M1 LM.1 (nI 9)) wd_401 ob_0 rfl ⟨Nat.le_of_ble_eq_true rfl, Nat.le_of_ble_eq_true rfl⟩ ⟨rfl, rfl⟩ rfl (Nat.le_of_ble_eq_true rfl) dL_repairs_470 (congrArg Value.int (about_n (by decide))) (rfl) ?_
          refine g_istore C (L2 := [(14, .int (V 9)), (13, .int (V 8)), (0, .ref (gad G1 0)), (1, .int (nI (vN V))), (2, .int (nI b)), (3, .int (nI (hcd V b))), (4, .long (fpR V)), (6, .int (mk (ask V b (rWA V) (rF V b)) (vN V))), (7, .int (mk (sil V b (rWA V) (rF V b)) (vN V))), (8, .int (msF V (rpK V b))), (9, .int (nI (rpM V b))), (10, .int (nI 1)), (11, .int (nI (tim V b (rWA V) (rF V b)))), (12, .ref (gad G1 154))]) dL_repairs_473 (by decide) rfl ?_
          refine g_aload_n C 2 dL_repairs_475 rfl ?_
          refine g_iload_n C 4 dL_repairs_476 rfl ?_
          refine g_cVr C (As := [.int (nI b)]) iX9_repair (c_X9_repair l G1 g M1 LM.1 LM.2.1.choose_spec hT1 (nI b)) wd_640 ob_0 rfl ⟨Nat.le_of_ble_eq_true rfl, Nat.le_of_ble_eq_true rfl⟩ ⟨rfl, rfl⟩ rfl (Nat.le_of_ble_eq_true rfl) dL_repairs_477 (fun r137 u134 hq => ?_)
          rw [toN_nI (show b < 2 ^ 31 by omega)] at hq
          obtain ⟨e136, L135⟩ := ax_ok LM hq ⟨blkP_of hb, h0⟩
          have e136 : r137 = nI (tim V b (rWA V) (rF V b)) := e136
          subst e136
          obtain ⟨V2, hV2⟩ : ∃ V2, V2 = rpV V b (toN (V 0)) := ⟨_, rfl⟩
          rw [← hV2] at L135
          obtain ⟨g2, x2, eN, hc2, e6, e3, e4, e8, e9, ⟨p0, p1, p2, p3, p4, p5, p6⟩, h33, h32, hlo2⟩ := rp_law g x hT hb h0 hV2
          have L135 := L135.more (Nat.le_succ T)
          refine g_istore C (L2 := [(15, .int (nI (tim V b (rWA V) (rF V b)))), (14, .int (V 9)), (13, .int (V 8)), (0, .ref (gad G1 0)), (1, .int (nI (vN V))), (2, .int (nI b)), (3, .int (nI (hcd V b))), (4, .long (fpR V)), (6, .int (mk (ask V b (rWA V) (rF V b)) (vN V))), (7, .int (mk (sil V b (rWA V) (rF V b)) (vN V))), (8, .int (msF V (rpK V b))), (9, .int (nI (rpM V b))), (10, .int (nI 1)), (11, .int (nI (tim V b (rWA V) (rF V b)))), (12, .ref (gad G1 154))]) dL_repairs_480 (by decide) rfl ?_
          refine g_iload C 0 dL_repairs_482 rfl ?_
          refine g_iload C 13 dL_repairs_484 rfl ?_
          refine g_icmp_ne_f C 613 (rfl) dL_repairs_486 (by decide) ?_
          refine g_aload_n C 3 dL_repairs_489 rfl ?_
          refine g_iload_n C 5 dL_repairs_490 rfl ?_
          refine g_cVf C (As := [.int (nI b)]) (v := .int (whyR V2 (nI b))) iX9_why (c_X9_why l G1 g2 u134 L135.1 (nI b)) wd_553 ob_0 rfl ⟨Nat.le_of_ble_eq_true rfl, Nat.le_of_ble_eq_true rfl⟩ ⟨rfl, rfl⟩ rfl (Nat.le_of_ble_eq_true rfl) dL_repairs_491 (fun u138 hq => ?_)
          have L139 := ls_fr L135 hq
          refine g_top (y := nI 2) ((why_n hb).trans (congrArg nI hc2)) ?_
          refine g_iconst C (nI 2) dL_repairs_494 (by decide) ?_
          refine g_icmp_ne_f C 613 (by decide) dL_repairs_495 (by decide) ?_
          refine g_aload_n C 3 dL_repairs_498 rfl ?_
          refine g_iconst C (nI 0) dL_repairs_499 (by decide) ?_
          refine g_iconst C (nI 0) dL_repairs_500 (by decide) ?_
          refine g_cV1 C (As := [.int (nI 0), .int (nI 0)]) (w := .int (nI b)) (mem3 := u138) iX9_past (c_X9_past l G1 g2 u138 L139.1 hT (nI 0) (nI 0)) wd_652 ob_0 rfl ⟨Nat.le_of_ble_eq_true rfl, Nat.le_of_ble_eq_true rfl⟩ ⟨rfl, rfl⟩ rfl (Nat.le_of_ble_eq_true rfl) dL_repairs_501 (congrArg Value.int (p0)) (rfl) ?_
          refine g_iload_n C 5 dL_repairs_504 rfl ?_
          refine g_icmp_ne_f C 613 (rfl) dL_repairs_505 (by decide) ?_
          refine g_aload_n C 3 dL_repairs_508 rfl ?_
          refine g_iconst C (nI 0) dL_repairs_509 (by decide) ?_
          refine g_iconst C (nI 1) dL_repairs_510 (by decide) ?_
          refine g_cV1 C (As := [.int (nI 0), .int (nI 1)]) (w := .int (V 6)) (mem3 := u138) iX9_past (c_X9_past l G1 g2 u138 L139.1 hT (nI 0) (nI 1)) wd_652 ob_0 rfl ⟨Nat.le_of_ble_eq_true rfl, Nat.le_of_ble_eq_true rfl⟩ ⟨rfl, rfl⟩ rfl (Nat.le_of_ble_eq_true rfl) dL_repairs_511 (congrArg Value.int (p1)) (rfl) ?_
          refine g_aload_n C 3 dL_repairs_514 rfl ?_
          refine g_bipush C (nI 6) dL_repairs_515 (by decide) ?_
          refine g_cV1 C (As := [.int (nI 6)]) (w := .int (V 6)) (mem3 := u138) iX9_about (c_X9_about l G1 g2 u138 L139.1 (nI 6)) wd_401 ob_0 rfl ⟨Nat.le_of_ble_eq_true rfl, Nat.le_of_ble_eq_true rfl⟩ ⟨rfl, rfl⟩ rfl (Nat.le_of_ble_eq_true rfl) dL_repairs_517 (congrArg Value.int ((about_n (by decide)).trans e6)) (rfl) ?_
          refine g_icmp_ne_f C 613 (rfl) dL_repairs_520 (by decide) ?_
          refine g_aload_n C 3 dL_repairs_523 rfl ?_
          refine g_iconst C (nI 0) dL_repairs_524 (by decide) ?_
          refine g_iconst C (nI 2) dL_repairs_525 (by decide) ?_
          refine g_cV1 C (As := [.int (nI 0), .int (nI 2)]) (w := .int (nI (rpM V b))) (mem3 := u138) iX9_past (c_X9_past l G1 g2 u138 L139.1 hT (nI 0) (nI 2)) wd_652 ob_0 rfl ⟨Nat.le_of_ble_eq_true rfl, Nat.le_of_ble_eq_true rfl⟩ ⟨rfl, rfl⟩ rfl (Nat.le_of_ble_eq_true rfl) dL_repairs_526 (congrArg Value.int (p2)) (rfl) ?_
          refine g_iload C 11 dL_repairs_529 rfl ?_
          refine g_icmp_ne_f C 613 (rfl) dL_repairs_531 (by decide) ?_
          refine g_aload_n C 3 dL_repairs_534 rfl ?_
          refine g_iconst C (nI 0) dL_repairs_535 (by decide) ?_
          refine g_iconst C (nI 3) dL_repairs_536 (by decide) ?_
          refine g_cV1 C (As := [.int (nI 0), .int (nI 3)]) (w := .int (mk (ask V b (rWA V) (rF V b)) (vN V))) (mem3 := u138) iX9_past (c_X9_past l G1 g2 u138 L139.1 hT (nI 0) (nI 3)) wd_652 ob_0 rfl ⟨Nat.le_of_ble_eq_true rfl, Nat.le_of_ble_eq_true rfl⟩ ⟨rfl, rfl⟩ rfl (Nat.le_of_ble_eq_true rfl) dL_repairs_537 (congrArg Value.int (p3)) (rfl) ?_
          refine g_iload C 8 dL_repairs_540 rfl ?_
          refine g_icmp_ne_f C 613 (rfl) dL_repairs_542 (by decide) ?_
          refine g_aload_n C 3 dL_repairs_545 rfl ?_
          refine g_iconst C (nI 0) dL_repairs_546 (by decide) ?_
          refine g_iconst C (nI 4) dL_repairs_547 (by decide) ?_
          refine g_cV1 C (As := [.int (nI 0), .int (nI 4)]) (w := .int (mk (sil V b (rWA V) (rF V b)) (vN V))) (mem3 := u138) iX9_past (c_X9_past l G1 g2 u138 L139.1 hT (nI 0) (nI 4)) wd_652 ob_0 rfl ⟨Nat.le_of_ble_eq_true rfl, Nat.le_of_ble_eq_true rfl⟩ ⟨rfl, rfl⟩ rfl (Nat.le_of_ble_eq_true rfl) dL_repairs_548 (congrArg Value.int (p4)) (rfl) ?_
          refine g_iload C 9 dL_repairs_551 rfl ?_
          refine g_icmp_ne_f C 613 (rfl) dL_repairs_553 (by decide) ?_
          refine g_aload_n C 3 dL_repairs_556 rfl ?_
          refine g_iconst C (nI 0) dL_repairs_557 (by decide) ?_
          refine g_iconst C (nI 5) dL_repairs_558 (by decide) ?_
          refine g_cV1 C (As := [.int (nI 0), .int (nI 5)]) (w := .int (msF V (rpK V b))) (mem3 := u138) iX9_past (c_X9_past l G1 g2 u138 L139.1 hT (nI 0) (nI 5)) wd_652 ob_0 rfl ⟨Nat.le_of_ble_eq_true rfl, Nat.le_of_ble_eq_true rfl⟩ ⟨rfl, rfl⟩ rfl (Nat.le_of_ble_eq_true rfl) dL_repairs_559 (congrArg Value.int (p5)) (rfl) ?_
          refine g_iload C 10 dL_repairs_562 rfl ?_
          refine g_icmp_ne_f C 613 (rfl) dL_repairs_564 (by decide) ?_
          refine g_aload_n C 3 dL_repairs_567 rfl ?_
          refine g_iconst C (nI 0) dL_repairs_568 (by decide) ?_
          refine g_bipush C (nI 6) dL_repairs_569 (by decide) ?_
          refine g_cV1 C (As := [.int (nI 0), .int (nI 6)]) (w := .int (nI (tim V b (rWA V) (rF V b)))) (mem3 := u138) iX9_past (c_X9_past l G1 g2 u138 L139.1 hT (nI 0) (nI 6)) wd_652 ob_0 rfl ⟨Nat.le_of_ble_eq_true rfl, Nat.le_of_ble_eq_true rfl⟩ ⟨rfl, rfl⟩ rfl (Nat.le_of_ble_eq_true rfl) dL_repairs_571 (congrArg Value.int (p6)) (rfl) ?_
          refine g_iload C 0 dL_repairs_574 rfl ?_
          refine g_icmp_ne_f C 613 (rfl) dL_repairs_576 (by decide) ?_
          refine g_aload_n C 3 dL_repairs_579 rfl ?_
          refine g_bipush C (nI 8) dL_repairs_580 (by decide) ?_
          refine g_cV1 C (As := [.int (nI 8)]) (w := .int (V 8 + nI (fa_cnt (ask V b (rWA V) (rF V b)) (vN V)))) (mem3 := u138) iX9_about (c_X9_about l G1 g2 u138 L139.1 (nI 8)) wd_401 ob_0 rfl ⟨Nat.le_of_ble_eq_true rfl, Nat.le_of_ble_eq_true rfl⟩ ⟨rfl, rfl⟩ rfl (Nat.le_of_ble_eq_true rfl) dL_repairs_582 (congrArg Value.int ((about_n (by decide)).trans e8)) (rfl) ?_
          refine g_iload C 2 dL_repairs_585 rfl ?_
          refine g_iload C 8 dL_repairs_587 rfl ?_
          refine g_cS1 C (As := [.int (mk (ask V b (rWA V) (rF V b)) (vN V))]) (w := .int (nI (fa_cnt (bt (mk (ask V b (rWA V) (rF V b)) (vN V))) 10))) (mem3 := u138) iL_many (c_L_many l G1 u138 (mk (ask V b (rWA V) (rF V b)) (vN V))) wd_662 rfl ⟨Nat.le_of_ble_eq_true rfl, Nat.le_of_ble_eq_true rfl⟩ ⟨rfl, rfl⟩ rfl (Nat.le_of_ble_eq_true rfl) dL_repairs_589 (rfl) (rfl) ?_
          refine g_iadd C dL_repairs_592 ?_
          refine g_top (y := V 8 + nI (fa_cnt (ask V b (rWA V) (rF V b)) (vN V))) (by rw [cnt_mk hn10]) ?_
          refine g_icmp_ne_f C 613 (rfl) dL_repairs_593 (by decide) ?_
          refine g_aload_n C 3 dL_repairs_596 rfl ?_
          refine g_bipush C (nI 9) dL_repairs_597 (by decide) ?_
          refine g_cV1 C (As := [.int (nI 9)]) (w := .int (V 9 + nI (fa_cnt (sil V b (rWA V) (rF V b)) (vN V)))) (mem3 := u138) iX9_about (c_X9_about l G1 g2 u138 L139.1 (nI 9)) wd_401 ob_0 rfl ⟨Nat.le_of_ble_eq_true rfl, Nat.le_of_ble_eq_true rfl⟩ ⟨rfl, rfl⟩ rfl (Nat.le_of_ble_eq_true rfl) dL_repairs_599 (congrArg Value.int ((about_n (by decide)).trans e9)) (rfl) ?_
          refine g_iload C 1 dL_repairs_602 rfl ?_
          refine g_iload C 9 dL_repairs_604 rfl ?_
          refine g_cS1 C (As := [.int (mk (sil V b (rWA V) (rF V b)) (vN V))]) (w := .int (nI (fa_cnt (bt (mk (sil V b (rWA V) (rF V b)) (vN V))) 10))) (mem3 := u138) iL_many (c_L_many l G1 u138 (mk (sil V b (rWA V) (rF V b)) (vN V))) wd_662 rfl ⟨Nat.le_of_ble_eq_true rfl, Nat.le_of_ble_eq_true rfl⟩ ⟨rfl, rfl⟩ rfl (Nat.le_of_ble_eq_true rfl) dL_repairs_606 (rfl) (rfl) ?_
          refine g_iadd C dL_repairs_609 ?_
          refine g_top (y := V 9 + nI (fa_cnt (sil V b (rWA V) (rF V b)) (vN V))) (by rw [cnt_mk hn10]) ?_
          refine g_icmp_eq_t C 615 (rfl) dL_repairs_610 (by decide) ?_
          refine g_iconst C (nI 0) dL_repairs_615 (by decide) ?_
          refine g_istore C (L2 := [(16, .int (nI 0)), (15, .int (nI (tim V b (rWA V) (rF V b)))), (14, .int (V 9)), (13, .int (V 8)), (0, .ref (gad G1 0)), (1, .int (nI (vN V))), (2, .int (nI b)), (3, .int (nI (hcd V b))), (4, .long (fpR V)), (6, .int (mk (ask V b (rWA V) (rF V b)) (vN V))), (7, .int (mk (sil V b (rWA V) (rF V b)) (vN V))), (8, .int (msF V (rpK V b))), (9, .int (nI (rpM V b))), (10, .int (nI 1)), (11, .int (nI (tim V b (rWA V) (rF V b)))), (12, .ref (gad G1 154))]) dL_repairs_616 (by decide) rfl ?_
          have lp_618 : ∀ (fu : Nat) (m3 : Nat), (m3 ≤ vN V) → vN V - m3 < fu → gV p l e rm_L_repairs s m args below meth c 1 10 Q G1 18 u138 618 [(0, .ref (gad G1 0)), (1, .int (nI (vN V))), (2, .int (nI b)), (3, .int (nI (hcd V b))), (4, .long (fpR V)), (6, .int (mk (ask V b (rWA V) (rF V b)) (vN V))), (7, .int (mk (sil V b (rWA V) (rF V b)) (vN V))), (8, .int (msF V (rpK V b))), (9, .int (nI (rpM V b))), (10, .int (nI 1)), (11, .int (nI (tim V b (rWA V) (rF V b)))), (12, .ref (gad G1 154)), (13, .int (V 8)), (14, .int (V 9)), (15, .int (nI (tim V b (rWA V) (rF V b)))), (16, .int (nI m3))] [] := by
            intro fu
            induction fu with
            | zero => intro m3 _ hfu; exact absurd hfu (Nat.not_lt_zero _)
            | succ fu ih_618 =>
              intro m3 hm3b hfu_618
              refine g_iload C 15 dL_repairs_618 rfl ?_
              refine g_iload_n C 1 dL_repairs_620 rfl ?_
              refine g_icmp_ge C 710 dL_repairs_621 (by decide) (fun c_621 => ?_) (fun c_621 => ?_)
              · have hin3 : m3 = vN V := by have q := (nI_leI (a := vN V) (b := m3) (by omega) (by omega)).mp c_621; omega
                refine g_aload_n C 0 dL_repairs_710 rfl ?_
                refine g_cV1 C (As := []) (w := .long (fpR V2)) (mem3 := u138) iX9_fingerprint (c_X9_fingerprint l G1 g2 u138 L139.1 hT) wd_580 ob_0 rfl ⟨Nat.le_of_ble_eq_true rfl, Nat.le_of_ble_eq_true rfl⟩ ⟨rfl, rfl⟩ rfl (Nat.le_of_ble_eq_true rfl) dL_repairs_711 (rfl) (rfl) ?_
                refine g_lstore C (L2 := [(16, .long (fpR V2)), (0, .ref (gad G1 0)), (1, .int (nI (vN V))), (2, .int (nI b)), (3, .int (nI (hcd V b))), (4, .long (fpR V)), (6, .int (mk (ask V b (rWA V) (rF V b)) (vN V))), (7, .int (mk (sil V b (rWA V) (rF V b)) (vN V))), (8, .int (msF V (rpK V b))), (9, .int (nI (rpM V b))), (10, .int (nI 1)), (11, .int (nI (tim V b (rWA V) (rF V b)))), (12, .ref (gad G1 154)), (13, .int (V 8)), (14, .int (V 9)), (15, .int (nI (tim V b (rWA V) (rF V b))))]) dL_repairs_714 (by decide) rfl ?_
                refine g_aload_n C 1 dL_repairs_716 rfl ?_
                refine g_cVr C (As := []) iX9_undo (c_X9_undo l G1 g2 u138 L139.1 L139.2.1.choose_spec) wd_572 ob_0 rfl ⟨Nat.le_of_ble_eq_true rfl, Nat.le_of_ble_eq_true rfl⟩ ⟨rfl, rfl⟩ rfl (Nat.le_of_ble_eq_true rfl) dL_repairs_717 (fun r143 u140 hq => ?_)
                obtain ⟨e142, L141⟩ := ux_top L139 h4 hq
                subst e142
                have g3 := g.more (Nat.le_succ T)
                refine g_if_lt_f C 757 (nI_pos (push_sm h4)) dL_repairs_720 (by decide) ?_
                refine g_aload_n C 1 dL_repairs_723 rfl ?_
                refine g_cV1 C (As := []) (w := .long (fpR V)) (mem3 := u140) iX9_fingerprint (c_X9_fingerprint l G1 g3 u140 L141.1 hT) wd_580 ob_0 rfl ⟨Nat.le_of_ble_eq_true rfl, Nat.le_of_ble_eq_true rfl⟩ ⟨rfl, rfl⟩ rfl (Nat.le_of_ble_eq_true rfl) dL_repairs_724 (rfl) (rfl) ?_
                refine g_lload C 5 dL_repairs_727 rfl ?_
                refine g_lcmp C dL_repairs_729 ?_
                refine g_if_ne_f C 757 (lg_self _) dL_repairs_730 (by decide) ?_
                refine g_aload_n C 1 dL_repairs_733 rfl ?_
                refine g_iload_n C 3 dL_repairs_734 rfl ?_
                refine g_cVr C (As := [.int (nI b)]) iX9_repair (c_X9_repair l G1 g3 u140 L141.1 L141.2.1.choose_spec hT (nI b)) wd_640 ob_0 rfl ⟨Nat.le_of_ble_eq_true rfl, Nat.le_of_ble_eq_true rfl⟩ ⟨rfl, rfl⟩ rfl (Nat.le_of_ble_eq_true rfl) dL_repairs_735 (fun r147 u144 hq => ?_)
                rw [toN_nI (show b < 2 ^ 31 by omega)] at hq
                obtain ⟨e146, L145⟩ := ax_ok L141 hq ⟨blkP_of hb, h0⟩
                have e146 : r147 = nI (tim V b (rWA V) (rF V b)) := e146
                subst e146
                rw [← hV2] at L145
                refine g_iload C 15 dL_repairs_738 rfl ?_
                refine g_icmp_ne_f C 757 (rfl) dL_repairs_740 (by decide) ?_
                refine g_aload_n C 1 dL_repairs_743 rfl ?_
                refine g_cV1 C (As := []) (w := .long (fpR V2)) (mem3 := u144) iX9_fingerprint (c_X9_fingerprint l G1 g2 u144 L145.1 hT) wd_580 ob_0 rfl ⟨Nat.le_of_ble_eq_true rfl, Nat.le_of_ble_eq_true rfl⟩ ⟨rfl, rfl⟩ rfl (Nat.le_of_ble_eq_true rfl) dL_repairs_744 (rfl) (rfl) ?_
                refine g_lload C 0 dL_repairs_747 rfl ?_
                refine g_lcmp C dL_repairs_749 ?_
                refine g_if_ne_f C 757 (lg_self _) dL_repairs_750 (by decide) ?_
                refine g_iconst C (nI 1) dL_repairs_753 (by decide) ?_
                refine g_goto C 758 dL_repairs_754 (by decide) ?_
                exact g_zretX C S1 hQ rfl (Or.inr rfl) dL_repairs_758 ⟨rfl, V2, _, _, _, _, L145, g2, x2, eN⟩
              · have hm3 : m3 < vN V := by have q := mt (nI_leI (a := vN V) (b := m3) (by omega) (by omega)).mpr c_621; omega
                refine g_aload C 11 dL_repairs_624 rfl ?_
                refine g_iload C 15 dL_repairs_626 rfl ?_
                refine g_xald C (j := m3) (gx_at x1 (k := 0) (by decide)) (by omega) dL_repairs_628 ?_
                refine g_top (y := V (33 + 12 * m3)) ((congrFun L139.2.2.2.1 m3).trans (cpy_in hm3)) ?_
                refine g_iload C 15 dL_repairs_629 rfl ?_
                refine g_iload C 8 dL_repairs_631 rfl ?_
                refine g_icmp_ne C 644 dL_repairs_633 (by decide) (fun c_633 => ?_) (fun c_633 => ?_)
                · have c_633 : ¬ m3 = rpM V b := fun q => c_633 (congrArg nI q)
                  refine g_iconst C (nI 0) dL_repairs_644 (by decide) ?_
                  refine g_iadd C dL_repairs_645 ?_
                  refine g_iload C 7 dL_repairs_646 rfl ?_
                  refine g_iload C 15 dL_repairs_648 rfl ?_
                  refine g_ishr C dL_repairs_650 ?_
                  refine g_iconst C (nI 1) dL_repairs_651 (by decide) ?_
                  refine g_iand C dL_repairs_652 ?_
                  refine g_iconst C (nI 1) dL_repairs_653 (by decide) ?_
                  refine g_icmp_ne C 665 dL_repairs_654 (by decide) (fun c_654 => ?_) (fun c_654 => ?_)
                  · refine g_iconst C (nI 0) dL_repairs_665 (by decide) ?_
                    refine g_isub C dL_repairs_666 ?_
                    refine g_top (y := dueV V b m3) (due_00 c_633 c_654) ?_
                    refine g_istore C (L2 := [(17, .int (dueV V b m3)), (0, .ref (gad G1 0)), (1, .int (nI (vN V))), (2, .int (nI b)), (3, .int (nI (hcd V b))), (4, .long (fpR V)), (6, .int (mk (ask V b (rWA V) (rF V b)) (vN V))), (7, .int (mk (sil V b (rWA V) (rF V b)) (vN V))), (8, .int (msF V (rpK V b))), (9, .int (nI (rpM V b))), (10, .int (nI 1)), (11, .int (nI (tim V b (rWA V) (rF V b)))), (12, .ref (gad G1 154)), (13, .int (V 8)), (14, .int (V 9)), (15, .int (nI (tim V b (rWA V) (rF V b)))), (16, .int (nI m3))]) dL_repairs_667 (by decide) rfl ?_
                    refine g_aload_n C 1 dL_repairs_669 rfl ?_
                    refine g_iload C 16 dL_repairs_670 rfl ?_
                    refine g_iconst C (nI 3) dL_repairs_672 (by decide) ?_
                    refine g_cV1 C (As := [.int (nI m3), .int (nI 3)]) (w := .int (dueV V b m3)) (mem3 := u138) iX9_member (c_X9_member l G1 g2 u138 L139.1 (nI m3) (nI 3)) wd_364 ob_0 rfl ⟨Nat.le_of_ble_eq_true rfl, Nat.le_of_ble_eq_true rfl⟩ ⟨rfl, rfl⟩ rfl (Nat.le_of_ble_eq_true rfl) dL_repairs_673 (congrArg Value.int ((mem_n g2 (by rw [eN]; exact hm3) (w := 3) (by decide) (by omega)).trans (h33 m3 hm3))) (rfl) ?_
                    refine g_iload C 0 dL_repairs_676 rfl ?_
                    refine g_icmp_ne_f C 702 (rfl) dL_repairs_678 (by decide) ?_
                    refine g_aload_n C 1 dL_repairs_681 rfl ?_
                    refine g_iload C 16 dL_repairs_682 rfl ?_
                    refine g_iconst C (nI 2) dL_repairs_684 (by decide) ?_
                    refine g_cV1 C (As := [.int (nI m3), .int (nI 2)]) (w := .int (V (32 + 12 * m3))) (mem3 := u138) iX9_member (c_X9_member l G1 g2 u138 L139.1 (nI m3) (nI 2)) wd_364 ob_0 rfl ⟨Nat.le_of_ble_eq_true rfl, Nat.le_of_ble_eq_true rfl⟩ ⟨rfl, rfl⟩ rfl (Nat.le_of_ble_eq_true rfl) dL_repairs_685 (congrArg Value.int ((mem_n g2 (by rw [eN]; exact hm3) (w := 2) (by decide) (by omega)).trans (h32 m3 hm3))) (rfl) ?_
                    refine g_iconst C (nI 1) dL_repairs_688 (by decide) ?_
                    refine g_icmp_ne C 704 dL_repairs_689 (by decide) (fun c_689 => ?_) (fun c_689 => ?_)
                    · refine g_iinc C (v := nI (m3 + 1)) (L2 := [(16, .int (nI (m3 + 1))), (17, .int (dueV V b m3)), (0, .ref (gad G1 0)), (1, .int (nI (vN V))), (2, .int (nI b)), (3, .int (nI (hcd V b))), (4, .long (fpR V)), (6, .int (mk (ask V b (rWA V) (rF V b)) (vN V))), (7, .int (mk (sil V b (rWA V) (rF V b)) (vN V))), (8, .int (msF V (rpK V b))), (9, .int (nI (rpM V b))), (10, .int (nI 1)), (11, .int (nI (tim V b (rWA V) (rF V b)))), (12, .ref (gad G1 154)), (13, .int (V 8)), (14, .int (V 9)), (15, .int (nI (tim V b (rWA V) (rF V b))))]) 16 dL_repairs_704 rfl (nI_1 _) (by decide) rfl ?_
                      refine g_goto C 618 dL_repairs_707 (by decide) ?_
                      refine g_loc (L2 := [(0, .ref (gad G1 0)), (1, .int (nI (vN V))), (2, .int (nI b)), (3, .int (nI (hcd V b))), (4, .long (fpR V)), (6, .int (mk (ask V b (rWA V) (rF V b)) (vN V))), (7, .int (mk (sil V b (rWA V) (rF V b)) (vN V))), (8, .int (msF V (rpK V b))), (9, .int (nI (rpM V b))), (10, .int (nI 1)), (11, .int (nI (tim V b (rWA V) (rF V b)))), (12, .ref (gad G1 154)), (13, .int (V 8)), (14, .int (V 9)), (15, .int (nI (tim V b (rWA V) (rF V b)))), (16, .int (nI (m3 + 1)))]) [2, 3, 4, 5, 6, 7, 8, 9, 10, 11, 12, 13, 14, 15, 16, 0] rfl ?_
                      exact g_eq (ih_618 (m3 + 1) (hm3) (by omega)) (rfl) (rfl) rfl
                    · refine g_aload_n C 1 dL_repairs_692 rfl ?_
                      refine g_iload C 16 dL_repairs_693 rfl ?_
                      refine g_iload_n C 3 dL_repairs_695 rfl ?_
                      refine g_cV1 C (As := [.int (nI m3), .int (nI b)]) (w := .int (nI 0)) (mem3 := u138) iX9_lost (c_X9_lost l G1 g2 u138 L139.1 (nI m3) (nI b)) wd_486 ob_0 rfl ⟨Nat.le_of_ble_eq_true rfl, Nat.le_of_ble_eq_true rfl⟩ ⟨rfl, rfl⟩ rfl (Nat.le_of_ble_eq_true rfl) dL_repairs_696 (congrArg Value.int ((lost_n g2 (by rw [eN]; exact hm3) hb).trans (if_neg (hlo2 m3 hm3 c_689)))) (rfl) ?_
                      refine g_if_eq_t C 704 (by decide) dL_repairs_699 (by decide) ?_
                      refine g_iinc C (v := nI (m3 + 1)) (L2 := [(16, .int (nI (m3 + 1))), (17, .int (dueV V b m3)), (0, .ref (gad G1 0)), (1, .int (nI (vN V))), (2, .int (nI b)), (3, .int (nI (hcd V b))), (4, .long (fpR V)), (6, .int (mk (ask V b (rWA V) (rF V b)) (vN V))), (7, .int (mk (sil V b (rWA V) (rF V b)) (vN V))), (8, .int (msF V (rpK V b))), (9, .int (nI (rpM V b))), (10, .int (nI 1)), (11, .int (nI (tim V b (rWA V) (rF V b)))), (12, .ref (gad G1 154)), (13, .int (V 8)), (14, .int (V 9)), (15, .int (nI (tim V b (rWA V) (rF V b))))]) 16 dL_repairs_704 rfl (nI_1 _) (by decide) rfl ?_
                      refine g_goto C 618 dL_repairs_707 (by decide) ?_
                      refine g_loc (L2 := [(0, .ref (gad G1 0)), (1, .int (nI (vN V))), (2, .int (nI b)), (3, .int (nI (hcd V b))), (4, .long (fpR V)), (6, .int (mk (ask V b (rWA V) (rF V b)) (vN V))), (7, .int (mk (sil V b (rWA V) (rF V b)) (vN V))), (8, .int (msF V (rpK V b))), (9, .int (nI (rpM V b))), (10, .int (nI 1)), (11, .int (nI (tim V b (rWA V) (rF V b)))), (12, .ref (gad G1 154)), (13, .int (V 8)), (14, .int (V 9)), (15, .int (nI (tim V b (rWA V) (rF V b)))), (16, .int (nI (m3 + 1)))]) [2, 3, 4, 5, 6, 7, 8, 9, 10, 11, 12, 13, 14, 15, 16, 0] rfl ?_
                      exact g_eq (ih_618 (m3 + 1) (hm3) (by omega)) (rfl) (rfl) rfl
                  · refine g_aload_n C 0 dL_repairs_657 rfl ?_
                    refine g_iconst C (nI 4) dL_repairs_658 (by decide) ?_
                    refine g_cV1 C (As := [.int (nI 4)]) (w := .int (V 4)) (mem3 := u138) iX9_about (c_X9_about l G1 g2 u138 L139.1 (nI 4)) wd_401 ob_0 rfl ⟨Nat.le_of_ble_eq_true rfl, Nat.le_of_ble_eq_true rfl⟩ ⟨rfl, rfl⟩ rfl (Nat.le_of_ble_eq_true rfl) dL_repairs_659 (congrArg Value.int ((about_n (by decide)).trans e4)) (rfl) ?_
                    refine g_goto C 666 dL_repairs_662 (by decide) ?_
                    refine g_isub C dL_repairs_666 ?_
                    refine g_top (y := dueV V b m3) (due_01 c_633 c_654) ?_
                    refine g_istore C (L2 := [(17, .int (dueV V b m3)), (0, .ref (gad G1 0)), (1, .int (nI (vN V))), (2, .int (nI b)), (3, .int (nI (hcd V b))), (4, .long (fpR V)), (6, .int (mk (ask V b (rWA V) (rF V b)) (vN V))), (7, .int (mk (sil V b (rWA V) (rF V b)) (vN V))), (8, .int (msF V (rpK V b))), (9, .int (nI (rpM V b))), (10, .int (nI 1)), (11, .int (nI (tim V b (rWA V) (rF V b)))), (12, .ref (gad G1 154)), (13, .int (V 8)), (14, .int (V 9)), (15, .int (nI (tim V b (rWA V) (rF V b)))), (16, .int (nI m3))]) dL_repairs_667 (by decide) rfl ?_
                    refine g_aload_n C 1 dL_repairs_669 rfl ?_
                    refine g_iload C 16 dL_repairs_670 rfl ?_
                    refine g_iconst C (nI 3) dL_repairs_672 (by decide) ?_
                    refine g_cV1 C (As := [.int (nI m3), .int (nI 3)]) (w := .int (dueV V b m3)) (mem3 := u138) iX9_member (c_X9_member l G1 g2 u138 L139.1 (nI m3) (nI 3)) wd_364 ob_0 rfl ⟨Nat.le_of_ble_eq_true rfl, Nat.le_of_ble_eq_true rfl⟩ ⟨rfl, rfl⟩ rfl (Nat.le_of_ble_eq_true rfl) dL_repairs_673 (congrArg Value.int ((mem_n g2 (by rw [eN]; exact hm3) (w := 3) (by decide) (by omega)).trans (h33 m3 hm3))) (rfl) ?_
                    refine g_iload C 0 dL_repairs_676 rfl ?_
                    refine g_icmp_ne_f C 702 (rfl) dL_repairs_678 (by decide) ?_
                    refine g_aload_n C 1 dL_repairs_681 rfl ?_
                    refine g_iload C 16 dL_repairs_682 rfl ?_
                    refine g_iconst C (nI 2) dL_repairs_684 (by decide) ?_
                    refine g_cV1 C (As := [.int (nI m3), .int (nI 2)]) (w := .int (V (32 + 12 * m3))) (mem3 := u138) iX9_member (c_X9_member l G1 g2 u138 L139.1 (nI m3) (nI 2)) wd_364 ob_0 rfl ⟨Nat.le_of_ble_eq_true rfl, Nat.le_of_ble_eq_true rfl⟩ ⟨rfl, rfl⟩ rfl (Nat.le_of_ble_eq_true rfl) dL_repairs_685 (congrArg Value.int ((mem_n g2 (by rw [eN]; exact hm3) (w := 2) (by decide) (by omega)).trans (h32 m3 hm3))) (rfl) ?_
                    refine g_iconst C (nI 1) dL_repairs_688 (by decide) ?_
                    refine g_icmp_ne C 704 dL_repairs_689 (by decide) (fun c_689 => ?_) (fun c_689 => ?_)
                    · refine g_iinc C (v := nI (m3 + 1)) (L2 := [(16, .int (nI (m3 + 1))), (17, .int (dueV V b m3)), (0, .ref (gad G1 0)), (1, .int (nI (vN V))), (2, .int (nI b)), (3, .int (nI (hcd V b))), (4, .long (fpR V)), (6, .int (mk (ask V b (rWA V) (rF V b)) (vN V))), (7, .int (mk (sil V b (rWA V) (rF V b)) (vN V))), (8, .int (msF V (rpK V b))), (9, .int (nI (rpM V b))), (10, .int (nI 1)), (11, .int (nI (tim V b (rWA V) (rF V b)))), (12, .ref (gad G1 154)), (13, .int (V 8)), (14, .int (V 9)), (15, .int (nI (tim V b (rWA V) (rF V b))))]) 16 dL_repairs_704 rfl (nI_1 _) (by decide) rfl ?_
                      refine g_goto C 618 dL_repairs_707 (by decide) ?_
                      refine g_loc (L2 := [(0, .ref (gad G1 0)), (1, .int (nI (vN V))), (2, .int (nI b)), (3, .int (nI (hcd V b))), (4, .long (fpR V)), (6, .int (mk (ask V b (rWA V) (rF V b)) (vN V))), (7, .int (mk (sil V b (rWA V) (rF V b)) (vN V))), (8, .int (msF V (rpK V b))), (9, .int (nI (rpM V b))), (10, .int (nI 1)), (11, .int (nI (tim V b (rWA V) (rF V b)))), (12, .ref (gad G1 154)), (13, .int (V 8)), (14, .int (V 9)), (15, .int (nI (tim V b (rWA V) (rF V b)))), (16, .int (nI (m3 + 1)))]) [2, 3, 4, 5, 6, 7, 8, 9, 10, 11, 12, 13, 14, 15, 16, 0] rfl ?_
                      exact g_eq (ih_618 (m3 + 1) (hm3) (by omega)) (rfl) (rfl) rfl
                    · refine g_aload_n C 1 dL_repairs_692 rfl ?_
                      refine g_iload C 16 dL_repairs_693 rfl ?_
                      refine g_iload_n C 3 dL_repairs_695 rfl ?_
                      refine g_cV1 C (As := [.int (nI m3), .int (nI b)]) (w := .int (nI 0)) (mem3 := u138) iX9_lost (c_X9_lost l G1 g2 u138 L139.1 (nI m3) (nI b)) wd_486 ob_0 rfl ⟨Nat.le_of_ble_eq_true rfl, Nat.le_of_ble_eq_true rfl⟩ ⟨rfl, rfl⟩ rfl (Nat.le_of_ble_eq_true rfl) dL_repairs_696 (congrArg Value.int ((lost_n g2 (by rw [eN]; exact hm3) hb).trans (if_neg (hlo2 m3 hm3 c_689)))) (rfl) ?_
                      refine g_if_eq_t C 704 (by decide) dL_repairs_699 (by decide) ?_
                      refine g_iinc C (v := nI (m3 + 1)) (L2 := [(16, .int (nI (m3 + 1))), (17, .int (dueV V b m3)), (0, .ref (gad G1 0)), (1, .int (nI (vN V))), (2, .int (nI b)), (3, .int (nI (hcd V b))), (4, .long (fpR V)), (6, .int (mk (ask V b (rWA V) (rF V b)) (vN V))), (7, .int (mk (sil V b (rWA V) (rF V b)) (vN V))), (8, .int (msF V (rpK V b))), (9, .int (nI (rpM V b))), (10, .int (nI 1)), (11, .int (nI (tim V b (rWA V) (rF V b)))), (12, .ref (gad G1 154)), (13, .int (V 8)), (14, .int (V 9)), (15, .int (nI (tim V b (rWA V) (rF V b))))]) 16 dL_repairs_704 rfl (nI_1 _) (by decide) rfl ?_
                      refine g_goto C 618 dL_repairs_707 (by decide) ?_
                      refine g_loc (L2 := [(0, .ref (gad G1 0)), (1, .int (nI (vN V))), (2, .int (nI b)), (3, .int (nI (hcd V b))), (4, .long (fpR V)), (6, .int (mk (ask V b (rWA V) (rF V b)) (vN V))), (7, .int (mk (sil V b (rWA V) (rF V b)) (vN V))), (8, .int (msF V (rpK V b))), (9, .int (nI (rpM V b))), (10, .int (nI 1)), (11, .int (nI (tim V b (rWA V) (rF V b)))), (12, .ref (gad G1 154)), (13, .int (V 8)), (14, .int (V 9)), (15, .int (nI (tim V b (rWA V) (rF V b)))), (16, .int (nI (m3 + 1)))]) [2, 3, 4, 5, 6, 7, 8, 9, 10, 11, 12, 13, 14, 15, 16, 0] rfl ?_
                      exact g_eq (ih_618 (m3 + 1) (hm3) (by omega)) (rfl) (rfl) rfl
                · have c_633 : m3 = rpM V b := (nI_iff (by omega) (by omega)).mp c_633
                  refine g_aload_n C 0 dL_repairs_636 rfl ?_
                  refine g_iconst C (nI 3) dL_repairs_637 (by decide) ?_
                  refine g_cV1 C (As := [.int (nI 3)]) (w := .int (V 3)) (mem3 := u138) iX9_about (c_X9_about l G1 g2 u138 L139.1 (nI 3)) wd_401 ob_0 rfl ⟨Nat.le_of_ble_eq_true rfl, Nat.le_of_ble_eq_true rfl⟩ ⟨rfl, rfl⟩ rfl (Nat.le_of_ble_eq_true rfl) dL_repairs_638 (congrArg Value.int ((about_n (by decide)).trans e3)) (rfl) ?_
                  refine g_goto C 645 dL_repairs_641 (by decide) ?_
                  refine g_iadd C dL_repairs_645 ?_
                  refine g_iload C 7 dL_repairs_646 rfl ?_
                  refine g_iload C 15 dL_repairs_648 rfl ?_
                  refine g_ishr C dL_repairs_650 ?_
                  refine g_iconst C (nI 1) dL_repairs_651 (by decide) ?_
                  refine g_iand C dL_repairs_652 ?_
                  refine g_iconst C (nI 1) dL_repairs_653 (by decide) ?_
                  refine g_icmp_ne C 665 dL_repairs_654 (by decide) (fun c_654 => ?_) (fun c_654 => ?_)
                  · refine g_iconst C (nI 0) dL_repairs_665 (by decide) ?_
                    refine g_isub C dL_repairs_666 ?_
                    refine g_top (y := dueV V b m3) (due_10 c_633 c_654) ?_
                    refine g_istore C (L2 := [(17, .int (dueV V b m3)), (0, .ref (gad G1 0)), (1, .int (nI (vN V))), (2, .int (nI b)), (3, .int (nI (hcd V b))), (4, .long (fpR V)), (6, .int (mk (ask V b (rWA V) (rF V b)) (vN V))), (7, .int (mk (sil V b (rWA V) (rF V b)) (vN V))), (8, .int (msF V (rpK V b))), (9, .int (nI (rpM V b))), (10, .int (nI 1)), (11, .int (nI (tim V b (rWA V) (rF V b)))), (12, .ref (gad G1 154)), (13, .int (V 8)), (14, .int (V 9)), (15, .int (nI (tim V b (rWA V) (rF V b)))), (16, .int (nI m3))]) dL_repairs_667 (by decide) rfl ?_
                    refine g_aload_n C 1 dL_repairs_669 rfl ?_
                    refine g_iload C 16 dL_repairs_670 rfl ?_
                    refine g_iconst C (nI 3) dL_repairs_672 (by decide) ?_
                    refine g_cV1 C (As := [.int (nI m3), .int (nI 3)]) (w := .int (dueV V b m3)) (mem3 := u138) iX9_member (c_X9_member l G1 g2 u138 L139.1 (nI m3) (nI 3)) wd_364 ob_0 rfl ⟨Nat.le_of_ble_eq_true rfl, Nat.le_of_ble_eq_true rfl⟩ ⟨rfl, rfl⟩ rfl (Nat.le_of_ble_eq_true rfl) dL_repairs_673 (congrArg Value.int ((mem_n g2 (by rw [eN]; exact hm3) (w := 3) (by decide) (by omega)).trans (h33 m3 hm3))) (rfl) ?_
                    refine g_iload C 0 dL_repairs_676 rfl ?_
                    refine g_icmp_ne_f C 702 (rfl) dL_repairs_678 (by decide) ?_
                    refine g_aload_n C 1 dL_repairs_681 rfl ?_
                    refine g_iload C 16 dL_repairs_682 rfl ?_
                    refine g_iconst C (nI 2) dL_repairs_684 (by decide) ?_
                    refine g_cV1 C (As := [.int (nI m3), .int (nI 2)]) (w := .int (V (32 + 12 * m3))) (mem3 := u138) iX9_member (c_X9_member l G1 g2 u138 L139.1 (nI m3) (nI 2)) wd_364 ob_0 rfl ⟨Nat.le_of_ble_eq_true rfl, Nat.le_of_ble_eq_true rfl⟩ ⟨rfl, rfl⟩ rfl (Nat.le_of_ble_eq_true rfl) dL_repairs_685 (congrArg Value.int ((mem_n g2 (by rw [eN]; exact hm3) (w := 2) (by decide) (by omega)).trans (h32 m3 hm3))) (rfl) ?_
                    refine g_iconst C (nI 1) dL_repairs_688 (by decide) ?_
                    refine g_icmp_ne C 704 dL_repairs_689 (by decide) (fun c_689 => ?_) (fun c_689 => ?_)
                    · refine g_iinc C (v := nI (m3 + 1)) (L2 := [(16, .int (nI (m3 + 1))), (17, .int (dueV V b m3)), (0, .ref (gad G1 0)), (1, .int (nI (vN V))), (2, .int (nI b)), (3, .int (nI (hcd V b))), (4, .long (fpR V)), (6, .int (mk (ask V b (rWA V) (rF V b)) (vN V))), (7, .int (mk (sil V b (rWA V) (rF V b)) (vN V))), (8, .int (msF V (rpK V b))), (9, .int (nI (rpM V b))), (10, .int (nI 1)), (11, .int (nI (tim V b (rWA V) (rF V b)))), (12, .ref (gad G1 154)), (13, .int (V 8)), (14, .int (V 9)), (15, .int (nI (tim V b (rWA V) (rF V b))))]) 16 dL_repairs_704 rfl (nI_1 _) (by decide) rfl ?_
                      refine g_goto C 618 dL_repairs_707 (by decide) ?_
                      refine g_loc (L2 := [(0, .ref (gad G1 0)), (1, .int (nI (vN V))), (2, .int (nI b)), (3, .int (nI (hcd V b))), (4, .long (fpR V)), (6, .int (mk (ask V b (rWA V) (rF V b)) (vN V))), (7, .int (mk (sil V b (rWA V) (rF V b)) (vN V))), (8, .int (msF V (rpK V b))), (9, .int (nI (rpM V b))), (10, .int (nI 1)), (11, .int (nI (tim V b (rWA V) (rF V b)))), (12, .ref (gad G1 154)), (13, .int (V 8)), (14, .int (V 9)), (15, .int (nI (tim V b (rWA V) (rF V b)))), (16, .int (nI (m3 + 1)))]) [2, 3, 4, 5, 6, 7, 8, 9, 10, 11, 12, 13, 14, 15, 16, 0] rfl ?_
                      exact g_eq (ih_618 (m3 + 1) (hm3) (by omega)) (rfl) (rfl) rfl
                    · refine g_aload_n C 1 dL_repairs_692 rfl ?_
                      refine g_iload C 16 dL_repairs_693 rfl ?_
                      refine g_iload_n C 3 dL_repairs_695 rfl ?_
                      refine g_cV1 C (As := [.int (nI m3), .int (nI b)]) (w := .int (nI 0)) (mem3 := u138) iX9_lost (c_X9_lost l G1 g2 u138 L139.1 (nI m3) (nI b)) wd_486 ob_0 rfl ⟨Nat.le_of_ble_eq_true rfl, Nat.le_of_ble_eq_true rfl⟩ ⟨rfl, rfl⟩ rfl (Nat.le_of_ble_eq_true rfl) dL_repairs_696 (congrArg Value.int ((lost_n g2 (by rw [eN]; exact hm3) hb).trans (if_neg (hlo2 m3 hm3 c_689)))) (rfl) ?_
                      refine g_if_eq_t C 704 (by decide) dL_repairs_699 (by decide) ?_
                      refine g_iinc C (v := nI (m3 + 1)) (L2 := [(16, .int (nI (m3 + 1))), (17, .int (dueV V b m3)), (0, .ref (gad G1 0)), (1, .int (nI (vN V))), (2, .int (nI b)), (3, .int (nI (hcd V b))), (4, .long (fpR V)), (6, .int (mk (ask V b (rWA V) (rF V b)) (vN V))), (7, .int (mk (sil V b (rWA V) (rF V b)) (vN V))), (8, .int (msF V (rpK V b))), (9, .int (nI (rpM V b))), (10, .int (nI 1)), (11, .int (nI (tim V b (rWA V) (rF V b)))), (12, .ref (gad G1 154)), (13, .int (V 8)), (14, .int (V 9)), (15, .int (nI (tim V b (rWA V) (rF V b))))]) 16 dL_repairs_704 rfl (nI_1 _) (by decide) rfl ?_
                      refine g_goto C 618 dL_repairs_707 (by decide) ?_
                      refine g_loc (L2 := [(0, .ref (gad G1 0)), (1, .int (nI (vN V))), (2, .int (nI b)), (3, .int (nI (hcd V b))), (4, .long (fpR V)), (6, .int (mk (ask V b (rWA V) (rF V b)) (vN V))), (7, .int (mk (sil V b (rWA V) (rF V b)) (vN V))), (8, .int (msF V (rpK V b))), (9, .int (nI (rpM V b))), (10, .int (nI 1)), (11, .int (nI (tim V b (rWA V) (rF V b)))), (12, .ref (gad G1 154)), (13, .int (V 8)), (14, .int (V 9)), (15, .int (nI (tim V b (rWA V) (rF V b)))), (16, .int (nI (m3 + 1)))]) [2, 3, 4, 5, 6, 7, 8, 9, 10, 11, 12, 13, 14, 15, 16, 0] rfl ?_
                      exact g_eq (ih_618 (m3 + 1) (hm3) (by omega)) (rfl) (rfl) rfl
                  · refine g_aload_n C 0 dL_repairs_657 rfl ?_
                    refine g_iconst C (nI 4) dL_repairs_658 (by decide) ?_
                    refine g_cV1 C (As := [.int (nI 4)]) (w := .int (V 4)) (mem3 := u138) iX9_about (c_X9_about l G1 g2 u138 L139.1 (nI 4)) wd_401 ob_0 rfl ⟨Nat.le_of_ble_eq_true rfl, Nat.le_of_ble_eq_true rfl⟩ ⟨rfl, rfl⟩ rfl (Nat.le_of_ble_eq_true rfl) dL_repairs_659 (congrArg Value.int ((about_n (by decide)).trans e4)) (rfl) ?_
                    refine g_goto C 666 dL_repairs_662 (by decide) ?_
                    refine g_isub C dL_repairs_666 ?_
                    refine g_top (y := dueV V b m3) (due_11 c_633 c_654) ?_
                    refine g_istore C (L2 := [(17, .int (dueV V b m3)), (0, .ref (gad G1 0)), (1, .int (nI (vN V))), (2, .int (nI b)), (3, .int (nI (hcd V b))), (4, .long (fpR V)), (6, .int (mk (ask V b (rWA V) (rF V b)) (vN V))), (7, .int (mk (sil V b (rWA V) (rF V b)) (vN V))), (8, .int (msF V (rpK V b))), (9, .int (nI (rpM V b))), (10, .int (nI 1)), (11, .int (nI (tim V b (rWA V) (rF V b)))), (12, .ref (gad G1 154)), (13, .int (V 8)), (14, .int (V 9)), (15, .int (nI (tim V b (rWA V) (rF V b)))), (16, .int (nI m3))]) dL_repairs_667 (by decide) rfl ?_
                    refine g_aload_n C 1 dL_repairs_669 rfl ?_
                    refine g_iload C 16 dL_repairs_670 rfl ?_
                    refine g_iconst C (nI 3) dL_repairs_672 (by decide) ?_
                    refine g_cV1 C (As := [.int (nI m3), .int (nI 3)]) (w := .int (dueV V b m3)) (mem3 := u138) iX9_member (c_X9_member l G1 g2 u138 L139.1 (nI m3) (nI 3)) wd_364 ob_0 rfl ⟨Nat.le_of_ble_eq_true rfl, Nat.le_of_ble_eq_true rfl⟩ ⟨rfl, rfl⟩ rfl (Nat.le_of_ble_eq_true rfl) dL_repairs_673 (congrArg Value.int ((mem_n g2 (by rw [eN]; exact hm3) (w := 3) (by decide) (by omega)).trans (h33 m3 hm3))) (rfl) ?_
                    refine g_iload C 0 dL_repairs_676 rfl ?_
                    refine g_icmp_ne_f C 702 (rfl) dL_repairs_678 (by decide) ?_
                    refine g_aload_n C 1 dL_repairs_681 rfl ?_
                    refine g_iload C 16 dL_repairs_682 rfl ?_
                    refine g_iconst C (nI 2) dL_repairs_684 (by decide) ?_
                    refine g_cV1 C (As := [.int (nI m3), .int (nI 2)]) (w := .int (V (32 + 12 * m3))) (mem3 := u138) iX9_member (c_X9_member l G1 g2 u138 L139.1 (nI m3) (nI 2)) wd_364 ob_0 rfl ⟨Nat.le_of_ble_eq_true rfl, Nat.le_of_ble_eq_true rfl⟩ ⟨rfl, rfl⟩ rfl (Nat.le_of_ble_eq_true rfl) dL_repairs_685 (congrArg Value.int ((mem_n g2 (by rw [eN]; exact hm3) (w := 2) (by decide) (by omega)).trans (h32 m3 hm3))) (rfl) ?_
                    refine g_iconst C (nI 1) dL_repairs_688 (by decide) ?_
                    refine g_icmp_ne C 704 dL_repairs_689 (by decide) (fun c_689 => ?_) (fun c_689 => ?_)
                    · refine g_iinc C (v := nI (m3 + 1)) (L2 := [(16, .int (nI (m3 + 1))), (17, .int (dueV V b m3)), (0, .ref (gad G1 0)), (1, .int (nI (vN V))), (2, .int (nI b)), (3, .int (nI (hcd V b))), (4, .long (fpR V)), (6, .int (mk (ask V b (rWA V) (rF V b)) (vN V))), (7, .int (mk (sil V b (rWA V) (rF V b)) (vN V))), (8, .int (msF V (rpK V b))), (9, .int (nI (rpM V b))), (10, .int (nI 1)), (11, .int (nI (tim V b (rWA V) (rF V b)))), (12, .ref (gad G1 154)), (13, .int (V 8)), (14, .int (V 9)), (15, .int (nI (tim V b (rWA V) (rF V b))))]) 16 dL_repairs_704 rfl (nI_1 _) (by decide) rfl ?_
                      refine g_goto C 618 dL_repairs_707 (by decide) ?_
                      refine g_loc (L2 := [(0, .ref (gad G1 0)), (1, .int (nI (vN V))), (2, .int (nI b)), (3, .int (nI (hcd V b))), (4, .long (fpR V)), (6, .int (mk (ask V b (rWA V) (rF V b)) (vN V))), (7, .int (mk (sil V b (rWA V) (rF V b)) (vN V))), (8, .int (msF V (rpK V b))), (9, .int (nI (rpM V b))), (10, .int (nI 1)), (11, .int (nI (tim V b (rWA V) (rF V b)))), (12, .ref (gad G1 154)), (13, .int (V 8)), (14, .int (V 9)), (15, .int (nI (tim V b (rWA V) (rF V b)))), (16, .int (nI (m3 + 1)))]) [2, 3, 4, 5, 6, 7, 8, 9, 10, 11, 12, 13, 14, 15, 16, 0] rfl ?_
                      exact g_eq (ih_618 (m3 + 1) (hm3) (by omega)) (rfl) (rfl) rfl
                    · refine g_aload_n C 1 dL_repairs_692 rfl ?_
                      refine g_iload C 16 dL_repairs_693 rfl ?_
                      refine g_iload_n C 3 dL_repairs_695 rfl ?_
                      refine g_cV1 C (As := [.int (nI m3), .int (nI b)]) (w := .int (nI 0)) (mem3 := u138) iX9_lost (c_X9_lost l G1 g2 u138 L139.1 (nI m3) (nI b)) wd_486 ob_0 rfl ⟨Nat.le_of_ble_eq_true rfl, Nat.le_of_ble_eq_true rfl⟩ ⟨rfl, rfl⟩ rfl (Nat.le_of_ble_eq_true rfl) dL_repairs_696 (congrArg Value.int ((lost_n g2 (by rw [eN]; exact hm3) hb).trans (if_neg (hlo2 m3 hm3 c_689)))) (rfl) ?_
                      refine g_if_eq_t C 704 (by decide) dL_repairs_699 (by decide) ?_
                      refine g_iinc C (v := nI (m3 + 1)) (L2 := [(16, .int (nI (m3 + 1))), (17, .int (dueV V b m3)), (0, .ref (gad G1 0)), (1, .int (nI (vN V))), (2, .int (nI b)), (3, .int (nI (hcd V b))), (4, .long (fpR V)), (6, .int (mk (ask V b (rWA V) (rF V b)) (vN V))), (7, .int (mk (sil V b (rWA V) (rF V b)) (vN V))), (8, .int (msF V (rpK V b))), (9, .int (nI (rpM V b))), (10, .int (nI 1)), (11, .int (nI (tim V b (rWA V) (rF V b)))), (12, .ref (gad G1 154)), (13, .int (V 8)), (14, .int (V 9)), (15, .int (nI (tim V b (rWA V) (rF V b))))]) 16 dL_repairs_704 rfl (nI_1 _) (by decide) rfl ?_
                      refine g_goto C 618 dL_repairs_707 (by decide) ?_
                      refine g_loc (L2 := [(0, .ref (gad G1 0)), (1, .int (nI (vN V))), (2, .int (nI b)), (3, .int (nI (hcd V b))), (4, .long (fpR V)), (6, .int (mk (ask V b (rWA V) (rF V b)) (vN V))), (7, .int (mk (sil V b (rWA V) (rF V b)) (vN V))), (8, .int (msF V (rpK V b))), (9, .int (nI (rpM V b))), (10, .int (nI 1)), (11, .int (nI (tim V b (rWA V) (rF V b)))), (12, .ref (gad G1 154)), (13, .int (V 8)), (14, .int (V 9)), (15, .int (nI (tim V b (rWA V) (rF V b)))), (16, .int (nI (m3 + 1)))]) [2, 3, 4, 5, 6, 7, 8, 9, 10, 11, 12, 13, 14, 15, 16, 0] rfl ?_
                      exact g_eq (ih_618 (m3 + 1) (hm3) (by omega)) (rfl) (rfl) rfl
          refine g_loc (L2 := [(0, .ref (gad G1 0)), (1, .int (nI (vN V))), (2, .int (nI b)), (3, .int (nI (hcd V b))), (4, .long (fpR V)), (6, .int (mk (ask V b (rWA V) (rF V b)) (vN V))), (7, .int (mk (sil V b (rWA V) (rF V b)) (vN V))), (8, .int (msF V (rpK V b))), (9, .int (nI (rpM V b))), (10, .int (nI 1)), (11, .int (nI (tim V b (rWA V) (rF V b)))), (12, .ref (gad G1 154)), (13, .int (V 8)), (14, .int (V 9)), (15, .int (nI (tim V b (rWA V) (rF V b)))), (16, .int (nI 0))]) [4, 5, 6, 7, 8, 9, 10, 11, 12, 13, 14, 15, 3, 2, 1, 0] rfl ?_
          exact g_eq (lp_618 (_ + 1) 0 (Nat.zero_le _) (Nat.lt_succ_self _)) (rfl) (rfl) rfl
        · have hm2 : m1 < vN V := by have q := mt (nI_leI (a := vN V) (b := m1) (by omega) (by omega)).mpr c_120; omega
          have hwt : wt V b (rWA V) m1 < rWA V := wt_lt V b m1 (gd_wait g).2.1
          have hrx := rX_le g h0 hm2
          have htx := tX_le g h0 hm
          refine g_aload_n C 0 dL_repairs_123 rfl ?_
          rcases role_cases g h0 hm2 with ⟨hfq, hrq, hro, ha, hsl, hmi, hlo⟩ | ⟨hfq, hrq, hro, ha, hsl, hmi, hlo⟩ | ⟨hfq, hrq, hro, ha, hsl, hmi, hlo⟩ | ⟨hfq, hrq, hro, ha, hsl, hmi, hlo⟩ | ⟨hfq, hrq, hro, ha, hsl, hmi, hlo⟩ | ⟨hfq, hrq, hro, ha, hsl, hmi, hlo⟩
          · have hvl := los_lv hlo
            refine g_iload_n C 2 dL_repairs_124 rfl ?_
            refine g_iload C 12 dL_repairs_125 rfl ?_
            refine g_iconst C (nI 0) dL_repairs_127 (by decide) ?_
            refine g_cVf C (As := [.int (nI b), .int (nI m1), .int (nI 0)]) (v := .int (lookR V (nI b) (nI m1) (nI 0))) iX9_look (c_X9_look l G1 g M1 LM.1 (nI b) (nI m1) (nI 0)) wd_644 ob_0 rfl ⟨Nat.le_of_ble_eq_true rfl, Nat.le_of_ble_eq_true rfl⟩ ⟨rfl, rfl⟩ rfl (Nat.le_of_ble_eq_true rfl) dL_repairs_128 (fun u148 hq => ?_)
            have L149 := ls_fr LM hq
            refine g_top (y := nI 1) (look_0 g hb h0 hm2 hro) ?_
            refine g_istore C (L2 := [(14, .int (nI 1)), (0, .ref (gad G1 0)), (1, .int (nI (vN V))), (2, .int (nI b)), (3, .int (nI (hcd V b))), (4, .long (fpR V)), (6, .int (mk (ask V b (rWA V) (rF V b)) m1)), (7, .int (mk (sil V b (rWA V) (rF V b)) m1)), (8, .int (mk (mis V b) m1)), (9, .int (rpI V b m1)), (10, .int (nI (fsN (rF V b) m1))), (11, .int (nI (tmF (los V b) (rX V b) m1))), (12, .ref (gad G1 154)), (13, .int (nI m1))]) dL_repairs_131 (by decide) rfl ?_
            refine g_iload C 0 dL_repairs_133 rfl ?_
            refine g_if_le_f C 148 (by decide) dL_repairs_135 (by decide) ?_
            refine g_iload C 0 dL_repairs_138 rfl ?_
            refine g_iconst C (nI 4) dL_repairs_140 (by decide) ?_
            refine g_icmp_ge_f C 148 (by decide) dL_repairs_141 (by decide) ?_
            refine g_iconst C (nI 1) dL_repairs_144 (by decide) ?_
            refine g_goto C 149 dL_repairs_145 (by decide) ?_
            refine g_istore C (L2 := [(15, .int (nI 1)), (14, .int (nI 1)), (0, .ref (gad G1 0)), (1, .int (nI (vN V))), (2, .int (nI b)), (3, .int (nI (hcd V b))), (4, .long (fpR V)), (6, .int (mk (ask V b (rWA V) (rF V b)) m1)), (7, .int (mk (sil V b (rWA V) (rF V b)) m1)), (8, .int (mk (mis V b) m1)), (9, .int (rpI V b m1)), (10, .int (nI (fsN (rF V b) m1))), (11, .int (nI (tmF (los V b) (rX V b) m1))), (12, .ref (gad G1 154)), (13, .int (nI m1))]) dL_repairs_149 (by decide) rfl ?_
            refine g_aload C 13 dL_repairs_151 rfl ?_
            refine g_iload C 14 dL_repairs_153 rfl ?_
            refine g_aload_n C 2 dL_repairs_155 rfl ?_
            refine g_iload C 14 dL_repairs_156 rfl ?_
            refine g_iconst C (nI 3) dL_repairs_158 (by decide) ?_
            refine g_cV1 C (As := [.int (nI m1), .int (nI 3)]) (w := .int (V (33 + 12 * m1))) (mem3 := u148) iX9_member (c_X9_member l G1 g u148 L149.1 (nI m1) (nI 3)) wd_364 ob_0 rfl ⟨Nat.le_of_ble_eq_true rfl, Nat.le_of_ble_eq_true rfl⟩ ⟨rfl, rfl⟩ rfl (Nat.le_of_ble_eq_true rfl) dL_repairs_159 (congrArg Value.int (mem_n g hm2 (w := 3) (by decide) (by omega))) (rfl) ?_
            refine g_xast C (j := m1) (gx_at x1 (k := 0) (by decide)) (by omega) dL_repairs_162 ?_
            have L150 : kLS T V Vs h (cpy (m1 + 1) (fun q => V (33 + 12 * q)) (fun _ => 0)) B (gr u148 154 (upd (u148 154) m1 (V (33 + 12 * m1)))) := ls_ast L149 (cpy_s rfl)
            generalize gr u148 154 (upd (u148 154) m1 (V (33 + 12 * m1))) = u151 at L150 ⊢
            refine g_iload C 7 dL_repairs_163 rfl ?_
            refine g_iload C 1 dL_repairs_165 rfl ?_
            refine g_iconst C (nI 1) dL_repairs_167 (by decide) ?_
            refine g_icmp_eq_t C 177 (by decide) dL_repairs_168 (by decide) ?_
            refine g_iconst C (nI 1) dL_repairs_177 (by decide) ?_
            refine g_iload C 14 dL_repairs_178 rfl ?_
            refine g_ishl C dL_repairs_180 ?_
            refine g_goto C 185 dL_repairs_181 (by decide) ?_
            refine g_ior C dL_repairs_185 ?_
            refine g_top (y := mk (ask V b (rWA V) (rF V b)) (m1 + 1)) ((mk_t ha).symm) ?_
            refine g_istore C (L2 := [(6, .int (mk (ask V b (rWA V) (rF V b)) (m1 + 1))), (15, .int (nI 1)), (14, .int (nI 1)), (0, .ref (gad G1 0)), (1, .int (nI (vN V))), (2, .int (nI b)), (3, .int (nI (hcd V b))), (4, .long (fpR V)), (7, .int (mk (sil V b (rWA V) (rF V b)) m1)), (8, .int (mk (mis V b) m1)), (9, .int (rpI V b m1)), (10, .int (nI (fsN (rF V b) m1))), (11, .int (nI (tmF (los V b) (rX V b) m1))), (12, .ref (gad G1 154)), (13, .int (nI m1))]) dL_repairs_186 (by decide) rfl ?_
            refine g_iload C 8 dL_repairs_188 rfl ?_
            refine g_iload C 2 dL_repairs_190 rfl ?_
            refine g_iconst C (nI 3) dL_repairs_192 (by decide) ?_
            refine g_icmp_ne_t C 203 (by decide) dL_repairs_193 (by decide) ?_
            refine g_iconst C (nI 0) dL_repairs_203 (by decide) ?_
            refine g_ior C dL_repairs_204 ?_
            refine g_top (y := mk (sil V b (rWA V) (rF V b)) (m1 + 1)) (or_0 hsl) ?_
            refine g_istore C (L2 := [(7, .int (mk (sil V b (rWA V) (rF V b)) (m1 + 1))), (6, .int (mk (ask V b (rWA V) (rF V b)) (m1 + 1))), (15, .int (nI 1)), (14, .int (nI 1)), (0, .ref (gad G1 0)), (1, .int (nI (vN V))), (2, .int (nI b)), (3, .int (nI (hcd V b))), (4, .long (fpR V)), (8, .int (mk (mis V b) m1)), (9, .int (rpI V b m1)), (10, .int (nI (fsN (rF V b) m1))), (11, .int (nI (tmF (los V b) (rX V b) m1))), (12, .ref (gad G1 154)), (13, .int (nI m1))]) dL_repairs_205 (by decide) rfl ?_
            refine g_iload C 9 dL_repairs_207 rfl ?_
            refine g_iload C 3 dL_repairs_209 rfl ?_
            refine g_iconst C (nI 5) dL_repairs_211 (by decide) ?_
            refine g_icmp_ne_t C 222 (by decide) dL_repairs_212 (by decide) ?_
            refine g_iconst C (nI 0) dL_repairs_222 (by decide) ?_
            refine g_ior C dL_repairs_223 ?_
            refine g_top (y := mk (mis V b) (m1 + 1)) (or_0 hmi) ?_
            refine g_istore C (L2 := [(8, .int (mk (mis V b) (m1 + 1))), (7, .int (mk (sil V b (rWA V) (rF V b)) (m1 + 1))), (6, .int (mk (ask V b (rWA V) (rF V b)) (m1 + 1))), (15, .int (nI 1)), (14, .int (nI 1)), (0, .ref (gad G1 0)), (1, .int (nI (vN V))), (2, .int (nI b)), (3, .int (nI (hcd V b))), (4, .long (fpR V)), (9, .int (rpI V b m1)), (10, .int (nI (fsN (rF V b) m1))), (11, .int (nI (tmF (los V b) (rX V b) m1))), (12, .ref (gad G1 154)), (13, .int (nI m1))]) dL_repairs_224 (by decide) rfl ?_
            refine g_iload C 4 dL_repairs_226 rfl ?_
            refine g_iconst C (nI 4) dL_repairs_228 (by decide) ?_
            refine g_icmp_ne_t C 237 (by decide) dL_repairs_229 (by decide) ?_
            refine g_iload C 10 dL_repairs_237 rfl ?_
            refine g_top (y := rpI V b (m1 + 1)) (rpI_n hrq) ?_
            refine g_istore C (L2 := [(9, .int (rpI V b (m1 + 1))), (8, .int (mk (mis V b) (m1 + 1))), (7, .int (mk (sil V b (rWA V) (rF V b)) (m1 + 1))), (6, .int (mk (ask V b (rWA V) (rF V b)) (m1 + 1))), (15, .int (nI 1)), (14, .int (nI 1)), (0, .ref (gad G1 0)), (1, .int (nI (vN V))), (2, .int (nI b)), (3, .int (nI (hcd V b))), (4, .long (fpR V)), (10, .int (nI (fsN (rF V b) m1))), (11, .int (nI (tmF (los V b) (rX V b) m1))), (12, .ref (gad G1 154)), (13, .int (nI m1))]) dL_repairs_239 (by decide) rfl ?_
            refine g_iload C 11 dL_repairs_241 rfl ?_
            refine g_iload C 5 dL_repairs_243 rfl ?_
            refine g_iconst C (nI 1) dL_repairs_245 (by decide) ?_
            refine g_icmp_ne_f C 253 (by decide) dL_repairs_246 (by decide) ?_
            refine g_iconst C (nI 1) dL_repairs_249 (by decide) ?_
            refine g_goto C 254 dL_repairs_250 (by decide) ?_
            refine g_iadd_n C (d := (fsN (rF V b) m1) + 1) dL_repairs_254 rfl ?_
            refine g_top (y := nI (fsN (rF V b) (m1 + 1))) (fs_y hfq) ?_
            refine g_istore C (L2 := [(10, .int (nI (fsN (rF V b) (m1 + 1)))), (9, .int (rpI V b (m1 + 1))), (8, .int (mk (mis V b) (m1 + 1))), (7, .int (mk (sil V b (rWA V) (rF V b)) (m1 + 1))), (6, .int (mk (ask V b (rWA V) (rF V b)) (m1 + 1))), (15, .int (nI 1)), (14, .int (nI 1)), (0, .ref (gad G1 0)), (1, .int (nI (vN V))), (2, .int (nI b)), (3, .int (nI (hcd V b))), (4, .long (fpR V)), (11, .int (nI (tmF (los V b) (rX V b) m1))), (12, .ref (gad G1 154)), (13, .int (nI m1))]) dL_repairs_255 (by decide) rfl ?_
            refine g_iload C 5 dL_repairs_257 rfl ?_
            refine g_aload_n C 7 dL_repairs_259 rfl ?_
            refine g_iload C 14 dL_repairs_260 rfl ?_
            refine g_iload_n C 9 dL_repairs_262 rfl ?_
            refine g_cV1 C (As := [.int (nI m1), .int (nI b)]) (w := .int (nI 1)) (mem3 := u151) iX9_lost (c_X9_lost l G1 g u151 L150.1 (nI m1) (nI b)) wd_486 ob_0 rfl ⟨Nat.le_of_ble_eq_true rfl, Nat.le_of_ble_eq_true rfl⟩ ⟨rfl, rfl⟩ rfl (Nat.le_of_ble_eq_true rfl) dL_repairs_263 (congrArg Value.int ((lost_n g hm2 hb).trans (if_pos hvl.2))) (rfl) ?_
            refine g_iconst C (nI 1) dL_repairs_266 (by decide) ?_
            refine g_icmp_ne_f C 285 (by decide) dL_repairs_267 (by decide) ?_
            refine g_aload_n C 7 dL_repairs_270 rfl ?_
            refine g_iload C 14 dL_repairs_271 rfl ?_
            refine g_iconst C (nI 2) dL_repairs_273 (by decide) ?_
            refine g_cV1 C (As := [.int (nI m1), .int (nI 2)]) (w := .int (nI 1)) (mem3 := u151) iX9_member (c_X9_member l G1 g u151 L150.1 (nI m1) (nI 2)) wd_364 ob_0 rfl ⟨Nat.le_of_ble_eq_true rfl, Nat.le_of_ble_eq_true rfl⟩ ⟨rfl, rfl⟩ rfl (Nat.le_of_ble_eq_true rfl) dL_repairs_274 (congrArg Value.int ((mem_n g hm2 (w := 2) (by decide) (by omega)).trans (lv_1 hvl.1))) (rfl) ?_
            refine g_iconst C (nI 1) dL_repairs_277 (by decide) ?_
            refine g_icmp_ne_f C 285 (rfl) dL_repairs_278 (by decide) ?_
            refine g_iconst C (nI 1) dL_repairs_281 (by decide) ?_
            refine g_goto C 286 dL_repairs_282 (by decide) ?_
            refine g_icmp_ne_f C 384 (by decide) dL_repairs_286 (by decide) ?_
            refine g_iload C 5 dL_repairs_289 rfl ?_
            refine g_aload_n C 7 dL_repairs_291 rfl ?_
            refine g_iload_n C 9 dL_repairs_292 rfl ?_
            refine g_iload C 14 dL_repairs_293 rfl ?_
            refine g_iconst C (nI 1) dL_repairs_295 (by decide) ?_
            refine g_cVf C (As := [.int (nI b), .int (nI m1), .int (nI 1)]) (v := .int (lookR V (nI b) (nI m1) (nI 1))) iX9_look (c_X9_look l G1 g u151 L150.1 (nI b) (nI m1) (nI 1)) wd_644 ob_0 rfl ⟨Nat.le_of_ble_eq_true rfl, Nat.le_of_ble_eq_true rfl⟩ ⟨rfl, rfl⟩ rfl (Nat.le_of_ble_eq_true rfl) dL_repairs_296 (fun u152 hq => ?_)
            have L153 := ls_fr L150 hq
            refine g_top (y := nI (wt V b (rWA V) m1)) (look_1 g hb h0 hm2 hlo) ?_
            refine g_ldc C wd_626 dL_repairs_299 ?_
            refine g_icmp_ne_t C 308 (nN_ne (by omega)) dL_repairs_301 (by decide) ?_
            refine g_iconst C (nI 0) dL_repairs_308 (by decide) ?_
            refine g_icmp_eq_f C 384 (by decide) dL_repairs_309 (by decide) ?_
            refine g_iload C 5 dL_repairs_312 rfl ?_
            refine g_aload_n C 7 dL_repairs_314 rfl ?_
            refine g_iload_n C 9 dL_repairs_315 rfl ?_
            refine g_iload C 14 dL_repairs_316 rfl ?_
            refine g_iconst C (nI 2) dL_repairs_318 (by decide) ?_
            refine g_cVf C (As := [.int (nI b), .int (nI m1), .int (nI 2)]) (v := .int (lookR V (nI b) (nI m1) (nI 2))) iX9_look (c_X9_look l G1 g u152 L153.1 (nI b) (nI m1) (nI 2)) wd_644 ob_0 rfl ⟨Nat.le_of_ble_eq_true rfl, Nat.le_of_ble_eq_true rfl⟩ ⟨rfl, rfl⟩ rfl (Nat.le_of_ble_eq_true rfl) dL_repairs_319 (fun u154 hq => ?_)
            have L155 := ls_fr L153 hq
            refine g_top (y := nI (rX V b m1)) (look_2 g hb h0 hm2 hlo) ?_
            refine g_ldc C wd_626 dL_repairs_322 ?_
            refine g_icmp_ne_t C 331 (nN_ne (by omega)) dL_repairs_324 (by decide) ?_
            refine g_iconst C (nI 0) dL_repairs_331 (by decide) ?_
            refine g_icmp_eq_f C 384 (by decide) dL_repairs_332 (by decide) ?_
            refine g_iload C 5 dL_repairs_335 rfl ?_
            refine g_if_eq_f C 367 (by decide) dL_repairs_337 (by decide) ?_
            refine g_aload_n C 7 dL_repairs_340 rfl ?_
            refine g_iload_n C 9 dL_repairs_341 rfl ?_
            refine g_iload C 14 dL_repairs_342 rfl ?_
            refine g_iconst C (nI 1) dL_repairs_344 (by decide) ?_
            refine g_cVf C (As := [.int (nI b), .int (nI m1), .int (nI 1)]) (v := .int (lookR V (nI b) (nI m1) (nI 1))) iX9_look (c_X9_look l G1 g u154 L155.1 (nI b) (nI m1) (nI 1)) wd_644 ob_0 rfl ⟨Nat.le_of_ble_eq_true rfl, Nat.le_of_ble_eq_true rfl⟩ ⟨rfl, rfl⟩ rfl (Nat.le_of_ble_eq_true rfl) dL_repairs_345 (fun u156 hq => ?_)
            have L157 := ls_fr L155 hq
            refine g_top (y := nI (wt V b (rWA V) m1)) (look_1 g hb h0 hm2 hlo) ?_
            refine g_aload_n C 7 dL_repairs_348 rfl ?_
            refine g_iconst C (nI 0) dL_repairs_349 (by decide) ?_
            refine g_cV1 C (As := [.int (nI 0)]) (w := .int (nI (rWA V))) (mem3 := u156) iX9_about (c_X9_about l G1 g u156 L157.1 (nI 0)) wd_401 ob_0 rfl ⟨Nat.le_of_ble_eq_true rfl, Nat.le_of_ble_eq_true rfl⟩ ⟨rfl, rfl⟩ rfl (Nat.le_of_ble_eq_true rfl) dL_repairs_350 (congrArg Value.int ((about_n (by decide)).trans (gd_wait g).1)) (rfl) ?_
            refine g_icmp_ge_f C 384 (nI_ge hwt (by omega)) dL_repairs_353 (by decide) ?_
            refine g_aload_n C 7 dL_repairs_356 rfl ?_
            refine g_iload_n C 9 dL_repairs_357 rfl ?_
            refine g_iload C 14 dL_repairs_358 rfl ?_
            refine g_iconst C (nI 2) dL_repairs_360 (by decide) ?_
            refine g_cVf C (As := [.int (nI b), .int (nI m1), .int (nI 2)]) (v := .int (lookR V (nI b) (nI m1) (nI 2))) iX9_look (c_X9_look l G1 g u156 L157.1 (nI b) (nI m1) (nI 2)) wd_644 ob_0 rfl ⟨Nat.le_of_ble_eq_true rfl, Nat.le_of_ble_eq_true rfl⟩ ⟨rfl, rfl⟩ rfl (Nat.le_of_ble_eq_true rfl) dL_repairs_361 (fun u158 hq => ?_)
            have L159 := ls_fr L157 hq
            refine g_top (y := nI (rX V b m1)) (look_2 g hb h0 hm2 hlo) ?_
            refine g_if_lt_f C 384 (nI_pos (by omega)) dL_repairs_364 (by decide) ?_
            refine g_iload C 6 dL_repairs_367 rfl ?_
            refine g_iconst C (nI 5) dL_repairs_369 (by decide) ?_
            refine g_icmp_ne_t C 386 (by decide) dL_repairs_370 (by decide) ?_
            refine g_iload C 5 dL_repairs_386 rfl ?_
            refine g_if_eq_f C 415 (by decide) dL_repairs_388 (by decide) ?_
            refine g_aload_n C 7 dL_repairs_391 rfl ?_
            refine g_iload_n C 9 dL_repairs_392 rfl ?_
            refine g_iload C 14 dL_repairs_393 rfl ?_
            refine g_iconst C (nI 2) dL_repairs_395 (by decide) ?_
            refine g_cVf C (As := [.int (nI b), .int (nI m1), .int (nI 2)]) (v := .int (lookR V (nI b) (nI m1) (nI 2))) iX9_look (c_X9_look l G1 g u158 L159.1 (nI b) (nI m1) (nI 2)) wd_644 ob_0 rfl ⟨Nat.le_of_ble_eq_true rfl, Nat.le_of_ble_eq_true rfl⟩ ⟨rfl, rfl⟩ rfl (Nat.le_of_ble_eq_true rfl) dL_repairs_396 (fun u160 hq => ?_)
            have L161 := ls_fr L159 hq
            refine g_top (y := nI (rX V b m1)) (look_2 g hb h0 hm2 hlo) ?_
            refine g_iload C 12 dL_repairs_399 rfl ?_
            refine g_icmp_le C 415 dL_repairs_401 (by decide) (fun c_401 => ?_) (fun c_401 => ?_)
            · have c_401 : rX V b m1 ≤ tmF (los V b) (rX V b) m1 := (nI_leI (by omega) (by omega)).mp c_401
              refine g_iload C 12 dL_repairs_415 rfl ?_
              refine g_top (y := nI (tmF (los V b) (rX V b) (m1 + 1))) (tX_lo hlo c_401) ?_
              refine g_istore C (L2 := [(11, .int (nI (tmF (los V b) (rX V b) (m1 + 1)))), (10, .int (nI (fsN (rF V b) (m1 + 1)))), (9, .int (rpI V b (m1 + 1))), (8, .int (mk (mis V b) (m1 + 1))), (7, .int (mk (sil V b (rWA V) (rF V b)) (m1 + 1))), (6, .int (mk (ask V b (rWA V) (rF V b)) (m1 + 1))), (15, .int (nI 1)), (14, .int (nI 1)), (0, .ref (gad G1 0)), (1, .int (nI (vN V))), (2, .int (nI b)), (3, .int (nI (hcd V b))), (4, .long (fpR V)), (12, .ref (gad G1 154)), (13, .int (nI m1))]) dL_repairs_417 (by decide) rfl ?_
              refine g_iinc C (v := nI (m1 + 1)) (L2 := [(13, .int (nI (m1 + 1))), (11, .int (nI (tmF (los V b) (rX V b) (m1 + 1)))), (10, .int (nI (fsN (rF V b) (m1 + 1)))), (9, .int (rpI V b (m1 + 1))), (8, .int (mk (mis V b) (m1 + 1))), (7, .int (mk (sil V b (rWA V) (rF V b)) (m1 + 1))), (6, .int (mk (ask V b (rWA V) (rF V b)) (m1 + 1))), (15, .int (nI 1)), (14, .int (nI 1)), (0, .ref (gad G1 0)), (1, .int (nI (vN V))), (2, .int (nI b)), (3, .int (nI (hcd V b))), (4, .long (fpR V)), (12, .ref (gad G1 154))]) 14 dL_repairs_419 rfl (nI_1 _) (by decide) rfl ?_
              refine g_goto C 117 dL_repairs_422 (by decide) ?_
              refine g_loc (L2 := [(0, .ref (gad G1 0)), (1, .int (nI (vN V))), (2, .int (nI b)), (3, .int (nI (hcd V b))), (4, .long (fpR V)), (6, .int (mk (ask V b (rWA V) (rF V b)) (m1 + 1))), (7, .int (mk (sil V b (rWA V) (rF V b)) (m1 + 1))), (8, .int (mk (mis V b) (m1 + 1))), (9, .int (rpI V b (m1 + 1))), (10, .int (nI (fsN (rF V b) (m1 + 1)))), (11, .int (nI (tmF (los V b) (rX V b) (m1 + 1)))), (12, .ref (gad G1 154)), (13, .int (nI (m1 + 1)))]) [9, 10, 11, 12, 13, 6, 5, 4, 3, 2, 1, 14, 0] rfl ?_
              exact g_eq (ih_117 (m1 + 1) u160 (hm2) (L161) (by omega)) (rfl) (rfl) rfl
            · have c_401 : ¬ rX V b m1 ≤ tmF (los V b) (rX V b) m1 := mt (nI_leI (by omega) (by omega)).mpr c_401
              refine g_aload_n C 7 dL_repairs_404 rfl ?_
              refine g_iload_n C 9 dL_repairs_405 rfl ?_
              refine g_iload C 14 dL_repairs_406 rfl ?_
              refine g_iconst C (nI 2) dL_repairs_408 (by decide) ?_
              refine g_cVf C (As := [.int (nI b), .int (nI m1), .int (nI 2)]) (v := .int (lookR V (nI b) (nI m1) (nI 2))) iX9_look (c_X9_look l G1 g u160 L161.1 (nI b) (nI m1) (nI 2)) wd_644 ob_0 rfl ⟨Nat.le_of_ble_eq_true rfl, Nat.le_of_ble_eq_true rfl⟩ ⟨rfl, rfl⟩ rfl (Nat.le_of_ble_eq_true rfl) dL_repairs_409 (fun u162 hq => ?_)
              have L163 := ls_fr L161 hq
              refine g_top (y := nI (tmF (los V b) (rX V b) (m1 + 1))) ((look_2 g hb h0 hm2 hlo).trans (tX_hi hlo c_401)) ?_
              refine g_goto C 417 dL_repairs_412 (by decide) ?_
              refine g_istore C (L2 := [(11, .int (nI (tmF (los V b) (rX V b) (m1 + 1)))), (10, .int (nI (fsN (rF V b) (m1 + 1)))), (9, .int (rpI V b (m1 + 1))), (8, .int (mk (mis V b) (m1 + 1))), (7, .int (mk (sil V b (rWA V) (rF V b)) (m1 + 1))), (6, .int (mk (ask V b (rWA V) (rF V b)) (m1 + 1))), (15, .int (nI 1)), (14, .int (nI 1)), (0, .ref (gad G1 0)), (1, .int (nI (vN V))), (2, .int (nI b)), (3, .int (nI (hcd V b))), (4, .long (fpR V)), (12, .ref (gad G1 154)), (13, .int (nI m1))]) dL_repairs_417 (by decide) rfl ?_
              refine g_iinc C (v := nI (m1 + 1)) (L2 := [(13, .int (nI (m1 + 1))), (11, .int (nI (tmF (los V b) (rX V b) (m1 + 1)))), (10, .int (nI (fsN (rF V b) (m1 + 1)))), (9, .int (rpI V b (m1 + 1))), (8, .int (mk (mis V b) (m1 + 1))), (7, .int (mk (sil V b (rWA V) (rF V b)) (m1 + 1))), (6, .int (mk (ask V b (rWA V) (rF V b)) (m1 + 1))), (15, .int (nI 1)), (14, .int (nI 1)), (0, .ref (gad G1 0)), (1, .int (nI (vN V))), (2, .int (nI b)), (3, .int (nI (hcd V b))), (4, .long (fpR V)), (12, .ref (gad G1 154))]) 14 dL_repairs_419 rfl (nI_1 _) (by decide) rfl ?_
              refine g_goto C 117 dL_repairs_422 (by decide) ?_
              refine g_loc (L2 := [(0, .ref (gad G1 0)), (1, .int (nI (vN V))), (2, .int (nI b)), (3, .int (nI (hcd V b))), (4, .long (fpR V)), (6, .int (mk (ask V b (rWA V) (rF V b)) (m1 + 1))), (7, .int (mk (sil V b (rWA V) (rF V b)) (m1 + 1))), (8, .int (mk (mis V b) (m1 + 1))), (9, .int (rpI V b (m1 + 1))), (10, .int (nI (fsN (rF V b) (m1 + 1)))), (11, .int (nI (tmF (los V b) (rX V b) (m1 + 1)))), (12, .ref (gad G1 154)), (13, .int (nI (m1 + 1)))]) [9, 10, 11, 12, 13, 6, 5, 4, 3, 2, 1, 14, 0] rfl ?_
              exact g_eq (ih_117 (m1 + 1) u162 (hm2) (L163) (by omega)) (rfl) (rfl) rfl
          · have hvl := los_lv hlo
            refine g_iload_n C 2 dL_repairs_124 rfl ?_
            refine g_iload C 12 dL_repairs_125 rfl ?_
            refine g_iconst C (nI 0) dL_repairs_127 (by decide) ?_
            refine g_cVf C (As := [.int (nI b), .int (nI m1), .int (nI 0)]) (v := .int (lookR V (nI b) (nI m1) (nI 0))) iX9_look (c_X9_look l G1 g M1 LM.1 (nI b) (nI m1) (nI 0)) wd_644 ob_0 rfl ⟨Nat.le_of_ble_eq_true rfl, Nat.le_of_ble_eq_true rfl⟩ ⟨rfl, rfl⟩ rfl (Nat.le_of_ble_eq_true rfl) dL_repairs_128 (fun u164 hq => ?_)
            have L165 := ls_fr LM hq
            refine g_top (y := nI 2) (look_0 g hb h0 hm2 hro) ?_
            refine g_istore C (L2 := [(14, .int (nI 2)), (0, .ref (gad G1 0)), (1, .int (nI (vN V))), (2, .int (nI b)), (3, .int (nI (hcd V b))), (4, .long (fpR V)), (6, .int (mk (ask V b (rWA V) (rF V b)) m1)), (7, .int (mk (sil V b (rWA V) (rF V b)) m1)), (8, .int (mk (mis V b) m1)), (9, .int (rpI V b m1)), (10, .int (nI (fsN (rF V b) m1))), (11, .int (nI (tmF (los V b) (rX V b) m1))), (12, .ref (gad G1 154)), (13, .int (nI m1))]) dL_repairs_131 (by decide) rfl ?_
            refine g_iload C 0 dL_repairs_133 rfl ?_
            refine g_if_le_f C 148 (by decide) dL_repairs_135 (by decide) ?_
            refine g_iload C 0 dL_repairs_138 rfl ?_
            refine g_iconst C (nI 4) dL_repairs_140 (by decide) ?_
            refine g_icmp_ge_f C 148 (by decide) dL_repairs_141 (by decide) ?_
            refine g_iconst C (nI 1) dL_repairs_144 (by decide) ?_
            refine g_goto C 149 dL_repairs_145 (by decide) ?_
            refine g_istore C (L2 := [(15, .int (nI 1)), (14, .int (nI 2)), (0, .ref (gad G1 0)), (1, .int (nI (vN V))), (2, .int (nI b)), (3, .int (nI (hcd V b))), (4, .long (fpR V)), (6, .int (mk (ask V b (rWA V) (rF V b)) m1)), (7, .int (mk (sil V b (rWA V) (rF V b)) m1)), (8, .int (mk (mis V b) m1)), (9, .int (rpI V b m1)), (10, .int (nI (fsN (rF V b) m1))), (11, .int (nI (tmF (los V b) (rX V b) m1))), (12, .ref (gad G1 154)), (13, .int (nI m1))]) dL_repairs_149 (by decide) rfl ?_
            refine g_aload C 13 dL_repairs_151 rfl ?_
            refine g_iload C 14 dL_repairs_153 rfl ?_
            refine g_aload_n C 2 dL_repairs_155 rfl ?_
            refine g_iload C 14 dL_repairs_156 rfl ?_
            refine g_iconst C (nI 3) dL_repairs_158 (by decide) ?_
            refine g_cV1 C (As := [.int (nI m1), .int (nI 3)]) (w := .int (V (33 + 12 * m1))) (mem3 := u164) iX9_member (c_X9_member l G1 g u164 L165.1 (nI m1) (nI 3)) wd_364 ob_0 rfl ⟨Nat.le_of_ble_eq_true rfl, Nat.le_of_ble_eq_true rfl⟩ ⟨rfl, rfl⟩ rfl (Nat.le_of_ble_eq_true rfl) dL_repairs_159 (congrArg Value.int (mem_n g hm2 (w := 3) (by decide) (by omega))) (rfl) ?_
            refine g_xast C (j := m1) (gx_at x1 (k := 0) (by decide)) (by omega) dL_repairs_162 ?_
            have L166 : kLS T V Vs h (cpy (m1 + 1) (fun q => V (33 + 12 * q)) (fun _ => 0)) B (gr u164 154 (upd (u164 154) m1 (V (33 + 12 * m1)))) := ls_ast L165 (cpy_s rfl)
            generalize gr u164 154 (upd (u164 154) m1 (V (33 + 12 * m1))) = u167 at L166 ⊢
            refine g_iload C 7 dL_repairs_163 rfl ?_
            refine g_iload C 1 dL_repairs_165 rfl ?_
            refine g_iconst C (nI 1) dL_repairs_167 (by decide) ?_
            refine g_icmp_eq_f C 177 (by decide) dL_repairs_168 (by decide) ?_
            refine g_iload C 1 dL_repairs_171 rfl ?_
            refine g_iconst C (nI 2) dL_repairs_173 (by decide) ?_
            refine g_icmp_ne_f C 184 (by decide) dL_repairs_174 (by decide) ?_
            refine g_iconst C (nI 1) dL_repairs_177 (by decide) ?_
            refine g_iload C 14 dL_repairs_178 rfl ?_
            refine g_ishl C dL_repairs_180 ?_
            refine g_goto C 185 dL_repairs_181 (by decide) ?_
            refine g_ior C dL_repairs_185 ?_
            refine g_top (y := mk (ask V b (rWA V) (rF V b)) (m1 + 1)) ((mk_t ha).symm) ?_
            refine g_istore C (L2 := [(6, .int (mk (ask V b (rWA V) (rF V b)) (m1 + 1))), (15, .int (nI 1)), (14, .int (nI 2)), (0, .ref (gad G1 0)), (1, .int (nI (vN V))), (2, .int (nI b)), (3, .int (nI (hcd V b))), (4, .long (fpR V)), (7, .int (mk (sil V b (rWA V) (rF V b)) m1)), (8, .int (mk (mis V b) m1)), (9, .int (rpI V b m1)), (10, .int (nI (fsN (rF V b) m1))), (11, .int (nI (tmF (los V b) (rX V b) m1))), (12, .ref (gad G1 154)), (13, .int (nI m1))]) dL_repairs_186 (by decide) rfl ?_
            refine g_iload C 8 dL_repairs_188 rfl ?_
            refine g_iload C 2 dL_repairs_190 rfl ?_
            refine g_iconst C (nI 3) dL_repairs_192 (by decide) ?_
            refine g_icmp_ne_t C 203 (by decide) dL_repairs_193 (by decide) ?_
            refine g_iconst C (nI 0) dL_repairs_203 (by decide) ?_
            refine g_ior C dL_repairs_204 ?_
            refine g_top (y := mk (sil V b (rWA V) (rF V b)) (m1 + 1)) (or_0 hsl) ?_
            refine g_istore C (L2 := [(7, .int (mk (sil V b (rWA V) (rF V b)) (m1 + 1))), (6, .int (mk (ask V b (rWA V) (rF V b)) (m1 + 1))), (15, .int (nI 1)), (14, .int (nI 2)), (0, .ref (gad G1 0)), (1, .int (nI (vN V))), (2, .int (nI b)), (3, .int (nI (hcd V b))), (4, .long (fpR V)), (8, .int (mk (mis V b) m1)), (9, .int (rpI V b m1)), (10, .int (nI (fsN (rF V b) m1))), (11, .int (nI (tmF (los V b) (rX V b) m1))), (12, .ref (gad G1 154)), (13, .int (nI m1))]) dL_repairs_205 (by decide) rfl ?_
            refine g_iload C 9 dL_repairs_207 rfl ?_
            refine g_iload C 3 dL_repairs_209 rfl ?_
            refine g_iconst C (nI 5) dL_repairs_211 (by decide) ?_
            refine g_icmp_ne_t C 222 (by decide) dL_repairs_212 (by decide) ?_
            refine g_iconst C (nI 0) dL_repairs_222 (by decide) ?_
            refine g_ior C dL_repairs_223 ?_
            refine g_top (y := mk (mis V b) (m1 + 1)) (or_0 hmi) ?_
            refine g_istore C (L2 := [(8, .int (mk (mis V b) (m1 + 1))), (7, .int (mk (sil V b (rWA V) (rF V b)) (m1 + 1))), (6, .int (mk (ask V b (rWA V) (rF V b)) (m1 + 1))), (15, .int (nI 1)), (14, .int (nI 2)), (0, .ref (gad G1 0)), (1, .int (nI (vN V))), (2, .int (nI b)), (3, .int (nI (hcd V b))), (4, .long (fpR V)), (9, .int (rpI V b m1)), (10, .int (nI (fsN (rF V b) m1))), (11, .int (nI (tmF (los V b) (rX V b) m1))), (12, .ref (gad G1 154)), (13, .int (nI m1))]) dL_repairs_224 (by decide) rfl ?_
            refine g_iload C 4 dL_repairs_226 rfl ?_
            refine g_iconst C (nI 4) dL_repairs_228 (by decide) ?_
            refine g_icmp_ne_t C 237 (by decide) dL_repairs_229 (by decide) ?_
            refine g_iload C 10 dL_repairs_237 rfl ?_
            refine g_top (y := rpI V b (m1 + 1)) (rpI_n hrq) ?_
            refine g_istore C (L2 := [(9, .int (rpI V b (m1 + 1))), (8, .int (mk (mis V b) (m1 + 1))), (7, .int (mk (sil V b (rWA V) (rF V b)) (m1 + 1))), (6, .int (mk (ask V b (rWA V) (rF V b)) (m1 + 1))), (15, .int (nI 1)), (14, .int (nI 2)), (0, .ref (gad G1 0)), (1, .int (nI (vN V))), (2, .int (nI b)), (3, .int (nI (hcd V b))), (4, .long (fpR V)), (10, .int (nI (fsN (rF V b) m1))), (11, .int (nI (tmF (los V b) (rX V b) m1))), (12, .ref (gad G1 154)), (13, .int (nI m1))]) dL_repairs_239 (by decide) rfl ?_
            refine g_iload C 11 dL_repairs_241 rfl ?_
            refine g_iload C 5 dL_repairs_243 rfl ?_
            refine g_iconst C (nI 1) dL_repairs_245 (by decide) ?_
            refine g_icmp_ne_t C 253 (by decide) dL_repairs_246 (by decide) ?_
            refine g_iconst C (nI 0) dL_repairs_253 (by decide) ?_
            refine g_iadd_n C (d := (fsN (rF V b) m1) + 0) dL_repairs_254 rfl ?_
            refine g_top (y := nI (fsN (rF V b) (m1 + 1))) (fs_n hfq) ?_
            refine g_istore C (L2 := [(10, .int (nI (fsN (rF V b) (m1 + 1)))), (9, .int (rpI V b (m1 + 1))), (8, .int (mk (mis V b) (m1 + 1))), (7, .int (mk (sil V b (rWA V) (rF V b)) (m1 + 1))), (6, .int (mk (ask V b (rWA V) (rF V b)) (m1 + 1))), (15, .int (nI 1)), (14, .int (nI 2)), (0, .ref (gad G1 0)), (1, .int (nI (vN V))), (2, .int (nI b)), (3, .int (nI (hcd V b))), (4, .long (fpR V)), (11, .int (nI (tmF (los V b) (rX V b) m1))), (12, .ref (gad G1 154)), (13, .int (nI m1))]) dL_repairs_255 (by decide) rfl ?_
            refine g_iload C 5 dL_repairs_257 rfl ?_
            refine g_aload_n C 7 dL_repairs_259 rfl ?_
            refine g_iload C 14 dL_repairs_260 rfl ?_
            refine g_iload_n C 9 dL_repairs_262 rfl ?_
            refine g_cV1 C (As := [.int (nI m1), .int (nI b)]) (w := .int (nI 1)) (mem3 := u167) iX9_lost (c_X9_lost l G1 g u167 L166.1 (nI m1) (nI b)) wd_486 ob_0 rfl ⟨Nat.le_of_ble_eq_true rfl, Nat.le_of_ble_eq_true rfl⟩ ⟨rfl, rfl⟩ rfl (Nat.le_of_ble_eq_true rfl) dL_repairs_263 (congrArg Value.int ((lost_n g hm2 hb).trans (if_pos hvl.2))) (rfl) ?_
            refine g_iconst C (nI 1) dL_repairs_266 (by decide) ?_
            refine g_icmp_ne_f C 285 (by decide) dL_repairs_267 (by decide) ?_
            refine g_aload_n C 7 dL_repairs_270 rfl ?_
            refine g_iload C 14 dL_repairs_271 rfl ?_
            refine g_iconst C (nI 2) dL_repairs_273 (by decide) ?_
            refine g_cV1 C (As := [.int (nI m1), .int (nI 2)]) (w := .int (nI 1)) (mem3 := u167) iX9_member (c_X9_member l G1 g u167 L166.1 (nI m1) (nI 2)) wd_364 ob_0 rfl ⟨Nat.le_of_ble_eq_true rfl, Nat.le_of_ble_eq_true rfl⟩ ⟨rfl, rfl⟩ rfl (Nat.le_of_ble_eq_true rfl) dL_repairs_274 (congrArg Value.int ((mem_n g hm2 (w := 2) (by decide) (by omega)).trans (lv_1 hvl.1))) (rfl) ?_
            refine g_iconst C (nI 1) dL_repairs_277 (by decide) ?_
            refine g_icmp_ne_f C 285 (rfl) dL_repairs_278 (by decide) ?_
            refine g_iconst C (nI 1) dL_repairs_281 (by decide) ?_
            refine g_goto C 286 dL_repairs_282 (by decide) ?_
            refine g_icmp_ne_f C 384 (by decide) dL_repairs_286 (by decide) ?_
            refine g_iload C 5 dL_repairs_289 rfl ?_
            refine g_aload_n C 7 dL_repairs_291 rfl ?_
            refine g_iload_n C 9 dL_repairs_292 rfl ?_
            refine g_iload C 14 dL_repairs_293 rfl ?_
            refine g_iconst C (nI 1) dL_repairs_295 (by decide) ?_
            refine g_cVf C (As := [.int (nI b), .int (nI m1), .int (nI 1)]) (v := .int (lookR V (nI b) (nI m1) (nI 1))) iX9_look (c_X9_look l G1 g u167 L166.1 (nI b) (nI m1) (nI 1)) wd_644 ob_0 rfl ⟨Nat.le_of_ble_eq_true rfl, Nat.le_of_ble_eq_true rfl⟩ ⟨rfl, rfl⟩ rfl (Nat.le_of_ble_eq_true rfl) dL_repairs_296 (fun u168 hq => ?_)
            have L169 := ls_fr L166 hq
            refine g_top (y := nI (wt V b (rWA V) m1)) (look_1 g hb h0 hm2 hlo) ?_
            refine g_ldc C wd_626 dL_repairs_299 ?_
            refine g_icmp_ne_t C 308 (nN_ne (by omega)) dL_repairs_301 (by decide) ?_
            refine g_iconst C (nI 0) dL_repairs_308 (by decide) ?_
            refine g_icmp_eq_f C 384 (by decide) dL_repairs_309 (by decide) ?_
            refine g_iload C 5 dL_repairs_312 rfl ?_
            refine g_aload_n C 7 dL_repairs_314 rfl ?_
            refine g_iload_n C 9 dL_repairs_315 rfl ?_
            refine g_iload C 14 dL_repairs_316 rfl ?_
            refine g_iconst C (nI 2) dL_repairs_318 (by decide) ?_
            refine g_cVf C (As := [.int (nI b), .int (nI m1), .int (nI 2)]) (v := .int (lookR V (nI b) (nI m1) (nI 2))) iX9_look (c_X9_look l G1 g u168 L169.1 (nI b) (nI m1) (nI 2)) wd_644 ob_0 rfl ⟨Nat.le_of_ble_eq_true rfl, Nat.le_of_ble_eq_true rfl⟩ ⟨rfl, rfl⟩ rfl (Nat.le_of_ble_eq_true rfl) dL_repairs_319 (fun u170 hq => ?_)
            have L171 := ls_fr L169 hq
            refine g_top (y := nI (rX V b m1)) (look_2 g hb h0 hm2 hlo) ?_
            refine g_ldc C wd_626 dL_repairs_322 ?_
            refine g_icmp_ne_t C 331 (nN_ne (by omega)) dL_repairs_324 (by decide) ?_
            refine g_iconst C (nI 0) dL_repairs_331 (by decide) ?_
            refine g_icmp_eq_f C 384 (by decide) dL_repairs_332 (by decide) ?_
            refine g_iload C 5 dL_repairs_335 rfl ?_
            refine g_if_eq_f C 367 (by decide) dL_repairs_337 (by decide) ?_
            refine g_aload_n C 7 dL_repairs_340 rfl ?_
            refine g_iload_n C 9 dL_repairs_341 rfl ?_
            refine g_iload C 14 dL_repairs_342 rfl ?_
            refine g_iconst C (nI 1) dL_repairs_344 (by decide) ?_
            refine g_cVf C (As := [.int (nI b), .int (nI m1), .int (nI 1)]) (v := .int (lookR V (nI b) (nI m1) (nI 1))) iX9_look (c_X9_look l G1 g u170 L171.1 (nI b) (nI m1) (nI 1)) wd_644 ob_0 rfl ⟨Nat.le_of_ble_eq_true rfl, Nat.le_of_ble_eq_true rfl⟩ ⟨rfl, rfl⟩ rfl (Nat.le_of_ble_eq_true rfl) dL_repairs_345 (fun u172 hq => ?_)
            have L173 := ls_fr L171 hq
            refine g_top (y := nI (wt V b (rWA V) m1)) (look_1 g hb h0 hm2 hlo) ?_
            refine g_aload_n C 7 dL_repairs_348 rfl ?_
            refine g_iconst C (nI 0) dL_repairs_349 (by decide) ?_
            refine g_cV1 C (As := [.int (nI 0)]) (w := .int (nI (rWA V))) (mem3 := u172) iX9_about (c_X9_about l G1 g u172 L173.1 (nI 0)) wd_401 ob_0 rfl ⟨Nat.le_of_ble_eq_true rfl, Nat.le_of_ble_eq_true rfl⟩ ⟨rfl, rfl⟩ rfl (Nat.le_of_ble_eq_true rfl) dL_repairs_350 (congrArg Value.int ((about_n (by decide)).trans (gd_wait g).1)) (rfl) ?_
            refine g_icmp_ge_f C 384 (nI_ge hwt (by omega)) dL_repairs_353 (by decide) ?_
            refine g_aload_n C 7 dL_repairs_356 rfl ?_
            refine g_iload_n C 9 dL_repairs_357 rfl ?_
            refine g_iload C 14 dL_repairs_358 rfl ?_
            refine g_iconst C (nI 2) dL_repairs_360 (by decide) ?_
            refine g_cVf C (As := [.int (nI b), .int (nI m1), .int (nI 2)]) (v := .int (lookR V (nI b) (nI m1) (nI 2))) iX9_look (c_X9_look l G1 g u172 L173.1 (nI b) (nI m1) (nI 2)) wd_644 ob_0 rfl ⟨Nat.le_of_ble_eq_true rfl, Nat.le_of_ble_eq_true rfl⟩ ⟨rfl, rfl⟩ rfl (Nat.le_of_ble_eq_true rfl) dL_repairs_361 (fun u174 hq => ?_)
            have L175 := ls_fr L173 hq
            refine g_top (y := nI (rX V b m1)) (look_2 g hb h0 hm2 hlo) ?_
            refine g_if_lt_f C 384 (nI_pos (by omega)) dL_repairs_364 (by decide) ?_
            refine g_iload C 6 dL_repairs_367 rfl ?_
            refine g_iconst C (nI 5) dL_repairs_369 (by decide) ?_
            refine g_icmp_ne_t C 386 (by decide) dL_repairs_370 (by decide) ?_
            refine g_iload C 5 dL_repairs_386 rfl ?_
            refine g_if_eq_f C 415 (by decide) dL_repairs_388 (by decide) ?_
            refine g_aload_n C 7 dL_repairs_391 rfl ?_
            refine g_iload_n C 9 dL_repairs_392 rfl ?_
            refine g_iload C 14 dL_repairs_393 rfl ?_
            refine g_iconst C (nI 2) dL_repairs_395 (by decide) ?_
            refine g_cVf C (As := [.int (nI b), .int (nI m1), .int (nI 2)]) (v := .int (lookR V (nI b) (nI m1) (nI 2))) iX9_look (c_X9_look l G1 g u174 L175.1 (nI b) (nI m1) (nI 2)) wd_644 ob_0 rfl ⟨Nat.le_of_ble_eq_true rfl, Nat.le_of_ble_eq_true rfl⟩ ⟨rfl, rfl⟩ rfl (Nat.le_of_ble_eq_true rfl) dL_repairs_396 (fun u176 hq => ?_)
            have L177 := ls_fr L175 hq
            refine g_top (y := nI (rX V b m1)) (look_2 g hb h0 hm2 hlo) ?_
            refine g_iload C 12 dL_repairs_399 rfl ?_
            refine g_icmp_le C 415 dL_repairs_401 (by decide) (fun c_401 => ?_) (fun c_401 => ?_)
            · have c_401 : rX V b m1 ≤ tmF (los V b) (rX V b) m1 := (nI_leI (by omega) (by omega)).mp c_401
              refine g_iload C 12 dL_repairs_415 rfl ?_
              refine g_top (y := nI (tmF (los V b) (rX V b) (m1 + 1))) (tX_lo hlo c_401) ?_
              refine g_istore C (L2 := [(11, .int (nI (tmF (los V b) (rX V b) (m1 + 1)))), (10, .int (nI (fsN (rF V b) (m1 + 1)))), (9, .int (rpI V b (m1 + 1))), (8, .int (mk (mis V b) (m1 + 1))), (7, .int (mk (sil V b (rWA V) (rF V b)) (m1 + 1))), (6, .int (mk (ask V b (rWA V) (rF V b)) (m1 + 1))), (15, .int (nI 1)), (14, .int (nI 2)), (0, .ref (gad G1 0)), (1, .int (nI (vN V))), (2, .int (nI b)), (3, .int (nI (hcd V b))), (4, .long (fpR V)), (12, .ref (gad G1 154)), (13, .int (nI m1))]) dL_repairs_417 (by decide) rfl ?_
              refine g_iinc C (v := nI (m1 + 1)) (L2 := [(13, .int (nI (m1 + 1))), (11, .int (nI (tmF (los V b) (rX V b) (m1 + 1)))), (10, .int (nI (fsN (rF V b) (m1 + 1)))), (9, .int (rpI V b (m1 + 1))), (8, .int (mk (mis V b) (m1 + 1))), (7, .int (mk (sil V b (rWA V) (rF V b)) (m1 + 1))), (6, .int (mk (ask V b (rWA V) (rF V b)) (m1 + 1))), (15, .int (nI 1)), (14, .int (nI 2)), (0, .ref (gad G1 0)), (1, .int (nI (vN V))), (2, .int (nI b)), (3, .int (nI (hcd V b))), (4, .long (fpR V)), (12, .ref (gad G1 154))]) 14 dL_repairs_419 rfl (nI_1 _) (by decide) rfl ?_
              refine g_goto C 117 dL_repairs_422 (by decide) ?_
              refine g_loc (L2 := [(0, .ref (gad G1 0)), (1, .int (nI (vN V))), (2, .int (nI b)), (3, .int (nI (hcd V b))), (4, .long (fpR V)), (6, .int (mk (ask V b (rWA V) (rF V b)) (m1 + 1))), (7, .int (mk (sil V b (rWA V) (rF V b)) (m1 + 1))), (8, .int (mk (mis V b) (m1 + 1))), (9, .int (rpI V b (m1 + 1))), (10, .int (nI (fsN (rF V b) (m1 + 1)))), (11, .int (nI (tmF (los V b) (rX V b) (m1 + 1)))), (12, .ref (gad G1 154)), (13, .int (nI (m1 + 1)))]) [9, 10, 11, 12, 13, 6, 5, 4, 3, 2, 1, 14, 0] rfl ?_
              exact g_eq (ih_117 (m1 + 1) u176 (hm2) (L177) (by omega)) (rfl) (rfl) rfl
            · have c_401 : ¬ rX V b m1 ≤ tmF (los V b) (rX V b) m1 := mt (nI_leI (by omega) (by omega)).mpr c_401
              refine g_aload_n C 7 dL_repairs_404 rfl ?_
              refine g_iload_n C 9 dL_repairs_405 rfl ?_
              refine g_iload C 14 dL_repairs_406 rfl ?_
              refine g_iconst C (nI 2) dL_repairs_408 (by decide) ?_
              refine g_cVf C (As := [.int (nI b), .int (nI m1), .int (nI 2)]) (v := .int (lookR V (nI b) (nI m1) (nI 2))) iX9_look (c_X9_look l G1 g u176 L177.1 (nI b) (nI m1) (nI 2)) wd_644 ob_0 rfl ⟨Nat.le_of_ble_eq_true rfl, Nat.le_of_ble_eq_true rfl⟩ ⟨rfl, rfl⟩ rfl (Nat.le_of_ble_eq_true rfl) dL_repairs_409 (fun u178 hq => ?_)
              have L179 := ls_fr L177 hq
              refine g_top (y := nI (tmF (los V b) (rX V b) (m1 + 1))) ((look_2 g hb h0 hm2 hlo).trans (tX_hi hlo c_401)) ?_
              refine g_goto C 417 dL_repairs_412 (by decide) ?_
              refine g_istore C (L2 := [(11, .int (nI (tmF (los V b) (rX V b) (m1 + 1)))), (10, .int (nI (fsN (rF V b) (m1 + 1)))), (9, .int (rpI V b (m1 + 1))), (8, .int (mk (mis V b) (m1 + 1))), (7, .int (mk (sil V b (rWA V) (rF V b)) (m1 + 1))), (6, .int (mk (ask V b (rWA V) (rF V b)) (m1 + 1))), (15, .int (nI 1)), (14, .int (nI 2)), (0, .ref (gad G1 0)), (1, .int (nI (vN V))), (2, .int (nI b)), (3, .int (nI (hcd V b))), (4, .long (fpR V)), (12, .ref (gad G1 154)), (13, .int (nI m1))]) dL_repairs_417 (by decide) rfl ?_
              refine g_iinc C (v := nI (m1 + 1)) (L2 := [(13, .int (nI (m1 + 1))), (11, .int (nI (tmF (los V b) (rX V b) (m1 + 1)))), (10, .int (nI (fsN (rF V b) (m1 + 1)))), (9, .int (rpI V b (m1 + 1))), (8, .int (mk (mis V b) (m1 + 1))), (7, .int (mk (sil V b (rWA V) (rF V b)) (m1 + 1))), (6, .int (mk (ask V b (rWA V) (rF V b)) (m1 + 1))), (15, .int (nI 1)), (14, .int (nI 2)), (0, .ref (gad G1 0)), (1, .int (nI (vN V))), (2, .int (nI b)), (3, .int (nI (hcd V b))), (4, .long (fpR V)), (12, .ref (gad G1 154))]) 14 dL_repairs_419 rfl (nI_1 _) (by decide) rfl ?_
              refine g_goto C 117 dL_repairs_422 (by decide) ?_
              refine g_loc (L2 := [(0, .ref (gad G1 0)), (1, .int (nI (vN V))), (2, .int (nI b)), (3, .int (nI (hcd V b))), (4, .long (fpR V)), (6, .int (mk (ask V b (rWA V) (rF V b)) (m1 + 1))), (7, .int (mk (sil V b (rWA V) (rF V b)) (m1 + 1))), (8, .int (mk (mis V b) (m1 + 1))), (9, .int (rpI V b (m1 + 1))), (10, .int (nI (fsN (rF V b) (m1 + 1)))), (11, .int (nI (tmF (los V b) (rX V b) (m1 + 1)))), (12, .ref (gad G1 154)), (13, .int (nI (m1 + 1)))]) [9, 10, 11, 12, 13, 6, 5, 4, 3, 2, 1, 14, 0] rfl ?_
              exact g_eq (ih_117 (m1 + 1) u178 (hm2) (L179) (by omega)) (rfl) (rfl) rfl
          · have hvl := los_lv hlo
            refine g_iload_n C 2 dL_repairs_124 rfl ?_
            refine g_iload C 12 dL_repairs_125 rfl ?_
            refine g_iconst C (nI 0) dL_repairs_127 (by decide) ?_
            refine g_cVf C (As := [.int (nI b), .int (nI m1), .int (nI 0)]) (v := .int (lookR V (nI b) (nI m1) (nI 0))) iX9_look (c_X9_look l G1 g M1 LM.1 (nI b) (nI m1) (nI 0)) wd_644 ob_0 rfl ⟨Nat.le_of_ble_eq_true rfl, Nat.le_of_ble_eq_true rfl⟩ ⟨rfl, rfl⟩ rfl (Nat.le_of_ble_eq_true rfl) dL_repairs_128 (fun u180 hq => ?_)
            have L181 := ls_fr LM hq
            refine g_top (y := nI 3) (look_0 g hb h0 hm2 hro) ?_
            refine g_istore C (L2 := [(14, .int (nI 3)), (0, .ref (gad G1 0)), (1, .int (nI (vN V))), (2, .int (nI b)), (3, .int (nI (hcd V b))), (4, .long (fpR V)), (6, .int (mk (ask V b (rWA V) (rF V b)) m1)), (7, .int (mk (sil V b (rWA V) (rF V b)) m1)), (8, .int (mk (mis V b) m1)), (9, .int (rpI V b m1)), (10, .int (nI (fsN (rF V b) m1))), (11, .int (nI (tmF (los V b) (rX V b) m1))), (12, .ref (gad G1 154)), (13, .int (nI m1))]) dL_repairs_131 (by decide) rfl ?_
            refine g_iload C 0 dL_repairs_133 rfl ?_
            refine g_if_le_f C 148 (by decide) dL_repairs_135 (by decide) ?_
            refine g_iload C 0 dL_repairs_138 rfl ?_
            refine g_iconst C (nI 4) dL_repairs_140 (by decide) ?_
            refine g_icmp_ge_f C 148 (by decide) dL_repairs_141 (by decide) ?_
            refine g_iconst C (nI 1) dL_repairs_144 (by decide) ?_
            refine g_goto C 149 dL_repairs_145 (by decide) ?_
            refine g_istore C (L2 := [(15, .int (nI 1)), (14, .int (nI 3)), (0, .ref (gad G1 0)), (1, .int (nI (vN V))), (2, .int (nI b)), (3, .int (nI (hcd V b))), (4, .long (fpR V)), (6, .int (mk (ask V b (rWA V) (rF V b)) m1)), (7, .int (mk (sil V b (rWA V) (rF V b)) m1)), (8, .int (mk (mis V b) m1)), (9, .int (rpI V b m1)), (10, .int (nI (fsN (rF V b) m1))), (11, .int (nI (tmF (los V b) (rX V b) m1))), (12, .ref (gad G1 154)), (13, .int (nI m1))]) dL_repairs_149 (by decide) rfl ?_
            refine g_aload C 13 dL_repairs_151 rfl ?_
            refine g_iload C 14 dL_repairs_153 rfl ?_
            refine g_aload_n C 2 dL_repairs_155 rfl ?_
            refine g_iload C 14 dL_repairs_156 rfl ?_
            refine g_iconst C (nI 3) dL_repairs_158 (by decide) ?_
            refine g_cV1 C (As := [.int (nI m1), .int (nI 3)]) (w := .int (V (33 + 12 * m1))) (mem3 := u180) iX9_member (c_X9_member l G1 g u180 L181.1 (nI m1) (nI 3)) wd_364 ob_0 rfl ⟨Nat.le_of_ble_eq_true rfl, Nat.le_of_ble_eq_true rfl⟩ ⟨rfl, rfl⟩ rfl (Nat.le_of_ble_eq_true rfl) dL_repairs_159 (congrArg Value.int (mem_n g hm2 (w := 3) (by decide) (by omega))) (rfl) ?_
            refine g_xast C (j := m1) (gx_at x1 (k := 0) (by decide)) (by omega) dL_repairs_162 ?_
            have L182 : kLS T V Vs h (cpy (m1 + 1) (fun q => V (33 + 12 * q)) (fun _ => 0)) B (gr u180 154 (upd (u180 154) m1 (V (33 + 12 * m1)))) := ls_ast L181 (cpy_s rfl)
            generalize gr u180 154 (upd (u180 154) m1 (V (33 + 12 * m1))) = u183 at L182 ⊢
            refine g_iload C 7 dL_repairs_163 rfl ?_
            refine g_iload C 1 dL_repairs_165 rfl ?_
            refine g_iconst C (nI 1) dL_repairs_167 (by decide) ?_
            refine g_icmp_eq_f C 177 (by decide) dL_repairs_168 (by decide) ?_
            refine g_iload C 1 dL_repairs_171 rfl ?_
            refine g_iconst C (nI 2) dL_repairs_173 (by decide) ?_
            refine g_icmp_ne_t C 184 (by decide) dL_repairs_174 (by decide) ?_
            refine g_iconst C (nI 0) dL_repairs_184 (by decide) ?_
            refine g_ior C dL_repairs_185 ?_
            refine g_top (y := mk (ask V b (rWA V) (rF V b)) (m1 + 1)) (or_0 ha) ?_
            refine g_istore C (L2 := [(6, .int (mk (ask V b (rWA V) (rF V b)) (m1 + 1))), (15, .int (nI 1)), (14, .int (nI 3)), (0, .ref (gad G1 0)), (1, .int (nI (vN V))), (2, .int (nI b)), (3, .int (nI (hcd V b))), (4, .long (fpR V)), (7, .int (mk (sil V b (rWA V) (rF V b)) m1)), (8, .int (mk (mis V b) m1)), (9, .int (rpI V b m1)), (10, .int (nI (fsN (rF V b) m1))), (11, .int (nI (tmF (los V b) (rX V b) m1))), (12, .ref (gad G1 154)), (13, .int (nI m1))]) dL_repairs_186 (by decide) rfl ?_
            refine g_iload C 8 dL_repairs_188 rfl ?_
            refine g_iload C 2 dL_repairs_190 rfl ?_
            refine g_iconst C (nI 3) dL_repairs_192 (by decide) ?_
            refine g_icmp_ne_f C 203 (by decide) dL_repairs_193 (by decide) ?_
            refine g_iconst C (nI 1) dL_repairs_196 (by decide) ?_
            refine g_iload C 14 dL_repairs_197 rfl ?_
            refine g_ishl C dL_repairs_199 ?_
            refine g_goto C 204 dL_repairs_200 (by decide) ?_
            refine g_ior C dL_repairs_204 ?_
            refine g_top (y := mk (sil V b (rWA V) (rF V b)) (m1 + 1)) ((mk_t hsl).symm) ?_
            refine g_istore C (L2 := [(7, .int (mk (sil V b (rWA V) (rF V b)) (m1 + 1))), (6, .int (mk (ask V b (rWA V) (rF V b)) (m1 + 1))), (15, .int (nI 1)), (14, .int (nI 3)), (0, .ref (gad G1 0)), (1, .int (nI (vN V))), (2, .int (nI b)), (3, .int (nI (hcd V b))), (4, .long (fpR V)), (8, .int (mk (mis V b) m1)), (9, .int (rpI V b m1)), (10, .int (nI (fsN (rF V b) m1))), (11, .int (nI (tmF (los V b) (rX V b) m1))), (12, .ref (gad G1 154)), (13, .int (nI m1))]) dL_repairs_205 (by decide) rfl ?_
            refine g_iload C 9 dL_repairs_207 rfl ?_
            refine g_iload C 3 dL_repairs_209 rfl ?_
            refine g_iconst C (nI 5) dL_repairs_211 (by decide) ?_
            refine g_icmp_ne_t C 222 (by decide) dL_repairs_212 (by decide) ?_
            refine g_iconst C (nI 0) dL_repairs_222 (by decide) ?_
            refine g_ior C dL_repairs_223 ?_
            refine g_top (y := mk (mis V b) (m1 + 1)) (or_0 hmi) ?_
            refine g_istore C (L2 := [(8, .int (mk (mis V b) (m1 + 1))), (7, .int (mk (sil V b (rWA V) (rF V b)) (m1 + 1))), (6, .int (mk (ask V b (rWA V) (rF V b)) (m1 + 1))), (15, .int (nI 1)), (14, .int (nI 3)), (0, .ref (gad G1 0)), (1, .int (nI (vN V))), (2, .int (nI b)), (3, .int (nI (hcd V b))), (4, .long (fpR V)), (9, .int (rpI V b m1)), (10, .int (nI (fsN (rF V b) m1))), (11, .int (nI (tmF (los V b) (rX V b) m1))), (12, .ref (gad G1 154)), (13, .int (nI m1))]) dL_repairs_224 (by decide) rfl ?_
            refine g_iload C 4 dL_repairs_226 rfl ?_
            refine g_iconst C (nI 4) dL_repairs_228 (by decide) ?_
            refine g_icmp_ne_t C 237 (by decide) dL_repairs_229 (by decide) ?_
            refine g_iload C 10 dL_repairs_237 rfl ?_
            refine g_top (y := rpI V b (m1 + 1)) (rpI_n hrq) ?_
            refine g_istore C (L2 := [(9, .int (rpI V b (m1 + 1))), (8, .int (mk (mis V b) (m1 + 1))), (7, .int (mk (sil V b (rWA V) (rF V b)) (m1 + 1))), (6, .int (mk (ask V b (rWA V) (rF V b)) (m1 + 1))), (15, .int (nI 1)), (14, .int (nI 3)), (0, .ref (gad G1 0)), (1, .int (nI (vN V))), (2, .int (nI b)), (3, .int (nI (hcd V b))), (4, .long (fpR V)), (10, .int (nI (fsN (rF V b) m1))), (11, .int (nI (tmF (los V b) (rX V b) m1))), (12, .ref (gad G1 154)), (13, .int (nI m1))]) dL_repairs_239 (by decide) rfl ?_
            refine g_iload C 11 dL_repairs_241 rfl ?_
            refine g_iload C 5 dL_repairs_243 rfl ?_
            refine g_iconst C (nI 1) dL_repairs_245 (by decide) ?_
            refine g_icmp_ne_t C 253 (by decide) dL_repairs_246 (by decide) ?_
            refine g_iconst C (nI 0) dL_repairs_253 (by decide) ?_
            refine g_iadd_n C (d := (fsN (rF V b) m1) + 0) dL_repairs_254 rfl ?_
            refine g_top (y := nI (fsN (rF V b) (m1 + 1))) (fs_n hfq) ?_
            refine g_istore C (L2 := [(10, .int (nI (fsN (rF V b) (m1 + 1)))), (9, .int (rpI V b (m1 + 1))), (8, .int (mk (mis V b) (m1 + 1))), (7, .int (mk (sil V b (rWA V) (rF V b)) (m1 + 1))), (6, .int (mk (ask V b (rWA V) (rF V b)) (m1 + 1))), (15, .int (nI 1)), (14, .int (nI 3)), (0, .ref (gad G1 0)), (1, .int (nI (vN V))), (2, .int (nI b)), (3, .int (nI (hcd V b))), (4, .long (fpR V)), (11, .int (nI (tmF (los V b) (rX V b) m1))), (12, .ref (gad G1 154)), (13, .int (nI m1))]) dL_repairs_255 (by decide) rfl ?_
            refine g_iload C 5 dL_repairs_257 rfl ?_
            refine g_aload_n C 7 dL_repairs_259 rfl ?_
            refine g_iload C 14 dL_repairs_260 rfl ?_
            refine g_iload_n C 9 dL_repairs_262 rfl ?_
            refine g_cV1 C (As := [.int (nI m1), .int (nI b)]) (w := .int (nI 1)) (mem3 := u183) iX9_lost (c_X9_lost l G1 g u183 L182.1 (nI m1) (nI b)) wd_486 ob_0 rfl ⟨Nat.le_of_ble_eq_true rfl, Nat.le_of_ble_eq_true rfl⟩ ⟨rfl, rfl⟩ rfl (Nat.le_of_ble_eq_true rfl) dL_repairs_263 (congrArg Value.int ((lost_n g hm2 hb).trans (if_pos hvl.2))) (rfl) ?_
            refine g_iconst C (nI 1) dL_repairs_266 (by decide) ?_
            refine g_icmp_ne_f C 285 (by decide) dL_repairs_267 (by decide) ?_
            refine g_aload_n C 7 dL_repairs_270 rfl ?_
            refine g_iload C 14 dL_repairs_271 rfl ?_
            refine g_iconst C (nI 2) dL_repairs_273 (by decide) ?_
            refine g_cV1 C (As := [.int (nI m1), .int (nI 2)]) (w := .int (nI 1)) (mem3 := u183) iX9_member (c_X9_member l G1 g u183 L182.1 (nI m1) (nI 2)) wd_364 ob_0 rfl ⟨Nat.le_of_ble_eq_true rfl, Nat.le_of_ble_eq_true rfl⟩ ⟨rfl, rfl⟩ rfl (Nat.le_of_ble_eq_true rfl) dL_repairs_274 (congrArg Value.int ((mem_n g hm2 (w := 2) (by decide) (by omega)).trans (lv_1 hvl.1))) (rfl) ?_
            refine g_iconst C (nI 1) dL_repairs_277 (by decide) ?_
            refine g_icmp_ne_f C 285 (rfl) dL_repairs_278 (by decide) ?_
            refine g_iconst C (nI 1) dL_repairs_281 (by decide) ?_
            refine g_goto C 286 dL_repairs_282 (by decide) ?_
            refine g_icmp_ne_f C 384 (by decide) dL_repairs_286 (by decide) ?_
            refine g_iload C 5 dL_repairs_289 rfl ?_
            refine g_aload_n C 7 dL_repairs_291 rfl ?_
            refine g_iload_n C 9 dL_repairs_292 rfl ?_
            refine g_iload C 14 dL_repairs_293 rfl ?_
            refine g_iconst C (nI 1) dL_repairs_295 (by decide) ?_
            refine g_cVf C (As := [.int (nI b), .int (nI m1), .int (nI 1)]) (v := .int (lookR V (nI b) (nI m1) (nI 1))) iX9_look (c_X9_look l G1 g u183 L182.1 (nI b) (nI m1) (nI 1)) wd_644 ob_0 rfl ⟨Nat.le_of_ble_eq_true rfl, Nat.le_of_ble_eq_true rfl⟩ ⟨rfl, rfl⟩ rfl (Nat.le_of_ble_eq_true rfl) dL_repairs_296 (fun u184 hq => ?_)
            have L185 := ls_fr L182 hq
            refine g_top (y := nI (wt V b (rWA V) m1)) (look_1 g hb h0 hm2 hlo) ?_
            refine g_ldc C wd_626 dL_repairs_299 ?_
            refine g_icmp_ne_t C 308 (nN_ne (by omega)) dL_repairs_301 (by decide) ?_
            refine g_iconst C (nI 0) dL_repairs_308 (by decide) ?_
            refine g_icmp_eq_f C 384 (by decide) dL_repairs_309 (by decide) ?_
            refine g_iload C 5 dL_repairs_312 rfl ?_
            refine g_aload_n C 7 dL_repairs_314 rfl ?_
            refine g_iload_n C 9 dL_repairs_315 rfl ?_
            refine g_iload C 14 dL_repairs_316 rfl ?_
            refine g_iconst C (nI 2) dL_repairs_318 (by decide) ?_
            refine g_cVf C (As := [.int (nI b), .int (nI m1), .int (nI 2)]) (v := .int (lookR V (nI b) (nI m1) (nI 2))) iX9_look (c_X9_look l G1 g u184 L185.1 (nI b) (nI m1) (nI 2)) wd_644 ob_0 rfl ⟨Nat.le_of_ble_eq_true rfl, Nat.le_of_ble_eq_true rfl⟩ ⟨rfl, rfl⟩ rfl (Nat.le_of_ble_eq_true rfl) dL_repairs_319 (fun u186 hq => ?_)
            have L187 := ls_fr L185 hq
            refine g_top (y := nI (rX V b m1)) (look_2 g hb h0 hm2 hlo) ?_
            refine g_ldc C wd_626 dL_repairs_322 ?_
            refine g_icmp_ne_t C 331 (nN_ne (by omega)) dL_repairs_324 (by decide) ?_
            refine g_iconst C (nI 0) dL_repairs_331 (by decide) ?_
            refine g_icmp_eq_f C 384 (by decide) dL_repairs_332 (by decide) ?_
            refine g_iload C 5 dL_repairs_335 rfl ?_
            refine g_if_eq_f C 367 (by decide) dL_repairs_337 (by decide) ?_
            refine g_aload_n C 7 dL_repairs_340 rfl ?_
            refine g_iload_n C 9 dL_repairs_341 rfl ?_
            refine g_iload C 14 dL_repairs_342 rfl ?_
            refine g_iconst C (nI 1) dL_repairs_344 (by decide) ?_
            refine g_cVf C (As := [.int (nI b), .int (nI m1), .int (nI 1)]) (v := .int (lookR V (nI b) (nI m1) (nI 1))) iX9_look (c_X9_look l G1 g u186 L187.1 (nI b) (nI m1) (nI 1)) wd_644 ob_0 rfl ⟨Nat.le_of_ble_eq_true rfl, Nat.le_of_ble_eq_true rfl⟩ ⟨rfl, rfl⟩ rfl (Nat.le_of_ble_eq_true rfl) dL_repairs_345 (fun u188 hq => ?_)
            have L189 := ls_fr L187 hq
            refine g_top (y := nI (wt V b (rWA V) m1)) (look_1 g hb h0 hm2 hlo) ?_
            refine g_aload_n C 7 dL_repairs_348 rfl ?_
            refine g_iconst C (nI 0) dL_repairs_349 (by decide) ?_
            refine g_cV1 C (As := [.int (nI 0)]) (w := .int (nI (rWA V))) (mem3 := u188) iX9_about (c_X9_about l G1 g u188 L189.1 (nI 0)) wd_401 ob_0 rfl ⟨Nat.le_of_ble_eq_true rfl, Nat.le_of_ble_eq_true rfl⟩ ⟨rfl, rfl⟩ rfl (Nat.le_of_ble_eq_true rfl) dL_repairs_350 (congrArg Value.int ((about_n (by decide)).trans (gd_wait g).1)) (rfl) ?_
            refine g_icmp_ge_f C 384 (nI_ge hwt (by omega)) dL_repairs_353 (by decide) ?_
            refine g_aload_n C 7 dL_repairs_356 rfl ?_
            refine g_iload_n C 9 dL_repairs_357 rfl ?_
            refine g_iload C 14 dL_repairs_358 rfl ?_
            refine g_iconst C (nI 2) dL_repairs_360 (by decide) ?_
            refine g_cVf C (As := [.int (nI b), .int (nI m1), .int (nI 2)]) (v := .int (lookR V (nI b) (nI m1) (nI 2))) iX9_look (c_X9_look l G1 g u188 L189.1 (nI b) (nI m1) (nI 2)) wd_644 ob_0 rfl ⟨Nat.le_of_ble_eq_true rfl, Nat.le_of_ble_eq_true rfl⟩ ⟨rfl, rfl⟩ rfl (Nat.le_of_ble_eq_true rfl) dL_repairs_361 (fun u190 hq => ?_)
            have L191 := ls_fr L189 hq
            refine g_top (y := nI (rX V b m1)) (look_2 g hb h0 hm2 hlo) ?_
            refine g_if_lt_f C 384 (nI_pos (by omega)) dL_repairs_364 (by decide) ?_
            refine g_iload C 6 dL_repairs_367 rfl ?_
            refine g_iconst C (nI 5) dL_repairs_369 (by decide) ?_
            refine g_icmp_ne_t C 386 (by decide) dL_repairs_370 (by decide) ?_
            refine g_iload C 5 dL_repairs_386 rfl ?_
            refine g_if_eq_f C 415 (by decide) dL_repairs_388 (by decide) ?_
            refine g_aload_n C 7 dL_repairs_391 rfl ?_
            refine g_iload_n C 9 dL_repairs_392 rfl ?_
            refine g_iload C 14 dL_repairs_393 rfl ?_
            refine g_iconst C (nI 2) dL_repairs_395 (by decide) ?_
            refine g_cVf C (As := [.int (nI b), .int (nI m1), .int (nI 2)]) (v := .int (lookR V (nI b) (nI m1) (nI 2))) iX9_look (c_X9_look l G1 g u190 L191.1 (nI b) (nI m1) (nI 2)) wd_644 ob_0 rfl ⟨Nat.le_of_ble_eq_true rfl, Nat.le_of_ble_eq_true rfl⟩ ⟨rfl, rfl⟩ rfl (Nat.le_of_ble_eq_true rfl) dL_repairs_396 (fun u192 hq => ?_)
            have L193 := ls_fr L191 hq
            refine g_top (y := nI (rX V b m1)) (look_2 g hb h0 hm2 hlo) ?_
            refine g_iload C 12 dL_repairs_399 rfl ?_
            refine g_icmp_le C 415 dL_repairs_401 (by decide) (fun c_401 => ?_) (fun c_401 => ?_)
            · have c_401 : rX V b m1 ≤ tmF (los V b) (rX V b) m1 := (nI_leI (by omega) (by omega)).mp c_401
              refine g_iload C 12 dL_repairs_415 rfl ?_
              refine g_top (y := nI (tmF (los V b) (rX V b) (m1 + 1))) (tX_lo hlo c_401) ?_
              refine g_istore C (L2 := [(11, .int (nI (tmF (los V b) (rX V b) (m1 + 1)))), (10, .int (nI (fsN (rF V b) (m1 + 1)))), (9, .int (rpI V b (m1 + 1))), (8, .int (mk (mis V b) (m1 + 1))), (7, .int (mk (sil V b (rWA V) (rF V b)) (m1 + 1))), (6, .int (mk (ask V b (rWA V) (rF V b)) (m1 + 1))), (15, .int (nI 1)), (14, .int (nI 3)), (0, .ref (gad G1 0)), (1, .int (nI (vN V))), (2, .int (nI b)), (3, .int (nI (hcd V b))), (4, .long (fpR V)), (12, .ref (gad G1 154)), (13, .int (nI m1))]) dL_repairs_417 (by decide) rfl ?_
              refine g_iinc C (v := nI (m1 + 1)) (L2 := [(13, .int (nI (m1 + 1))), (11, .int (nI (tmF (los V b) (rX V b) (m1 + 1)))), (10, .int (nI (fsN (rF V b) (m1 + 1)))), (9, .int (rpI V b (m1 + 1))), (8, .int (mk (mis V b) (m1 + 1))), (7, .int (mk (sil V b (rWA V) (rF V b)) (m1 + 1))), (6, .int (mk (ask V b (rWA V) (rF V b)) (m1 + 1))), (15, .int (nI 1)), (14, .int (nI 3)), (0, .ref (gad G1 0)), (1, .int (nI (vN V))), (2, .int (nI b)), (3, .int (nI (hcd V b))), (4, .long (fpR V)), (12, .ref (gad G1 154))]) 14 dL_repairs_419 rfl (nI_1 _) (by decide) rfl ?_
              refine g_goto C 117 dL_repairs_422 (by decide) ?_
              refine g_loc (L2 := [(0, .ref (gad G1 0)), (1, .int (nI (vN V))), (2, .int (nI b)), (3, .int (nI (hcd V b))), (4, .long (fpR V)), (6, .int (mk (ask V b (rWA V) (rF V b)) (m1 + 1))), (7, .int (mk (sil V b (rWA V) (rF V b)) (m1 + 1))), (8, .int (mk (mis V b) (m1 + 1))), (9, .int (rpI V b (m1 + 1))), (10, .int (nI (fsN (rF V b) (m1 + 1)))), (11, .int (nI (tmF (los V b) (rX V b) (m1 + 1)))), (12, .ref (gad G1 154)), (13, .int (nI (m1 + 1)))]) [9, 10, 11, 12, 13, 6, 5, 4, 3, 2, 1, 14, 0] rfl ?_
              exact g_eq (ih_117 (m1 + 1) u192 (hm2) (L193) (by omega)) (rfl) (rfl) rfl
            · have c_401 : ¬ rX V b m1 ≤ tmF (los V b) (rX V b) m1 := mt (nI_leI (by omega) (by omega)).mpr c_401
              refine g_aload_n C 7 dL_repairs_404 rfl ?_
              refine g_iload_n C 9 dL_repairs_405 rfl ?_
              refine g_iload C 14 dL_repairs_406 rfl ?_
              refine g_iconst C (nI 2) dL_repairs_408 (by decide) ?_
              refine g_cVf C (As := [.int (nI b), .int (nI m1), .int (nI 2)]) (v := .int (lookR V (nI b) (nI m1) (nI 2))) iX9_look (c_X9_look l G1 g u192 L193.1 (nI b) (nI m1) (nI 2)) wd_644 ob_0 rfl ⟨Nat.le_of_ble_eq_true rfl, Nat.le_of_ble_eq_true rfl⟩ ⟨rfl, rfl⟩ rfl (Nat.le_of_ble_eq_true rfl) dL_repairs_409 (fun u194 hq => ?_)
              have L195 := ls_fr L193 hq
              refine g_top (y := nI (tmF (los V b) (rX V b) (m1 + 1))) ((look_2 g hb h0 hm2 hlo).trans (tX_hi hlo c_401)) ?_
              refine g_goto C 417 dL_repairs_412 (by decide) ?_
              refine g_istore C (L2 := [(11, .int (nI (tmF (los V b) (rX V b) (m1 + 1)))), (10, .int (nI (fsN (rF V b) (m1 + 1)))), (9, .int (rpI V b (m1 + 1))), (8, .int (mk (mis V b) (m1 + 1))), (7, .int (mk (sil V b (rWA V) (rF V b)) (m1 + 1))), (6, .int (mk (ask V b (rWA V) (rF V b)) (m1 + 1))), (15, .int (nI 1)), (14, .int (nI 3)), (0, .ref (gad G1 0)), (1, .int (nI (vN V))), (2, .int (nI b)), (3, .int (nI (hcd V b))), (4, .long (fpR V)), (12, .ref (gad G1 154)), (13, .int (nI m1))]) dL_repairs_417 (by decide) rfl ?_
              refine g_iinc C (v := nI (m1 + 1)) (L2 := [(13, .int (nI (m1 + 1))), (11, .int (nI (tmF (los V b) (rX V b) (m1 + 1)))), (10, .int (nI (fsN (rF V b) (m1 + 1)))), (9, .int (rpI V b (m1 + 1))), (8, .int (mk (mis V b) (m1 + 1))), (7, .int (mk (sil V b (rWA V) (rF V b)) (m1 + 1))), (6, .int (mk (ask V b (rWA V) (rF V b)) (m1 + 1))), (15, .int (nI 1)), (14, .int (nI 3)), (0, .ref (gad G1 0)), (1, .int (nI (vN V))), (2, .int (nI b)), (3, .int (nI (hcd V b))), (4, .long (fpR V)), (12, .ref (gad G1 154))]) 14 dL_repairs_419 rfl (nI_1 _) (by decide) rfl ?_
              refine g_goto C 117 dL_repairs_422 (by decide) ?_
              refine g_loc (L2 := [(0, .ref (gad G1 0)), (1, .int (nI (vN V))), (2, .int (nI b)), (3, .int (nI (hcd V b))), (4, .long (fpR V)), (6, .int (mk (ask V b (rWA V) (rF V b)) (m1 + 1))), (7, .int (mk (sil V b (rWA V) (rF V b)) (m1 + 1))), (8, .int (mk (mis V b) (m1 + 1))), (9, .int (rpI V b (m1 + 1))), (10, .int (nI (fsN (rF V b) (m1 + 1)))), (11, .int (nI (tmF (los V b) (rX V b) (m1 + 1)))), (12, .ref (gad G1 154)), (13, .int (nI (m1 + 1)))]) [9, 10, 11, 12, 13, 6, 5, 4, 3, 2, 1, 14, 0] rfl ?_
              exact g_eq (ih_117 (m1 + 1) u194 (hm2) (L195) (by omega)) (rfl) (rfl) rfl
          · refine g_iload_n C 2 dL_repairs_124 rfl ?_
            refine g_iload C 12 dL_repairs_125 rfl ?_
            refine g_iconst C (nI 0) dL_repairs_127 (by decide) ?_
            refine g_cVf C (As := [.int (nI b), .int (nI m1), .int (nI 0)]) (v := .int (lookR V (nI b) (nI m1) (nI 0))) iX9_look (c_X9_look l G1 g M1 LM.1 (nI b) (nI m1) (nI 0)) wd_644 ob_0 rfl ⟨Nat.le_of_ble_eq_true rfl, Nat.le_of_ble_eq_true rfl⟩ ⟨rfl, rfl⟩ rfl (Nat.le_of_ble_eq_true rfl) dL_repairs_128 (fun u196 hq => ?_)
            have L197 := ls_fr LM hq
            refine g_top (y := nI 4) (look_0 g hb h0 hm2 hro) ?_
            refine g_istore C (L2 := [(14, .int (nI 4)), (0, .ref (gad G1 0)), (1, .int (nI (vN V))), (2, .int (nI b)), (3, .int (nI (hcd V b))), (4, .long (fpR V)), (6, .int (mk (ask V b (rWA V) (rF V b)) m1)), (7, .int (mk (sil V b (rWA V) (rF V b)) m1)), (8, .int (mk (mis V b) m1)), (9, .int (rpI V b m1)), (10, .int (nI (fsN (rF V b) m1))), (11, .int (nI (tmF (los V b) (rX V b) m1))), (12, .ref (gad G1 154)), (13, .int (nI m1))]) dL_repairs_131 (by decide) rfl ?_
            refine g_iload C 0 dL_repairs_133 rfl ?_
            refine g_if_le_f C 148 (by decide) dL_repairs_135 (by decide) ?_
            refine g_iload C 0 dL_repairs_138 rfl ?_
            refine g_iconst C (nI 4) dL_repairs_140 (by decide) ?_
            refine g_icmp_ge_t C 148 (by decide) dL_repairs_141 (by decide) ?_
            refine g_iconst C (nI 0) dL_repairs_148 (by decide) ?_
            refine g_istore C (L2 := [(15, .int (nI 0)), (14, .int (nI 4)), (0, .ref (gad G1 0)), (1, .int (nI (vN V))), (2, .int (nI b)), (3, .int (nI (hcd V b))), (4, .long (fpR V)), (6, .int (mk (ask V b (rWA V) (rF V b)) m1)), (7, .int (mk (sil V b (rWA V) (rF V b)) m1)), (8, .int (mk (mis V b) m1)), (9, .int (rpI V b m1)), (10, .int (nI (fsN (rF V b) m1))), (11, .int (nI (tmF (los V b) (rX V b) m1))), (12, .ref (gad G1 154)), (13, .int (nI m1))]) dL_repairs_149 (by decide) rfl ?_
            refine g_aload C 13 dL_repairs_151 rfl ?_
            refine g_iload C 14 dL_repairs_153 rfl ?_
            refine g_aload_n C 2 dL_repairs_155 rfl ?_
            refine g_iload C 14 dL_repairs_156 rfl ?_
            refine g_iconst C (nI 3) dL_repairs_158 (by decide) ?_
            refine g_cV1 C (As := [.int (nI m1), .int (nI 3)]) (w := .int (V (33 + 12 * m1))) (mem3 := u196) iX9_member (c_X9_member l G1 g u196 L197.1 (nI m1) (nI 3)) wd_364 ob_0 rfl ⟨Nat.le_of_ble_eq_true rfl, Nat.le_of_ble_eq_true rfl⟩ ⟨rfl, rfl⟩ rfl (Nat.le_of_ble_eq_true rfl) dL_repairs_159 (congrArg Value.int (mem_n g hm2 (w := 3) (by decide) (by omega))) (rfl) ?_
            refine g_xast C (j := m1) (gx_at x1 (k := 0) (by decide)) (by omega) dL_repairs_162 ?_
            have L198 : kLS T V Vs h (cpy (m1 + 1) (fun q => V (33 + 12 * q)) (fun _ => 0)) B (gr u196 154 (upd (u196 154) m1 (V (33 + 12 * m1)))) := ls_ast L197 (cpy_s rfl)
            generalize gr u196 154 (upd (u196 154) m1 (V (33 + 12 * m1))) = u199 at L198 ⊢
            refine g_iload C 7 dL_repairs_163 rfl ?_
            refine g_iload C 1 dL_repairs_165 rfl ?_
            refine g_iconst C (nI 1) dL_repairs_167 (by decide) ?_
            refine g_icmp_eq_f C 177 (by decide) dL_repairs_168 (by decide) ?_
            refine g_iload C 1 dL_repairs_171 rfl ?_
            refine g_iconst C (nI 2) dL_repairs_173 (by decide) ?_
            refine g_icmp_ne_t C 184 (by decide) dL_repairs_174 (by decide) ?_
            refine g_iconst C (nI 0) dL_repairs_184 (by decide) ?_
            refine g_ior C dL_repairs_185 ?_
            refine g_top (y := mk (ask V b (rWA V) (rF V b)) (m1 + 1)) (or_0 ha) ?_
            refine g_istore C (L2 := [(6, .int (mk (ask V b (rWA V) (rF V b)) (m1 + 1))), (15, .int (nI 0)), (14, .int (nI 4)), (0, .ref (gad G1 0)), (1, .int (nI (vN V))), (2, .int (nI b)), (3, .int (nI (hcd V b))), (4, .long (fpR V)), (7, .int (mk (sil V b (rWA V) (rF V b)) m1)), (8, .int (mk (mis V b) m1)), (9, .int (rpI V b m1)), (10, .int (nI (fsN (rF V b) m1))), (11, .int (nI (tmF (los V b) (rX V b) m1))), (12, .ref (gad G1 154)), (13, .int (nI m1))]) dL_repairs_186 (by decide) rfl ?_
            refine g_iload C 8 dL_repairs_188 rfl ?_
            refine g_iload C 2 dL_repairs_190 rfl ?_
            refine g_iconst C (nI 3) dL_repairs_192 (by decide) ?_
            refine g_icmp_ne_t C 203 (by decide) dL_repairs_193 (by decide) ?_
            refine g_iconst C (nI 0) dL_repairs_203 (by decide) ?_
            refine g_ior C dL_repairs_204 ?_
            refine g_top (y := mk (sil V b (rWA V) (rF V b)) (m1 + 1)) (or_0 hsl) ?_
            refine g_istore C (L2 := [(7, .int (mk (sil V b (rWA V) (rF V b)) (m1 + 1))), (6, .int (mk (ask V b (rWA V) (rF V b)) (m1 + 1))), (15, .int (nI 0)), (14, .int (nI 4)), (0, .ref (gad G1 0)), (1, .int (nI (vN V))), (2, .int (nI b)), (3, .int (nI (hcd V b))), (4, .long (fpR V)), (8, .int (mk (mis V b) m1)), (9, .int (rpI V b m1)), (10, .int (nI (fsN (rF V b) m1))), (11, .int (nI (tmF (los V b) (rX V b) m1))), (12, .ref (gad G1 154)), (13, .int (nI m1))]) dL_repairs_205 (by decide) rfl ?_
            refine g_iload C 9 dL_repairs_207 rfl ?_
            refine g_iload C 3 dL_repairs_209 rfl ?_
            refine g_iconst C (nI 5) dL_repairs_211 (by decide) ?_
            refine g_icmp_ne_t C 222 (by decide) dL_repairs_212 (by decide) ?_
            refine g_iconst C (nI 0) dL_repairs_222 (by decide) ?_
            refine g_ior C dL_repairs_223 ?_
            refine g_top (y := mk (mis V b) (m1 + 1)) (or_0 hmi) ?_
            refine g_istore C (L2 := [(8, .int (mk (mis V b) (m1 + 1))), (7, .int (mk (sil V b (rWA V) (rF V b)) (m1 + 1))), (6, .int (mk (ask V b (rWA V) (rF V b)) (m1 + 1))), (15, .int (nI 0)), (14, .int (nI 4)), (0, .ref (gad G1 0)), (1, .int (nI (vN V))), (2, .int (nI b)), (3, .int (nI (hcd V b))), (4, .long (fpR V)), (9, .int (rpI V b m1)), (10, .int (nI (fsN (rF V b) m1))), (11, .int (nI (tmF (los V b) (rX V b) m1))), (12, .ref (gad G1 154)), (13, .int (nI m1))]) dL_repairs_224 (by decide) rfl ?_
            refine g_iload C 4 dL_repairs_226 rfl ?_
            refine g_iconst C (nI 4) dL_repairs_228 (by decide) ?_
            refine g_icmp_ne_f C 237 (by decide) dL_repairs_229 (by decide) ?_
            refine g_iload C 14 dL_repairs_232 rfl ?_
            refine g_top (y := rpI V b (m1 + 1)) (rpI_y hrq) ?_
            refine g_goto C 239 dL_repairs_234 (by decide) ?_
            refine g_istore C (L2 := [(9, .int (rpI V b (m1 + 1))), (8, .int (mk (mis V b) (m1 + 1))), (7, .int (mk (sil V b (rWA V) (rF V b)) (m1 + 1))), (6, .int (mk (ask V b (rWA V) (rF V b)) (m1 + 1))), (15, .int (nI 0)), (14, .int (nI 4)), (0, .ref (gad G1 0)), (1, .int (nI (vN V))), (2, .int (nI b)), (3, .int (nI (hcd V b))), (4, .long (fpR V)), (10, .int (nI (fsN (rF V b) m1))), (11, .int (nI (tmF (los V b) (rX V b) m1))), (12, .ref (gad G1 154)), (13, .int (nI m1))]) dL_repairs_239 (by decide) rfl ?_
            refine g_iload C 11 dL_repairs_241 rfl ?_
            refine g_iload C 5 dL_repairs_243 rfl ?_
            refine g_iconst C (nI 1) dL_repairs_245 (by decide) ?_
            refine g_icmp_ne_t C 253 (by decide) dL_repairs_246 (by decide) ?_
            refine g_iconst C (nI 0) dL_repairs_253 (by decide) ?_
            refine g_iadd_n C (d := (fsN (rF V b) m1) + 0) dL_repairs_254 rfl ?_
            refine g_top (y := nI (fsN (rF V b) (m1 + 1))) (fs_n hfq) ?_
            refine g_istore C (L2 := [(10, .int (nI (fsN (rF V b) (m1 + 1)))), (9, .int (rpI V b (m1 + 1))), (8, .int (mk (mis V b) (m1 + 1))), (7, .int (mk (sil V b (rWA V) (rF V b)) (m1 + 1))), (6, .int (mk (ask V b (rWA V) (rF V b)) (m1 + 1))), (15, .int (nI 0)), (14, .int (nI 4)), (0, .ref (gad G1 0)), (1, .int (nI (vN V))), (2, .int (nI b)), (3, .int (nI (hcd V b))), (4, .long (fpR V)), (11, .int (nI (tmF (los V b) (rX V b) m1))), (12, .ref (gad G1 154)), (13, .int (nI m1))]) dL_repairs_255 (by decide) rfl ?_
            refine g_iload C 5 dL_repairs_257 rfl ?_
            refine g_aload_n C 7 dL_repairs_259 rfl ?_
            refine g_iload C 14 dL_repairs_260 rfl ?_
            refine g_iload_n C 9 dL_repairs_262 rfl ?_
            refine g_cV1 C (As := [.int (nI m1), .int (nI b)]) (w := .int (if vLo V b m1 = true then nI 1 else nI 0)) (mem3 := u199) iX9_lost (c_X9_lost l G1 g u199 L198.1 (nI m1) (nI b)) wd_486 ob_0 rfl ⟨Nat.le_of_ble_eq_true rfl, Nat.le_of_ble_eq_true rfl⟩ ⟨rfl, rfl⟩ rfl (Nat.le_of_ble_eq_true rfl) dL_repairs_263 (congrArg Value.int (lost_n g hm2 hb)) (rfl) ?_
            refine g_iconst C (nI 1) dL_repairs_266 (by decide) ?_
            refine g_icmp_ne C 285 dL_repairs_267 (by decide) (fun c_267 => ?_) (fun c_267 => ?_)
            · refine g_iconst C (nI 0) dL_repairs_285 (by decide) ?_
              refine g_icmp_ne_f C 384 (by decide) dL_repairs_286 (by decide) ?_
              refine g_iload C 5 dL_repairs_289 rfl ?_
              refine g_aload_n C 7 dL_repairs_291 rfl ?_
              refine g_iload_n C 9 dL_repairs_292 rfl ?_
              refine g_iload C 14 dL_repairs_293 rfl ?_
              refine g_iconst C (nI 1) dL_repairs_295 (by decide) ?_
              refine g_cVf C (As := [.int (nI b), .int (nI m1), .int (nI 1)]) (v := .int (lookR V (nI b) (nI m1) (nI 1))) iX9_look (c_X9_look l G1 g u199 L198.1 (nI b) (nI m1) (nI 1)) wd_644 ob_0 rfl ⟨Nat.le_of_ble_eq_true rfl, Nat.le_of_ble_eq_true rfl⟩ ⟨rfl, rfl⟩ rfl (Nat.le_of_ble_eq_true rfl) dL_repairs_296 (fun u200 hq => ?_)
              have L201 := ls_fr L198 hq
              refine g_top (y := kNone) (look_nl g hb h0 hm2 (by decide) (by decide) hlo) ?_
              refine g_ldc C wd_626 dL_repairs_299 ?_
              refine g_icmp_ne_f C 308 (rfl) dL_repairs_301 (by decide) ?_
              refine g_iconst C (nI 1) dL_repairs_304 (by decide) ?_
              refine g_goto C 309 dL_repairs_305 (by decide) ?_
              refine g_icmp_eq_f C 384 (by decide) dL_repairs_309 (by decide) ?_
              refine g_iload C 5 dL_repairs_312 rfl ?_
              refine g_aload_n C 7 dL_repairs_314 rfl ?_
              refine g_iload_n C 9 dL_repairs_315 rfl ?_
              refine g_iload C 14 dL_repairs_316 rfl ?_
              refine g_iconst C (nI 2) dL_repairs_318 (by decide) ?_
              refine g_cVf C (As := [.int (nI b), .int (nI m1), .int (nI 2)]) (v := .int (lookR V (nI b) (nI m1) (nI 2))) iX9_look (c_X9_look l G1 g u200 L201.1 (nI b) (nI m1) (nI 2)) wd_644 ob_0 rfl ⟨Nat.le_of_ble_eq_true rfl, Nat.le_of_ble_eq_true rfl⟩ ⟨rfl, rfl⟩ rfl (Nat.le_of_ble_eq_true rfl) dL_repairs_319 (fun u202 hq => ?_)
              have L203 := ls_fr L201 hq
              refine g_top (y := kNone) (look_nl g hb h0 hm2 (by decide) (by decide) hlo) ?_
              refine g_ldc C wd_626 dL_repairs_322 ?_
              refine g_icmp_ne_f C 331 (rfl) dL_repairs_324 (by decide) ?_
              refine g_iconst C (nI 1) dL_repairs_327 (by decide) ?_
              refine g_goto C 332 dL_repairs_328 (by decide) ?_
              refine g_icmp_eq_f C 384 (by decide) dL_repairs_332 (by decide) ?_
              refine g_iload C 5 dL_repairs_335 rfl ?_
              refine g_if_eq_t C 367 (by decide) dL_repairs_337 (by decide) ?_
              refine g_iload C 6 dL_repairs_367 rfl ?_
              refine g_iconst C (nI 5) dL_repairs_369 (by decide) ?_
              refine g_icmp_ne_t C 386 (by decide) dL_repairs_370 (by decide) ?_
              refine g_iload C 5 dL_repairs_386 rfl ?_
              refine g_if_eq_t C 415 (by decide) dL_repairs_388 (by decide) ?_
              refine g_iload C 12 dL_repairs_415 rfl ?_
              refine g_top (y := nI (tmF (los V b) (rX V b) (m1 + 1))) (tX_n hlo) ?_
              refine g_istore C (L2 := [(11, .int (nI (tmF (los V b) (rX V b) (m1 + 1)))), (10, .int (nI (fsN (rF V b) (m1 + 1)))), (9, .int (rpI V b (m1 + 1))), (8, .int (mk (mis V b) (m1 + 1))), (7, .int (mk (sil V b (rWA V) (rF V b)) (m1 + 1))), (6, .int (mk (ask V b (rWA V) (rF V b)) (m1 + 1))), (15, .int (nI 0)), (14, .int (nI 4)), (0, .ref (gad G1 0)), (1, .int (nI (vN V))), (2, .int (nI b)), (3, .int (nI (hcd V b))), (4, .long (fpR V)), (12, .ref (gad G1 154)), (13, .int (nI m1))]) dL_repairs_417 (by decide) rfl ?_
              refine g_iinc C (v := nI (m1 + 1)) (L2 := [(13, .int (nI (m1 + 1))), (11, .int (nI (tmF (los V b) (rX V b) (m1 + 1)))), (10, .int (nI (fsN (rF V b) (m1 + 1)))), (9, .int (rpI V b (m1 + 1))), (8, .int (mk (mis V b) (m1 + 1))), (7, .int (mk (sil V b (rWA V) (rF V b)) (m1 + 1))), (6, .int (mk (ask V b (rWA V) (rF V b)) (m1 + 1))), (15, .int (nI 0)), (14, .int (nI 4)), (0, .ref (gad G1 0)), (1, .int (nI (vN V))), (2, .int (nI b)), (3, .int (nI (hcd V b))), (4, .long (fpR V)), (12, .ref (gad G1 154))]) 14 dL_repairs_419 rfl (nI_1 _) (by decide) rfl ?_
              refine g_goto C 117 dL_repairs_422 (by decide) ?_
              refine g_loc (L2 := [(0, .ref (gad G1 0)), (1, .int (nI (vN V))), (2, .int (nI b)), (3, .int (nI (hcd V b))), (4, .long (fpR V)), (6, .int (mk (ask V b (rWA V) (rF V b)) (m1 + 1))), (7, .int (mk (sil V b (rWA V) (rF V b)) (m1 + 1))), (8, .int (mk (mis V b) (m1 + 1))), (9, .int (rpI V b (m1 + 1))), (10, .int (nI (fsN (rF V b) (m1 + 1)))), (11, .int (nI (tmF (los V b) (rX V b) (m1 + 1)))), (12, .ref (gad G1 154)), (13, .int (nI (m1 + 1)))]) [9, 10, 11, 12, 13, 6, 5, 4, 3, 2, 1, 14, 0] rfl ?_
              exact g_eq (ih_117 (m1 + 1) u202 (hm2) (L203) (by omega)) (rfl) (rfl) rfl
            · refine g_aload_n C 7 dL_repairs_270 rfl ?_
              refine g_iload C 14 dL_repairs_271 rfl ?_
              refine g_iconst C (nI 2) dL_repairs_273 (by decide) ?_
              refine g_cV1 C (As := [.int (nI m1), .int (nI 2)]) (w := .int (V (32 + 12 * m1))) (mem3 := u199) iX9_member (c_X9_member l G1 g u199 L198.1 (nI m1) (nI 2)) wd_364 ob_0 rfl ⟨Nat.le_of_ble_eq_true rfl, Nat.le_of_ble_eq_true rfl⟩ ⟨rfl, rfl⟩ rfl (Nat.le_of_ble_eq_true rfl) dL_repairs_274 (congrArg Value.int (mem_n g hm2 (w := 2) (by decide) (by omega))) (rfl) ?_
              refine g_iconst C (nI 1) dL_repairs_277 (by decide) ?_
              refine g_icmp_ne_t C 285 (lo_lv hlo c_267) dL_repairs_278 (by decide) ?_
              refine g_iconst C (nI 0) dL_repairs_285 (by decide) ?_
              refine g_icmp_ne_f C 384 (by decide) dL_repairs_286 (by decide) ?_
              refine g_iload C 5 dL_repairs_289 rfl ?_
              refine g_aload_n C 7 dL_repairs_291 rfl ?_
              refine g_iload_n C 9 dL_repairs_292 rfl ?_
              refine g_iload C 14 dL_repairs_293 rfl ?_
              refine g_iconst C (nI 1) dL_repairs_295 (by decide) ?_
              refine g_cVf C (As := [.int (nI b), .int (nI m1), .int (nI 1)]) (v := .int (lookR V (nI b) (nI m1) (nI 1))) iX9_look (c_X9_look l G1 g u199 L198.1 (nI b) (nI m1) (nI 1)) wd_644 ob_0 rfl ⟨Nat.le_of_ble_eq_true rfl, Nat.le_of_ble_eq_true rfl⟩ ⟨rfl, rfl⟩ rfl (Nat.le_of_ble_eq_true rfl) dL_repairs_296 (fun u204 hq => ?_)
              have L205 := ls_fr L198 hq
              refine g_top (y := kNone) (look_nl g hb h0 hm2 (by decide) (by decide) hlo) ?_
              refine g_ldc C wd_626 dL_repairs_299 ?_
              refine g_icmp_ne_f C 308 (rfl) dL_repairs_301 (by decide) ?_
              refine g_iconst C (nI 1) dL_repairs_304 (by decide) ?_
              refine g_goto C 309 dL_repairs_305 (by decide) ?_
              refine g_icmp_eq_f C 384 (by decide) dL_repairs_309 (by decide) ?_
              refine g_iload C 5 dL_repairs_312 rfl ?_
              refine g_aload_n C 7 dL_repairs_314 rfl ?_
              refine g_iload_n C 9 dL_repairs_315 rfl ?_
              refine g_iload C 14 dL_repairs_316 rfl ?_
              refine g_iconst C (nI 2) dL_repairs_318 (by decide) ?_
              refine g_cVf C (As := [.int (nI b), .int (nI m1), .int (nI 2)]) (v := .int (lookR V (nI b) (nI m1) (nI 2))) iX9_look (c_X9_look l G1 g u204 L205.1 (nI b) (nI m1) (nI 2)) wd_644 ob_0 rfl ⟨Nat.le_of_ble_eq_true rfl, Nat.le_of_ble_eq_true rfl⟩ ⟨rfl, rfl⟩ rfl (Nat.le_of_ble_eq_true rfl) dL_repairs_319 (fun u206 hq => ?_)
              have L207 := ls_fr L205 hq
              refine g_top (y := kNone) (look_nl g hb h0 hm2 (by decide) (by decide) hlo) ?_
              refine g_ldc C wd_626 dL_repairs_322 ?_
              refine g_icmp_ne_f C 331 (rfl) dL_repairs_324 (by decide) ?_
              refine g_iconst C (nI 1) dL_repairs_327 (by decide) ?_
              refine g_goto C 332 dL_repairs_328 (by decide) ?_
              refine g_icmp_eq_f C 384 (by decide) dL_repairs_332 (by decide) ?_
              refine g_iload C 5 dL_repairs_335 rfl ?_
              refine g_if_eq_t C 367 (by decide) dL_repairs_337 (by decide) ?_
              refine g_iload C 6 dL_repairs_367 rfl ?_
              refine g_iconst C (nI 5) dL_repairs_369 (by decide) ?_
              refine g_icmp_ne_t C 386 (by decide) dL_repairs_370 (by decide) ?_
              refine g_iload C 5 dL_repairs_386 rfl ?_
              refine g_if_eq_t C 415 (by decide) dL_repairs_388 (by decide) ?_
              refine g_iload C 12 dL_repairs_415 rfl ?_
              refine g_top (y := nI (tmF (los V b) (rX V b) (m1 + 1))) (tX_n hlo) ?_
              refine g_istore C (L2 := [(11, .int (nI (tmF (los V b) (rX V b) (m1 + 1)))), (10, .int (nI (fsN (rF V b) (m1 + 1)))), (9, .int (rpI V b (m1 + 1))), (8, .int (mk (mis V b) (m1 + 1))), (7, .int (mk (sil V b (rWA V) (rF V b)) (m1 + 1))), (6, .int (mk (ask V b (rWA V) (rF V b)) (m1 + 1))), (15, .int (nI 0)), (14, .int (nI 4)), (0, .ref (gad G1 0)), (1, .int (nI (vN V))), (2, .int (nI b)), (3, .int (nI (hcd V b))), (4, .long (fpR V)), (12, .ref (gad G1 154)), (13, .int (nI m1))]) dL_repairs_417 (by decide) rfl ?_
              refine g_iinc C (v := nI (m1 + 1)) (L2 := [(13, .int (nI (m1 + 1))), (11, .int (nI (tmF (los V b) (rX V b) (m1 + 1)))), (10, .int (nI (fsN (rF V b) (m1 + 1)))), (9, .int (rpI V b (m1 + 1))), (8, .int (mk (mis V b) (m1 + 1))), (7, .int (mk (sil V b (rWA V) (rF V b)) (m1 + 1))), (6, .int (mk (ask V b (rWA V) (rF V b)) (m1 + 1))), (15, .int (nI 0)), (14, .int (nI 4)), (0, .ref (gad G1 0)), (1, .int (nI (vN V))), (2, .int (nI b)), (3, .int (nI (hcd V b))), (4, .long (fpR V)), (12, .ref (gad G1 154))]) 14 dL_repairs_419 rfl (nI_1 _) (by decide) rfl ?_
              refine g_goto C 117 dL_repairs_422 (by decide) ?_
              refine g_loc (L2 := [(0, .ref (gad G1 0)), (1, .int (nI (vN V))), (2, .int (nI b)), (3, .int (nI (hcd V b))), (4, .long (fpR V)), (6, .int (mk (ask V b (rWA V) (rF V b)) (m1 + 1))), (7, .int (mk (sil V b (rWA V) (rF V b)) (m1 + 1))), (8, .int (mk (mis V b) (m1 + 1))), (9, .int (rpI V b (m1 + 1))), (10, .int (nI (fsN (rF V b) (m1 + 1)))), (11, .int (nI (tmF (los V b) (rX V b) (m1 + 1)))), (12, .ref (gad G1 154)), (13, .int (nI (m1 + 1)))]) [9, 10, 11, 12, 13, 6, 5, 4, 3, 2, 1, 14, 0] rfl ?_
              exact g_eq (ih_117 (m1 + 1) u206 (hm2) (L207) (by omega)) (rfl) (rfl) rfl
          · refine g_iload_n C 2 dL_repairs_124 rfl ?_
            refine g_iload C 12 dL_repairs_125 rfl ?_
            refine g_iconst C (nI 0) dL_repairs_127 (by decide) ?_
            refine g_cVf C (As := [.int (nI b), .int (nI m1), .int (nI 0)]) (v := .int (lookR V (nI b) (nI m1) (nI 0))) iX9_look (c_X9_look l G1 g M1 LM.1 (nI b) (nI m1) (nI 0)) wd_644 ob_0 rfl ⟨Nat.le_of_ble_eq_true rfl, Nat.le_of_ble_eq_true rfl⟩ ⟨rfl, rfl⟩ rfl (Nat.le_of_ble_eq_true rfl) dL_repairs_128 (fun u208 hq => ?_)
            have L209 := ls_fr LM hq
            refine g_top (y := nI 5) (look_0 g hb h0 hm2 hro) ?_
            refine g_istore C (L2 := [(14, .int (nI 5)), (0, .ref (gad G1 0)), (1, .int (nI (vN V))), (2, .int (nI b)), (3, .int (nI (hcd V b))), (4, .long (fpR V)), (6, .int (mk (ask V b (rWA V) (rF V b)) m1)), (7, .int (mk (sil V b (rWA V) (rF V b)) m1)), (8, .int (mk (mis V b) m1)), (9, .int (rpI V b m1)), (10, .int (nI (fsN (rF V b) m1))), (11, .int (nI (tmF (los V b) (rX V b) m1))), (12, .ref (gad G1 154)), (13, .int (nI m1))]) dL_repairs_131 (by decide) rfl ?_
            refine g_iload C 0 dL_repairs_133 rfl ?_
            refine g_if_le_f C 148 (by decide) dL_repairs_135 (by decide) ?_
            refine g_iload C 0 dL_repairs_138 rfl ?_
            refine g_iconst C (nI 4) dL_repairs_140 (by decide) ?_
            refine g_icmp_ge_t C 148 (by decide) dL_repairs_141 (by decide) ?_
            refine g_iconst C (nI 0) dL_repairs_148 (by decide) ?_
            refine g_istore C (L2 := [(15, .int (nI 0)), (14, .int (nI 5)), (0, .ref (gad G1 0)), (1, .int (nI (vN V))), (2, .int (nI b)), (3, .int (nI (hcd V b))), (4, .long (fpR V)), (6, .int (mk (ask V b (rWA V) (rF V b)) m1)), (7, .int (mk (sil V b (rWA V) (rF V b)) m1)), (8, .int (mk (mis V b) m1)), (9, .int (rpI V b m1)), (10, .int (nI (fsN (rF V b) m1))), (11, .int (nI (tmF (los V b) (rX V b) m1))), (12, .ref (gad G1 154)), (13, .int (nI m1))]) dL_repairs_149 (by decide) rfl ?_
            refine g_aload C 13 dL_repairs_151 rfl ?_
            refine g_iload C 14 dL_repairs_153 rfl ?_
            refine g_aload_n C 2 dL_repairs_155 rfl ?_
            refine g_iload C 14 dL_repairs_156 rfl ?_
            refine g_iconst C (nI 3) dL_repairs_158 (by decide) ?_
            refine g_cV1 C (As := [.int (nI m1), .int (nI 3)]) (w := .int (V (33 + 12 * m1))) (mem3 := u208) iX9_member (c_X9_member l G1 g u208 L209.1 (nI m1) (nI 3)) wd_364 ob_0 rfl ⟨Nat.le_of_ble_eq_true rfl, Nat.le_of_ble_eq_true rfl⟩ ⟨rfl, rfl⟩ rfl (Nat.le_of_ble_eq_true rfl) dL_repairs_159 (congrArg Value.int (mem_n g hm2 (w := 3) (by decide) (by omega))) (rfl) ?_
            refine g_xast C (j := m1) (gx_at x1 (k := 0) (by decide)) (by omega) dL_repairs_162 ?_
            have L210 : kLS T V Vs h (cpy (m1 + 1) (fun q => V (33 + 12 * q)) (fun _ => 0)) B (gr u208 154 (upd (u208 154) m1 (V (33 + 12 * m1)))) := ls_ast L209 (cpy_s rfl)
            generalize gr u208 154 (upd (u208 154) m1 (V (33 + 12 * m1))) = u211 at L210 ⊢
            refine g_iload C 7 dL_repairs_163 rfl ?_
            refine g_iload C 1 dL_repairs_165 rfl ?_
            refine g_iconst C (nI 1) dL_repairs_167 (by decide) ?_
            refine g_icmp_eq_f C 177 (by decide) dL_repairs_168 (by decide) ?_
            refine g_iload C 1 dL_repairs_171 rfl ?_
            refine g_iconst C (nI 2) dL_repairs_173 (by decide) ?_
            refine g_icmp_ne_t C 184 (by decide) dL_repairs_174 (by decide) ?_
            refine g_iconst C (nI 0) dL_repairs_184 (by decide) ?_
            refine g_ior C dL_repairs_185 ?_
            refine g_top (y := mk (ask V b (rWA V) (rF V b)) (m1 + 1)) (or_0 ha) ?_
            refine g_istore C (L2 := [(6, .int (mk (ask V b (rWA V) (rF V b)) (m1 + 1))), (15, .int (nI 0)), (14, .int (nI 5)), (0, .ref (gad G1 0)), (1, .int (nI (vN V))), (2, .int (nI b)), (3, .int (nI (hcd V b))), (4, .long (fpR V)), (7, .int (mk (sil V b (rWA V) (rF V b)) m1)), (8, .int (mk (mis V b) m1)), (9, .int (rpI V b m1)), (10, .int (nI (fsN (rF V b) m1))), (11, .int (nI (tmF (los V b) (rX V b) m1))), (12, .ref (gad G1 154)), (13, .int (nI m1))]) dL_repairs_186 (by decide) rfl ?_
            refine g_iload C 8 dL_repairs_188 rfl ?_
            refine g_iload C 2 dL_repairs_190 rfl ?_
            refine g_iconst C (nI 3) dL_repairs_192 (by decide) ?_
            refine g_icmp_ne_t C 203 (by decide) dL_repairs_193 (by decide) ?_
            refine g_iconst C (nI 0) dL_repairs_203 (by decide) ?_
            refine g_ior C dL_repairs_204 ?_
            refine g_top (y := mk (sil V b (rWA V) (rF V b)) (m1 + 1)) (or_0 hsl) ?_
            refine g_istore C (L2 := [(7, .int (mk (sil V b (rWA V) (rF V b)) (m1 + 1))), (6, .int (mk (ask V b (rWA V) (rF V b)) (m1 + 1))), (15, .int (nI 0)), (14, .int (nI 5)), (0, .ref (gad G1 0)), (1, .int (nI (vN V))), (2, .int (nI b)), (3, .int (nI (hcd V b))), (4, .long (fpR V)), (8, .int (mk (mis V b) m1)), (9, .int (rpI V b m1)), (10, .int (nI (fsN (rF V b) m1))), (11, .int (nI (tmF (los V b) (rX V b) m1))), (12, .ref (gad G1 154)), (13, .int (nI m1))]) dL_repairs_205 (by decide) rfl ?_
            refine g_iload C 9 dL_repairs_207 rfl ?_
            refine g_iload C 3 dL_repairs_209 rfl ?_
            refine g_iconst C (nI 5) dL_repairs_211 (by decide) ?_
            refine g_icmp_ne_f C 222 (by decide) dL_repairs_212 (by decide) ?_
            refine g_iconst C (nI 1) dL_repairs_215 (by decide) ?_
            refine g_iload C 14 dL_repairs_216 rfl ?_
            refine g_ishl C dL_repairs_218 ?_
            refine g_goto C 223 dL_repairs_219 (by decide) ?_
            refine g_ior C dL_repairs_223 ?_
            refine g_top (y := mk (mis V b) (m1 + 1)) ((mk_t hmi).symm) ?_
            refine g_istore C (L2 := [(8, .int (mk (mis V b) (m1 + 1))), (7, .int (mk (sil V b (rWA V) (rF V b)) (m1 + 1))), (6, .int (mk (ask V b (rWA V) (rF V b)) (m1 + 1))), (15, .int (nI 0)), (14, .int (nI 5)), (0, .ref (gad G1 0)), (1, .int (nI (vN V))), (2, .int (nI b)), (3, .int (nI (hcd V b))), (4, .long (fpR V)), (9, .int (rpI V b m1)), (10, .int (nI (fsN (rF V b) m1))), (11, .int (nI (tmF (los V b) (rX V b) m1))), (12, .ref (gad G1 154)), (13, .int (nI m1))]) dL_repairs_224 (by decide) rfl ?_
            refine g_iload C 4 dL_repairs_226 rfl ?_
            refine g_iconst C (nI 4) dL_repairs_228 (by decide) ?_
            refine g_icmp_ne_t C 237 (by decide) dL_repairs_229 (by decide) ?_
            refine g_iload C 10 dL_repairs_237 rfl ?_
            refine g_top (y := rpI V b (m1 + 1)) (rpI_n hrq) ?_
            refine g_istore C (L2 := [(9, .int (rpI V b (m1 + 1))), (8, .int (mk (mis V b) (m1 + 1))), (7, .int (mk (sil V b (rWA V) (rF V b)) (m1 + 1))), (6, .int (mk (ask V b (rWA V) (rF V b)) (m1 + 1))), (15, .int (nI 0)), (14, .int (nI 5)), (0, .ref (gad G1 0)), (1, .int (nI (vN V))), (2, .int (nI b)), (3, .int (nI (hcd V b))), (4, .long (fpR V)), (10, .int (nI (fsN (rF V b) m1))), (11, .int (nI (tmF (los V b) (rX V b) m1))), (12, .ref (gad G1 154)), (13, .int (nI m1))]) dL_repairs_239 (by decide) rfl ?_
            refine g_iload C 11 dL_repairs_241 rfl ?_
            refine g_iload C 5 dL_repairs_243 rfl ?_
            refine g_iconst C (nI 1) dL_repairs_245 (by decide) ?_
            refine g_icmp_ne_t C 253 (by decide) dL_repairs_246 (by decide) ?_
            refine g_iconst C (nI 0) dL_repairs_253 (by decide) ?_
            refine g_iadd_n C (d := (fsN (rF V b) m1) + 0) dL_repairs_254 rfl ?_
            refine g_top (y := nI (fsN (rF V b) (m1 + 1))) (fs_n hfq) ?_
            refine g_istore C (L2 := [(10, .int (nI (fsN (rF V b) (m1 + 1)))), (9, .int (rpI V b (m1 + 1))), (8, .int (mk (mis V b) (m1 + 1))), (7, .int (mk (sil V b (rWA V) (rF V b)) (m1 + 1))), (6, .int (mk (ask V b (rWA V) (rF V b)) (m1 + 1))), (15, .int (nI 0)), (14, .int (nI 5)), (0, .ref (gad G1 0)), (1, .int (nI (vN V))), (2, .int (nI b)), (3, .int (nI (hcd V b))), (4, .long (fpR V)), (11, .int (nI (tmF (los V b) (rX V b) m1))), (12, .ref (gad G1 154)), (13, .int (nI m1))]) dL_repairs_255 (by decide) rfl ?_
            refine g_iload C 5 dL_repairs_257 rfl ?_
            refine g_aload_n C 7 dL_repairs_259 rfl ?_
            refine g_iload C 14 dL_repairs_260 rfl ?_
            refine g_iload_n C 9 dL_repairs_262 rfl ?_
            refine g_cV1 C (As := [.int (nI m1), .int (nI b)]) (w := .int (if vLo V b m1 = true then nI 1 else nI 0)) (mem3 := u211) iX9_lost (c_X9_lost l G1 g u211 L210.1 (nI m1) (nI b)) wd_486 ob_0 rfl ⟨Nat.le_of_ble_eq_true rfl, Nat.le_of_ble_eq_true rfl⟩ ⟨rfl, rfl⟩ rfl (Nat.le_of_ble_eq_true rfl) dL_repairs_263 (congrArg Value.int (lost_n g hm2 hb)) (rfl) ?_
            refine g_iconst C (nI 1) dL_repairs_266 (by decide) ?_
            refine g_icmp_ne C 285 dL_repairs_267 (by decide) (fun c_267 => ?_) (fun c_267 => ?_)
            · refine g_iconst C (nI 0) dL_repairs_285 (by decide) ?_
              refine g_icmp_ne_f C 384 (by decide) dL_repairs_286 (by decide) ?_
              refine g_iload C 5 dL_repairs_289 rfl ?_
              refine g_aload_n C 7 dL_repairs_291 rfl ?_
              refine g_iload_n C 9 dL_repairs_292 rfl ?_
              refine g_iload C 14 dL_repairs_293 rfl ?_
              refine g_iconst C (nI 1) dL_repairs_295 (by decide) ?_
              refine g_cVf C (As := [.int (nI b), .int (nI m1), .int (nI 1)]) (v := .int (lookR V (nI b) (nI m1) (nI 1))) iX9_look (c_X9_look l G1 g u211 L210.1 (nI b) (nI m1) (nI 1)) wd_644 ob_0 rfl ⟨Nat.le_of_ble_eq_true rfl, Nat.le_of_ble_eq_true rfl⟩ ⟨rfl, rfl⟩ rfl (Nat.le_of_ble_eq_true rfl) dL_repairs_296 (fun u212 hq => ?_)
              have L213 := ls_fr L210 hq
              refine g_top (y := kNone) (look_nl g hb h0 hm2 (by decide) (by decide) hlo) ?_
              refine g_ldc C wd_626 dL_repairs_299 ?_
              refine g_icmp_ne_f C 308 (rfl) dL_repairs_301 (by decide) ?_
              refine g_iconst C (nI 1) dL_repairs_304 (by decide) ?_
              refine g_goto C 309 dL_repairs_305 (by decide) ?_
              refine g_icmp_eq_f C 384 (by decide) dL_repairs_309 (by decide) ?_
              refine g_iload C 5 dL_repairs_312 rfl ?_
              refine g_aload_n C 7 dL_repairs_314 rfl ?_
              refine g_iload_n C 9 dL_repairs_315 rfl ?_
              refine g_iload C 14 dL_repairs_316 rfl ?_
              refine g_iconst C (nI 2) dL_repairs_318 (by decide) ?_
              refine g_cVf C (As := [.int (nI b), .int (nI m1), .int (nI 2)]) (v := .int (lookR V (nI b) (nI m1) (nI 2))) iX9_look (c_X9_look l G1 g u212 L213.1 (nI b) (nI m1) (nI 2)) wd_644 ob_0 rfl ⟨Nat.le_of_ble_eq_true rfl, Nat.le_of_ble_eq_true rfl⟩ ⟨rfl, rfl⟩ rfl (Nat.le_of_ble_eq_true rfl) dL_repairs_319 (fun u214 hq => ?_)
              have L215 := ls_fr L213 hq
              refine g_top (y := kNone) (look_nl g hb h0 hm2 (by decide) (by decide) hlo) ?_
              refine g_ldc C wd_626 dL_repairs_322 ?_
              refine g_icmp_ne_f C 331 (rfl) dL_repairs_324 (by decide) ?_
              refine g_iconst C (nI 1) dL_repairs_327 (by decide) ?_
              refine g_goto C 332 dL_repairs_328 (by decide) ?_
              refine g_icmp_eq_f C 384 (by decide) dL_repairs_332 (by decide) ?_
              refine g_iload C 5 dL_repairs_335 rfl ?_
              refine g_if_eq_t C 367 (by decide) dL_repairs_337 (by decide) ?_
              refine g_iload C 6 dL_repairs_367 rfl ?_
              refine g_iconst C (nI 5) dL_repairs_369 (by decide) ?_
              refine g_icmp_ne_f C 386 (by decide) dL_repairs_370 (by decide) ?_
              refine g_aload_n C 7 dL_repairs_373 rfl ?_
              refine g_iload C 14 dL_repairs_374 rfl ?_
              refine g_iconst C (nI 2) dL_repairs_376 (by decide) ?_
              refine g_cV1 C (As := [.int (nI m1), .int (nI 2)]) (w := .int (V (32 + 12 * m1))) (mem3 := u214) iX9_member (c_X9_member l G1 g u214 L215.1 (nI m1) (nI 2)) wd_364 ob_0 rfl ⟨Nat.le_of_ble_eq_true rfl, Nat.le_of_ble_eq_true rfl⟩ ⟨rfl, rfl⟩ rfl (Nat.le_of_ble_eq_true rfl) dL_repairs_377 (congrArg Value.int (mem_n g hm2 (w := 2) (by decide) (by omega))) (rfl) ?_
              refine g_iconst C (nI 1) dL_repairs_380 (by decide) ?_
              refine g_icmp_ne_t C 386 (mis_dead g hk (by omega) hmi) dL_repairs_381 (by decide) ?_
              refine g_iload C 5 dL_repairs_386 rfl ?_
              refine g_if_eq_t C 415 (by decide) dL_repairs_388 (by decide) ?_
              refine g_iload C 12 dL_repairs_415 rfl ?_
              refine g_top (y := nI (tmF (los V b) (rX V b) (m1 + 1))) (tX_n hlo) ?_
              refine g_istore C (L2 := [(11, .int (nI (tmF (los V b) (rX V b) (m1 + 1)))), (10, .int (nI (fsN (rF V b) (m1 + 1)))), (9, .int (rpI V b (m1 + 1))), (8, .int (mk (mis V b) (m1 + 1))), (7, .int (mk (sil V b (rWA V) (rF V b)) (m1 + 1))), (6, .int (mk (ask V b (rWA V) (rF V b)) (m1 + 1))), (15, .int (nI 0)), (14, .int (nI 5)), (0, .ref (gad G1 0)), (1, .int (nI (vN V))), (2, .int (nI b)), (3, .int (nI (hcd V b))), (4, .long (fpR V)), (12, .ref (gad G1 154)), (13, .int (nI m1))]) dL_repairs_417 (by decide) rfl ?_
              refine g_iinc C (v := nI (m1 + 1)) (L2 := [(13, .int (nI (m1 + 1))), (11, .int (nI (tmF (los V b) (rX V b) (m1 + 1)))), (10, .int (nI (fsN (rF V b) (m1 + 1)))), (9, .int (rpI V b (m1 + 1))), (8, .int (mk (mis V b) (m1 + 1))), (7, .int (mk (sil V b (rWA V) (rF V b)) (m1 + 1))), (6, .int (mk (ask V b (rWA V) (rF V b)) (m1 + 1))), (15, .int (nI 0)), (14, .int (nI 5)), (0, .ref (gad G1 0)), (1, .int (nI (vN V))), (2, .int (nI b)), (3, .int (nI (hcd V b))), (4, .long (fpR V)), (12, .ref (gad G1 154))]) 14 dL_repairs_419 rfl (nI_1 _) (by decide) rfl ?_
              refine g_goto C 117 dL_repairs_422 (by decide) ?_
              refine g_loc (L2 := [(0, .ref (gad G1 0)), (1, .int (nI (vN V))), (2, .int (nI b)), (3, .int (nI (hcd V b))), (4, .long (fpR V)), (6, .int (mk (ask V b (rWA V) (rF V b)) (m1 + 1))), (7, .int (mk (sil V b (rWA V) (rF V b)) (m1 + 1))), (8, .int (mk (mis V b) (m1 + 1))), (9, .int (rpI V b (m1 + 1))), (10, .int (nI (fsN (rF V b) (m1 + 1)))), (11, .int (nI (tmF (los V b) (rX V b) (m1 + 1)))), (12, .ref (gad G1 154)), (13, .int (nI (m1 + 1)))]) [9, 10, 11, 12, 13, 6, 5, 4, 3, 2, 1, 14, 0] rfl ?_
              exact g_eq (ih_117 (m1 + 1) u214 (hm2) (L215) (by omega)) (rfl) (rfl) rfl
            · refine g_aload_n C 7 dL_repairs_270 rfl ?_
              refine g_iload C 14 dL_repairs_271 rfl ?_
              refine g_iconst C (nI 2) dL_repairs_273 (by decide) ?_
              refine g_cV1 C (As := [.int (nI m1), .int (nI 2)]) (w := .int (V (32 + 12 * m1))) (mem3 := u211) iX9_member (c_X9_member l G1 g u211 L210.1 (nI m1) (nI 2)) wd_364 ob_0 rfl ⟨Nat.le_of_ble_eq_true rfl, Nat.le_of_ble_eq_true rfl⟩ ⟨rfl, rfl⟩ rfl (Nat.le_of_ble_eq_true rfl) dL_repairs_274 (congrArg Value.int (mem_n g hm2 (w := 2) (by decide) (by omega))) (rfl) ?_
              refine g_iconst C (nI 1) dL_repairs_277 (by decide) ?_
              refine g_icmp_ne_t C 285 (lo_lv hlo c_267) dL_repairs_278 (by decide) ?_
              refine g_iconst C (nI 0) dL_repairs_285 (by decide) ?_
              refine g_icmp_ne_f C 384 (by decide) dL_repairs_286 (by decide) ?_
              refine g_iload C 5 dL_repairs_289 rfl ?_
              refine g_aload_n C 7 dL_repairs_291 rfl ?_
              refine g_iload_n C 9 dL_repairs_292 rfl ?_
              refine g_iload C 14 dL_repairs_293 rfl ?_
              refine g_iconst C (nI 1) dL_repairs_295 (by decide) ?_
              refine g_cVf C (As := [.int (nI b), .int (nI m1), .int (nI 1)]) (v := .int (lookR V (nI b) (nI m1) (nI 1))) iX9_look (c_X9_look l G1 g u211 L210.1 (nI b) (nI m1) (nI 1)) wd_644 ob_0 rfl ⟨Nat.le_of_ble_eq_true rfl, Nat.le_of_ble_eq_true rfl⟩ ⟨rfl, rfl⟩ rfl (Nat.le_of_ble_eq_true rfl) dL_repairs_296 (fun u216 hq => ?_)
              have L217 := ls_fr L210 hq
              refine g_top (y := kNone) (look_nl g hb h0 hm2 (by decide) (by decide) hlo) ?_
              refine g_ldc C wd_626 dL_repairs_299 ?_
              refine g_icmp_ne_f C 308 (rfl) dL_repairs_301 (by decide) ?_
              refine g_iconst C (nI 1) dL_repairs_304 (by decide) ?_
              refine g_goto C 309 dL_repairs_305 (by decide) ?_
              refine g_icmp_eq_f C 384 (by decide) dL_repairs_309 (by decide) ?_
              refine g_iload C 5 dL_repairs_312 rfl ?_
              refine g_aload_n C 7 dL_repairs_314 rfl ?_
              refine g_iload_n C 9 dL_repairs_315 rfl ?_
              refine g_iload C 14 dL_repairs_316 rfl ?_
              refine g_iconst C (nI 2) dL_repairs_318 (by decide) ?_
              refine g_cVf C (As := [.int (nI b), .int (nI m1), .int (nI 2)]) (v := .int (lookR V (nI b) (nI m1) (nI 2))) iX9_look (c_X9_look l G1 g u216 L217.1 (nI b) (nI m1) (nI 2)) wd_644 ob_0 rfl ⟨Nat.le_of_ble_eq_true rfl, Nat.le_of_ble_eq_true rfl⟩ ⟨rfl, rfl⟩ rfl (Nat.le_of_ble_eq_true rfl) dL_repairs_319 (fun u218 hq => ?_)
              have L219 := ls_fr L217 hq
              refine g_top (y := kNone) (look_nl g hb h0 hm2 (by decide) (by decide) hlo) ?_
              refine g_ldc C wd_626 dL_repairs_322 ?_
              refine g_icmp_ne_f C 331 (rfl) dL_repairs_324 (by decide) ?_
              refine g_iconst C (nI 1) dL_repairs_327 (by decide) ?_
              refine g_goto C 332 dL_repairs_328 (by decide) ?_
              refine g_icmp_eq_f C 384 (by decide) dL_repairs_332 (by decide) ?_
              refine g_iload C 5 dL_repairs_335 rfl ?_
              refine g_if_eq_t C 367 (by decide) dL_repairs_337 (by decide) ?_
              refine g_iload C 6 dL_repairs_367 rfl ?_
              refine g_iconst C (nI 5) dL_repairs_369 (by decide) ?_
              refine g_icmp_ne_f C 386 (by decide) dL_repairs_370 (by decide) ?_
              refine g_aload_n C 7 dL_repairs_373 rfl ?_
              refine g_iload C 14 dL_repairs_374 rfl ?_
              refine g_iconst C (nI 2) dL_repairs_376 (by decide) ?_
              refine g_cV1 C (As := [.int (nI m1), .int (nI 2)]) (w := .int (V (32 + 12 * m1))) (mem3 := u218) iX9_member (c_X9_member l G1 g u218 L219.1 (nI m1) (nI 2)) wd_364 ob_0 rfl ⟨Nat.le_of_ble_eq_true rfl, Nat.le_of_ble_eq_true rfl⟩ ⟨rfl, rfl⟩ rfl (Nat.le_of_ble_eq_true rfl) dL_repairs_377 (congrArg Value.int (mem_n g hm2 (w := 2) (by decide) (by omega))) (rfl) ?_
              refine g_iconst C (nI 1) dL_repairs_380 (by decide) ?_
              refine g_icmp_ne_t C 386 (mis_dead g hk (by omega) hmi) dL_repairs_381 (by decide) ?_
              refine g_iload C 5 dL_repairs_386 rfl ?_
              refine g_if_eq_t C 415 (by decide) dL_repairs_388 (by decide) ?_
              refine g_iload C 12 dL_repairs_415 rfl ?_
              refine g_top (y := nI (tmF (los V b) (rX V b) (m1 + 1))) (tX_n hlo) ?_
              refine g_istore C (L2 := [(11, .int (nI (tmF (los V b) (rX V b) (m1 + 1)))), (10, .int (nI (fsN (rF V b) (m1 + 1)))), (9, .int (rpI V b (m1 + 1))), (8, .int (mk (mis V b) (m1 + 1))), (7, .int (mk (sil V b (rWA V) (rF V b)) (m1 + 1))), (6, .int (mk (ask V b (rWA V) (rF V b)) (m1 + 1))), (15, .int (nI 0)), (14, .int (nI 5)), (0, .ref (gad G1 0)), (1, .int (nI (vN V))), (2, .int (nI b)), (3, .int (nI (hcd V b))), (4, .long (fpR V)), (12, .ref (gad G1 154)), (13, .int (nI m1))]) dL_repairs_417 (by decide) rfl ?_
              refine g_iinc C (v := nI (m1 + 1)) (L2 := [(13, .int (nI (m1 + 1))), (11, .int (nI (tmF (los V b) (rX V b) (m1 + 1)))), (10, .int (nI (fsN (rF V b) (m1 + 1)))), (9, .int (rpI V b (m1 + 1))), (8, .int (mk (mis V b) (m1 + 1))), (7, .int (mk (sil V b (rWA V) (rF V b)) (m1 + 1))), (6, .int (mk (ask V b (rWA V) (rF V b)) (m1 + 1))), (15, .int (nI 0)), (14, .int (nI 5)), (0, .ref (gad G1 0)), (1, .int (nI (vN V))), (2, .int (nI b)), (3, .int (nI (hcd V b))), (4, .long (fpR V)), (12, .ref (gad G1 154))]) 14 dL_repairs_419 rfl (nI_1 _) (by decide) rfl ?_
              refine g_goto C 117 dL_repairs_422 (by decide) ?_
              refine g_loc (L2 := [(0, .ref (gad G1 0)), (1, .int (nI (vN V))), (2, .int (nI b)), (3, .int (nI (hcd V b))), (4, .long (fpR V)), (6, .int (mk (ask V b (rWA V) (rF V b)) (m1 + 1))), (7, .int (mk (sil V b (rWA V) (rF V b)) (m1 + 1))), (8, .int (mk (mis V b) (m1 + 1))), (9, .int (rpI V b (m1 + 1))), (10, .int (nI (fsN (rF V b) (m1 + 1)))), (11, .int (nI (tmF (los V b) (rX V b) (m1 + 1)))), (12, .ref (gad G1 154)), (13, .int (nI (m1 + 1)))]) [9, 10, 11, 12, 13, 6, 5, 4, 3, 2, 1, 14, 0] rfl ?_
              exact g_eq (ih_117 (m1 + 1) u218 (hm2) (L219) (by omega)) (rfl) (rfl) rfl
          · refine g_iload_n C 2 dL_repairs_124 rfl ?_
            refine g_iload C 12 dL_repairs_125 rfl ?_
            refine g_iconst C (nI 0) dL_repairs_127 (by decide) ?_
            refine g_cVf C (As := [.int (nI b), .int (nI m1), .int (nI 0)]) (v := .int (lookR V (nI b) (nI m1) (nI 0))) iX9_look (c_X9_look l G1 g M1 LM.1 (nI b) (nI m1) (nI 0)) wd_644 ob_0 rfl ⟨Nat.le_of_ble_eq_true rfl, Nat.le_of_ble_eq_true rfl⟩ ⟨rfl, rfl⟩ rfl (Nat.le_of_ble_eq_true rfl) dL_repairs_128 (fun u220 hq => ?_)
            have L221 := ls_fr LM hq
            refine g_top (y := nI 0) (look_0 g hb h0 hm2 hro) ?_
            refine g_istore C (L2 := [(14, .int (nI 0)), (0, .ref (gad G1 0)), (1, .int (nI (vN V))), (2, .int (nI b)), (3, .int (nI (hcd V b))), (4, .long (fpR V)), (6, .int (mk (ask V b (rWA V) (rF V b)) m1)), (7, .int (mk (sil V b (rWA V) (rF V b)) m1)), (8, .int (mk (mis V b) m1)), (9, .int (rpI V b m1)), (10, .int (nI (fsN (rF V b) m1))), (11, .int (nI (tmF (los V b) (rX V b) m1))), (12, .ref (gad G1 154)), (13, .int (nI m1))]) dL_repairs_131 (by decide) rfl ?_
            refine g_iload C 0 dL_repairs_133 rfl ?_
            refine g_if_le_t C 148 (by decide) dL_repairs_135 (by decide) ?_
            refine g_iconst C (nI 0) dL_repairs_148 (by decide) ?_
            refine g_istore C (L2 := [(15, .int (nI 0)), (14, .int (nI 0)), (0, .ref (gad G1 0)), (1, .int (nI (vN V))), (2, .int (nI b)), (3, .int (nI (hcd V b))), (4, .long (fpR V)), (6, .int (mk (ask V b (rWA V) (rF V b)) m1)), (7, .int (mk (sil V b (rWA V) (rF V b)) m1)), (8, .int (mk (mis V b) m1)), (9, .int (rpI V b m1)), (10, .int (nI (fsN (rF V b) m1))), (11, .int (nI (tmF (los V b) (rX V b) m1))), (12, .ref (gad G1 154)), (13, .int (nI m1))]) dL_repairs_149 (by decide) rfl ?_
            refine g_aload C 13 dL_repairs_151 rfl ?_
            refine g_iload C 14 dL_repairs_153 rfl ?_
            refine g_aload_n C 2 dL_repairs_155 rfl ?_
            refine g_iload C 14 dL_repairs_156 rfl ?_
            refine g_iconst C (nI 3) dL_repairs_158 (by decide) ?_
            refine g_cV1 C (As := [.int (nI m1), .int (nI 3)]) (w := .int (V (33 + 12 * m1))) (mem3 := u220) iX9_member (c_X9_member l G1 g u220 L221.1 (nI m1) (nI 3)) wd_364 ob_0 rfl ⟨Nat.le_of_ble_eq_true rfl, Nat.le_of_ble_eq_true rfl⟩ ⟨rfl, rfl⟩ rfl (Nat.le_of_ble_eq_true rfl) dL_repairs_159 (congrArg Value.int (mem_n g hm2 (w := 3) (by decide) (by omega))) (rfl) ?_
            refine g_xast C (j := m1) (gx_at x1 (k := 0) (by decide)) (by omega) dL_repairs_162 ?_
            have L222 : kLS T V Vs h (cpy (m1 + 1) (fun q => V (33 + 12 * q)) (fun _ => 0)) B (gr u220 154 (upd (u220 154) m1 (V (33 + 12 * m1)))) := ls_ast L221 (cpy_s rfl)
            generalize gr u220 154 (upd (u220 154) m1 (V (33 + 12 * m1))) = u223 at L222 ⊢
            refine g_iload C 7 dL_repairs_163 rfl ?_
            refine g_iload C 1 dL_repairs_165 rfl ?_
            refine g_iconst C (nI 1) dL_repairs_167 (by decide) ?_
            refine g_icmp_eq_f C 177 (by decide) dL_repairs_168 (by decide) ?_
            refine g_iload C 1 dL_repairs_171 rfl ?_
            refine g_iconst C (nI 2) dL_repairs_173 (by decide) ?_
            refine g_icmp_ne_t C 184 (by decide) dL_repairs_174 (by decide) ?_
            refine g_iconst C (nI 0) dL_repairs_184 (by decide) ?_
            refine g_ior C dL_repairs_185 ?_
            refine g_top (y := mk (ask V b (rWA V) (rF V b)) (m1 + 1)) (or_0 ha) ?_
            refine g_istore C (L2 := [(6, .int (mk (ask V b (rWA V) (rF V b)) (m1 + 1))), (15, .int (nI 0)), (14, .int (nI 0)), (0, .ref (gad G1 0)), (1, .int (nI (vN V))), (2, .int (nI b)), (3, .int (nI (hcd V b))), (4, .long (fpR V)), (7, .int (mk (sil V b (rWA V) (rF V b)) m1)), (8, .int (mk (mis V b) m1)), (9, .int (rpI V b m1)), (10, .int (nI (fsN (rF V b) m1))), (11, .int (nI (tmF (los V b) (rX V b) m1))), (12, .ref (gad G1 154)), (13, .int (nI m1))]) dL_repairs_186 (by decide) rfl ?_
            refine g_iload C 8 dL_repairs_188 rfl ?_
            refine g_iload C 2 dL_repairs_190 rfl ?_
            refine g_iconst C (nI 3) dL_repairs_192 (by decide) ?_
            refine g_icmp_ne_t C 203 (by decide) dL_repairs_193 (by decide) ?_
            refine g_iconst C (nI 0) dL_repairs_203 (by decide) ?_
            refine g_ior C dL_repairs_204 ?_
            refine g_top (y := mk (sil V b (rWA V) (rF V b)) (m1 + 1)) (or_0 hsl) ?_
            refine g_istore C (L2 := [(7, .int (mk (sil V b (rWA V) (rF V b)) (m1 + 1))), (6, .int (mk (ask V b (rWA V) (rF V b)) (m1 + 1))), (15, .int (nI 0)), (14, .int (nI 0)), (0, .ref (gad G1 0)), (1, .int (nI (vN V))), (2, .int (nI b)), (3, .int (nI (hcd V b))), (4, .long (fpR V)), (8, .int (mk (mis V b) m1)), (9, .int (rpI V b m1)), (10, .int (nI (fsN (rF V b) m1))), (11, .int (nI (tmF (los V b) (rX V b) m1))), (12, .ref (gad G1 154)), (13, .int (nI m1))]) dL_repairs_205 (by decide) rfl ?_
            refine g_iload C 9 dL_repairs_207 rfl ?_
            refine g_iload C 3 dL_repairs_209 rfl ?_
            refine g_iconst C (nI 5) dL_repairs_211 (by decide) ?_
            refine g_icmp_ne_t C 222 (by decide) dL_repairs_212 (by decide) ?_
            refine g_iconst C (nI 0) dL_repairs_222 (by decide) ?_
            refine g_ior C dL_repairs_223 ?_
            refine g_top (y := mk (mis V b) (m1 + 1)) (or_0 hmi) ?_
            refine g_istore C (L2 := [(8, .int (mk (mis V b) (m1 + 1))), (7, .int (mk (sil V b (rWA V) (rF V b)) (m1 + 1))), (6, .int (mk (ask V b (rWA V) (rF V b)) (m1 + 1))), (15, .int (nI 0)), (14, .int (nI 0)), (0, .ref (gad G1 0)), (1, .int (nI (vN V))), (2, .int (nI b)), (3, .int (nI (hcd V b))), (4, .long (fpR V)), (9, .int (rpI V b m1)), (10, .int (nI (fsN (rF V b) m1))), (11, .int (nI (tmF (los V b) (rX V b) m1))), (12, .ref (gad G1 154)), (13, .int (nI m1))]) dL_repairs_224 (by decide) rfl ?_
            refine g_iload C 4 dL_repairs_226 rfl ?_
            refine g_iconst C (nI 4) dL_repairs_228 (by decide) ?_
            refine g_icmp_ne_t C 237 (by decide) dL_repairs_229 (by decide) ?_
            refine g_iload C 10 dL_repairs_237 rfl ?_
            refine g_top (y := rpI V b (m1 + 1)) (rpI_n hrq) ?_
            refine g_istore C (L2 := [(9, .int (rpI V b (m1 + 1))), (8, .int (mk (mis V b) (m1 + 1))), (7, .int (mk (sil V b (rWA V) (rF V b)) (m1 + 1))), (6, .int (mk (ask V b (rWA V) (rF V b)) (m1 + 1))), (15, .int (nI 0)), (14, .int (nI 0)), (0, .ref (gad G1 0)), (1, .int (nI (vN V))), (2, .int (nI b)), (3, .int (nI (hcd V b))), (4, .long (fpR V)), (10, .int (nI (fsN (rF V b) m1))), (11, .int (nI (tmF (los V b) (rX V b) m1))), (12, .ref (gad G1 154)), (13, .int (nI m1))]) dL_repairs_239 (by decide) rfl ?_
            refine g_iload C 11 dL_repairs_241 rfl ?_
            refine g_iload C 5 dL_repairs_243 rfl ?_
            refine g_iconst C (nI 1) dL_repairs_245 (by decide) ?_
            refine g_icmp_ne_t C 253 (by decide) dL_repairs_246 (by decide) ?_
            refine g_iconst C (nI 0) dL_repairs_253 (by decide) ?_
            refine g_iadd_n C (d := (fsN (rF V b) m1) + 0) dL_repairs_254 rfl ?_
            refine g_top (y := nI (fsN (rF V b) (m1 + 1))) (fs_n hfq) ?_
            refine g_istore C (L2 := [(10, .int (nI (fsN (rF V b) (m1 + 1)))), (9, .int (rpI V b (m1 + 1))), (8, .int (mk (mis V b) (m1 + 1))), (7, .int (mk (sil V b (rWA V) (rF V b)) (m1 + 1))), (6, .int (mk (ask V b (rWA V) (rF V b)) (m1 + 1))), (15, .int (nI 0)), (14, .int (nI 0)), (0, .ref (gad G1 0)), (1, .int (nI (vN V))), (2, .int (nI b)), (3, .int (nI (hcd V b))), (4, .long (fpR V)), (11, .int (nI (tmF (los V b) (rX V b) m1))), (12, .ref (gad G1 154)), (13, .int (nI m1))]) dL_repairs_255 (by decide) rfl ?_
            refine g_iload C 5 dL_repairs_257 rfl ?_
            refine g_aload_n C 7 dL_repairs_259 rfl ?_
            refine g_iload C 14 dL_repairs_260 rfl ?_
            refine g_iload_n C 9 dL_repairs_262 rfl ?_
            refine g_cV1 C (As := [.int (nI m1), .int (nI b)]) (w := .int (if vLo V b m1 = true then nI 1 else nI 0)) (mem3 := u223) iX9_lost (c_X9_lost l G1 g u223 L222.1 (nI m1) (nI b)) wd_486 ob_0 rfl ⟨Nat.le_of_ble_eq_true rfl, Nat.le_of_ble_eq_true rfl⟩ ⟨rfl, rfl⟩ rfl (Nat.le_of_ble_eq_true rfl) dL_repairs_263 (congrArg Value.int (lost_n g hm2 hb)) (rfl) ?_
            refine g_iconst C (nI 1) dL_repairs_266 (by decide) ?_
            refine g_icmp_ne C 285 dL_repairs_267 (by decide) (fun c_267 => ?_) (fun c_267 => ?_)
            · refine g_iconst C (nI 0) dL_repairs_285 (by decide) ?_
              refine g_icmp_ne_f C 384 (by decide) dL_repairs_286 (by decide) ?_
              refine g_iload C 5 dL_repairs_289 rfl ?_
              refine g_aload_n C 7 dL_repairs_291 rfl ?_
              refine g_iload_n C 9 dL_repairs_292 rfl ?_
              refine g_iload C 14 dL_repairs_293 rfl ?_
              refine g_iconst C (nI 1) dL_repairs_295 (by decide) ?_
              refine g_cVf C (As := [.int (nI b), .int (nI m1), .int (nI 1)]) (v := .int (lookR V (nI b) (nI m1) (nI 1))) iX9_look (c_X9_look l G1 g u223 L222.1 (nI b) (nI m1) (nI 1)) wd_644 ob_0 rfl ⟨Nat.le_of_ble_eq_true rfl, Nat.le_of_ble_eq_true rfl⟩ ⟨rfl, rfl⟩ rfl (Nat.le_of_ble_eq_true rfl) dL_repairs_296 (fun u224 hq => ?_)
              have L225 := ls_fr L222 hq
              refine g_top (y := kNone) (look_nl g hb h0 hm2 (by decide) (by decide) hlo) ?_
              refine g_ldc C wd_626 dL_repairs_299 ?_
              refine g_icmp_ne_f C 308 (rfl) dL_repairs_301 (by decide) ?_
              refine g_iconst C (nI 1) dL_repairs_304 (by decide) ?_
              refine g_goto C 309 dL_repairs_305 (by decide) ?_
              refine g_icmp_eq_f C 384 (by decide) dL_repairs_309 (by decide) ?_
              refine g_iload C 5 dL_repairs_312 rfl ?_
              refine g_aload_n C 7 dL_repairs_314 rfl ?_
              refine g_iload_n C 9 dL_repairs_315 rfl ?_
              refine g_iload C 14 dL_repairs_316 rfl ?_
              refine g_iconst C (nI 2) dL_repairs_318 (by decide) ?_
              refine g_cVf C (As := [.int (nI b), .int (nI m1), .int (nI 2)]) (v := .int (lookR V (nI b) (nI m1) (nI 2))) iX9_look (c_X9_look l G1 g u224 L225.1 (nI b) (nI m1) (nI 2)) wd_644 ob_0 rfl ⟨Nat.le_of_ble_eq_true rfl, Nat.le_of_ble_eq_true rfl⟩ ⟨rfl, rfl⟩ rfl (Nat.le_of_ble_eq_true rfl) dL_repairs_319 (fun u226 hq => ?_)
              have L227 := ls_fr L225 hq
              refine g_top (y := kNone) (look_nl g hb h0 hm2 (by decide) (by decide) hlo) ?_
              refine g_ldc C wd_626 dL_repairs_322 ?_
              refine g_icmp_ne_f C 331 (rfl) dL_repairs_324 (by decide) ?_
              refine g_iconst C (nI 1) dL_repairs_327 (by decide) ?_
              refine g_goto C 332 dL_repairs_328 (by decide) ?_
              refine g_icmp_eq_f C 384 (by decide) dL_repairs_332 (by decide) ?_
              refine g_iload C 5 dL_repairs_335 rfl ?_
              refine g_if_eq_t C 367 (by decide) dL_repairs_337 (by decide) ?_
              refine g_iload C 6 dL_repairs_367 rfl ?_
              refine g_iconst C (nI 5) dL_repairs_369 (by decide) ?_
              refine g_icmp_ne_t C 386 (by decide) dL_repairs_370 (by decide) ?_
              refine g_iload C 5 dL_repairs_386 rfl ?_
              refine g_if_eq_t C 415 (by decide) dL_repairs_388 (by decide) ?_
              refine g_iload C 12 dL_repairs_415 rfl ?_
              refine g_top (y := nI (tmF (los V b) (rX V b) (m1 + 1))) (tX_n hlo) ?_
              refine g_istore C (L2 := [(11, .int (nI (tmF (los V b) (rX V b) (m1 + 1)))), (10, .int (nI (fsN (rF V b) (m1 + 1)))), (9, .int (rpI V b (m1 + 1))), (8, .int (mk (mis V b) (m1 + 1))), (7, .int (mk (sil V b (rWA V) (rF V b)) (m1 + 1))), (6, .int (mk (ask V b (rWA V) (rF V b)) (m1 + 1))), (15, .int (nI 0)), (14, .int (nI 0)), (0, .ref (gad G1 0)), (1, .int (nI (vN V))), (2, .int (nI b)), (3, .int (nI (hcd V b))), (4, .long (fpR V)), (12, .ref (gad G1 154)), (13, .int (nI m1))]) dL_repairs_417 (by decide) rfl ?_
              refine g_iinc C (v := nI (m1 + 1)) (L2 := [(13, .int (nI (m1 + 1))), (11, .int (nI (tmF (los V b) (rX V b) (m1 + 1)))), (10, .int (nI (fsN (rF V b) (m1 + 1)))), (9, .int (rpI V b (m1 + 1))), (8, .int (mk (mis V b) (m1 + 1))), (7, .int (mk (sil V b (rWA V) (rF V b)) (m1 + 1))), (6, .int (mk (ask V b (rWA V) (rF V b)) (m1 + 1))), (15, .int (nI 0)), (14, .int (nI 0)), (0, .ref (gad G1 0)), (1, .int (nI (vN V))), (2, .int (nI b)), (3, .int (nI (hcd V b))), (4, .long (fpR V)), (12, .ref (gad G1 154))]) 14 dL_repairs_419 rfl (nI_1 _) (by decide) rfl ?_
              refine g_goto C 117 dL_repairs_422 (by decide) ?_
              refine g_loc (L2 := [(0, .ref (gad G1 0)), (1, .int (nI (vN V))), (2, .int (nI b)), (3, .int (nI (hcd V b))), (4, .long (fpR V)), (6, .int (mk (ask V b (rWA V) (rF V b)) (m1 + 1))), (7, .int (mk (sil V b (rWA V) (rF V b)) (m1 + 1))), (8, .int (mk (mis V b) (m1 + 1))), (9, .int (rpI V b (m1 + 1))), (10, .int (nI (fsN (rF V b) (m1 + 1)))), (11, .int (nI (tmF (los V b) (rX V b) (m1 + 1)))), (12, .ref (gad G1 154)), (13, .int (nI (m1 + 1)))]) [9, 10, 11, 12, 13, 6, 5, 4, 3, 2, 1, 14, 0] rfl ?_
              exact g_eq (ih_117 (m1 + 1) u226 (hm2) (L227) (by omega)) (rfl) (rfl) rfl
            · refine g_aload_n C 7 dL_repairs_270 rfl ?_
              refine g_iload C 14 dL_repairs_271 rfl ?_
              refine g_iconst C (nI 2) dL_repairs_273 (by decide) ?_
              refine g_cV1 C (As := [.int (nI m1), .int (nI 2)]) (w := .int (V (32 + 12 * m1))) (mem3 := u223) iX9_member (c_X9_member l G1 g u223 L222.1 (nI m1) (nI 2)) wd_364 ob_0 rfl ⟨Nat.le_of_ble_eq_true rfl, Nat.le_of_ble_eq_true rfl⟩ ⟨rfl, rfl⟩ rfl (Nat.le_of_ble_eq_true rfl) dL_repairs_274 (congrArg Value.int (mem_n g hm2 (w := 2) (by decide) (by omega))) (rfl) ?_
              refine g_iconst C (nI 1) dL_repairs_277 (by decide) ?_
              refine g_icmp_ne_t C 285 (lo_lv hlo c_267) dL_repairs_278 (by decide) ?_
              refine g_iconst C (nI 0) dL_repairs_285 (by decide) ?_
              refine g_icmp_ne_f C 384 (by decide) dL_repairs_286 (by decide) ?_
              refine g_iload C 5 dL_repairs_289 rfl ?_
              refine g_aload_n C 7 dL_repairs_291 rfl ?_
              refine g_iload_n C 9 dL_repairs_292 rfl ?_
              refine g_iload C 14 dL_repairs_293 rfl ?_
              refine g_iconst C (nI 1) dL_repairs_295 (by decide) ?_
              refine g_cVf C (As := [.int (nI b), .int (nI m1), .int (nI 1)]) (v := .int (lookR V (nI b) (nI m1) (nI 1))) iX9_look (c_X9_look l G1 g u223 L222.1 (nI b) (nI m1) (nI 1)) wd_644 ob_0 rfl ⟨Nat.le_of_ble_eq_true rfl, Nat.le_of_ble_eq_true rfl⟩ ⟨rfl, rfl⟩ rfl (Nat.le_of_ble_eq_true rfl) dL_repairs_296 (fun u228 hq => ?_)
              have L229 := ls_fr L222 hq
              refine g_top (y := kNone) (look_nl g hb h0 hm2 (by decide) (by decide) hlo) ?_
              refine g_ldc C wd_626 dL_repairs_299 ?_
              refine g_icmp_ne_f C 308 (rfl) dL_repairs_301 (by decide) ?_
              refine g_iconst C (nI 1) dL_repairs_304 (by decide) ?_
              refine g_goto C 309 dL_repairs_305 (by decide) ?_
              refine g_icmp_eq_f C 384 (by decide) dL_repairs_309 (by decide) ?_
              refine g_iload C 5 dL_repairs_312 rfl ?_
              refine g_aload_n C 7 dL_repairs_314 rfl ?_
              refine g_iload_n C 9 dL_repairs_315 rfl ?_
              refine g_iload C 14 dL_repairs_316 rfl ?_
              refine g_iconst C (nI 2) dL_repairs_318 (by decide) ?_
              refine g_cVf C (As := [.int (nI b), .int (nI m1), .int (nI 2)]) (v := .int (lookR V (nI b) (nI m1) (nI 2))) iX9_look (c_X9_look l G1 g u228 L229.1 (nI b) (nI m1) (nI 2)) wd_644 ob_0 rfl ⟨Nat.le_of_ble_eq_true rfl, Nat.le_of_ble_eq_true rfl⟩ ⟨rfl, rfl⟩ rfl (Nat.le_of_ble_eq_true rfl) dL_repairs_319 (fun u230 hq => ?_)
              have L231 := ls_fr L229 hq
              refine g_top (y := kNone) (look_nl g hb h0 hm2 (by decide) (by decide) hlo) ?_
              refine g_ldc C wd_626 dL_repairs_322 ?_
              refine g_icmp_ne_f C 331 (rfl) dL_repairs_324 (by decide) ?_
              refine g_iconst C (nI 1) dL_repairs_327 (by decide) ?_
              refine g_goto C 332 dL_repairs_328 (by decide) ?_
              refine g_icmp_eq_f C 384 (by decide) dL_repairs_332 (by decide) ?_
              refine g_iload C 5 dL_repairs_335 rfl ?_
              refine g_if_eq_t C 367 (by decide) dL_repairs_337 (by decide) ?_
              refine g_iload C 6 dL_repairs_367 rfl ?_
              refine g_iconst C (nI 5) dL_repairs_369 (by decide) ?_
              refine g_icmp_ne_t C 386 (by decide) dL_repairs_370 (by decide) ?_
              refine g_iload C 5 dL_repairs_386 rfl ?_
              refine g_if_eq_t C 415 (by decide) dL_repairs_388 (by decide) ?_
              refine g_iload C 12 dL_repairs_415 rfl ?_
              refine g_top (y := nI (tmF (los V b) (rX V b) (m1 + 1))) (tX_n hlo) ?_
              refine g_istore C (L2 := [(11, .int (nI (tmF (los V b) (rX V b) (m1 + 1)))), (10, .int (nI (fsN (rF V b) (m1 + 1)))), (9, .int (rpI V b (m1 + 1))), (8, .int (mk (mis V b) (m1 + 1))), (7, .int (mk (sil V b (rWA V) (rF V b)) (m1 + 1))), (6, .int (mk (ask V b (rWA V) (rF V b)) (m1 + 1))), (15, .int (nI 0)), (14, .int (nI 0)), (0, .ref (gad G1 0)), (1, .int (nI (vN V))), (2, .int (nI b)), (3, .int (nI (hcd V b))), (4, .long (fpR V)), (12, .ref (gad G1 154)), (13, .int (nI m1))]) dL_repairs_417 (by decide) rfl ?_
              refine g_iinc C (v := nI (m1 + 1)) (L2 := [(13, .int (nI (m1 + 1))), (11, .int (nI (tmF (los V b) (rX V b) (m1 + 1)))), (10, .int (nI (fsN (rF V b) (m1 + 1)))), (9, .int (rpI V b (m1 + 1))), (8, .int (mk (mis V b) (m1 + 1))), (7, .int (mk (sil V b (rWA V) (rF V b)) (m1 + 1))), (6, .int (mk (ask V b (rWA V) (rF V b)) (m1 + 1))), (15, .int (nI 0)), (14, .int (nI 0)), (0, .ref (gad G1 0)), (1, .int (nI (vN V))), (2, .int (nI b)), (3, .int (nI (hcd V b))), (4, .long (fpR V)), (12, .ref (gad G1 154))]) 14 dL_repairs_419 rfl (nI_1 _) (by decide) rfl ?_
              refine g_goto C 117 dL_repairs_422 (by decide) ?_
              refine g_loc (L2 := [(0, .ref (gad G1 0)), (1, .int (nI (vN V))), (2, .int (nI b)), (3, .int (nI (hcd V b))), (4, .long (fpR V)), (6, .int (mk (ask V b (rWA V) (rF V b)) (m1 + 1))), (7, .int (mk (sil V b (rWA V) (rF V b)) (m1 + 1))), (8, .int (mk (mis V b) (m1 + 1))), (9, .int (rpI V b (m1 + 1))), (10, .int (nI (fsN (rF V b) (m1 + 1)))), (11, .int (nI (tmF (los V b) (rX V b) (m1 + 1)))), (12, .ref (gad G1 154)), (13, .int (nI (m1 + 1)))]) [9, 10, 11, 12, 13, 6, 5, 4, 3, 2, 1, 14, 0] rfl ?_
              exact g_eq (ih_117 (m1 + 1) u230 (hm2) (L231) (by omega)) (rfl) (rfl) rfl
    refine g_loc (L2 := [(0, .ref (gad G1 0)), (1, .int (nI (vN V))), (2, .int (nI b)), (3, .int (nI (hcd V b))), (4, .long (fpR V)), (6, .int (nI 0)), (7, .int (nI 0)), (8, .int (nI 0)), (9, .int ((-1) : Int32)), (10, .int (nI 0)), (11, .int (nI 0)), (12, .ref (gad G1 154)), (13, .int (nI 0))]) [10, 11, 12, 9, 8, 7, 6, 5, 4, 3, 2, 1, 0] rfl ?_
    exact g_eq (lp_117 (_ + 1) 0 u133 (Nat.zero_le _) (by rw [cpy_0]; exact L132) (Nat.lt_succ_self _)) (rfl) (gLc rfl (gLc rfl (gLc rfl (gLc rfl (gLc rfl (gLc (congrArg Value.int (rfl)) (gLc (congrArg Value.int (rfl)) (gLc (congrArg Value.int (rfl)) (gLc (congrArg Value.int (by rw [rpI, if_neg (Nat.not_lt_zero _)])) (gLc (congrArg Value.int (by rw [fsN, if_neg (Nat.not_lt_zero _)])) (gLc (congrArg Value.int (rfl)) (rfl)))))))))))) rfl
  · have h0 : ¬ hcd V b = 0 := fun q => c_13 (by rw [q]; rfl)
    have h3 := hcd_le (V := V) (b := b)
    refine g_aload_n C 2 dL_repairs_16 rfl ?_
    refine g_iload_n C 4 dL_repairs_17 rfl ?_
    refine g_cVr C (As := [.int (nI b)]) iX9_repair (c_X9_repair l G g u130 L131.1 L131.2.1.choose_spec hT1 (nI b)) wd_640 ob_0 rfl ⟨Nat.le_of_ble_eq_true rfl, Nat.le_of_ble_eq_true rfl⟩ ⟨rfl, rfl⟩ rfl (Nat.le_of_ble_eq_true rfl) dL_repairs_18 (fun r235 u232 hq => ?_)
    rw [toN_nI (show b < 2 ^ 31 by omega)] at hq
    obtain ⟨e234, L233⟩ := ax_no L131 hq (fun q => h0 q.2)
    have e234 : r235 = kState := e234.trans (if_pos (blkP_of hb))
    subst e234
    refine g_ldc C wd_661 dL_repairs_21 ?_
    refine g_icmp_ne_f C 88 (rfl) dL_repairs_23 (by decide) ?_
    refine g_aload_n C 2 dL_repairs_26 rfl ?_
    refine g_iload_n C 4 dL_repairs_27 rfl ?_
    refine g_iconst C (nI 0) dL_repairs_28 (by decide) ?_
    refine g_iconst C (nI 0) dL_repairs_29 (by decide) ?_
    refine g_cVf C (As := [.int (nI b), .int (nI 0), .int (nI 0)]) (v := .int (lookR V (nI b) (nI 0) (nI 0))) iX9_look (c_X9_look l G g u232 L233.1 (nI b) (nI 0) (nI 0)) wd_644 ob_0 rfl ⟨Nat.le_of_ble_eq_true rfl, Nat.le_of_ble_eq_true rfl⟩ ⟨rfl, rfl⟩ rfl (Nat.le_of_ble_eq_true rfl) dL_repairs_30 (fun u236 hq => ?_)
    have L237 := ls_fr L233 hq
    refine g_top (y := kState) (look_no g hb h0 hn) ?_
    refine g_ldc C wd_661 dL_repairs_33 ?_
    refine g_icmp_ne_f C 88 (rfl) dL_repairs_35 (by decide) ?_
    refine g_iload_n C 1 dL_repairs_38 rfl ?_
    refine g_if_le_f C 88 (nI_ge (a := 0) (b := hcd V b) (by omega) (by omega)) dL_repairs_39 (by decide) ?_
    refine g_iload_n C 1 dL_repairs_42 rfl ?_
    refine g_iconst C (nI 4) dL_repairs_43 (by decide) ?_
    refine g_icmp_ge_f C 88 (nI_ge (a := hcd V b) (b := 4) (by omega) (by omega)) dL_repairs_44 (by decide) ?_
    refine g_iload_n C 1 dL_repairs_47 rfl ?_
    refine g_iconst C (nI 1) dL_repairs_48 (by decide) ?_
    refine g_icmp_ne C 56 dL_repairs_49 (by decide) (fun c_49 => ?_) (fun c_49 => ?_)
    · refine g_iconst C (nI 0) dL_repairs_56 (by decide) ?_
      refine g_aload_n C 2 dL_repairs_57 rfl ?_
      refine g_bipush C (nI 6) dL_repairs_58 (by decide) ?_
      refine g_cV1 C (As := [.int (nI 6)]) (w := .int (V 6)) (mem3 := u236) iX9_about (c_X9_about l G g u236 L237.1 (nI 6)) wd_401 ob_0 rfl ⟨Nat.le_of_ble_eq_true rfl, Nat.le_of_ble_eq_true rfl⟩ ⟨rfl, rfl⟩ rfl (Nat.le_of_ble_eq_true rfl) dL_repairs_60 (congrArg Value.int (about_n (by decide))) (rfl) ?_
      refine g_if_ne_t C 70 (fun q => c_49 (congrArg nI (hcd_1.mpr q))) dL_repairs_63 (by decide) ?_
      refine g_iconst C (nI 0) dL_repairs_70 (by decide) ?_
      refine g_icmp_ne_f C 88 (by decide) dL_repairs_71 (by decide) ?_
      refine g_aload_n C 2 dL_repairs_74 rfl ?_
      refine g_cV1 C (As := []) (w := .long (fpR V)) (mem3 := u236) iX9_fingerprint (c_X9_fingerprint l G g u236 L237.1 hT1) wd_580 ob_0 rfl ⟨Nat.le_of_ble_eq_true rfl, Nat.le_of_ble_eq_true rfl⟩ ⟨rfl, rfl⟩ rfl (Nat.le_of_ble_eq_true rfl) dL_repairs_75 (rfl) (rfl) ?_
      refine g_lload C 0 dL_repairs_78 rfl ?_
      refine g_lcmp C dL_repairs_80 ?_
      refine g_if_ne_f C 88 (lg_self _) dL_repairs_81 (by decide) ?_
      refine g_iconst C (nI 1) dL_repairs_84 (by decide) ?_
      refine g_goto C 89 dL_repairs_85 (by decide) ?_
      refine g_widen (mc2 := 1) (ms2 := 10) (Nat.zero_le _) (Nat.zero_le _) ?_
      exact g_zretX (C.cnt (Nat.le_of_ble_eq_true rfl) (Nat.le_of_ble_eq_true rfl)) gSub.rf hQ rfl (Or.inr rfl) dL_repairs_89 ⟨rfl, V, Vs, h, A, B, L237.more (Nat.le_succ T), g.more (Nat.le_succ T), x.more (Nat.le_succ T), rfl⟩
    · refine g_iconst C (nI 1) dL_repairs_52 (by decide) ?_
      refine g_goto C 57 dL_repairs_53 (by decide) ?_
      refine g_aload_n C 2 dL_repairs_57 rfl ?_
      refine g_bipush C (nI 6) dL_repairs_58 (by decide) ?_
      refine g_cV1 C (As := [.int (nI 6)]) (w := .int (V 6)) (mem3 := u236) iX9_about (c_X9_about l G g u236 L237.1 (nI 6)) wd_401 ob_0 rfl ⟨Nat.le_of_ble_eq_true rfl, Nat.le_of_ble_eq_true rfl⟩ ⟨rfl, rfl⟩ rfl (Nat.le_of_ble_eq_true rfl) dL_repairs_60 (congrArg Value.int (about_n (by decide))) (rfl) ?_
      refine g_if_ne_f C 70 (hcd_1.mp ((nI_iff (a := hcd V b) (b := 1) (by omega) (by decide)).mp c_49)) dL_repairs_63 (by decide) ?_
      refine g_iconst C (nI 1) dL_repairs_66 (by decide) ?_
      refine g_goto C 71 dL_repairs_67 (by decide) ?_
      refine g_icmp_ne_f C 88 (by decide) dL_repairs_71 (by decide) ?_
      refine g_aload_n C 2 dL_repairs_74 rfl ?_
      refine g_cV1 C (As := []) (w := .long (fpR V)) (mem3 := u236) iX9_fingerprint (c_X9_fingerprint l G g u236 L237.1 hT1) wd_580 ob_0 rfl ⟨Nat.le_of_ble_eq_true rfl, Nat.le_of_ble_eq_true rfl⟩ ⟨rfl, rfl⟩ rfl (Nat.le_of_ble_eq_true rfl) dL_repairs_75 (rfl) (rfl) ?_
      refine g_lload C 0 dL_repairs_78 rfl ?_
      refine g_lcmp C dL_repairs_80 ?_
      refine g_if_ne_f C 88 (lg_self _) dL_repairs_81 (by decide) ?_
      refine g_iconst C (nI 1) dL_repairs_84 (by decide) ?_
      refine g_goto C 89 dL_repairs_85 (by decide) ?_
      refine g_widen (mc2 := 1) (ms2 := 10) (Nat.zero_le _) (Nat.zero_le _) ?_
      exact g_zretX (C.cnt (Nat.le_of_ble_eq_true rfl) (Nat.le_of_ble_eq_true rfl)) gSub.rf hQ rfl (Or.inr rfl) dL_repairs_89 ⟨rfl, V, Vs, h, A, B, L237.more (Nat.le_succ T), g.more (Nat.le_succ T), x.more (Nat.le_succ T), rfl⟩
