def rm_X9_draw : Room := { frames := 5, cells := 0, slots := 0, locals := 126 }
theorem iX9_draw : gIv yX9_draw cX9_draw 2 (some .int) 0 := ⟨⟨wd_426, wd_4, by decide +kernel, by decide +kernel, by decide +kernel⟩, wd_424, wd_425⟩
set_option maxRecDepth 100000 in
set_option maxHeartbeats 4000000 in
theorem c_X9_draw (l : Launch) (G : gG) {T : Nat} {V : Nat → Int32} (g : Good T V) (mem : gM) (r : Rel V mem) {Vs : Nat → Nat → Int32} {h o : Nat} (hx : HX T Vs h o mem) : gMet l yX9_draw cX9_draw 2 (some .int) rm_X9_draw G [.ref (gad G 0)] mem (fun a u => ∃ rr : Int32, a = some (.int rr) ∧ AX T V Vs h mem u (toN (V 2) ≤ fa_cnt (vRR V) (vN V)) (V 6 + nI 1) (kState) (drV V (nSd V (mk (vRR V) (vN V)))) rr) := by
  refine g_of (own := RX9) (L0 := [(0, .ref (gad G 0))]) (by decide +kernel) rfl (Nat.le_of_ble_eq_true rfl) rfl ?_
  intro p e s m args below meth c C Q hQ
  have hn10 := gd_n10 g
  have hz10 : vZ V ≤ 10 := by have := (gd_z g).2; omega
  refine g_aload_n C 0 dX9_draw_0 rfl ?_
  refine g_get_r C ob_0 0 (by decide) rfl wd_279 dX9_draw_1 ?_
  refine g_get_r C ob_1 1 (by decide) rfl wd_161 dX9_draw_4 ?_
  refine g_cV1 C (As := []) (w := .int (mk (vRR V) (vN V))) (mem3 := mem) iX3_rightReveals (c_X3_rightReveals l G g mem r) wd_427 ob_4 rfl ⟨Nat.le_of_ble_eq_true rfl, Nat.le_of_ble_eq_true rfl⟩ ⟨rfl, rfl⟩ rfl (Nat.le_of_ble_eq_true rfl) dX9_draw_7 (rfl) (rfl) ?_
  refine g_istore_n C (L2 := [(1, .int (mk (vRR V) (vN V))), (0, .ref (gad G 0))]) dX9_draw_10 (by decide) rfl ?_
  refine g_aload_n C 1 dX9_draw_11 rfl ?_
  refine g_iload_n C 0 dX9_draw_12 rfl ?_
  refine g_cV1 C (As := [.int (mk (vRR V) (vN V))]) (w := .int (b2i (toN (V 2) ≤ fa_cnt (vRR V) (vN V)))) (mem3 := mem) iX9_areEnough (c_X9_areEnough l G g mem r (vRR V)) wd_432 ob_0 rfl ⟨Nat.le_of_ble_eq_true rfl, Nat.le_of_ble_eq_true rfl⟩ ⟨rfl, rfl⟩ rfl (Nat.le_of_ble_eq_true rfl) dX9_draw_13 (rfl) (rfl) ?_
  refine g_ifb_ne C 22 dX9_draw_16 (by decide) (fun c_16 => ?_) (fun c_16 => ?_)
  · refine g_aload_n C 1 dX9_draw_22 rfl ?_
    refine g_get_r C ob_0 1 (by decide) rfl wd_280 dX9_draw_23 ?_
    refine g_aload_n C 1 dX9_draw_26 rfl ?_
    refine g_get_r C ob_0 0 (by decide) rfl wd_279 dX9_draw_27 ?_
    refine g_cVq C (As := [.ref (gad G 1)]) iX1_keep (c_X1_keep l G g mem r hx) wd_307 ob_29 rfl ⟨Nat.le_of_ble_eq_true rfl, Nat.le_of_ble_eq_true rfl⟩ ⟨rfl, rfl⟩ rfl (Nat.le_of_ble_eq_true rfl) dX9_draw_30 (fun ku0 hq => ?_)
    obtain ⟨hkf, o2, hx2⟩ := hq
    have rk : Rel V ku0 := RelS.keep r (fun k _ h2 => hkf k (Or.inl (by omega)))
    refine g_aload_n C 1 dX9_draw_33 rfl ?_
    refine g_get_r C ob_0 0 (by decide) rfl wd_279 dX9_draw_34 ?_
    refine g_get_r C ob_1 2 (by decide) rfl wd_164 dX9_draw_37 ?_
    refine g_aload_n C 1 dX9_draw_40 rfl ?_
    refine g_get_r C ob_0 0 (by decide) rfl wd_279 dX9_draw_41 ?_
    refine g_get_r C ob_1 2 (by decide) rfl wd_164 dX9_draw_44 ?_
    refine g_get_i C ob_21 0 (by decide) rfl wd_111 dX9_draw_47 ?_
    refine g_top (y := V 6) (r_rd rk) ?_
    refine g_aload_n C 1 dX9_draw_50 rfl ?_
    refine g_get_r C ob_0 0 (by decide) rfl wd_279 dX9_draw_51 ?_
    refine g_get_r C ob_1 1 (by decide) rfl wd_161 dX9_draw_54 ?_
    refine g_iload_n C 0 dX9_draw_57 rfl ?_
    refine g_cV0 C (As := [.int (V 6), .ref (gad G 4), .int (mk (vRR V) (vN V))]) (mem3 := gr (gr ku0 21 (upd (upd (upd (ku0 21) 0 ((V 6) + nI 1)) 1 (sdF (mk (vRR V) (vN V)) (ku0 20) ((V 6) + nI 1) (vN V))) 2 (nI (vN V)))) 23 (cpy (vN V) (fun k => nI (dM (vW V) (vN V) (sdF (mk (vRR V) (vN V)) (ku0 20) ((V 6) + nI 1) (vN V)) k)) (ku0 23))) iX0_drawNext (c_X0_drawNext_21 l G ku0 (r_n rk g) (gd_n10 g) (fun m hm => (r_w rk hm).trans (gd_w g hm).1) (fun m hm => ⟨(gd_w g hm).2.1, (gd_w g hm).2.2⟩) (V 6) (mk (vRR V) (vN V))) wd_442 ob_21 rfl ⟨Nat.le_of_ble_eq_true rfl, Nat.le_of_ble_eq_true rfl⟩ ⟨rfl, rfl⟩ rfl (Nat.le_of_ble_eq_true rfl) dX9_draw_58 (rfl) ?_
    refine g_aload_n C 1 dX9_draw_61 rfl ?_
    refine g_get_r C ob_0 0 (by decide) rfl wd_279 dX9_draw_62 ?_
    refine g_get_r C ob_1 1 (by decide) rfl wd_161 dX9_draw_65 ?_
    refine g_aload_n C 1 dX9_draw_68 rfl ?_
    refine g_get_r C ob_0 0 (by decide) rfl wd_279 dX9_draw_69 ?_
    refine g_get_r C ob_1 0 (by decide) rfl wd_158 dX9_draw_72 ?_
    refine g_iconst C (nI 4) dX9_draw_75 (by decide) ?_
    refine g_cV1 C (As := [.int (nI 4)]) (w := .int (ku0 3 4)) (mem3 := gr (gr ku0 21 (upd (upd (upd (ku0 21) 0 ((V 6) + nI 1)) 1 (sdF (mk (vRR V) (vN V)) (ku0 20) ((V 6) + nI 1) (vN V))) 2 (nI (vN V)))) 23 (cpy (vN V) (fun k => nI (dM (vW V) (vN V) (sdF (mk (vRR V) (vN V)) (ku0 20) ((V 6) + nI 1) (vN V)) k)) (ku0 23))) iX6_at (c_X6_at l G (gr (gr ku0 21 (upd (upd (upd (ku0 21) 0 ((V 6) + nI 1)) 1 (sdF (mk (vRR V) (vN V)) (ku0 20) ((V 6) + nI 1) (vN V))) 2 (nI (vN V)))) 23 (cpy (vN V) (fun k => nI (dM (vW V) (vN V) (sdF (mk (vRR V) (vN V)) (ku0 20) ((V 6) + nI 1) (vN V)) k)) (ku0 23))) ob_2 ar_3 (by decide) (by omega)) wd_368 ob_2 rfl ⟨Nat.le_of_ble_eq_true rfl, Nat.le_of_ble_eq_true rfl⟩ ⟨rfl, rfl⟩ rfl (Nat.le_of_ble_eq_true rfl) dX9_draw_76 (rfl) (rfl) ?_
    refine g_top (y := V 4) (r_set rk (by decide)) ?_
    refine g_cV0 C (As := [.int (V 4)]) (mem3 := gr (gr (gr (gr ku0 21 (upd (upd (upd (ku0 21) 0 ((V 6) + nI 1)) 1 (sdF (mk (vRR V) (vN V)) (ku0 20) ((V 6) + nI 1) (vN V))) 2 (nI (vN V)))) 23 (cpy (vN V) (fun k => nI (dM (vW V) (vN V) (sdF (mk (vRR V) (vN V)) (ku0 20) ((V 6) + nI 1) (vN V)) k)) (ku0 23))) 16 (cpy (vN V) (fun _ => nI 0) (ku0 16))) 10 (cpy (vN V) (elC (ku0 16) (ku0 10) (V 4)) (ku0 10))) iX3_endLottery (c_X3_endLottery l G (gr (gr ku0 21 (upd (upd (upd (ku0 21) 0 ((V 6) + nI 1)) 1 (sdF (mk (vRR V) (vN V)) (ku0 20) ((V 6) + nI 1) (vN V))) 2 (nI (vN V)))) 23 (cpy (vN V) (fun k => nI (dM (vW V) (vN V) (sdF (mk (vRR V) (vN V)) (ku0 20) ((V 6) + nI 1) (vN V)) k)) (ku0 23))) (n := (vN V)) (show ku0 4 0 = nI (vN V) from r_n rk g) (gd_n10 g) (V 4)) wd_462 ob_4 rfl ⟨Nat.le_of_ble_eq_true rfl, Nat.le_of_ble_eq_true rfl⟩ ⟨rfl, rfl⟩ rfl (Nat.le_of_ble_eq_true rfl) dX9_draw_79 (rfl) ?_
    refine g_aload_n C 1 dX9_draw_82 rfl ?_
    refine g_get_r C ob_0 0 (by decide) rfl wd_279 dX9_draw_83 ?_
    refine g_get_r C ob_1 2 (by decide) rfl wd_164 dX9_draw_86 ?_
    refine g_get_i C ob_21 0 (by decide) rfl wd_111 dX9_draw_89 ?_
    refine g_top (y := (V 6) + nI 1) (rfl) ?_
    refine g_iret C hQ rfl dX9_draw_92 ?_
    exact ⟨_, rfl, fun _ => ⟨rfl, (by rw [show nSd V (mk (vRR V) (vN V)) = sdF (mk (vRR V) (vN V)) (ku0 20) (V 6 + nI 1) (vN V) from (sd_cong fun m hm => r_se rk hm).symm]; exact rs_draw g rk _), ⟨_, (hx_lo (by decide) (hx_lo (by decide) (hx_lo (by decide) (hx_lo (by decide) hx2))))⟩, fun k hk => by rw [gr_n (by omega), gr_n (by omega), gr_n (by omega), gr_n (by omega), hkf k (by omega)]⟩, fun q => absurd (c_16) q⟩
  · refine g_ldc C wd_417 dX9_draw_19 ?_
    refine g_iret C hQ rfl dX9_draw_21 ?_
    exact ⟨_, rfl, fun q => absurd q (c_16), fun _ => ⟨rfl, XP_same r hx⟩⟩

def rm_X9_repair : Room := { frames := 5, cells := 0, slots := 0, locals := 126 }
theorem iX9_repair : gIv yX9_repair cX9_repair 2 (some .int) 1 := ⟨⟨wd_643, wd_4, by decide +kernel, by decide +kernel, by decide +kernel⟩, wd_641, wd_642⟩
set_option maxRecDepth 100000 in
set_option maxHeartbeats 4000000 in
theorem c_X9_repair (l : Launch) (G : gG) {T : Nat} {V : Nat → Int32} (g : Good T V) (mem : gM) (r : Rel V mem) {Vs : Nat → Nat → Int32} {h o : Nat} (hx : HX T Vs h o mem) (hT : T < 2 ^ 20) (x : Int32) : gMet l yX9_repair cX9_repair 2 (some .int) rm_X9_repair G [.ref (gad G 0), .int x] mem (fun a u => ∃ rr : Int32, a = some (.int rr) ∧ AX T V Vs h mem u (blkP x ∧ hcd V (toN x) = 0) (nI (tim V (toN x) (toN (V 0)) (fF V (toN x) (toN (V 0))))) (if blkP x then kState else kBad) (rpV V (toN x) (toN (V 0))) rr) := by
  refine g_of (own := RX9) (L0 := [(0, .ref (gad G 0)), (1, .int x)]) (by decide +kernel) rfl (Nat.le_of_ble_eq_true rfl) rfl ?_
  intro p e s m args below meth c C Q hQ
  have hn10 := gd_n10 g
  have hz10 : vZ V ≤ 10 := by have := (gd_z g).2; omega
  have hgm := (gd_made g).2
  refine g_iload_n C 1 dX9_repair_0 rfl ?_
  refine g_cS1 C (As := [.int x]) (w := .int (b2i (blkP x))) (mem3 := mem) iX9_isBlock (c_X9_isBlock l G mem x) wd_483 rfl ⟨Nat.le_of_ble_eq_true rfl, Nat.le_of_ble_eq_true rfl⟩ ⟨rfl, rfl⟩ rfl (Nat.le_of_ble_eq_true rfl) dX9_repair_1 (rfl) (rfl) ?_
  refine g_ifb_ne C 10 dX9_repair_4 (by decide) (fun c_4 => ?_) (fun c_4 => ?_)
  · obtain ⟨b, hb, rfl⟩ := blkP_ex c_4
    have eb : toN (nI b) = b := toN_nI (by omega)
    refine g_aload_n C 0 dX9_repair_10 rfl ?_
    refine g_get_r C ob_0 3 (by decide) rfl wd_282 dX9_repair_11 ?_
    refine g_aload_n C 0 dX9_repair_14 rfl ?_
    refine g_get_r C ob_0 0 (by decide) rfl wd_279 dX9_repair_15 ?_
    refine g_iload_n C 1 dX9_repair_18 rfl ?_
    refine g_aload_n C 0 dX9_repair_19 rfl ?_
    refine g_get_r C ob_0 0 (by decide) rfl wd_279 dX9_repair_20 ?_
    refine g_get_r C ob_1 0 (by decide) rfl wd_158 dX9_repair_23 ?_
    refine g_iconst C (nI 0) dX9_repair_26 (by decide) ?_
    refine g_cV1 C (As := [.int (nI 0)]) (w := .int (mem 3 0)) (mem3 := mem) iX6_at (c_X6_at l G mem ob_2 ar_3 (by decide) (by omega)) wd_368 ob_2 rfl ⟨Nat.le_of_ble_eq_true rfl, Nat.le_of_ble_eq_true rfl⟩ ⟨rfl, rfl⟩ rfl (Nat.le_of_ble_eq_true rfl) dX9_repair_27 (rfl) (rfl) ?_
    refine g_top (y := nI (toN (V 0))) ((r_set r (by decide)).trans (gd_wait g).1) ?_
    refine g_cVq C (As := [.ref (gad G 1), .int (nI b), .int (nI (toN (V 0)))]) iX5_reckon (c_X5_reckon l G g mem r (b := b) (wa := (toN (V 0))) (hb) ((gd_wait g).2.1) ((gd_wait g).2.2)) wd_495 ob_146 rfl ⟨Nat.le_of_ble_eq_true rfl, Nat.le_of_ble_eq_true rfl⟩ ⟨rfl, rfl⟩ rfl (Nat.le_of_ble_eq_true rfl) dX9_repair_30 (fun u0 hq => ?_)
    obtain ⟨p0, w0, a0, rfl, hk0_0, hk1_0, hk_0⟩ := hq
    refine g_aload_n C 0 dX9_repair_33 rfl ?_
    refine g_get_r C ob_0 3 (by decide) rfl wd_282 dX9_repair_34 ?_
    refine g_get_i C ob_146 1 (by decide) rfl wd_229 dX9_repair_37 ?_
    refine g_top (y := p0 1) (rfl) ?_
    refine g_top (y := nI (hcd V b)) (hk1_0) ?_
    refine g_if_eq C 46 dX9_repair_40 (by decide) (fun c_40 => ?_) (fun c_40 => ?_)
    · have hh := hcd_0 c_40
      obtain ⟨f, hPK⟩ := hk_0 hh
      have hrk := (hc_0 hh).2.2
      have hfF := fF_eq hPK.1
      refine g_aload_n C 0 dX9_repair_46 rfl ?_
      refine g_get_r C ob_0 1 (by decide) rfl wd_280 dX9_repair_47 ?_
      refine g_aload_n C 0 dX9_repair_50 rfl ?_
      refine g_get_r C ob_0 0 (by decide) rfl wd_279 dX9_repair_51 ?_
      refine g_cVq C (As := [.ref (gad G 1)]) iX1_keep (c_X1_keep l G g (gr (gr (gr mem 146 p0) 148 w0) 150 a0) (r_gr (by decide) (r_gr (by decide) (r_gr (by decide) r))) (hx_gr (by decide) (hx_gr (by decide) (hx_gr (by decide) hx)))) wd_307 ob_29 rfl ⟨Nat.le_of_ble_eq_true rfl, Nat.le_of_ble_eq_true rfl⟩ ⟨rfl, rfl⟩ rfl (Nat.le_of_ble_eq_true rfl) dX9_repair_54 (fun ku0 hq => ?_)
      obtain ⟨hkf, o2, hx2⟩ := hq
      have rk : Rel V ku0 := RelS.keep (r_gr (by decide) (r_gr (by decide) (r_gr (by decide) r))) (fun k _ h2 => hkf k (Or.inl (by omega)))
      have h146 : ku0 146 = p0 := hkf 146 (Or.inr (by decide))
      have h146b : ku0 146 0 = nI b := by rw [h146]; exact hk0_0
      have hPK2 := plan_at hPK h146
      obtain ⟨-, -, -, -, -, -, h146r, -, h146t, -⟩ := id hPK2
      have hrn := rp_lt g hrk
      refine g_aload_n C 0 dX9_repair_57 rfl ?_
      refine g_get_r C ob_0 0 (by decide) rfl wd_279 dX9_repair_58 ?_
      refine g_aload_n C 0 dX9_repair_61 rfl ?_
      refine g_get_r C ob_0 3 (by decide) rfl wd_282 dX9_repair_62 ?_
      refine g_cV0 C (As := [.ref (gad G 146)]) (mem3 := coU ku0 (vN V) b (rpM V b) (toN (V 7))) iX7_carryOut (c_X7_carryOut l G ku0 (n := vN V) (b := b) (rp := rpM V b) (md := toN (V 7)) (r_n rk g) hn10 h146b hb h146r (by omega) (r_made rk g) (by omega)) wd_542 ob_1 rfl ⟨Nat.le_of_ble_eq_true rfl, Nat.le_of_ble_eq_true rfl⟩ ⟨rfl, rfl⟩ rfl (Nat.le_of_ble_eq_true rfl) dX9_repair_65 (rfl) ?_
      refine g_aload_n C 0 dX9_repair_68 rfl ?_
      refine g_get_r C ob_0 3 (by decide) rfl wd_282 dX9_repair_69 ?_
      refine g_get_i C ob_146 9 (by decide) rfl wd_247 dX9_repair_72 ?_
      refine g_top (y := coU ku0 (vN V) b (rpM V b) (toN (V 7)) 146 9) (rfl) ?_
      refine g_top (y := nI (tim V b (toN (V 0)) f)) (h146t) ?_
      refine g_iret C hQ rfl dX9_repair_75 ?_
      exact ⟨_, rfl, fun _ => ⟨by rw [eb, hfF], by rw [eb]; exact rs_rep g hT rk hb h146b hPK2 hrk, ⟨o2, hx_keep hx2 fun k h1 h2 => coU_out (by omega)⟩, fun k hk => by rw [coU_out (by omega), hkf k (by omega), gr_n (by omega), gr_n (by omega), gr_n (by omega)]⟩, fun q => absurd ⟨c_4, eb.symm ▸ hh⟩ q⟩
    · have hh : ¬ hcd V b = 0 := fun q => c_40 (by rw [q]; rfl)
      refine g_ldc C wd_417 dX9_repair_43 ?_
      refine g_iret C hQ rfl dX9_repair_45 ?_
      exact ⟨_, rfl, fun q => absurd q (fun q => hh (eb ▸ q.2)), fun _ => ⟨(if_pos c_4).symm, ⟨r_gr (by decide) (r_gr (by decide) (r_gr (by decide) r)), ⟨o, hx_gr (by decide) (hx_gr (by decide) (hx_gr (by decide) hx))⟩, fun k hk => by rw [gr_n (by omega), gr_n (by omega), gr_n (by omega)]⟩⟩⟩
  · refine g_ldc C wd_305 dX9_repair_7 ?_
    refine g_iret C hQ rfl dX9_repair_9 ?_
    exact ⟨_, rfl, fun q => absurd q (fun q => c_4 q.1), fun _ => ⟨(if_neg c_4).symm, XP_same r hx⟩⟩

/-- the other places stay -/
def FrA (M0 M : gM) : Prop := ∀ k, ((29 ≤ k ∧ k < 146) ∨ 154 ≤ k) → M k = M0 k

def rm_X9_repairAll : Room := { frames := 5, cells := 0, slots := 0, locals := 126 }
theorem iX9_repairAll : gIv yX9_repairAll cX9_repairAll 3 (some .int) 0 := ⟨⟨wd_494, wd_4, by decide +kernel, by decide +kernel, by decide +kernel⟩, wd_492, wd_493⟩
set_option maxRecDepth 100000 in
set_option maxHeartbeats 4000000 in
theorem c_X9_repairAll (l : Launch) (G : gG) {T : Nat} {V : Nat → Int32} (g : Good T V) (mem : gM) (r : Rel V mem) {Vs : Nat → Nat → Int32} {h o : Nat} (hx : HX T Vs h o mem) (hT : T < 2 ^ 19) : gMet l yX9_repairAll cX9_repairAll 3 (some .int) rm_X9_repairAll G [.ref (gad G 0)] mem (fun a u => ∃ rr : Int32, a = some (.int rr) ∧ (rr = nI (raV V (toN (V 0)) 200).2 ∧ XP T (raV V (toN (V 0)) 200).1 (pushV h Vs V) (pushN h) mem u) ∧ Good (T + 200) (raV V (toN (V 0)) 200).1) := by
  refine g_of (own := RX9) (L0 := [(0, .ref (gad G 0))]) (by decide +kernel) rfl (Nat.le_of_ble_eq_true rfl) rfl ?_
  intro p e s m args below meth c C Q hQ
  have hn10 := gd_n10 g
  have hz10 : vZ V ≤ 10 := by have := (gd_z g).2; omega
  refine g_aload_n C 0 dX9_repairAll_0 rfl ?_
  refine g_get_r C ob_0 1 (by decide) rfl wd_280 dX9_repairAll_1 ?_
  refine g_aload_n C 0 dX9_repairAll_4 rfl ?_
  refine g_get_r C ob_0 0 (by decide) rfl wd_279 dX9_repairAll_5 ?_
  refine g_cVq C (As := [.ref (gad G 1)]) iX1_keep (c_X1_keep l G g mem r hx) wd_307 ob_29 rfl ⟨Nat.le_of_ble_eq_true rfl, Nat.le_of_ble_eq_true rfl⟩ ⟨rfl, rfl⟩ rfl (Nat.le_of_ble_eq_true rfl) dX9_repairAll_8 (fun ku0 hq => ?_)
  obtain ⟨hkf, o2, hx2⟩ := hq
  have rk : Rel V ku0 := RelS.keep r (fun k _ h2 => hkf k (Or.inl (by omega)))
  refine g_iconst C (nI 0) dX9_repairAll_11 (by decide) ?_
  refine g_istore_n C (L2 := [(1, .int (nI 0)), (0, .ref (gad G 0))]) dX9_repairAll_12 (by decide) rfl ?_
  refine g_iconst C (nI 0) dX9_repairAll_13 (by decide) ?_
  refine g_istore_n C (L2 := [(2, .int (nI 0)), (1, .int (nI 0)), (0, .ref (gad G 0))]) dX9_repairAll_14 (by decide) rfl ?_
  have lp_15 : ∀ (fu : Nat) (i : Nat) (V1 : Nat → Int32) (T1 : Nat) (M1 : gM), (i ≤ 200) → (V1 = (raV V (toN (V 0)) i).1) → (T1 = T + (raV V (toN (V 0)) i).2) → (Good T1 V1) → (Rel V1 M1) → (FrA ku0 M1) → 200 - i < fu → gV p l e rm_X9_repairAll s m args below meth c 0 0 Q G 3 M1 15 [(0, .ref (gad G 0)), (1, .int (nI ((raV V (toN (V 0)) i).2))), (2, .int (nI i))] [] := by
    intro fu
    induction fu with
    | zero => intro i V1 T1 M1 _ _ _ _ _ _ hfu; exact absurd hfu (Nat.not_lt_zero _)
    | succ fu ih_15 =>
      intro i V1 T1 M1 hi hV1 hT1 g1 r1 hfr hfu_15
      have hcn := ra_cnt (V := V) (wa := toN (V 0)) i
      refine g_iload_n C 2 dX9_repairAll_15 rfl ?_
      refine g_sipush C (nI 200) dX9_repairAll_16 (by decide) ?_
      refine g_icmp_ge C 75 dX9_repairAll_19 (by decide) (fun c_19 => ?_) (fun c_19 => ?_)
      · have hin : i = 200 := by have q := (nI_leI (a := 200) (b := i) (by omega) (by omega)).mp c_19; omega
        refine g_iload_n C 1 dX9_repairAll_75 rfl ?_
        refine g_iret C hQ rfl dX9_repairAll_76 ?_
        rw [hin] at hV1 hT1
        refine ⟨_, rfl, ⟨by rw [hin], by rw [← hV1]; exact r1, ⟨o2, hx_keep hx2 fun k h1 h2 => hfr k (by omega)⟩, fun k hk => (hfr k (by omega)).trans (hkf k (by omega))⟩, by rw [← hV1]; exact g1.more (by have := ra_cnt (V := V) (wa := toN (V 0)) 200; omega)⟩
      · have hi2 : i < 200 := by have q := mt (nI_leI (a := 200) (b := i) (by omega) (by omega)).mpr c_19; omega
        refine g_aload_n C 0 dX9_repairAll_22 rfl ?_
        refine g_get_r C ob_0 3 (by decide) rfl wd_282 dX9_repairAll_23 ?_
        refine g_aload_n C 0 dX9_repairAll_26 rfl ?_
        refine g_get_r C ob_0 0 (by decide) rfl wd_279 dX9_repairAll_27 ?_
        refine g_iload_n C 2 dX9_repairAll_30 rfl ?_
        refine g_aload_n C 0 dX9_repairAll_31 rfl ?_
        refine g_get_r C ob_0 0 (by decide) rfl wd_279 dX9_repairAll_32 ?_
        refine g_get_r C ob_1 0 (by decide) rfl wd_158 dX9_repairAll_35 ?_
        refine g_iconst C (nI 0) dX9_repairAll_38 (by decide) ?_
        refine g_cV1 C (As := [.int (nI 0)]) (w := .int (M1 3 0)) (mem3 := M1) iX6_at (c_X6_at l G M1 ob_2 ar_3 (by decide) (by omega)) wd_368 ob_2 rfl ⟨Nat.le_of_ble_eq_true rfl, Nat.le_of_ble_eq_true rfl⟩ ⟨rfl, rfl⟩ rfl (Nat.le_of_ble_eq_true rfl) dX9_repairAll_39 (rfl) (rfl) ?_
        refine g_top (y := nI (toN (V 0))) ((r_set r1 (by decide)).trans ((congrArg (fun z => z 0) hV1).trans ((ra_wait i).trans (gd_wait g).1))) ?_
        refine g_cVq C (As := [.ref (gad G 1), .int (nI i), .int (nI (toN (V 0)))]) iX5_reckon (c_X5_reckon l G g1 M1 r1 (b := i) (wa := toN (V 0)) (hi2) ((gd_wait g).2.1) ((gd_wait g).2.2)) wd_495 ob_146 rfl ⟨Nat.le_of_ble_eq_true rfl, Nat.le_of_ble_eq_true rfl⟩ ⟨rfl, rfl⟩ rfl (Nat.le_of_ble_eq_true rfl) dX9_repairAll_42 (fun u0 hq => ?_)
        obtain ⟨p0, w0, a0, rfl, hk0_0, hk1_0, hk_0⟩ := hq
        refine g_aload_n C 0 dX9_repairAll_45 rfl ?_
        refine g_get_r C ob_0 3 (by decide) rfl wd_282 dX9_repairAll_46 ?_
        refine g_get_i C ob_146 1 (by decide) rfl wd_229 dX9_repairAll_49 ?_
        refine g_top (y := p0 1) (rfl) ?_
        refine g_top (y := nI (hcd V1 i)) (hk1_0) ?_
        refine g_if_ne C 69 dX9_repairAll_52 (by decide) (fun c_52 => ?_) (fun c_52 => ?_)
        · have hh : ¬ hcd V1 i = 0 := fun q => c_52 (by rw [q]; rfl)
          refine g_iinc C (v := nI (i + 1)) (L2 := [(2, .int (nI (i + 1))), (0, .ref (gad G 0)), (1, .int (nI ((raV V (toN (V 0)) i).2)))]) 2 dX9_repairAll_69 rfl (nI_1 _) (by decide) rfl ?_
          refine g_goto C 15 dX9_repairAll_72 (by decide) ?_
          refine g_loc (L2 := [(0, .ref (gad G 0)), (1, .int (nI ((raV V (toN (V 0)) i).2))), (2, .int (nI (i + 1)))]) [1, 2, 0] rfl ?_
          exact g_eq (ih_15 (i + 1) V1 T1 (gr (gr (gr M1 146 p0) 148 w0) 150 a0) (hi2) (by rw [ra_f (by rw [← hV1]; exact hh), hV1]) (by rw [ra_f (by rw [← hV1]; exact hh), hT1]) (g1) (r_gr (by decide) (r_gr (by decide) (r_gr (by decide) r1))) (fun k hk => by rw [gr_n (by omega), gr_n (by omega), gr_n (by omega)]; exact hfr k hk) (by omega)) (rfl) (gLc rfl (gLc (congrArg Value.int (by rw [ra_f (by rw [← hV1]; exact hh)])) (rfl))) rfl
        · have hh := hcd_0 c_52
          obtain ⟨f, hPK⟩ := hk_0 hh
          have hrk := (hc_0 hh).2.2
          obtain ⟨-, -, -, -, -, -, h146r, -, h146t, -⟩ := id hPK
          have hrn := rp_lt g1 hrk
          have hgm := (gd_made g1).2
          have hn10 := gd_n10 g1
          refine g_aload_n C 0 dX9_repairAll_55 rfl ?_
          refine g_get_r C ob_0 0 (by decide) rfl wd_279 dX9_repairAll_56 ?_
          refine g_aload_n C 0 dX9_repairAll_59 rfl ?_
          refine g_get_r C ob_0 3 (by decide) rfl wd_282 dX9_repairAll_60 ?_
          refine g_cV0 C (As := [.ref (gad G 146)]) (mem3 := coU (gr (gr (gr M1 146 p0) 148 w0) 150 a0) (vN V1) i (rpM V1 i) (toN (V1 7))) iX7_carryOut (c_X7_carryOut l G (gr (gr (gr M1 146 p0) 148 w0) 150 a0) (n := vN V1) (b := i) (rp := rpM V1 i) (md := toN (V1 7)) (r_n r1 g1) (gd_n10 g1) hk0_0 hi2 h146r (by omega) (r_made r1 g1) (by omega)) wd_542 ob_1 rfl ⟨Nat.le_of_ble_eq_true rfl, Nat.le_of_ble_eq_true rfl⟩ ⟨rfl, rfl⟩ rfl (Nat.le_of_ble_eq_true rfl) dX9_repairAll_63 (rfl) ?_
          refine g_iinc C (v := nI ((raV V (toN (V 0)) i).2 + 1)) (L2 := [(1, .int (nI ((raV V (toN (V 0)) i).2 + 1))), (0, .ref (gad G 0)), (2, .int (nI i))]) 1 dX9_repairAll_66 rfl (nI_1 _) (by decide) rfl ?_
          refine g_iinc C (v := nI (i + 1)) (L2 := [(2, .int (nI (i + 1))), (1, .int (nI ((raV V (toN (V 0)) i).2 + 1))), (0, .ref (gad G 0))]) 2 dX9_repairAll_69 rfl (nI_1 _) (by decide) rfl ?_
          refine g_goto C 15 dX9_repairAll_72 (by decide) ?_
          refine g_loc (L2 := [(0, .ref (gad G 0)), (1, .int (nI ((raV V (toN (V 0)) i).2 + 1))), (2, .int (nI (i + 1)))]) [2, 1, 0] rfl ?_
          exact g_eq (ih_15 (i + 1) (rpV V1 i (toN (V 0))) (T1 + 1) (coU (gr (gr (gr M1 146 p0) 148 w0) 150 a0) (vN V1) i (rpM V1 i) (toN (V1 7))) (hi2) (by rw [ra_t (by rw [← hV1]; exact hh), hV1]) (by rw [ra_t (by rw [← hV1]; exact hh), hT1]; omega) (good_rep g1 (by omega) hi2 hrk) (rs_rep g1 (by omega) (r_gr (by decide) (r_gr (by decide) (r_gr (by decide) r1))) hi2 hk0_0 hPK hrk) (fun k hk => by rw [coU_out (by omega), gr_n (by omega), gr_n (by omega), gr_n (by omega)]; exact hfr k hk) (by omega)) (rfl) (gLc rfl (gLc (congrArg Value.int (by rw [ra_t (by rw [← hV1]; exact hh)])) (rfl))) rfl
  refine g_loc (L2 := [(0, .ref (gad G 0)), (1, .int (nI 0)), (2, .int (nI 0))]) [2, 1, 0] rfl ?_
  exact g_eq (lp_15 (_ + 1) 0 V T ku0 (Nat.zero_le _) (rfl) (rfl) (g) (rk) (fun _ _ => rfl) (Nat.lt_succ_self _)) (rfl) (gLc rfl (gLc (congrArg Value.int (rfl)) (rfl))) rfl

/-- what undo answers and leaves -/
def UX (T : Nat) (V : Nat → Int32) (Vs : Nat → Nat → Int32) (h : Nat) (mem u : gM) (r : Int32) : Prop :=
  (h = 0 → r = kNone ∧ XP T V Vs h mem u) ∧ (0 < h → r = nI (h - 1) ∧ XP T (Vs (h - 1)) Vs (h - 1) mem u)

def rm_X9_undo : Room := { frames := 5, cells := 0, slots := 0, locals := 126 }
theorem iX9_undo : gIv yX9_undo cX9_undo 1 (some .int) 0 := ⟨⟨wd_575, wd_4, by decide +kernel, by decide +kernel, by decide +kernel⟩, wd_573, wd_574⟩
set_option maxRecDepth 100000 in
set_option maxHeartbeats 4000000 in
theorem c_X9_undo (l : Launch) (G : gG) {T : Nat} {V : Nat → Int32} (g : Good T V) (mem : gM) (r : Rel V mem) {Vs : Nat → Nat → Int32} {h o : Nat} (hx : HX T Vs h o mem) : gMet l yX9_undo cX9_undo 1 (some .int) rm_X9_undo G [.ref (gad G 0)] mem (fun a u => ∃ rr : Int32, a = some (.int rr) ∧ UX T V Vs h mem u rr) := by
  refine g_of (own := RX9) (L0 := [(0, .ref (gad G 0))]) (by decide +kernel) rfl (Nat.le_of_ble_eq_true rfl) rfl ?_
  intro p e s m args below meth c C Q hQ
  have h4 := hx.1.2.1
  refine g_aload_n C 0 dX9_undo_0 rfl ?_
  refine g_get_r C ob_0 1 (by decide) rfl wd_280 dX9_undo_1 ?_
  refine g_get_i C ob_29 0 (by decide) rfl wd_191 dX9_undo_4 ?_
  refine g_top (y := nI h) (hx.1.1) ?_
  refine g_if_ne C 13 dX9_undo_7 (by decide) (fun c_7 => ?_) (fun c_7 => ?_)
  · have hpos : 0 < h := Nat.pos_of_ne_zero fun q => c_7 (by rw [q]; rfl)
    refine g_aload_n C 0 dX9_undo_13 rfl ?_
    refine g_get_r C ob_0 1 (by decide) rfl wd_280 dX9_undo_14 ?_
    refine g_aload_n C 0 dX9_undo_17 rfl ?_
    refine g_get_r C ob_0 0 (by decide) rfl wd_279 dX9_undo_18 ?_
    refine g_cVq C (As := [.ref (gad G 1)]) iX1_giveBack (c_X1_giveBack l G mem hpos hx) wd_576 ob_29 rfl ⟨Nat.le_of_ble_eq_true rfl, Nat.le_of_ble_eq_true rfl⟩ ⟨rfl, rfl⟩ rfl (Nat.le_of_ble_eq_true rfl) dX9_undo_21 (fun ku0 hq => ?_)
    obtain ⟨hkf, rk, o2, hx2⟩ := hq
    refine g_aload_n C 0 dX9_undo_24 rfl ?_
    refine g_get_r C ob_0 1 (by decide) rfl wd_280 dX9_undo_25 ?_
    refine g_get_i C ob_29 0 (by decide) rfl wd_191 dX9_undo_28 ?_
    refine g_top (y := nI (h - 1)) (hx2.1.1) ?_
    refine g_iret C hQ rfl dX9_undo_31 ?_
    first
      | exact ⟨_, rfl, fun _ => ⟨rfl, XP_same r hx⟩, fun q => absurd h0 (by omega)⟩
      | exact ⟨_, rfl, fun q => absurd q (by omega), fun _ => ⟨rfl, rk, ⟨o2, hx2⟩, fun k hk => hkf k (by omega)⟩⟩
  · have h0 : h = 0 := (nI_iff (by omega) (by decide)).mp c_7
    refine g_ldc C wd_565 dX9_undo_10 ?_
    refine g_iret C hQ rfl dX9_undo_12 ?_
    first
      | exact ⟨_, rfl, fun _ => ⟨rfl, XP_same r hx⟩, fun q => absurd h0 (by omega)⟩
      | exact ⟨_, rfl, fun q => absurd q (by omega), fun _ => ⟨rfl, rk, ⟨o2, hx2⟩, fun k hk => hkf k (by omega)⟩⟩
