theorem hcd_lt (V : Nat → Int32) (b : Nat) : hcd V b < 4 := by
  unfold hcd
  split
  · omega
  · split
    · omega
    · split <;> omega
theorem hcd_0 {V : Nat → Int32} {b : Nat} (h : nI (hcd V b) = 0) : hcd V b = 0 := by
  have := hcd_lt V b
  exact (nI_iff (by omega) (by decide)).mp h
theorem fr_ex {V : Nat → Int32} {b wa : Nat} (hn : vN V ≤ 10) (h : ¬ mk (los V b) (vN V) = 0) : ∃ f, frF (los V b) (wt V b wa) (vN V) = some f := by
  cases hr : frF (los V b) (wt V b wa) (vN V) with
  | some f => exact ⟨f, rfl⟩
  | none => exact absurd ((mk_0 (by omega)).mpr (fr_none hr)) h
theorem RK_no {V : Nat → Int32} {b wa : Nat} {mem : gM} {P : Nat → Int32} (h0 : P 0 = nI b) (h1 : P 1 = nI (hcd V b)) (hh : ¬ hcd V b = 0) : RK V b wa mem (gr mem 146 P) :=
  ⟨P, mem 148, mem 150, by rw [show mem 148 = (gr mem 146 P) 148 from rfl, gr_self, show mem 150 = (gr mem 146 P) 150 from rfl, gr_self], h0, h1, fun q => absurd q hh⟩

def rm_X5_reckon : Room := { frames := 4, cells := 0, slots := 0, locals := 93 }
theorem iX5_reckon : gIv yX5_reckon cX5_reckon 4 none 3 := ⟨⟨wd_498, wd_12, by decide +kernel, by decide +kernel, by decide +kernel⟩, wd_496, wd_497⟩
set_option maxRecDepth 100000 in
set_option maxHeartbeats 4000000 in
theorem c_X5_reckon (l : Launch) (G : gG) {T : Nat} {V : Nat → Int32} (g : Good T V) (mem : gM) (r : Rel V mem) {b wa : Nat} (hb : b < 200) (hwa : 1 ≤ wa) (hwa1 : wa ≤ 1000) : gMet l yX5_reckon cX5_reckon 4 none rm_X5_reckon G [.ref (gad G 146), .ref (gad G 1), .int (nI b), .int (nI wa)] mem (fun a u => a = none ∧ RK V b wa mem u) := by
  refine g_of (own := RX5) (L0 := [(0, .ref (gad G 146)), (1, .ref (gad G 1)), (2, .int (nI b)), (3, .int (nI wa))]) (by decide +kernel) rfl (Nat.le_of_ble_eq_true rfl) rfl ?_
  intro p e s m args below meth c C Q hQ
  have hn10 := gd_n10 g
  refine g_aload_n C 0 dX5_reckon_0 rfl ?_
  refine g_iload_n C 2 dX5_reckon_1 rfl ?_
  refine g_put_i C ob_146 0 (by decide) rfl wd_225 rfl rfl dX5_reckon_2 ?_
  refine g_aload_n C 0 dX5_reckon_5 rfl ?_
  refine g_aload_n C 1 dX5_reckon_6 rfl ?_
  refine g_get_r C ob_1 1 (by decide) rfl wd_160 dX5_reckon_7 ?_
  refine g_get_i C ob_4 1 (by decide) rfl wd_55 dX5_reckon_10 ?_
  refine g_top (y := mem 4 1) (rfl) ?_
  refine g_top (y := mk (vLv V) (vN V)) (r_lv r) ?_
  refine g_aload_n C 1 dX5_reckon_13 rfl ?_
  refine g_get_r C ob_1 3 (by decide) rfl wd_166 dX5_reckon_14 ?_
  refine g_aload_n C 0 dX5_reckon_17 rfl ?_
  refine g_get_i C ob_146 0 (by decide) rfl wd_225 dX5_reckon_18 ?_
  refine g_top (y := nI b) (rfl) ?_
  refine g_cV1 C (As := [.int (nI b)]) (w := .int (mem 25 b)) (mem3 := gr mem 146 (upd (mem 146) 0 (nI b))) iX6_at (c_X6_at l G (gr mem 146 (upd (mem 146) 0 (nI b))) ob_24 ar_25 (by decide) (by omega)) wd_499 ob_24 rfl ⟨Nat.le_of_ble_eq_true rfl, Nat.le_of_ble_eq_true rfl⟩ ⟨rfl, rfl⟩ rfl (Nat.le_of_ble_eq_true rfl) dX5_reckon_21 (rfl) (rfl) ?_
  refine g_top (y := V (150 + b)) (r_lo r hb) ?_
  refine g_iand C dX5_reckon_24 ?_
  refine g_top (y := mk (los V b) (vN V)) (los_mk g hb) ?_
  refine g_put_i C ob_146 2 (by decide) rfl wd_230 rfl rfl dX5_reckon_25 ?_
  refine g_mem (mem2 := gr mem 146 (upd (upd (mem 146) 0 (nI b)) 2 (mk (los V b) (vN V)))) (gr_gr _ _ _ _) ?_
  refine g_aload_n C 0 dX5_reckon_28 rfl ?_
  refine g_aload_n C 0 dX5_reckon_29 rfl ?_
  refine g_aload_n C 1 dX5_reckon_30 rfl ?_
  refine g_cVr C (As := [.ref (gad G 1)]) iX5_hindranceIn (c_X5_hindranceIn l G g (gr mem 146 (upd (upd (mem 146) 0 (nI b)) 2 (mk (los V b) (vN V)))) (r_gr (by decide) r) (hb) (rfl)) wd_500 ob_146 rfl ⟨Nat.le_of_ble_eq_true rfl, Nat.le_of_ble_eq_true rfl⟩ ⟨rfl, rfl⟩ rfl (Nat.le_of_ble_eq_true rfl) dX5_reckon_31 (fun r1 u1 hq => ?_)
  obtain ⟨hr1, p1, hu1, hp1, hp1c⟩ := hq
  subst hr1
  subst hu1
  refine g_mem (gr_gr _ _ _ _) ?_
  have q0 : p1 0 = nI b := hp1 0 (by decide) (by decide) (by decide)
  have q2 : p1 2 = mk (los V b) (vN V) := hp1 2 (by decide) (by decide) (by decide)
  refine g_put_i C ob_146 1 (by decide) rfl wd_228 rfl rfl dX5_reckon_34 ?_
  refine g_mem (mem2 := gr mem 146 (upd p1 1 (nI (hcd V b)))) (gr_gr _ _ _ _) ?_
  refine g_aload_n C 0 dX5_reckon_37 rfl ?_
  refine g_get_i C ob_146 1 (by decide) rfl wd_228 dX5_reckon_38 ?_
  refine g_top (y := nI (hcd V b)) (rfl) ?_
  refine g_if_ne C 80 dX5_reckon_41 (by decide) (fun c_41 => ?_) (fun c_41 => ?_)
  · refine g_vret C hQ rfl dX5_reckon_80 ?_
    exact ⟨rfl, RK_no q0 rfl (fun h => c_41 (by rw [h]; rfl))⟩
  · have hh0 := hcd_0 c_41
    obtain ⟨e6, e2, hrk⟩ := hc_0 hh0
    obtain ⟨e5, e7, e8⟩ := hp1c hh0
    obtain ⟨f, hf1⟩ := fr_ex (wa := wa) hn10 e2
    obtain ⟨hfn, hfl⟩ := fr_some hf1
    have hf10 : oI (frF (los V b) (wt V b wa) 10) = nI f := by rw [fr_wide hn10 (fun m h1 h2 => (Bool.not_eq_true _).mp fun z => absurd (los_n g hb z (by omega)) (by omega)), hf1]; rfl
    refine g_aload_n C 0 dX5_reckon_44 rfl ?_
    refine g_aload_n C 1 dX5_reckon_45 rfl ?_
    refine g_get_r C ob_1 2 (by decide) rfl wd_163 dX5_reckon_46 ?_
    refine g_get_i C ob_21 1 (by decide) rfl wd_113 dX5_reckon_49 ?_
    refine g_top (y := mem 21 1) (rfl) ?_
    refine g_top (y := V 10) (r_sd r) ?_
    refine g_iload_n C 3 dX5_reckon_52 rfl ?_
    refine g_cV0 C (As := [.int (V 10), .int (nI wa)]) (mem3 := gr (gr mem 146 (upd (upd p1 1 (nI (hcd V b))) 6 (oI (frF (los V b) (wt V b wa) 10)))) 148 (cpy 10 (fun j => if los V b j = true then nI (wt V b wa j) else mem 148 j) (mem 148))) iX5_drawWaits (c_X5_drawWaits l G g (gr mem 146 (upd p1 1 (nI (hcd V b)))) (r_gr (by decide) r) (wa := wa) hb hwa hwa1 (q0) (q2)) wd_512 ob_146 rfl ⟨Nat.le_of_ble_eq_true rfl, Nat.le_of_ble_eq_true rfl⟩ ⟨rfl, rfl⟩ rfl (Nat.le_of_ble_eq_true rfl) dX5_reckon_53 (congrArg (fun z => gr z 148 _) (gr_gr _ _ _ _)) ?_
    refine g_aload_n C 0 dX5_reckon_56 rfl ?_
    refine g_aload_n C 1 dX5_reckon_57 rfl ?_
    refine g_get_r C ob_1 1 (by decide) rfl wd_160 dX5_reckon_58 ?_
    refine g_cV0 C (As := [.ref (gad G 4)]) (mem3 := gr (gr mem 146 (upd (upd (upd (upd p1 1 (nI (hcd V b))) 6 (oI (frF (los V b) (wt V b wa) 10))) 3 (mk (ask V b wa f) (vN V))) 4 (mk (sil V b wa f) (vN V)))) 148 (cpy 10 (fun j => if los V b j = true then nI (wt V b wa j) else mem 148 j) (mem 148))) iX5_findWhoAsks (c_X5_findWhoAsks l G g (gr (gr mem 146 (upd (upd p1 1 (nI (hcd V b))) 6 (oI (frF (los V b) (wt V b wa) 10)))) 148 (cpy 10 (fun j => if los V b j = true then nI (wt V b wa j) else mem 148 j) (mem 148))) (r_gr (by decide) (r_gr (by decide) r)) hb hwa hwa1 (q2) (hf10) hfn hfl (fun m hm hl => by rw [gr_s, cpy_in (by omega), if_pos hl])) wd_519 ob_146 rfl ⟨Nat.le_of_ble_eq_true rfl, Nat.le_of_ble_eq_true rfl⟩ ⟨rfl, rfl⟩ rfl (Nat.le_of_ble_eq_true rfl) dX5_reckon_61 ((gr_comm _ (by decide) _ _).trans (congrArg (fun z => gr z 148 (cpy 10 (fun j => if los V b j = true then nI (wt V b wa j) else mem 148 j) (mem 148))) (gr_gr _ _ _ _))) ?_
    refine g_aload_n C 0 dX5_reckon_64 rfl ?_
    refine g_aload_n C 1 dX5_reckon_65 rfl ?_
    refine g_get_r C ob_1 1 (by decide) rfl wd_160 dX5_reckon_66 ?_
    refine g_aload_n C 1 dX5_reckon_69 rfl ?_
    refine g_get_r C ob_1 0 (by decide) rfl wd_157 dX5_reckon_70 ?_
    refine g_iconst C (nI 1) dX5_reckon_73 (by decide) ?_
    refine g_cV1 C (As := [.int (nI 1)]) (w := .int (mem 3 1)) (mem3 := gr (gr mem 146 (upd (upd (upd (upd p1 1 (nI (hcd V b))) 6 (oI (frF (los V b) (wt V b wa) 10))) 3 (mk (ask V b wa f) (vN V))) 4 (mk (sil V b wa f) (vN V)))) 148 (cpy 10 (fun j => if los V b j = true then nI (wt V b wa j) else mem 148 j) (mem 148))) iX6_at (c_X6_at l G (gr (gr mem 146 (upd (upd (upd (upd p1 1 (nI (hcd V b))) 6 (oI (frF (los V b) (wt V b wa) 10))) 3 (mk (ask V b wa f) (vN V))) 4 (mk (sil V b wa f) (vN V)))) 148 (cpy 10 (fun j => if los V b j = true then nI (wt V b wa j) else mem 148 j) (mem 148))) ob_2 ar_3 (by decide) (by omega)) wd_499 ob_2 rfl ⟨Nat.le_of_ble_eq_true rfl, Nat.le_of_ble_eq_true rfl⟩ ⟨rfl, rfl⟩ rfl (Nat.le_of_ble_eq_true rfl) dX5_reckon_74 (rfl) (rfl) ?_
    refine g_top (y := nI (toN (V 1))) ((r_set r (by decide)).trans (gd_step g).1) ?_
    refine g_cV0 C (As := [.ref (gad G 4), .int (nI (toN (V 1)))]) (mem3 := gr (gr (gr mem 146 (upd (upd (upd (upd (upd p1 1 (nI (hcd V b))) 6 (oI (frF (los V b) (wt V b wa) 10))) 3 (mk (ask V b wa f) (vN V))) 4 (mk (sil V b wa f) (vN V))) 9 (nI (tim V b wa f)))) 148 (cpy 10 (fun j => if los V b j = true then nI (wt V b wa j) else mem 148 j) (mem 148))) 150 (cpy (vN V) (fun j => if los V b j = true then nI (sent V b wa f + dR V b j) else mem 150 j) (mem 150))) iX5_reckonTimes (c_X5_reckonTimes l G g (gr (gr mem 146 (upd (upd (upd (upd p1 1 (nI (hcd V b))) 6 (oI (frF (los V b) (wt V b wa) 10))) 3 (mk (ask V b wa f) (vN V))) 4 (mk (sil V b wa f) (vN V)))) 148 (cpy 10 (fun j => if los V b j = true then nI (wt V b wa j) else mem 148 j) (mem 148))) (r_gr (by decide) (r_gr (by decide) r)) hb hwa hwa1 (rfl) hrk (e7) (q2) (hf10) hfn hfl (fun m hm hl => by rw [gr_s, cpy_in (by omega), if_pos hl]) (e8)) wd_530 ob_146 rfl ⟨Nat.le_of_ble_eq_true rfl, Nat.le_of_ble_eq_true rfl⟩ ⟨rfl, rfl⟩ rfl (Nat.le_of_ble_eq_true rfl) dX5_reckon_77 (congrArg (fun z => gr z 150 _) ((gr_comm _ (by decide) _ _).trans (congrArg (fun z => gr z 148 (cpy 10 (fun j => if los V b j = true then nI (wt V b wa j) else mem 148 j) (mem 148))) (gr_gr _ _ _ _)))) ?_
    refine g_vret C hQ rfl dX5_reckon_80 ?_
    exact ⟨rfl, _, _, _, rfl, q0, rfl, fun _ => ⟨f, hf1, q2, rfl, rfl, e5, hf10, e7, e8, rfl, fun m hm hl => ⟨by rw [cpy_in (by omega), if_pos hl], by rw [cpy_in hm, if_pos hl]⟩⟩⟩

/-- what a member would be in a repair -/
def role (V : Nat → Int32) (b wa f m : Nat) : Nat := if m = f then 1 else if ask V b wa f m = true then 2 else if sil V b wa f m = true then 3 else if m = rpM V b then 4 else if hs (msF V (rpK V b)) m then 5 else 0

def rm_X5_partOf : Room := { frames := 1, cells := 0, slots := 0, locals := 21 }
theorem iX5_partOf : gIv yX5_partOf cX5_partOf 2 (some .int) 1 := ⟨⟨wd_651, wd_12, by decide +kernel, by decide +kernel, by decide +kernel⟩, wd_649, wd_650⟩
set_option maxRecDepth 100000 in
set_option maxHeartbeats 4000000 in
theorem c_X5_partOf (l : Launch) (G : gG) {T : Nat} {V : Nat → Int32} (g : Good T V) (mem : gM) (r : Rel V mem) {b wa f m1 : Nat} {w a : Nat → Int32} (hk : PlanOK V b wa f (mem 146) w a) (hrk : rpK V b < vZ V) (hm : m1 < vN V) : gMet l yX5_partOf cX5_partOf 2 (some .int) rm_X5_partOf G [.ref (gad G 146), .int (nI m1)] mem (fun a u => a = some (.int (nI (role V b wa f m1))) ∧ u = mem) := by
  refine g_of (own := RX5) (L0 := [(0, .ref (gad G 146)), (1, .int (nI m1))]) (by decide +kernel) rfl (Nat.le_of_ble_eq_true rfl) rfl ?_
  intro p e s m args below meth c C Q hQ
  have hn10 := gd_n10 g
  obtain ⟨k1, k2, k3, k4, k5, k6, k7, k8, k9, -⟩ := hk
  have hfn := (fr_some k1).1
  have hrn := rp_lt g hrk
  refine g_iload_n C 1 dX5_partOf_0 rfl ?_
  refine g_aload_n C 0 dX5_partOf_1 rfl ?_
  refine g_get_i C ob_146 6 (by decide) rfl wd_240 dX5_partOf_2 ?_
  refine g_top (y := nI f) (k6) ?_
  refine g_icmp_ne C 10 dX5_partOf_5 (by decide) (fun c_5 => ?_) (fun c_5 => ?_)
  · have c_5 := mt (fun q => congrArg nI q) c_5
    refine g_aload_n C 0 dX5_partOf_10 rfl ?_
    refine g_get_i C ob_146 3 (by decide) rfl wd_234 dX5_partOf_11 ?_
    refine g_top (y := mk (ask V b wa f) (vN V)) (k3) ?_
    refine g_iload_n C 1 dX5_partOf_14 rfl ?_
    refine g_cS1 C (As := [.int (mk (ask V b wa f) (vN V)), .int (nI m1)]) (w := .int (b2i (hs (mk (ask V b wa f) (vN V)) m1))) (mem3 := mem) iX4_has (c_X4_has l G mem (mk (ask V b wa f) (vN V)) m1) wd_510 rfl ⟨Nat.le_of_ble_eq_true rfl, Nat.le_of_ble_eq_true rfl⟩ ⟨rfl, rfl⟩ rfl (Nat.le_of_ble_eq_true rfl) dX5_partOf_15 (rfl) (rfl) ?_
    refine g_ifb_eq C 23 dX5_partOf_18 (by decide) (fun c_18 => ?_) (fun c_18 => ?_)
    · have c_18 := mt (mk_hs (by omega) hm).mpr c_18
      refine g_aload_n C 0 dX5_partOf_23 rfl ?_
      refine g_get_i C ob_146 4 (by decide) rfl wd_236 dX5_partOf_24 ?_
      refine g_top (y := mk (sil V b wa f) (vN V)) (k4) ?_
      refine g_iload_n C 1 dX5_partOf_27 rfl ?_
      refine g_cS1 C (As := [.int (mk (sil V b wa f) (vN V)), .int (nI m1)]) (w := .int (b2i (hs (mk (sil V b wa f) (vN V)) m1))) (mem3 := mem) iX4_has (c_X4_has l G mem (mk (sil V b wa f) (vN V)) m1) wd_510 rfl ⟨Nat.le_of_ble_eq_true rfl, Nat.le_of_ble_eq_true rfl⟩ ⟨rfl, rfl⟩ rfl (Nat.le_of_ble_eq_true rfl) dX5_partOf_28 (rfl) (rfl) ?_
      refine g_ifb_eq C 36 dX5_partOf_31 (by decide) (fun c_31 => ?_) (fun c_31 => ?_)
      · have c_31 := mt (mk_hs (by omega) hm).mpr c_31
        refine g_iload_n C 1 dX5_partOf_36 rfl ?_
        refine g_aload_n C 0 dX5_partOf_37 rfl ?_
        refine g_get_i C ob_146 7 (by decide) rfl wd_242 dX5_partOf_38 ?_
        refine g_top (y := nI (rpM V b)) (k7) ?_
        refine g_icmp_ne C 46 dX5_partOf_41 (by decide) (fun c_41 => ?_) (fun c_41 => ?_)
        · have c_41 := mt (fun q => congrArg nI q) c_41
          refine g_aload_n C 0 dX5_partOf_46 rfl ?_
          refine g_get_i C ob_146 5 (by decide) rfl wd_239 dX5_partOf_47 ?_
          refine g_top (y := msF V (rpK V b)) (k5) ?_
          refine g_iload_n C 1 dX5_partOf_50 rfl ?_
          refine g_cS1 C (As := [.int (msF V (rpK V b)), .int (nI m1)]) (w := .int (b2i (hs (msF V (rpK V b)) m1))) (mem3 := mem) iX4_has (c_X4_has l G mem (msF V (rpK V b)) m1) wd_510 rfl ⟨Nat.le_of_ble_eq_true rfl, Nat.le_of_ble_eq_true rfl⟩ ⟨rfl, rfl⟩ rfl (Nat.le_of_ble_eq_true rfl) dX5_partOf_51 (rfl) (rfl) ?_
          refine g_ifb_eq C 61 dX5_partOf_54 (by decide) (fun c_54 => ?_) (fun c_54 => ?_)
          · refine g_iconst C (nI 0) dX5_partOf_61 (by decide) ?_
            refine g_iret C hQ rfl dX5_partOf_62 ?_
            first
              | exact ⟨by rw [role, if_pos c_5], rfl⟩
              | exact ⟨by rw [role, if_neg c_5, if_pos c_18], rfl⟩
              | exact ⟨by rw [role, if_neg c_5, if_neg c_18, if_pos c_31], rfl⟩
              | exact ⟨by rw [role, if_neg c_5, if_neg c_18, if_neg c_31, if_pos c_41], rfl⟩
              | exact ⟨by rw [role, if_neg c_5, if_neg c_18, if_neg c_31, if_neg c_41, if_pos c_54], rfl⟩
              | exact ⟨by rw [role, if_neg c_5, if_neg c_18, if_neg c_31, if_neg c_41, if_neg c_54], rfl⟩
          · refine g_iconst C (nI 5) dX5_partOf_57 (by decide) ?_
            refine g_goto C 62 dX5_partOf_58 (by decide) ?_
            refine g_iret C hQ rfl dX5_partOf_62 ?_
            first
              | exact ⟨by rw [role, if_pos c_5], rfl⟩
              | exact ⟨by rw [role, if_neg c_5, if_pos c_18], rfl⟩
              | exact ⟨by rw [role, if_neg c_5, if_neg c_18, if_pos c_31], rfl⟩
              | exact ⟨by rw [role, if_neg c_5, if_neg c_18, if_neg c_31, if_pos c_41], rfl⟩
              | exact ⟨by rw [role, if_neg c_5, if_neg c_18, if_neg c_31, if_neg c_41, if_pos c_54], rfl⟩
              | exact ⟨by rw [role, if_neg c_5, if_neg c_18, if_neg c_31, if_neg c_41, if_neg c_54], rfl⟩
        · have c_41 := (nI_iff (by omega) (by omega)).mp c_41
          refine g_iconst C (nI 4) dX5_partOf_44 (by decide) ?_
          refine g_iret C hQ rfl dX5_partOf_45 ?_
          first
            | exact ⟨by rw [role, if_pos c_5], rfl⟩
            | exact ⟨by rw [role, if_neg c_5, if_pos c_18], rfl⟩
            | exact ⟨by rw [role, if_neg c_5, if_neg c_18, if_pos c_31], rfl⟩
            | exact ⟨by rw [role, if_neg c_5, if_neg c_18, if_neg c_31, if_pos c_41], rfl⟩
            | exact ⟨by rw [role, if_neg c_5, if_neg c_18, if_neg c_31, if_neg c_41, if_pos c_54], rfl⟩
            | exact ⟨by rw [role, if_neg c_5, if_neg c_18, if_neg c_31, if_neg c_41, if_neg c_54], rfl⟩
      · have c_31 := (mk_hs (by omega) hm).mp c_31
        refine g_iconst C (nI 3) dX5_partOf_34 (by decide) ?_
        refine g_iret C hQ rfl dX5_partOf_35 ?_
        first
          | exact ⟨by rw [role, if_pos c_5], rfl⟩
          | exact ⟨by rw [role, if_neg c_5, if_pos c_18], rfl⟩
          | exact ⟨by rw [role, if_neg c_5, if_neg c_18, if_pos c_31], rfl⟩
          | exact ⟨by rw [role, if_neg c_5, if_neg c_18, if_neg c_31, if_pos c_41], rfl⟩
          | exact ⟨by rw [role, if_neg c_5, if_neg c_18, if_neg c_31, if_neg c_41, if_pos c_54], rfl⟩
          | exact ⟨by rw [role, if_neg c_5, if_neg c_18, if_neg c_31, if_neg c_41, if_neg c_54], rfl⟩
    · have c_18 := (mk_hs (by omega) hm).mp c_18
      refine g_iconst C (nI 2) dX5_partOf_21 (by decide) ?_
      refine g_iret C hQ rfl dX5_partOf_22 ?_
      first
        | exact ⟨by rw [role, if_pos c_5], rfl⟩
        | exact ⟨by rw [role, if_neg c_5, if_pos c_18], rfl⟩
        | exact ⟨by rw [role, if_neg c_5, if_neg c_18, if_pos c_31], rfl⟩
        | exact ⟨by rw [role, if_neg c_5, if_neg c_18, if_neg c_31, if_pos c_41], rfl⟩
        | exact ⟨by rw [role, if_neg c_5, if_neg c_18, if_neg c_31, if_neg c_41, if_pos c_54], rfl⟩
        | exact ⟨by rw [role, if_neg c_5, if_neg c_18, if_neg c_31, if_neg c_41, if_neg c_54], rfl⟩
  · have c_5 := (nI_iff (by omega) (by omega)).mp c_5
    refine g_iconst C (nI 1) dX5_partOf_8 (by decide) ?_
    refine g_iret C hQ rfl dX5_partOf_9 ?_
    first
      | exact ⟨by rw [role, if_pos c_5], rfl⟩
      | exact ⟨by rw [role, if_neg c_5, if_pos c_18], rfl⟩
      | exact ⟨by rw [role, if_neg c_5, if_neg c_18, if_pos c_31], rfl⟩
      | exact ⟨by rw [role, if_neg c_5, if_neg c_18, if_neg c_31, if_pos c_41], rfl⟩
      | exact ⟨by rw [role, if_neg c_5, if_neg c_18, if_neg c_31, if_neg c_41, if_pos c_54], rfl⟩
      | exact ⟨by rw [role, if_neg c_5, if_neg c_18, if_neg c_31, if_neg c_41, if_neg c_54], rfl⟩
