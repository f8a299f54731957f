def rm_X10_why : Room := { frames := 4, cells := 0, slots := 0, locals := 95 }
theorem iX10_why : gIv yX10_why cX10_why 2 (some .int) 1 := ⟨⟨wd_955, wd_32, by decide +kernel, by decide +kernel, by decide +kernel⟩, wd_953, wd_954⟩
set_option maxRecDepth 100000 in
set_option maxHeartbeats 4000000 in
theorem c_X10_why (l : Launch) (G : gG) {T : Nat} (mem : gM) (g : Good T (mem 155)) (x : Int32) : gMet l yX10_why cX10_why 2 (some .int) rm_X10_why G [.ref (gad G 154), .int x] mem (fun a u => ∃ rr : Int32, a = some (.int rr) ∧ (rr = whyR (mem 155) x ∧ MN mem u)) := by
  refine g_of (own := RX10) (L0 := [(0, .ref (gad G 154)), (1, .int x)]) (by decide +kernel) rfl (Nat.le_of_ble_eq_true rfl) rfl ?_
  intro p e s m args below meth c C Q hQ
  have hn10 := gd_n10 g
  refine g_iload_n C 1 dX10_why_0 rfl ?_
  refine g_cS1 C (As := [.int x]) (w := .int (b2i (blkP x))) (mem3 := mem) iX10_isBlock (c_X10_isBlock l G mem x) wd_874 rfl ⟨Nat.le_of_ble_eq_true rfl, Nat.le_of_ble_eq_true rfl⟩ ⟨rfl, rfl⟩ rfl (Nat.le_of_ble_eq_true rfl) dX10_why_1 (rfl) (rfl) ?_
  refine g_ifb_eq C 21 dX10_why_4 (by decide) (fun c_4 => ?_) (fun c_4 => ?_)
  · refine g_ldc C wd_774 dX10_why_21 ?_
    refine g_iret C hQ rfl dX10_why_23 ?_
    exact ⟨_, rfl, by rw [whyR, if_neg c_4], MN.rf mem⟩
  · obtain ⟨b, hb, rfl⟩ := blkP_ex c_4
    have eb : toN (nI b) = b := toN_nI (by omega)
    refine g_aload_n C 0 dX10_why_7 rfl ?_
    refine g_iload_n C 1 dX10_why_8 rfl ?_
    refine g_aload_n C 0 dX10_why_9 rfl ?_
    refine g_get_r C ob_154 0 (by decide) rfl wd_703 dX10_why_10 ?_
    refine g_iconst C (nI 0) dX10_why_13 (by decide) ?_
    refine g_iald_n C (j := 0) ar_155 rfl (by omega) (by decide) dX10_why_14 ?_
    refine g_top (y := nI (toN (mem 155 0))) ((gd_wait g).1) ?_
    refine g_cVr C (As := [.int (nI b), .int (nI (toN (mem 155 0)))]) iX10_works (c_X10_works l G mem g (b := b) (wa := toN (mem 155 0)) (by omega) (gd_wait g).2.1 (gd_wait g).2.2) wd_909 ob_154 rfl ⟨Nat.le_of_ble_eq_true rfl, Nat.le_of_ble_eq_true rfl⟩ ⟨rfl, rfl⟩ rfl (Nat.le_of_ble_eq_true rfl) dX10_why_15 (fun rr0 u1 hq => ?_)
    obtain ⟨rfl, q, w, rfl, hq2, hq7, hpl⟩ := hq
    refine g_goto C 23 dX10_why_18 (by decide) ?_
    refine g_iret C hQ rfl dX10_why_23 ?_
    exact ⟨_, rfl, by rw [whyR, if_pos c_4, eb], ⟨rfl, rfl, hq2, hq7, rfl, fun k hk => by rw [gr_n (by omega), gr_n (by omega)]⟩⟩

theorem role_l {V : Nat → Int32} {b wa f m : Nat} (hl : los V b m = true) (hf : ¬ m = f) (ha : ¬ ask V b wa f m = true) : role V b wa f m = 3 := by
  unfold role
  rw [if_neg hf, if_neg ha, if_pos (sil_y hl ((Bool.not_eq_true _).mp ha))]
theorem role_a {V : Nat → Int32} {b wa f m : Nat} (hf : ¬ m = f) (ha : ask V b wa f m = true) : role V b wa f m = 2 := by
  unfold role
  rw [if_neg hf, if_pos ha]
theorem role_f {V : Nat → Int32} {b wa f m : Nat} (hf : m = f) : role V b wa f m = 1 := by
  unfold role
  rw [if_pos hf]
theorem role_n {V : Nat → Int32} {b wa f m : Nat} (hl : los V b m = false) (hf : ¬ m = f) : role V b wa f m = if m = rpM V b then 4 else if hs (msF V (rpK V b)) m then 5 else 0 := by
  unfold role
  rw [if_neg hf, if_neg (by rw [asq_l hl]; decide), if_neg (by rw [sil_l hl]; decide)]

def rm_X10_roleOf : Room := { frames := 1, cells := 0, slots := 0, locals := 22 }
theorem iX10_roleOf : gIv yX10_roleOf cX10_roleOf 2 (some .int) 1 := ⟨⟨wd_943, wd_32, by decide +kernel, by decide +kernel, by decide +kernel⟩, wd_942, wd_20⟩
set_option maxRecDepth 100000 in
set_option maxHeartbeats 4000000 in
theorem c_X10_roleOf (l : Launch) (G : gG) (mem : gM) {T : Nat} (g : Good T (mem 155)) {b wa f m1 : Nat} {w : Nat → Int32} (hp : MPl (mem 155) b wa f (mem 154) w) (hrk : rpK (mem 155) b < vZ (mem 155)) (hm : m1 < vN (mem 155)) : gMet l yX10_roleOf cX10_roleOf 2 (some .int) rm_X10_roleOf G [.ref (gad G 154), .int (nI m1)] mem (fun a u => a = some (.int (nI (role (mem 155) b wa f m1))) ∧ u = mem) := by
  refine g_of (own := RX10) (L0 := [(0, .ref (gad G 154)), (1, .int (nI m1))]) (by decide +kernel) rfl (Nat.le_of_ble_eq_true rfl) rfl ?_
  intro p e s m args below meth c C Q hQ
  have hn10 := gd_n10 g
  obtain ⟨hfr, h12, h14, h15, h16, h17, h18, -, -, -⟩ := id hp
  have hfx := fr_some hfr
  have hrn := rp_lt g hrk
  refine g_aload_n C 0 dX10_roleOf_0 rfl ?_
  refine g_aload_n C 0 dX10_roleOf_1 rfl ?_
  refine g_get_i C ob_154 12 (by decide) rfl wd_715 dX10_roleOf_2 ?_
  refine g_top (y := mk (los (mem 155) b) (vN (mem 155))) (h12) ?_
  refine g_iload_n C 1 dX10_roleOf_5 rfl ?_
  refine g_cV1 C (As := [.int (mk (los (mem 155) b) (vN (mem 155))), .int (nI m1)]) (w := .int (b2i (hs (mk (los (mem 155) b) (vN (mem 155))) m1))) (mem3 := mem) iX10_isIn (c_X10_isIn l G mem (mk (los (mem 155) b) (vN (mem 155))) (m1 := m1) (by omega)) wd_917 ob_154 rfl ⟨Nat.le_of_ble_eq_true rfl, Nat.le_of_ble_eq_true rfl⟩ ⟨rfl, rfl⟩ rfl (Nat.le_of_ble_eq_true rfl) dX10_roleOf_6 (rfl) (rfl) ?_
  refine g_ifb_eq C 42 dX10_roleOf_9 (by decide) (fun c_9 => ?_) (fun c_9 => ?_)
  · have hlf : los (mem 155) b m1 = false := (Bool.not_eq_true _).mp (mt (mk_hs (by omega) hm).mpr c_9)
    have hmf : ¬ m1 = f := fun q => by rw [q, hfx.2] at hlf; exact absurd hlf (by decide)
    refine g_iload_n C 1 dX10_roleOf_42 rfl ?_
    refine g_aload_n C 0 dX10_roleOf_43 rfl ?_
    refine g_get_i C ob_154 18 (by decide) rfl wd_721 dX10_roleOf_44 ?_
    refine g_top (y := nI (rpM (mem 155) b)) (h18) ?_
    refine g_icmp_ne C 54 dX10_roleOf_47 (by decide) (fun c_47 => ?_) (fun c_47 => ?_)
    · have c_47 : ¬ m1 = rpM (mem 155) b := fun q => c_47 (by rw [q])
      refine g_aload_n C 0 dX10_roleOf_54 rfl ?_
      refine g_aload_n C 0 dX10_roleOf_55 rfl ?_
      refine g_get_i C ob_154 17 (by decide) rfl wd_720 dX10_roleOf_56 ?_
      refine g_top (y := msF (mem 155) (rpK (mem 155) b)) (h17) ?_
      refine g_iload_n C 1 dX10_roleOf_59 rfl ?_
      refine g_cV1 C (As := [.int (msF (mem 155) (rpK (mem 155) b)), .int (nI m1)]) (w := .int (b2i (hs (msF (mem 155) (rpK (mem 155) b)) m1))) (mem3 := mem) iX10_isIn (c_X10_isIn l G mem (msF (mem 155) (rpK (mem 155) b)) (m1 := m1) (by omega)) wd_917 ob_154 rfl ⟨Nat.le_of_ble_eq_true rfl, Nat.le_of_ble_eq_true rfl⟩ ⟨rfl, rfl⟩ rfl (Nat.le_of_ble_eq_true rfl) dX10_roleOf_60 (rfl) (rfl) ?_
      refine g_ifb_eq C 70 dX10_roleOf_63 (by decide) (fun c_63 => ?_) (fun c_63 => ?_)
      · refine g_iconst C (nI 0) dX10_roleOf_70 (by decide) ?_
        refine g_iret C hQ rfl dX10_roleOf_71 ?_
        first
          | exact ⟨by rw [role_n hlf hmf, if_pos c_47], rfl⟩
          | exact ⟨by rw [role_n hlf hmf, if_neg c_47, if_pos c_63], rfl⟩
          | exact ⟨by rw [role_n hlf hmf, if_neg c_47, if_neg c_63], rfl⟩
      · refine g_iconst C (nI 5) dX10_roleOf_66 (by decide) ?_
        refine g_goto C 71 dX10_roleOf_67 (by decide) ?_
        refine g_iret C hQ rfl dX10_roleOf_71 ?_
        first
          | exact ⟨by rw [role_n hlf hmf, if_pos c_47], rfl⟩
          | exact ⟨by rw [role_n hlf hmf, if_neg c_47, if_pos c_63], rfl⟩
          | exact ⟨by rw [role_n hlf hmf, if_neg c_47, if_neg c_63], rfl⟩
    · have c_47 : m1 = rpM (mem 155) b := (nI_iff (by omega) (by omega)).mp c_47
      refine g_iconst C (nI 4) dX10_roleOf_50 (by decide) ?_
      refine g_goto C 71 dX10_roleOf_51 (by decide) ?_
      refine g_iret C hQ rfl dX10_roleOf_71 ?_
      first
        | exact ⟨by rw [role_n hlf hmf, if_pos c_47], rfl⟩
        | exact ⟨by rw [role_n hlf hmf, if_neg c_47, if_pos c_63], rfl⟩
        | exact ⟨by rw [role_n hlf hmf, if_neg c_47, if_neg c_63], rfl⟩
  · have hlt : los (mem 155) b m1 = true := (mk_hs (by omega) hm).mp c_9
    refine g_iload_n C 1 dX10_roleOf_12 rfl ?_
    refine g_aload_n C 0 dX10_roleOf_13 rfl ?_
    refine g_get_i C ob_154 14 (by decide) rfl wd_717 dX10_roleOf_14 ?_
    refine g_top (y := nI f) (h14) ?_
    refine g_icmp_ne C 24 dX10_roleOf_17 (by decide) (fun c_17 => ?_) (fun c_17 => ?_)
    · have c_17 : ¬ m1 = f := fun q => c_17 (by rw [q])
      refine g_aload_n C 0 dX10_roleOf_24 rfl ?_
      refine g_aload_n C 0 dX10_roleOf_25 rfl ?_
      refine g_get_i C ob_154 15 (by decide) rfl wd_718 dX10_roleOf_26 ?_
      refine g_top (y := mk (ask (mem 155) b wa f) (vN (mem 155))) (h15) ?_
      refine g_iload_n C 1 dX10_roleOf_29 rfl ?_
      refine g_cV1 C (As := [.int (mk (ask (mem 155) b wa f) (vN (mem 155))), .int (nI m1)]) (w := .int (b2i (hs (mk (ask (mem 155) b wa f) (vN (mem 155))) m1))) (mem3 := mem) iX10_isIn (c_X10_isIn l G mem (mk (ask (mem 155) b wa f) (vN (mem 155))) (m1 := m1) (by omega)) wd_917 ob_154 rfl ⟨Nat.le_of_ble_eq_true rfl, Nat.le_of_ble_eq_true rfl⟩ ⟨rfl, rfl⟩ rfl (Nat.le_of_ble_eq_true rfl) dX10_roleOf_30 (rfl) (rfl) ?_
      refine g_ifb_eq C 40 dX10_roleOf_33 (by decide) (fun c_33 => ?_) (fun c_33 => ?_)
      · have c_33 := mt (mk_hs (by omega) hm).mpr c_33
        refine g_iconst C (nI 3) dX10_roleOf_40 (by decide) ?_
        refine g_iret C hQ rfl dX10_roleOf_41 ?_
        first
          | exact ⟨by rw [role_f c_17], rfl⟩
          | exact ⟨by rw [role_a c_17 c_33], rfl⟩
          | exact ⟨by rw [role_l hlt c_17 c_33], rfl⟩
      · have c_33 := (mk_hs (by omega) hm).mp c_33
        refine g_iconst C (nI 2) dX10_roleOf_36 (by decide) ?_
        refine g_goto C 41 dX10_roleOf_37 (by decide) ?_
        refine g_iret C hQ rfl dX10_roleOf_41 ?_
        first
          | exact ⟨by rw [role_f c_17], rfl⟩
          | exact ⟨by rw [role_a c_17 c_33], rfl⟩
          | exact ⟨by rw [role_l hlt c_17 c_33], rfl⟩
    · have c_17 : m1 = f := (nI_iff (by omega) (by omega)).mp c_17
      refine g_iconst C (nI 1) dX10_roleOf_20 (by decide) ?_
      refine g_goto C 41 dX10_roleOf_21 (by decide) ?_
      refine g_iret C hQ rfl dX10_roleOf_41 ?_
      first
        | exact ⟨by rw [role_f c_17], rfl⟩
        | exact ⟨by rw [role_a c_17 c_33], rfl⟩
        | exact ⟨by rw [role_l hlt c_17 c_33], rfl⟩

def rm_X10_look : Room := { frames := 4, cells := 0, slots := 0, locals := 95 }
theorem iX10_look : gIv yX10_look cX10_look 4 (some .int) 3 := ⟨⟨wd_939, wd_32, by decide +kernel, by decide +kernel, by decide +kernel⟩, wd_937, wd_938⟩
set_option maxRecDepth 100000 in
set_option maxHeartbeats 4000000 in
theorem c_X10_look (l : Launch) (G : gG) {T : Nat} (mem : gM) (g : Good T (mem 155)) (x y z : Int32) : gMet l yX10_look cX10_look 4 (some .int) rm_X10_look G [.ref (gad G 154), .int x, .int y, .int z] mem (fun a u => ∃ rr : Int32, a = some (.int rr) ∧ (rr = lookR (mem 155) x y z ∧ MN mem u)) := by
  refine g_of (own := RX10) (L0 := [(0, .ref (gad G 154)), (1, .int x), (2, .int y), (3, .int z)]) (by decide +kernel) rfl (Nat.le_of_ble_eq_true rfl) rfl ?_
  intro p e s m args below meth c C Q hQ
  have hn10 := gd_n10 g
  refine g_iload_n C 1 dX10_look_0 rfl ?_
  refine g_cS1 C (As := [.int x]) (w := .int (b2i (blkP x))) (mem3 := mem) iX10_isBlock (c_X10_isBlock l G mem x) wd_874 rfl ⟨Nat.le_of_ble_eq_true rfl, Nat.le_of_ble_eq_true rfl⟩ ⟨rfl, rfl⟩ rfl (Nat.le_of_ble_eq_true rfl) dX10_look_1 (rfl) (rfl) ?_
  refine g_ifb_eq C 24 dX10_look_4 (by decide) (fun c_4 => ?_) (fun c_4 => ?_)
  · refine g_ldc C wd_774 dX10_look_24 ?_
    refine g_iret C hQ rfl dX10_look_26 ?_
    first
      | exact ⟨_, rfl, by rw [lookR, if_neg (fun q => c_4 q.1.1)], MN.rf mem⟩
      | exact ⟨_, rfl, by rw [lookR, if_neg (fun q => c_12 q.1.2)], MN.rf mem⟩
      | exact ⟨_, rfl, by rw [lookR, if_neg (fun q => c_21 q.2)], MN.rf mem⟩
  · obtain ⟨b, hb, rfl⟩ := blkP_ex c_4
    have eb : toN (nI b) = b := toN_nI (by omega)
    refine g_aload_n C 0 dX10_look_7 rfl ?_
    refine g_iload_n C 2 dX10_look_8 rfl ?_
    refine g_cV1 C (As := [.int y]) (w := .int (b2i (memP (mem 155) y))) (mem3 := mem) iX10_isMember (c_X10_isMember l G mem g y) wd_788 ob_154 rfl ⟨Nat.le_of_ble_eq_true rfl, Nat.le_of_ble_eq_true rfl⟩ ⟨rfl, rfl⟩ rfl (Nat.le_of_ble_eq_true rfl) dX10_look_9 (rfl) (rfl) ?_
    refine g_ifb_eq C 24 dX10_look_12 (by decide) (fun c_12 => ?_) (fun c_12 => ?_)
    · refine g_ldc C wd_774 dX10_look_24 ?_
      refine g_iret C hQ rfl dX10_look_26 ?_
      first
        | exact ⟨_, rfl, by rw [lookR, if_neg (fun q => c_4 q.1.1)], MN.rf mem⟩
        | exact ⟨_, rfl, by rw [lookR, if_neg (fun q => c_12 q.1.2)], MN.rf mem⟩
        | exact ⟨_, rfl, by rw [lookR, if_neg (fun q => c_21 q.2)], MN.rf mem⟩
    · obtain ⟨j, hj, rfl⟩ := memP_ex g c_12
      have ej : toN (nI j) = j := toN_nI (by omega)
      refine g_iload_n C 3 dX10_look_15 rfl ?_
      refine g_iconst C (nI 0) dX10_look_16 (by decide) ?_
      refine g_iconst C (nI 2) dX10_look_17 (by decide) ?_
      refine g_cS1 C (As := [.int z, .int (nI 0), .int (nI 2)]) (w := .int (b2i (0 ≤ z ∧ z ≤ nI 2))) (mem3 := mem) iX10_in (c_X10_in l G mem z (nI 0) (nI 2)) wd_771 rfl ⟨Nat.le_of_ble_eq_true rfl, Nat.le_of_ble_eq_true rfl⟩ ⟨rfl, rfl⟩ rfl (Nat.le_of_ble_eq_true rfl) dX10_look_18 (congrArg Value.int (b2i_congr (Iff.rfl))) (rfl) ?_
      refine g_ifb_ne C 27 dX10_look_21 (by decide) (fun c_21 => ?_) (fun c_21 => ?_)
      · obtain ⟨k, hk2, rfl⟩ : ∃ k : Nat, k ≤ 2 ∧ z = nI k := by have q := nI_range (a := 0) (b := 2) (by decide) (by decide) c_21.1 c_21.2; exact ⟨toN z, q.2.2, q.1⟩
        have ek : toN (nI k) = k := toN_nI (by omega)
        refine g_aload_n C 0 dX10_look_27 rfl ?_
        refine g_iload_n C 1 dX10_look_28 rfl ?_
        refine g_aload_n C 0 dX10_look_29 rfl ?_
        refine g_get_r C ob_154 0 (by decide) rfl wd_703 dX10_look_30 ?_
        refine g_iconst C (nI 0) dX10_look_33 (by decide) ?_
        refine g_iald_n C (j := 0) ar_155 rfl (by omega) (by decide) dX10_look_34 ?_
        refine g_top (y := nI (toN (mem 155 0))) ((gd_wait g).1) ?_
        refine g_cVr C (As := [.int (nI b), .int (nI (toN (mem 155 0)))]) iX10_works (c_X10_works l G mem g (b := b) (wa := toN (mem 155 0)) (by omega) (gd_wait g).2.1 (gd_wait g).2.2) wd_909 ob_154 rfl ⟨Nat.le_of_ble_eq_true rfl, Nat.le_of_ble_eq_true rfl⟩ ⟨rfl, rfl⟩ rfl (Nat.le_of_ble_eq_true rfl) dX10_look_35 (fun rr0 u1 hq => ?_)
        obtain ⟨rfl, q, w, rfl, hq2, hq7, hpl⟩ := hq
        refine g_if_eq C 44 dX10_look_38 (by decide) (fun c_38 => ?_) (fun c_38 => ?_)
        · have hh := hcd_0 c_38
          obtain ⟨f, hp⟩ := hpl hh
          obtain ⟨hfr, h12, h14, h15, h16, h17, h18, h19, h20, hwl⟩ := id hp
          have hfF := fF_eq hfr
          have hrk := (hc_0 hh).2.2
          have hrn := rp_lt g hrk
          refine g_iload_n C 3 dX10_look_44 rfl ?_
          refine g_if_ne C 54 dX10_look_45 (by decide) (fun c_45 => ?_) (fun c_45 => ?_)
          · have c_45 : ¬ k = 0 := fun q => c_45 (by rw [q]; rfl)
            refine g_aload_n C 0 dX10_look_54 rfl ?_
            refine g_aload_n C 0 dX10_look_55 rfl ?_
            refine g_get_i C ob_154 12 (by decide) rfl wd_715 dX10_look_56 ?_
            refine g_top (y := q 12) (rfl) ?_
            refine g_top (y := mk (los (mem 155) b) (vN (mem 155))) (h12) ?_
            refine g_iload_n C 2 dX10_look_59 rfl ?_
            refine g_cV1 C (As := [.int (mk (los (mem 155) b) (vN (mem 155))), .int (nI j)]) (w := .int (b2i (hs (mk (los (mem 155) b) (vN (mem 155))) j))) (mem3 := gr (gr mem 154 q) 160 w) iX10_isIn (c_X10_isIn l G (gr (gr mem 154 q) 160 w) (mk (los (mem 155) b) (vN (mem 155))) (m1 := j) (by omega)) wd_917 ob_154 rfl ⟨Nat.le_of_ble_eq_true rfl, Nat.le_of_ble_eq_true rfl⟩ ⟨rfl, rfl⟩ rfl (Nat.le_of_ble_eq_true rfl) dX10_look_60 (rfl) (rfl) ?_
            refine g_ifb_ne C 71 dX10_look_63 (by decide) (fun c_63 => ?_) (fun c_63 => ?_)
            · have hlt : los (mem 155) b j = true := (mk_hs (by omega) hj).mp c_63
              refine g_iload_n C 3 dX10_look_71 rfl ?_
              refine g_iconst C (nI 1) dX10_look_72 (by decide) ?_
              refine g_icmp_ne C 85 dX10_look_73 (by decide) (fun c_73 => ?_) (fun c_73 => ?_)
              · have c_73 : ¬ k = 1 := fun q => c_73 (by rw [q])
                refine g_aload_n C 0 dX10_look_85 rfl ?_
                refine g_get_i C ob_154 19 (by decide) rfl wd_722 dX10_look_86 ?_
                refine g_top (y := q 19) (rfl) ?_
                refine g_top (y := nI (sent (mem 155) b (toN (mem 155 0)) f)) (h19) ?_
                refine g_aload_n C 0 dX10_look_89 rfl ?_
                refine g_aload_n C 0 dX10_look_90 rfl ?_
                refine g_get_i C ob_154 18 (by decide) rfl wd_721 dX10_look_91 ?_
                refine g_top (y := q 18) (rfl) ?_
                refine g_top (y := nI (rpM (mem 155) b)) (h18) ?_
                refine g_iload_n C 2 dX10_look_94 rfl ?_
                refine g_cV1 C (As := [.int (nI (rpM (mem 155) b)), .int (nI j)]) (w := .int (nI (dN (vP (mem 155) (rpM (mem 155) b)) (vP (mem 155) j)))) (mem3 := gr (gr mem 154 q) 160 w) iX10_distance (c_X10_distance l G (gr (gr mem 154 q) 160 w) g (m1 := rpM (mem 155) b) (m2 := j) (hrn) (hj)) wd_921 ob_154 rfl ⟨Nat.le_of_ble_eq_true rfl, Nat.le_of_ble_eq_true rfl⟩ ⟨rfl, rfl⟩ rfl (Nat.le_of_ble_eq_true rfl) dX10_look_95 (rfl) (rfl) ?_
                refine g_top (y := nI (dR (mem 155) b j)) (congrArg nI (dN_comm _ _)) ?_
                refine g_iadd_n C (d := (sent (mem 155) b (toN (mem 155 0)) f) + (dR (mem 155) b j)) dX10_look_98 rfl ?_
                refine g_iret C hQ rfl dX10_look_99 ?_
                first
                  | exact ⟨_, rfl, by rw [lookR, if_pos ⟨⟨c_4, c_12⟩, c_21⟩, eb, ej, ek, if_pos hh, lookN, if_neg c_45, if_neg hlt], ⟨rfl, rfl, hq2, hq7, rfl, fun k hk => by rw [gr_n (by omega), gr_n (by omega)]⟩⟩
                  | exact ⟨_, rfl, by rw [lookR, if_pos ⟨⟨c_4, c_12⟩, c_21⟩, eb, ej, ek, if_pos hh, lookN, if_neg c_45, if_pos hlt, if_pos c_73], ⟨rfl, rfl, hq2, hq7, rfl, fun k hk => by rw [gr_n (by omega), gr_n (by omega)]⟩⟩
                  | exact ⟨_, rfl, by rw [lookR, if_pos ⟨⟨c_4, c_12⟩, c_21⟩, eb, ej, ek, if_pos hh, lookN, if_neg c_45, if_pos hlt, if_neg c_73, hfF], ⟨rfl, rfl, hq2, hq7, rfl, fun k hk => by rw [gr_n (by omega), gr_n (by omega)]⟩⟩
              · have c_73 : k = 1 := (nI_iff (by omega) (by decide)).mp c_73
                refine g_aload_n C 0 dX10_look_76 rfl ?_
                refine g_get_r C ob_154 13 (by decide) rfl wd_716 dX10_look_77 ?_
                refine g_iload_n C 2 dX10_look_80 rfl ?_
                refine g_iald_n C (j := j) ar_160 rfl (by omega) (by decide) dX10_look_81 ?_
                refine g_top (y := w j) (rfl) ?_
                refine g_top (y := nI (wt (mem 155) b (toN (mem 155 0)) j)) (hwl j hj hlt) ?_
                refine g_goto C 99 dX10_look_82 (by decide) ?_
                refine g_iret C hQ rfl dX10_look_99 ?_
                first
                  | exact ⟨_, rfl, by rw [lookR, if_pos ⟨⟨c_4, c_12⟩, c_21⟩, eb, ej, ek, if_pos hh, lookN, if_neg c_45, if_neg hlt], ⟨rfl, rfl, hq2, hq7, rfl, fun k hk => by rw [gr_n (by omega), gr_n (by omega)]⟩⟩
                  | exact ⟨_, rfl, by rw [lookR, if_pos ⟨⟨c_4, c_12⟩, c_21⟩, eb, ej, ek, if_pos hh, lookN, if_neg c_45, if_pos hlt, if_pos c_73], ⟨rfl, rfl, hq2, hq7, rfl, fun k hk => by rw [gr_n (by omega), gr_n (by omega)]⟩⟩
                  | exact ⟨_, rfl, by rw [lookR, if_pos ⟨⟨c_4, c_12⟩, c_21⟩, eb, ej, ek, if_pos hh, lookN, if_neg c_45, if_pos hlt, if_neg c_73, hfF], ⟨rfl, rfl, hq2, hq7, rfl, fun k hk => by rw [gr_n (by omega), gr_n (by omega)]⟩⟩
            · have hlt : ¬ los (mem 155) b j = true := mt (mk_hs (by omega) hj).mpr c_63
              refine g_ldc C wd_783 dX10_look_66 ?_
              refine g_goto C 99 dX10_look_68 (by decide) ?_
              refine g_iret C hQ rfl dX10_look_99 ?_
              first
                | exact ⟨_, rfl, by rw [lookR, if_pos ⟨⟨c_4, c_12⟩, c_21⟩, eb, ej, ek, if_pos hh, lookN, if_neg c_45, if_neg hlt], ⟨rfl, rfl, hq2, hq7, rfl, fun k hk => by rw [gr_n (by omega), gr_n (by omega)]⟩⟩
                | exact ⟨_, rfl, by rw [lookR, if_pos ⟨⟨c_4, c_12⟩, c_21⟩, eb, ej, ek, if_pos hh, lookN, if_neg c_45, if_pos hlt, if_pos c_73], ⟨rfl, rfl, hq2, hq7, rfl, fun k hk => by rw [gr_n (by omega), gr_n (by omega)]⟩⟩
                | exact ⟨_, rfl, by rw [lookR, if_pos ⟨⟨c_4, c_12⟩, c_21⟩, eb, ej, ek, if_pos hh, lookN, if_neg c_45, if_pos hlt, if_neg c_73, hfF], ⟨rfl, rfl, hq2, hq7, rfl, fun k hk => by rw [gr_n (by omega), gr_n (by omega)]⟩⟩
          · have c_45 : k = 0 := (nI_iff (b := 0) (by omega) (by decide)).mp c_45
            refine g_aload_n C 0 dX10_look_48 rfl ?_
            refine g_iload_n C 2 dX10_look_49 rfl ?_
            refine g_cV1 C (As := [.int (nI j)]) (w := .int (nI (role (mem 155) b (toN (mem 155 0)) f j))) (mem3 := gr (gr mem 154 q) 160 w) iX10_roleOf (c_X10_roleOf l G (gr (gr mem 154 q) 160 w) g (b := b) (wa := toN (mem 155 0)) (f := f) (w := w) hp hrk hj) wd_940 ob_154 rfl ⟨Nat.le_of_ble_eq_true rfl, Nat.le_of_ble_eq_true rfl⟩ ⟨rfl, rfl⟩ rfl (Nat.le_of_ble_eq_true rfl) dX10_look_50 (rfl) (rfl) ?_
            refine g_iret C hQ rfl dX10_look_53 ?_
            exact ⟨_, rfl, by rw [lookR, if_pos ⟨⟨c_4, c_12⟩, c_21⟩, eb, ej, ek, if_pos hh, lookN, if_pos c_45, hfF], ⟨rfl, rfl, hq2, hq7, rfl, fun k hk => by rw [gr_n (by omega), gr_n (by omega)]⟩⟩
        · have hh : ¬ hcd (mem 155) b = 0 := fun q => c_38 (by rw [q]; rfl)
          refine g_ldc C wd_836 dX10_look_41 ?_
          refine g_iret C hQ rfl dX10_look_43 ?_
          exact ⟨_, rfl, by rw [lookR, if_pos ⟨⟨c_4, c_12⟩, c_21⟩, eb, if_neg hh], ⟨rfl, rfl, hq2, hq7, rfl, fun k hk => by rw [gr_n (by omega), gr_n (by omega)]⟩⟩
      · refine g_ldc C wd_774 dX10_look_24 ?_
        refine g_iret C hQ rfl dX10_look_26 ?_
        first
          | exact ⟨_, rfl, by rw [lookR, if_neg (fun q => c_4 q.1.1)], MN.rf mem⟩
          | exact ⟨_, rfl, by rw [lookR, if_neg (fun q => c_12 q.1.2)], MN.rf mem⟩
          | exact ⟨_, rfl, by rw [lookR, if_neg (fun q => c_21 q.2)], MN.rf mem⟩
