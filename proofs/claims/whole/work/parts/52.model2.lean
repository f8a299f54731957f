def rm_X10_sets : Room := { frames := 1, cells := 0, slots := 0, locals := 21 }
theorem iX10_sets : gIv yX10_sets cX10_sets 4 (some .int) 2 := ⟨⟨wd_795, wd_32, by decide +kernel, by decide +kernel, by decide +kernel⟩, wd_794, wd_5⟩
set_option maxRecDepth 100000 in
set_option maxHeartbeats 4000000 in
theorem c_X10_sets (l : Launch) (G : gG) (mem : gM) {h : Nat} (hh : mem 154 2 = nI h) (h4 : h ≤ 4) {k : Nat} (hk : k < 520) (y : Int32) : gMet l yX10_sets cX10_sets 4 (some .int) rm_X10_sets G [.ref (gad G 154), .int (nI k), .int y] mem (fun a u => a = some (.int (mem 155 k)) ∧ u = gr (gr (gr mem 156 (pshP h (mem 155) (mem 156))) 154 (upd (mem 154) 2 (nI (pushN h)))) 155 (upd (mem 155) k y)) := by
  refine g_of (own := RX10) (L0 := [(0, .ref (gad G 154)), (1, .int (nI k)), (2, .int y)]) (by decide +kernel) rfl (Nat.le_of_ble_eq_true rfl) rfl ?_
  intro p e s m args below meth c C Q hQ
  refine g_aload_n C 0 dX10_sets_0 rfl ?_
  refine g_cV0 C (As := []) (mem3 := gr (gr mem 156 (pshP h (mem 155) (mem 156))) 154 (upd (mem 154) 2 (nI (pushN h)))) iX10_act (c_X10_act l G mem hh h4) wd_776 ob_154 rfl ⟨Nat.le_of_ble_eq_true rfl, Nat.le_of_ble_eq_true rfl⟩ ⟨rfl, rfl⟩ rfl (Nat.le_of_ble_eq_true rfl) dX10_sets_1 (rfl) ?_
  refine g_aload_n C 0 dX10_sets_4 rfl ?_
  refine g_get_r C ob_154 0 (by decide) rfl wd_703 dX10_sets_5 ?_
  refine g_iload_n C 1 dX10_sets_8 rfl ?_
  refine g_iald_n C (j := k) ar_155 rfl (by omega) (by decide) dX10_sets_9 ?_
  refine g_top (y := mem 155 k) (rfl) ?_
  refine g_istore_n C (L2 := [(3, .int (mem 155 k)), (0, .ref (gad G 154)), (1, .int (nI k)), (2, .int y)]) dX10_sets_10 (by decide) rfl ?_
  refine g_aload_n C 1 dX10_sets_11 rfl ?_
  refine g_get_r C ob_154 0 (by decide) rfl wd_703 dX10_sets_12 ?_
  refine g_iload_n C 2 dX10_sets_15 rfl ?_
  refine g_iload_n C 3 dX10_sets_16 rfl ?_
  refine g_iast_n C (j := k) ar_155 rfl (by omega) (by decide) dX10_sets_17 ?_
  refine g_iload_n C 0 dX10_sets_18 rfl ?_
  refine g_iret C hQ rfl dX10_sets_19 ?_
  exact ⟨rfl, rfl⟩

def rm_X10_join : Room := { frames := 1, cells := 0, slots := 0, locals := 22 }
theorem iX10_join : gIv yX10_join cX10_join 5 (some .int) 2 := ⟨⟨wd_770, wd_32, by decide +kernel, by decide +kernel, by decide +kernel⟩, wd_768, wd_769⟩
set_option maxRecDepth 100000 in
set_option maxHeartbeats 4000000 in
theorem c_X10_join (l : Launch) (G : gG) {T : Nat} (mem : gM) (g : Good T (mem 155)) {h : Nat} (hh : mem 154 2 = nI h) (h4 : h ≤ 4) (x y : Int32) : gMet l yX10_join cX10_join 5 (some .int) rm_X10_join G [.ref (gad G 154), .int x, .int y] mem (fun a u => ∃ rr : Int32, a = some (.int rr) ∧ MX h mem u ((wOK x ∧ pOK y) ∧ vN (mem 155) < 10) (nI (vN (mem 155))) (if wOK x ∧ pOK y then kFull else kBad) (jnV (mem 155) x y) rr) := by
  refine g_of (own := RX10) (L0 := [(0, .ref (gad G 154)), (1, .int x), (2, .int y)]) (by decide +kernel) rfl (Nat.le_of_ble_eq_true rfl) rfl ?_
  intro p e s m args below meth c C Q hQ
  have hn10 := gd_n10 g
  refine g_iload_n C 1 dX10_join_0 rfl ?_
  refine g_iconst C (nI 1) dX10_join_1 (by decide) ?_
  refine g_bipush C (nI 9) dX10_join_2 (by decide) ?_
  refine g_cS1 C (As := [.int x, .int (nI 1), .int (nI 9)]) (w := .int (b2i (wOK x))) (mem3 := mem) iX10_in (c_X10_in l G mem x (nI 1) (nI 9)) wd_771 rfl ⟨Nat.le_of_ble_eq_true rfl, Nat.le_of_ble_eq_true rfl⟩ ⟨rfl, rfl⟩ rfl (Nat.le_of_ble_eq_true rfl) dX10_join_4 (congrArg Value.int (b2i_congr (Iff.rfl))) (rfl) ?_
  refine g_ifb_eq C 21 dX10_join_7 (by decide) (fun c_7 => ?_) (fun c_7 => ?_)
  · refine g_ldc C wd_774 dX10_join_21 ?_
    refine g_iret C hQ rfl dX10_join_23 ?_
    first
      | exact ⟨_, rfl, fun q => absurd q (fun q => c_7 q.1.1), fun _ => ⟨(if_neg (fun z => c_7 z.1)).symm, MN.rf mem⟩⟩
      | exact ⟨_, rfl, fun q => absurd q (fun q => c_18 q.1.2), fun _ => ⟨(if_neg (fun z => c_18 z.2)).symm, MN.rf mem⟩⟩
  · refine g_iload_n C 2 dX10_join_10 rfl ?_
    refine g_iconst C (nI 0) dX10_join_11 (by decide) ?_
    refine g_sipush C (nI 1000) dX10_join_12 (by decide) ?_
    refine g_cS1 C (As := [.int y, .int (nI 0), .int (nI 1000)]) (w := .int (b2i (pOK y))) (mem3 := mem) iX10_in (c_X10_in l G mem y (nI 0) (nI 1000)) wd_771 rfl ⟨Nat.le_of_ble_eq_true rfl, Nat.le_of_ble_eq_true rfl⟩ ⟨rfl, rfl⟩ rfl (Nat.le_of_ble_eq_true rfl) dX10_join_15 (congrArg Value.int (b2i_congr (Iff.rfl))) (rfl) ?_
    refine g_ifb_ne C 24 dX10_join_18 (by decide) (fun c_18 => ?_) (fun c_18 => ?_)
    · refine g_aload_n C 0 dX10_join_24 rfl ?_
      refine g_get_r C ob_154 0 (by decide) rfl wd_703 dX10_join_25 ?_
      refine g_iconst C (nI 5) dX10_join_28 (by decide) ?_
      refine g_iald_n C (j := 5) ar_155 rfl (by omega) (by decide) dX10_join_29 ?_
      refine g_top (y := nI (vN (mem 155))) (gd_n g) ?_
      refine g_bipush C (nI 10) dX10_join_30 (by decide) ?_
      refine g_icmp_ne C 38 dX10_join_32 (by decide) (fun c_32 => ?_) (fun c_32 => ?_)
      · have c_32 : vN (mem 155) < 10 := by have q : ¬ vN (mem 155) = 10 := fun q => c_32 (by rw [q]); omega
        refine g_aload_n C 0 dX10_join_38 rfl ?_
        refine g_cV0 C (As := []) (mem3 := gr (gr mem 156 (pshP h (mem 155) (mem 156))) 154 (upd (mem 154) 2 (nI (pushN h)))) iX10_act (c_X10_act l G mem hh h4) wd_776 ob_154 rfl ⟨Nat.le_of_ble_eq_true rfl, Nat.le_of_ble_eq_true rfl⟩ ⟨rfl, rfl⟩ rfl (Nat.le_of_ble_eq_true rfl) dX10_join_39 (rfl) ?_
        refine g_aload_n C 0 dX10_join_42 rfl ?_
        refine g_get_r C ob_154 0 (by decide) rfl wd_703 dX10_join_43 ?_
        refine g_iconst C (nI 5) dX10_join_46 (by decide) ?_
        refine g_iald_n C (j := 5) ar_155 rfl (by omega) (by decide) dX10_join_47 ?_
        refine g_top (y := mem 155 5) (rfl) ?_
        refine g_top (y := nI (vN (mem 155))) (gd_n g) ?_
        refine g_istore_n C (L2 := [(3, .int (nI (vN (mem 155)))), (0, .ref (gad G 154)), (1, .int x), (2, .int y)]) dX10_join_48 (by decide) rfl ?_
        refine g_iconst C (nI 0) dX10_join_49 (by decide) ?_
        refine g_istore C (L2 := [(4, .int (nI 0)), (3, .int (nI (vN (mem 155)))), (0, .ref (gad G 154)), (1, .int x), (2, .int y)]) dX10_join_50 (by decide) rfl ?_
        have lp_52 : ∀ (fu : Nat) (k : Nat), (k ≤ 12) → 12 - k < fu → gV p l e rm_X10_join s m args below meth c 0 0 Q G 5 (gr (gr (gr mem 156 (pshP h (mem 155) (mem 156))) 154 (upd (mem 154) 2 (nI (pushN h)))) 155 (zr (mem 155) (vN (mem 155)) k)) 52 [(0, .ref (gad G 154)), (1, .int x), (2, .int y), (3, .int (nI (vN (mem 155)))), (4, .int (nI k))] [] := by
          intro fu
          induction fu with
          | zero => intro k _ hfu; exact absurd hfu (Nat.not_lt_zero _)
          | succ fu ih_52 =>
            intro k hk hfu_52
            refine g_iload C 4 dX10_join_52 rfl ?_
            refine g_bipush C (nI 12) dX10_join_54 (by decide) ?_
            refine g_icmp_ge C 77 dX10_join_56 (by decide) (fun c_56 => ?_) (fun c_56 => ?_)
            · have hin : k = 12 := by have q := (nI_leI (a := 12) (b := k) (by omega) (by omega)).mp c_56; omega
              rw [hin]
              refine g_aload_n C 0 dX10_join_77 rfl ?_
              refine g_get_r C ob_154 0 (by decide) rfl wd_703 dX10_join_78 ?_
              refine g_iload_n C 3 dX10_join_81 rfl ?_
              refine g_iconst C (nI 0) dX10_join_82 (by decide) ?_
              refine g_cS1 C (As := [.int (nI (vN (mem 155))), .int (nI 0)]) (w := .int (nI (30 + 12 * (vN (mem 155))))) (mem3 := gr (gr (gr mem 156 (pshP h (mem 155) (mem 156))) 154 (upd (mem 154) 2 (nI (pushN h)))) 155 (zr (mem 155) (vN (mem 155)) 12)) iX10_at (c_X10_at l G (gr (gr (gr mem 156 (pshP h (mem 155) (mem 156))) 154 (upd (mem 154) 2 (nI (pushN h)))) 155 (zr (mem 155) (vN (mem 155)) 12)) (vN (mem 155)) 0) wd_780 rfl ⟨Nat.le_of_ble_eq_true rfl, Nat.le_of_ble_eq_true rfl⟩ ⟨rfl, rfl⟩ rfl (Nat.le_of_ble_eq_true rfl) dX10_join_83 (congrArg Value.int (congrArg nI (by omega))) (rfl) ?_
              refine g_iload_n C 1 dX10_join_86 rfl ?_
              refine g_iast_n C (j := 30 + 12 * (vN (mem 155))) ar_155 rfl (by omega) (by decide) dX10_join_87 ?_
              refine g_mem (mem2 := gr (gr (gr mem 156 (pshP h (mem 155) (mem 156))) 154 (upd (mem 154) 2 (nI (pushN h)))) 155 (upd (zr (mem 155) (vN (mem 155)) 12) (30 + 12 * (vN (mem 155))) x)) (gr_gr _ _ _ _) ?_
              refine g_aload_n C 0 dX10_join_88 rfl ?_
              refine g_get_r C ob_154 0 (by decide) rfl wd_703 dX10_join_89 ?_
              refine g_iload_n C 3 dX10_join_92 rfl ?_
              refine g_iconst C (nI 1) dX10_join_93 (by decide) ?_
              refine g_cS1 C (As := [.int (nI (vN (mem 155))), .int (nI 1)]) (w := .int (nI (31 + 12 * (vN (mem 155))))) (mem3 := gr (gr (gr mem 156 (pshP h (mem 155) (mem 156))) 154 (upd (mem 154) 2 (nI (pushN h)))) 155 (upd (zr (mem 155) (vN (mem 155)) 12) (30 + 12 * (vN (mem 155))) x)) iX10_at (c_X10_at l G (gr (gr (gr mem 156 (pshP h (mem 155) (mem 156))) 154 (upd (mem 154) 2 (nI (pushN h)))) 155 (upd (zr (mem 155) (vN (mem 155)) 12) (30 + 12 * (vN (mem 155))) x)) (vN (mem 155)) 1) wd_780 rfl ⟨Nat.le_of_ble_eq_true rfl, Nat.le_of_ble_eq_true rfl⟩ ⟨rfl, rfl⟩ rfl (Nat.le_of_ble_eq_true rfl) dX10_join_94 (congrArg Value.int (congrArg nI (by omega))) (rfl) ?_
              refine g_iload_n C 2 dX10_join_97 rfl ?_
              refine g_iast_n C (j := 31 + 12 * (vN (mem 155))) ar_155 rfl (by omega) (by decide) dX10_join_98 ?_
              refine g_mem (mem2 := gr (gr (gr mem 156 (pshP h (mem 155) (mem 156))) 154 (upd (mem 154) 2 (nI (pushN h)))) 155 (upd (upd (zr (mem 155) (vN (mem 155)) 12) (30 + 12 * (vN (mem 155))) x) (31 + 12 * (vN (mem 155))) y)) (gr_gr _ _ _ _) ?_
              refine g_aload_n C 0 dX10_join_99 rfl ?_
              refine g_get_r C ob_154 0 (by decide) rfl wd_703 dX10_join_100 ?_
              refine g_iload_n C 3 dX10_join_103 rfl ?_
              refine g_iconst C (nI 2) dX10_join_104 (by decide) ?_
              refine g_cS1 C (As := [.int (nI (vN (mem 155))), .int (nI 2)]) (w := .int (nI (32 + 12 * (vN (mem 155))))) (mem3 := gr (gr (gr mem 156 (pshP h (mem 155) (mem 156))) 154 (upd (mem 154) 2 (nI (pushN h)))) 155 (upd (upd (zr (mem 155) (vN (mem 155)) 12) (30 + 12 * (vN (mem 155))) x) (31 + 12 * (vN (mem 155))) y)) iX10_at (c_X10_at l G (gr (gr (gr mem 156 (pshP h (mem 155) (mem 156))) 154 (upd (mem 154) 2 (nI (pushN h)))) 155 (upd (upd (zr (mem 155) (vN (mem 155)) 12) (30 + 12 * (vN (mem 155))) x) (31 + 12 * (vN (mem 155))) y)) (vN (mem 155)) 2) wd_780 rfl ⟨Nat.le_of_ble_eq_true rfl, Nat.le_of_ble_eq_true rfl⟩ ⟨rfl, rfl⟩ rfl (Nat.le_of_ble_eq_true rfl) dX10_join_105 (congrArg Value.int (congrArg nI (by omega))) (rfl) ?_
              refine g_iconst C (nI 1) dX10_join_108 (by decide) ?_
              refine g_iast_n C (j := 32 + 12 * (vN (mem 155))) ar_155 rfl (by omega) (by decide) dX10_join_109 ?_
              refine g_mem (mem2 := gr (gr (gr mem 156 (pshP h (mem 155) (mem 156))) 154 (upd (mem 154) 2 (nI (pushN h)))) 155 (upd (upd (upd (zr (mem 155) (vN (mem 155)) 12) (30 + 12 * (vN (mem 155))) x) (31 + 12 * (vN (mem 155))) y) (32 + 12 * (vN (mem 155))) (nI 1))) (gr_gr _ _ _ _) ?_
              refine g_aload_n C 0 dX10_join_110 rfl ?_
              refine g_get_r C ob_154 0 (by decide) rfl wd_703 dX10_join_111 ?_
              refine g_iload_n C 3 dX10_join_114 rfl ?_
              refine g_iconst C (nI 4) dX10_join_115 (by decide) ?_
              refine g_cS1 C (As := [.int (nI (vN (mem 155))), .int (nI 4)]) (w := .int (nI (34 + 12 * (vN (mem 155))))) (mem3 := gr (gr (gr mem 156 (pshP h (mem 155) (mem 156))) 154 (upd (mem 154) 2 (nI (pushN h)))) 155 (upd (upd (upd (zr (mem 155) (vN (mem 155)) 12) (30 + 12 * (vN (mem 155))) x) (31 + 12 * (vN (mem 155))) y) (32 + 12 * (vN (mem 155))) (nI 1))) iX10_at (c_X10_at l G (gr (gr (gr mem 156 (pshP h (mem 155) (mem 156))) 154 (upd (mem 154) 2 (nI (pushN h)))) 155 (upd (upd (upd (zr (mem 155) (vN (mem 155)) 12) (30 + 12 * (vN (mem 155))) x) (31 + 12 * (vN (mem 155))) y) (32 + 12 * (vN (mem 155))) (nI 1))) (vN (mem 155)) 4) wd_780 rfl ⟨Nat.le_of_ble_eq_true rfl, Nat.le_of_ble_eq_true rfl⟩ ⟨rfl, rfl⟩ rfl (Nat.le_of_ble_eq_true rfl) dX10_join_116 (congrArg Value.int (congrArg nI (by omega))) (rfl) ?_
              refine g_ldc C wd_783 dX10_join_119 ?_
              refine g_iast_n C (j := 34 + 12 * (vN (mem 155))) ar_155 rfl (by omega) (by decide) dX10_join_121 ?_
              refine g_mem (mem2 := gr (gr (gr mem 156 (pshP h (mem 155) (mem 156))) 154 (upd (mem 154) 2 (nI (pushN h)))) 155 (upd (upd (upd (upd (zr (mem 155) (vN (mem 155)) 12) (30 + 12 * (vN (mem 155))) x) (31 + 12 * (vN (mem 155))) y) (32 + 12 * (vN (mem 155))) (nI 1)) (34 + 12 * (vN (mem 155))) ((-1000009) : Int32))) (gr_gr _ _ _ _) ?_
              refine g_aload_n C 0 dX10_join_122 rfl ?_
              refine g_get_r C ob_154 0 (by decide) rfl wd_703 dX10_join_123 ?_
              refine g_iconst C (nI 5) dX10_join_126 (by decide) ?_
              refine g_dup2 C dX10_join_127 rfl rfl ?_
              refine g_iald_n C (j := 5) ar_155 rfl (by omega) (by decide) dX10_join_128 ?_
              refine g_top (y := (upd (upd (upd (upd (zr (mem 155) (vN (mem 155)) 12) (30 + 12 * (vN (mem 155))) x) (31 + 12 * (vN (mem 155))) y) (32 + 12 * (vN (mem 155))) (nI 1)) (34 + 12 * (vN (mem 155))) ((-1000009) : Int32)) 5) (rfl) ?_
              refine g_top (y := nI (vN (mem 155))) (by rw [upd_n (by omega), upd_n (by omega), upd_n (by omega), upd_n (by omega), zr, if_neg (by omega)]; exact gd_n g) ?_
              refine g_iconst C (nI 1) dX10_join_129 (by decide) ?_
              refine g_iadd_n C (d := (vN (mem 155)) + 1) dX10_join_130 rfl ?_
              refine g_iast_n C (j := 5) ar_155 rfl (by omega) (by decide) dX10_join_131 ?_
              refine g_mem (mem2 := gr (gr (gr mem 156 (pshP h (mem 155) (mem 156))) 154 (upd (mem 154) 2 (nI (pushN h)))) 155 (upd (upd (upd (upd (upd (zr (mem 155) (vN (mem 155)) 12) (30 + 12 * (vN (mem 155))) x) (31 + 12 * (vN (mem 155))) y) (32 + 12 * (vN (mem 155))) (nI 1)) (34 + 12 * (vN (mem 155))) ((-1000009) : Int32)) 5 (nI ((vN (mem 155)) + 1)))) (gr_gr _ _ _ _) ?_
              refine g_iload_n C 3 dX10_join_132 rfl ?_
              refine g_iret C hQ rfl dX10_join_133 ?_
              exact ⟨_, rfl, fun _ => ⟨rfl, rfl, rfl, rfl, rfl, rfl, fun k hk => by rw [gr_n (by omega), gr_n (by omega), gr_n (by omega)]⟩, fun q => absurd (⟨⟨c_7, c_18⟩, c_32⟩) q⟩
            · have hi2 : k < 12 := by have q := mt (nI_leI (a := 12) (b := k) (by omega) (by omega)).mpr c_56; omega
              refine g_aload_n C 0 dX10_join_59 rfl ?_
              refine g_get_r C ob_154 0 (by decide) rfl wd_703 dX10_join_60 ?_
              refine g_iload_n C 3 dX10_join_63 rfl ?_
              refine g_iload C 4 dX10_join_64 rfl ?_
              refine g_cS1 C (As := [.int (nI (vN (mem 155))), .int (nI k)]) (w := .int (nI (30 + 12 * (vN (mem 155)) + k))) (mem3 := gr (gr (gr mem 156 (pshP h (mem 155) (mem 156))) 154 (upd (mem 154) 2 (nI (pushN h)))) 155 (zr (mem 155) (vN (mem 155)) k)) iX10_at (c_X10_at l G (gr (gr (gr mem 156 (pshP h (mem 155) (mem 156))) 154 (upd (mem 154) 2 (nI (pushN h)))) 155 (zr (mem 155) (vN (mem 155)) k)) (vN (mem 155)) k) wd_780 rfl ⟨Nat.le_of_ble_eq_true rfl, Nat.le_of_ble_eq_true rfl⟩ ⟨rfl, rfl⟩ rfl (Nat.le_of_ble_eq_true rfl) dX10_join_66 (rfl) (rfl) ?_
              refine g_iconst C (nI 0) dX10_join_69 (by decide) ?_
              refine g_iast_n C (j := 30 + 12 * (vN (mem 155)) + k) ar_155 rfl (by omega) (by decide) dX10_join_70 ?_
              refine g_mem (mem2 := gr (gr (gr mem 156 (pshP h (mem 155) (mem 156))) 154 (upd (mem 154) 2 (nI (pushN h)))) 155 (upd (zr (mem 155) (vN (mem 155)) k) (30 + 12 * (vN (mem 155)) + k) (nI 0))) (gr_gr _ _ _ _) ?_
              refine g_iinc C (v := nI (k + 1)) (L2 := [(4, .int (nI (k + 1))), (0, .ref (gad G 154)), (1, .int x), (2, .int y), (3, .int (nI (vN (mem 155))))]) 4 dX10_join_71 rfl (nI_1 _) (by decide) rfl ?_
              refine g_goto C 52 dX10_join_74 (by decide) ?_
              refine g_loc (L2 := [(0, .ref (gad G 154)), (1, .int x), (2, .int y), (3, .int (nI (vN (mem 155)))), (4, .int (nI (k + 1)))]) [1, 2, 3, 4, 0] rfl ?_
              exact g_eq (ih_52 (k + 1) (hi2) (by omega)) (by rw [zr_s]) (rfl) rfl
        refine g_loc (L2 := [(0, .ref (gad G 154)), (1, .int x), (2, .int y), (3, .int (nI (vN (mem 155)))), (4, .int (nI 0))]) [2, 3, 4, 1, 0] rfl ?_
        exact g_eq (lp_52 (_ + 1) 0 (Nat.zero_le _) (Nat.lt_succ_self _)) (by rw [zr_0]; first | exact (gr_self _ 155).symm | exact gr_self _ 155) (rfl) rfl
      · have c_32 : vN (mem 155) = 10 := (nI_iff (by omega) (by decide)).mp c_32
        refine g_ldc C wd_775 dX10_join_35 ?_
        refine g_iret C hQ rfl dX10_join_37 ?_
        exact ⟨_, rfl, fun q => absurd q (fun q => absurd q.2 (by omega)), fun _ => ⟨(if_pos ⟨c_7, c_18⟩).symm, MN.rf mem⟩⟩
    · refine g_ldc C wd_774 dX10_join_21 ?_
      refine g_iret C hQ rfl dX10_join_23 ?_
      first
        | exact ⟨_, rfl, fun q => absurd q (fun q => c_7 q.1.1), fun _ => ⟨(if_neg (fun z => c_7 z.1)).symm, MN.rf mem⟩⟩
        | exact ⟨_, rfl, fun q => absurd q (fun q => c_18 q.1.2), fun _ => ⟨(if_neg (fun z => c_18 z.2)).symm, MN.rf mem⟩⟩

def rm_X10_change : Room := { frames := 2, cells := 0, slots := 0, locals := 44 }
theorem iX10_change : gIv yX10_change cX10_change 5 (some .int) 3 := ⟨⟨wd_787, wd_32, by decide +kernel, by decide +kernel, by decide +kernel⟩, wd_785, wd_786⟩
set_option maxRecDepth 100000 in
set_option maxHeartbeats 4000000 in
theorem c_X10_change (l : Launch) (G : gG) {T : Nat} (mem : gM) (g : Good T (mem 155)) {h : Nat} (hh : mem 154 2 = nI h) (h4 : h ≤ 4) (x y z : Int32) : gMet l yX10_change cX10_change 5 (some .int) rm_X10_change G [.ref (gad G 154), .int x, .int y, .int z] mem (fun a u => ∃ rr : Int32, a = some (.int rr) ∧ MX h mem u (memP (mem 155) x ∧ ((y = 0 ∧ wOK z) ∨ (y = nI 1 ∧ pOK z))) (mem 155 (chI x y)) (kBad) (upd (mem 155) (chI x y) z) rr) := by
  refine g_of (own := RX10) (L0 := [(0, .ref (gad G 154)), (1, .int x), (2, .int y), (3, .int z)]) (by decide +kernel) rfl (Nat.le_of_ble_eq_true rfl) rfl ?_
  intro p e s m args below meth c C Q hQ
  have hn10 := gd_n10 g
  refine g_iload_n C 2 dX10_change_0 rfl ?_
  refine g_if_ne C 14 dX10_change_1 (by decide) (fun c_1 => ?_) (fun c_1 => ?_)
  · refine g_iload_n C 2 dX10_change_14 rfl ?_
    refine g_iconst C (nI 1) dX10_change_15 (by decide) ?_
    refine g_icmp_ne C 34 dX10_change_16 (by decide) (fun c_16 => ?_) (fun c_16 => ?_)
    · refine g_iconst C (nI 0) dX10_change_34 (by decide) ?_
      refine g_istore C (L2 := [(4, .int (nI 0)), (0, .ref (gad G 154)), (1, .int x), (2, .int y), (3, .int z)]) dX10_change_35 (by decide) rfl ?_
      refine g_aload_n C 1 dX10_change_37 rfl ?_
      refine g_iload_n C 2 dX10_change_38 rfl ?_
      refine g_cV1 C (As := [.int x]) (w := .int (b2i (memP (mem 155) x))) (mem3 := mem) iX10_isMember (c_X10_isMember l G mem g x) wd_788 ob_154 rfl ⟨Nat.le_of_ble_eq_true rfl, Nat.le_of_ble_eq_true rfl⟩ ⟨rfl, rfl⟩ rfl (Nat.le_of_ble_eq_true rfl) dX10_change_39 (rfl) (rfl) ?_
      refine g_ifb_eq C 63 dX10_change_42 (by decide) (fun c_42 => ?_) (fun c_42 => ?_)
      · refine g_ldc C wd_774 dX10_change_63 ?_
        refine g_iret C hQ rfl dX10_change_65 ?_
        first
          | exact ⟨_, rfl, fun q => absurd q (fun q => c_42 q.1), fun _ => ⟨rfl, MN.rf mem⟩⟩
          | exact ⟨_, rfl, fun q => absurd q (fun q => q.2.elim (fun q => c_1 q.1) (fun q => c_16 q.1)), fun _ => ⟨rfl, MN.rf mem⟩⟩
      · obtain ⟨j, hj, rfl⟩ := memP_ex g c_42
        have ej : toN (nI j) = j := toN_nI (by omega)
        refine g_iload C 0 dX10_change_45 rfl ?_
        refine g_if_eq_t C 63 (by decide) dX10_change_47 (by decide) ?_
        refine g_ldc C wd_774 dX10_change_63 ?_
        refine g_iret C hQ rfl dX10_change_65 ?_
        first
          | exact ⟨_, rfl, fun q => absurd q (fun q => c_42 q.1), fun _ => ⟨rfl, MN.rf mem⟩⟩
          | exact ⟨_, rfl, fun q => absurd q (fun q => q.2.elim (fun q => c_1 q.1) (fun q => c_16 q.1)), fun _ => ⟨rfl, MN.rf mem⟩⟩
    · obtain rfl : y = nI 1 := c_16
      refine g_iload_n C 3 dX10_change_19 rfl ?_
      refine g_iconst C (nI 0) dX10_change_20 (by decide) ?_
      refine g_sipush C (nI 1000) dX10_change_21 (by decide) ?_
      refine g_cS1 C (As := [.int z, .int (nI 0), .int (nI 1000)]) (w := .int (b2i (pOK z))) (mem3 := mem) iX10_in (c_X10_in l G mem z (nI 0) (nI 1000)) wd_771 rfl ⟨Nat.le_of_ble_eq_true rfl, Nat.le_of_ble_eq_true rfl⟩ ⟨rfl, rfl⟩ rfl (Nat.le_of_ble_eq_true rfl) dX10_change_24 (congrArg Value.int (b2i_congr (Iff.rfl))) (rfl) ?_
      refine g_ifb_eq C 34 dX10_change_27 (by decide) (fun c_27 => ?_) (fun c_27 => ?_)
      · refine g_iconst C (nI 0) dX10_change_34 (by decide) ?_
        refine g_istore C (L2 := [(4, .int (nI 0)), (0, .ref (gad G 154)), (1, .int x), (2, .int (nI 1)), (3, .int z)]) dX10_change_35 (by decide) rfl ?_
        refine g_aload_n C 1 dX10_change_37 rfl ?_
        refine g_iload_n C 2 dX10_change_38 rfl ?_
        refine g_cV1 C (As := [.int x]) (w := .int (b2i (memP (mem 155) x))) (mem3 := mem) iX10_isMember (c_X10_isMember l G mem g x) wd_788 ob_154 rfl ⟨Nat.le_of_ble_eq_true rfl, Nat.le_of_ble_eq_true rfl⟩ ⟨rfl, rfl⟩ rfl (Nat.le_of_ble_eq_true rfl) dX10_change_39 (rfl) (rfl) ?_
        refine g_ifb_eq C 63 dX10_change_42 (by decide) (fun c_42 => ?_) (fun c_42 => ?_)
        · refine g_ldc C wd_774 dX10_change_63 ?_
          refine g_iret C hQ rfl dX10_change_65 ?_
          first
            | exact ⟨_, rfl, fun q => absurd q (fun q => c_42 q.1), fun _ => ⟨rfl, MN.rf mem⟩⟩
            | exact ⟨_, rfl, fun q => absurd q (fun q => q.2.elim (fun q => absurd q.1 (by decide)) (fun q => c_27 q.2)), fun _ => ⟨rfl, MN.rf mem⟩⟩
            | exact ⟨_, rfl, fun _ => ⟨by rw [show chI (nI j) (nI 1) = 31 + 12 * j from by show 30 + 12 * toN (nI j) + 1 = _; rw [ej]; omega], by rw [show chI (nI j) (nI 1) = 31 + 12 * j from by show 30 + 12 * toN (nI j) + 1 = _; rw [ej]; omega]; rfl, rfl, rfl, rfl, rfl, fun k hk => by rw []⟩, fun q => absurd (⟨c_42, Or.inr ⟨rfl, c_27⟩⟩) q⟩
        · obtain ⟨j, hj, rfl⟩ := memP_ex g c_42
          have ej : toN (nI j) = j := toN_nI (by omega)
          refine g_iload C 0 dX10_change_45 rfl ?_
          refine g_if_eq_t C 63 (by decide) dX10_change_47 (by decide) ?_
          refine g_ldc C wd_774 dX10_change_63 ?_
          refine g_iret C hQ rfl dX10_change_65 ?_
          first
            | exact ⟨_, rfl, fun q => absurd q (fun q => c_42 q.1), fun _ => ⟨rfl, MN.rf mem⟩⟩
            | exact ⟨_, rfl, fun q => absurd q (fun q => q.2.elim (fun q => absurd q.1 (by decide)) (fun q => c_27 q.2)), fun _ => ⟨rfl, MN.rf mem⟩⟩
            | exact ⟨_, rfl, fun _ => ⟨by rw [show chI (nI j) (nI 1) = 31 + 12 * j from by show 30 + 12 * toN (nI j) + 1 = _; rw [ej]; omega], by rw [show chI (nI j) (nI 1) = 31 + 12 * j from by show 30 + 12 * toN (nI j) + 1 = _; rw [ej]; omega]; rfl, rfl, rfl, rfl, rfl, fun k hk => by rw []⟩, fun q => absurd (⟨c_42, Or.inr ⟨rfl, c_27⟩⟩) q⟩
      · refine g_iconst C (nI 1) dX10_change_30 (by decide) ?_
        refine g_goto C 35 dX10_change_31 (by decide) ?_
        refine g_istore C (L2 := [(4, .int (nI 1)), (0, .ref (gad G 154)), (1, .int x), (2, .int (nI 1)), (3, .int z)]) dX10_change_35 (by decide) rfl ?_
        refine g_aload_n C 1 dX10_change_37 rfl ?_
        refine g_iload_n C 2 dX10_change_38 rfl ?_
        refine g_cV1 C (As := [.int x]) (w := .int (b2i (memP (mem 155) x))) (mem3 := mem) iX10_isMember (c_X10_isMember l G mem g x) wd_788 ob_154 rfl ⟨Nat.le_of_ble_eq_true rfl, Nat.le_of_ble_eq_true rfl⟩ ⟨rfl, rfl⟩ rfl (Nat.le_of_ble_eq_true rfl) dX10_change_39 (rfl) (rfl) ?_
        refine g_ifb_eq C 63 dX10_change_42 (by decide) (fun c_42 => ?_) (fun c_42 => ?_)
        · refine g_ldc C wd_774 dX10_change_63 ?_
          refine g_iret C hQ rfl dX10_change_65 ?_
          first
            | exact ⟨_, rfl, fun q => absurd q (fun q => c_42 q.1), fun _ => ⟨rfl, MN.rf mem⟩⟩
            | exact ⟨_, rfl, fun q => absurd q (fun q => q.2.elim (fun q => absurd q.1 (by decide)) (fun q => c_27 q.2)), fun _ => ⟨rfl, MN.rf mem⟩⟩
            | exact ⟨_, rfl, fun _ => ⟨by rw [show chI (nI j) (nI 1) = 31 + 12 * j from by show 30 + 12 * toN (nI j) + 1 = _; rw [ej]; omega], by rw [show chI (nI j) (nI 1) = 31 + 12 * j from by show 30 + 12 * toN (nI j) + 1 = _; rw [ej]; omega]; rfl, rfl, rfl, rfl, rfl, fun k hk => by rw []⟩, fun q => absurd (⟨c_42, Or.inr ⟨rfl, c_27⟩⟩) q⟩
        · obtain ⟨j, hj, rfl⟩ := memP_ex g c_42
          have ej : toN (nI j) = j := toN_nI (by omega)
          refine g_iload C 0 dX10_change_45 rfl ?_
          refine g_if_eq_f C 63 (by decide) dX10_change_47 (by decide) ?_
          refine g_aload_n C 1 dX10_change_50 rfl ?_
          refine g_iload_n C 2 dX10_change_51 rfl ?_
          refine g_iload_n C 3 dX10_change_52 rfl ?_
          refine g_cS1 C (As := [.int (nI j), .int (nI 1)]) (w := .int (nI (31 + 12 * j))) (mem3 := mem) iX10_at (c_X10_at l G mem j 1) wd_780 rfl ⟨Nat.le_of_ble_eq_true rfl, Nat.le_of_ble_eq_true rfl⟩ ⟨rfl, rfl⟩ rfl (Nat.le_of_ble_eq_true rfl) dX10_change_53 (congrArg Value.int (congrArg nI (by omega))) (rfl) ?_
          refine g_iload_n C 4 dX10_change_56 rfl ?_
          refine g_cV1 C (As := [.int (nI (31 + 12 * j)), .int z]) (w := .int (mem 155 (31 + 12 * j))) (mem3 := gr (gr (gr mem 156 (pshP h (mem 155) (mem 156))) 154 (upd (mem 154) 2 (nI (pushN h)))) 155 (upd (mem 155) (31 + 12 * j) z)) iX10_sets (c_X10_sets l G mem hh h4 (k := 31 + 12 * j) (by omega) z) wd_792 ob_154 rfl ⟨Nat.le_of_ble_eq_true rfl, Nat.le_of_ble_eq_true rfl⟩ ⟨rfl, rfl⟩ rfl (Nat.le_of_ble_eq_true rfl) dX10_change_57 (rfl) (rfl) ?_
          refine g_goto C 65 dX10_change_60 (by decide) ?_
          refine g_iret C hQ rfl dX10_change_65 ?_
          first
            | exact ⟨_, rfl, fun q => absurd q (fun q => c_42 q.1), fun _ => ⟨rfl, MN.rf mem⟩⟩
            | exact ⟨_, rfl, fun q => absurd q (fun q => q.2.elim (fun q => absurd q.1 (by decide)) (fun q => c_27 q.2)), fun _ => ⟨rfl, MN.rf mem⟩⟩
            | exact ⟨_, rfl, fun _ => ⟨by rw [show chI (nI j) (nI 1) = 31 + 12 * j from by show 30 + 12 * toN (nI j) + 1 = _; rw [ej]; omega], by rw [show chI (nI j) (nI 1) = 31 + 12 * j from by show 30 + 12 * toN (nI j) + 1 = _; rw [ej]; omega]; rfl, rfl, rfl, rfl, rfl, fun k hk => by rw [gr_n (by omega), gr_n (by omega), gr_n (by omega)]⟩, fun q => absurd (⟨c_42, Or.inr ⟨rfl, c_27⟩⟩) q⟩
  · obtain rfl : y = nI 0 := c_1
    refine g_iload_n C 3 dX10_change_4 rfl ?_
    refine g_iconst C (nI 1) dX10_change_5 (by decide) ?_
    refine g_bipush C (nI 9) dX10_change_6 (by decide) ?_
    refine g_cS1 C (As := [.int z, .int (nI 1), .int (nI 9)]) (w := .int (b2i (wOK z))) (mem3 := mem) iX10_in (c_X10_in l G mem z (nI 1) (nI 9)) wd_771 rfl ⟨Nat.le_of_ble_eq_true rfl, Nat.le_of_ble_eq_true rfl⟩ ⟨rfl, rfl⟩ rfl (Nat.le_of_ble_eq_true rfl) dX10_change_8 (congrArg Value.int (b2i_congr (Iff.rfl))) (rfl) ?_
    refine g_goto C 35 dX10_change_11 (by decide) ?_
    refine g_istore C (L2 := [(4, .int (b2i (wOK z))), (0, .ref (gad G 154)), (1, .int x), (2, .int (nI 0)), (3, .int z)]) dX10_change_35 (by decide) rfl ?_
    refine g_aload_n C 1 dX10_change_37 rfl ?_
    refine g_iload_n C 2 dX10_change_38 rfl ?_
    refine g_cV1 C (As := [.int x]) (w := .int (b2i (memP (mem 155) x))) (mem3 := mem) iX10_isMember (c_X10_isMember l G mem g x) wd_788 ob_154 rfl ⟨Nat.le_of_ble_eq_true rfl, Nat.le_of_ble_eq_true rfl⟩ ⟨rfl, rfl⟩ rfl (Nat.le_of_ble_eq_true rfl) dX10_change_39 (rfl) (rfl) ?_
    refine g_ifb_eq C 63 dX10_change_42 (by decide) (fun c_42 => ?_) (fun c_42 => ?_)
    · refine g_ldc C wd_774 dX10_change_63 ?_
      refine g_iret C hQ rfl dX10_change_65 ?_
      first
        | exact ⟨_, rfl, fun q => absurd q (fun q => c_42 q.1), fun _ => ⟨rfl, MN.rf mem⟩⟩
        | exact ⟨_, rfl, fun q => absurd q (fun q => q.2.elim (fun q => c_47 q.2) (fun q => absurd q.1 (by decide))), fun _ => ⟨rfl, MN.rf mem⟩⟩
        | exact ⟨_, rfl, fun _ => ⟨by rw [show chI (nI j) (nI 0) = 30 + 12 * j from by show 30 + 12 * toN (nI j) + 0 = _; rw [ej, Nat.add_zero]], by rw [show chI (nI j) (nI 0) = 30 + 12 * j from by show 30 + 12 * toN (nI j) + 0 = _; rw [ej, Nat.add_zero]]; rfl, rfl, rfl, rfl, rfl, fun k hk => by rw []⟩, fun q => absurd (⟨c_42, Or.inl ⟨rfl, c_47⟩⟩) q⟩
    · obtain ⟨j, hj, rfl⟩ := memP_ex g c_42
      have ej : toN (nI j) = j := toN_nI (by omega)
      refine g_iload C 0 dX10_change_45 rfl ?_
      refine g_ifb_eq C 63 dX10_change_47 (by decide) (fun c_47 => ?_) (fun c_47 => ?_)
      · refine g_ldc C wd_774 dX10_change_63 ?_
        refine g_iret C hQ rfl dX10_change_65 ?_
        first
          | exact ⟨_, rfl, fun q => absurd q (fun q => c_42 q.1), fun _ => ⟨rfl, MN.rf mem⟩⟩
          | exact ⟨_, rfl, fun q => absurd q (fun q => q.2.elim (fun q => c_47 q.2) (fun q => absurd q.1 (by decide))), fun _ => ⟨rfl, MN.rf mem⟩⟩
          | exact ⟨_, rfl, fun _ => ⟨by rw [show chI (nI j) (nI 0) = 30 + 12 * j from by show 30 + 12 * toN (nI j) + 0 = _; rw [ej, Nat.add_zero]], by rw [show chI (nI j) (nI 0) = 30 + 12 * j from by show 30 + 12 * toN (nI j) + 0 = _; rw [ej, Nat.add_zero]]; rfl, rfl, rfl, rfl, rfl, fun k hk => by rw []⟩, fun q => absurd (⟨c_42, Or.inl ⟨rfl, c_47⟩⟩) q⟩
      · refine g_aload_n C 1 dX10_change_50 rfl ?_
        refine g_iload_n C 2 dX10_change_51 rfl ?_
        refine g_iload_n C 3 dX10_change_52 rfl ?_
        refine g_cS1 C (As := [.int (nI j), .int (nI 0)]) (w := .int (nI (30 + 12 * j))) (mem3 := mem) iX10_at (c_X10_at l G mem j 0) wd_780 rfl ⟨Nat.le_of_ble_eq_true rfl, Nat.le_of_ble_eq_true rfl⟩ ⟨rfl, rfl⟩ rfl (Nat.le_of_ble_eq_true rfl) dX10_change_53 (congrArg Value.int (congrArg nI (by omega))) (rfl) ?_
        refine g_iload_n C 4 dX10_change_56 rfl ?_
        refine g_cV1 C (As := [.int (nI (30 + 12 * j)), .int z]) (w := .int (mem 155 (30 + 12 * j))) (mem3 := gr (gr (gr mem 156 (pshP h (mem 155) (mem 156))) 154 (upd (mem 154) 2 (nI (pushN h)))) 155 (upd (mem 155) (30 + 12 * j) z)) iX10_sets (c_X10_sets l G mem hh h4 (k := 30 + 12 * j) (by omega) z) wd_792 ob_154 rfl ⟨Nat.le_of_ble_eq_true rfl, Nat.le_of_ble_eq_true rfl⟩ ⟨rfl, rfl⟩ rfl (Nat.le_of_ble_eq_true rfl) dX10_change_57 (rfl) (rfl) ?_
        refine g_goto C 65 dX10_change_60 (by decide) ?_
        refine g_iret C hQ rfl dX10_change_65 ?_
        first
          | exact ⟨_, rfl, fun q => absurd q (fun q => c_42 q.1), fun _ => ⟨rfl, MN.rf mem⟩⟩
          | exact ⟨_, rfl, fun q => absurd q (fun q => q.2.elim (fun q => c_47 q.2) (fun q => absurd q.1 (by decide))), fun _ => ⟨rfl, MN.rf mem⟩⟩
          | exact ⟨_, rfl, fun _ => ⟨by rw [show chI (nI j) (nI 0) = 30 + 12 * j from by show 30 + 12 * toN (nI j) + 0 = _; rw [ej, Nat.add_zero]], by rw [show chI (nI j) (nI 0) = 30 + 12 * j from by show 30 + 12 * toN (nI j) + 0 = _; rw [ej, Nat.add_zero]]; rfl, rfl, rfl, rfl, rfl, fun k hk => by rw [gr_n (by omega), gr_n (by omega), gr_n (by omega)]⟩, fun q => absurd (⟨c_42, Or.inl ⟨rfl, c_47⟩⟩) q⟩

def rm_X10_live : Room := { frames := 2, cells := 0, slots := 0, locals := 44 }
theorem iX10_live : gIv yX10_live cX10_live 3 (some .int) 2 := ⟨⟨wd_799, wd_32, by decide +kernel, by decide +kernel, by decide +kernel⟩, wd_797, wd_798⟩
set_option maxRecDepth 100000 in
set_option maxHeartbeats 4000000 in
theorem c_X10_live (l : Launch) (G : gG) {T : Nat} (mem : gM) (g : Good T (mem 155)) {h : Nat} (hh : mem 154 2 = nI h) (h4 : h ≤ 4) (x z : Int32) : gMet l yX10_live cX10_live 3 (some .int) rm_X10_live G [.ref (gad G 154), .int x, .int z] mem (fun a u => ∃ rr : Int32, a = some (.int rr) ∧ MX h mem u (memP (mem 155) x) (mem 155 (32 + 12 * toN x)) (kBad) (upd (mem 155) (32 + 12 * toN x) (if z = 0 then nI 0 else nI 1)) rr) := by
  refine g_of (own := RX10) (L0 := [(0, .ref (gad G 154)), (1, .int x), (2, .int z)]) (by decide +kernel) rfl (Nat.le_of_ble_eq_true rfl) rfl ?_
  intro p e s m args below meth c C Q hQ
  have hn10 := gd_n10 g
  refine g_aload_n C 0 dX10_live_0 rfl ?_
  refine g_iload_n C 1 dX10_live_1 rfl ?_
  refine g_cV1 C (As := [.int x]) (w := .int (b2i (memP (mem 155) x))) (mem3 := mem) iX10_isMember (c_X10_isMember l G mem g x) wd_788 ob_154 rfl ⟨Nat.le_of_ble_eq_true rfl, Nat.le_of_ble_eq_true rfl⟩ ⟨rfl, rfl⟩ rfl (Nat.le_of_ble_eq_true rfl) dX10_live_2 (rfl) (rfl) ?_
  refine g_ifb_eq C 29 dX10_live_5 (by decide) (fun c_5 => ?_) (fun c_5 => ?_)
  · refine g_ldc C wd_774 dX10_live_29 ?_
    refine g_iret C hQ rfl dX10_live_31 ?_
    exact ⟨_, rfl, fun q => absurd q (c_5), fun _ => ⟨rfl, MN.rf mem⟩⟩
  · obtain ⟨j, hj, rfl⟩ := memP_ex g c_5
    have ej : toN (nI j) = j := toN_nI (by omega)
    refine g_aload_n C 0 dX10_live_8 rfl ?_
    refine g_iload_n C 1 dX10_live_9 rfl ?_
    refine g_iconst C (nI 2) dX10_live_10 (by decide) ?_
    refine g_cS1 C (As := [.int (nI j), .int (nI 2)]) (w := .int (nI (32 + 12 * j))) (mem3 := mem) iX10_at (c_X10_at l G mem j 2) wd_780 rfl ⟨Nat.le_of_ble_eq_true rfl, Nat.le_of_ble_eq_true rfl⟩ ⟨rfl, rfl⟩ rfl (Nat.le_of_ble_eq_true rfl) dX10_live_11 (congrArg Value.int (congrArg nI (by omega))) (rfl) ?_
    refine g_iload_n C 2 dX10_live_14 rfl ?_
    refine g_if_eq C 22 dX10_live_15 (by decide) (fun c_15 => ?_) (fun c_15 => ?_)
    · refine g_iconst C (nI 0) dX10_live_22 (by decide) ?_
      refine g_cV1 C (As := [.int (nI (32 + 12 * j)), .int (nI 0)]) (w := .int (mem 155 (32 + 12 * j))) (mem3 := gr (gr (gr mem 156 (pshP h (mem 155) (mem 156))) 154 (upd (mem 154) 2 (nI (pushN h)))) 155 (upd (mem 155) (32 + 12 * j) (nI 0))) iX10_sets (c_X10_sets l G mem hh h4 (k := 32 + 12 * j) (by omega) (nI 0)) wd_792 ob_154 rfl ⟨Nat.le_of_ble_eq_true rfl, Nat.le_of_ble_eq_true rfl⟩ ⟨rfl, rfl⟩ rfl (Nat.le_of_ble_eq_true rfl) dX10_live_23 (rfl) (rfl) ?_
      refine g_goto C 31 dX10_live_26 (by decide) ?_
      refine g_iret C hQ rfl dX10_live_31 ?_
      first
        | exact ⟨_, rfl, fun _ => ⟨by rw [ej], by rw [ej, if_pos c_15]; rfl, rfl, rfl, rfl, rfl, fun k hk => by rw [gr_n (by omega), gr_n (by omega), gr_n (by omega)]⟩, fun q => absurd (c_5) q⟩
        | exact ⟨_, rfl, fun _ => ⟨by rw [ej], by rw [ej, if_neg c_15]; rfl, rfl, rfl, rfl, rfl, fun k hk => by rw [gr_n (by omega), gr_n (by omega), gr_n (by omega)]⟩, fun q => absurd (c_5) q⟩
    · refine g_iconst C (nI 1) dX10_live_18 (by decide) ?_
      refine g_goto C 23 dX10_live_19 (by decide) ?_
      refine g_cV1 C (As := [.int (nI (32 + 12 * j)), .int (nI 1)]) (w := .int (mem 155 (32 + 12 * j))) (mem3 := gr (gr (gr mem 156 (pshP h (mem 155) (mem 156))) 154 (upd (mem 154) 2 (nI (pushN h)))) 155 (upd (mem 155) (32 + 12 * j) (nI 1))) iX10_sets (c_X10_sets l G mem hh h4 (k := 32 + 12 * j) (by omega) (nI 1)) wd_792 ob_154 rfl ⟨Nat.le_of_ble_eq_true rfl, Nat.le_of_ble_eq_true rfl⟩ ⟨rfl, rfl⟩ rfl (Nat.le_of_ble_eq_true rfl) dX10_live_23 (rfl) (rfl) ?_
      refine g_goto C 31 dX10_live_26 (by decide) ?_
      refine g_iret C hQ rfl dX10_live_31 ?_
      first
        | exact ⟨_, rfl, fun _ => ⟨by rw [ej], by rw [ej, if_pos c_15]; rfl, rfl, rfl, rfl, rfl, fun k hk => by rw [gr_n (by omega), gr_n (by omega), gr_n (by omega)]⟩, fun q => absurd (c_5) q⟩
        | exact ⟨_, rfl, fun _ => ⟨by rw [ej], by rw [ej, if_neg c_15]; rfl, rfl, rfl, rfl, rfl, fun k hk => by rw [gr_n (by omega), gr_n (by omega), gr_n (by omega)]⟩, fun q => absurd (c_5) q⟩

def rm_X10_has : Room := { frames := 0, cells := 0, slots := 0, locals := 0 }
theorem iX10_has : gIv yX10_has cX10_has 3 (some .boolean) 2 := ⟨⟨wd_811, wd_32, by decide +kernel, by decide +kernel, by decide +kernel⟩, wd_810, wd_7⟩
set_option maxRecDepth 100000 in
set_option maxHeartbeats 4000000 in
theorem c_X10_has (l : Launch) (G : gG) (mem : gM) {m1 b : Nat} (hm : m1 < 10) (hb : b < 200) : gMet l yX10_has cX10_has 3 (some .boolean) rm_X10_has G [.ref (gad G 154), .int (nI m1), .int (nI b)] mem (fun a u => a = some (.int (b2i (vLo (mem 155) b m1 = false))) ∧ u = mem) := by
  refine g_of (own := RX10) (L0 := [(0, .ref (gad G 154)), (1, .int (nI m1)), (2, .int (nI b))]) (by decide +kernel) rfl (Nat.le_of_ble_eq_true rfl) rfl ?_
  intro p e s m args below meth c C Q hQ
  refine g_aload_n C 0 dX10_has_0 rfl ?_
  refine g_get_r C ob_154 0 (by decide) rfl wd_703 dX10_has_1 ?_
  refine g_sipush C (nI 150) dX10_has_4 (by decide) ?_
  refine g_iload_n C 2 dX10_has_7 rfl ?_
  refine g_iadd_n C (d := 150 + b) dX10_has_8 rfl ?_
  refine g_iald_n C (j := 150 + b) ar_155 rfl (by omega) (by decide) dX10_has_9 ?_
  refine g_iload_n C 1 dX10_has_10 rfl ?_
  refine g_ishr C dX10_has_11 ?_
  refine g_iconst C (nI 1) dX10_has_12 (by decide) ?_
  refine g_iand C dX10_has_13 ?_
  refine g_if_ne C 21 dX10_has_14 (by decide) (fun c_14 => ?_) (fun c_14 => ?_)
  · refine g_iconst C (nI 0) dX10_has_21 (by decide) ?_
    refine g_zret C hQ rfl (Or.inl rfl) dX10_has_22 ?_
    have hq := (nhs_0 (x := mem 155 (150 + b)) (m := m1) (by omega)).trans (nhs_bt (by omega))
    first
      | exact ⟨by rw [b2i_f (P := vLo (mem 155) b m1 = false) (fun q => c_14 (hq.mpr q))]; rfl, rfl⟩
      | exact ⟨by rw [b2i_t (P := vLo (mem 155) b m1 = false) (hq.mp c_14)]; rfl, rfl⟩
  · refine g_iconst C (nI 1) dX10_has_17 (by decide) ?_
    refine g_goto C 22 dX10_has_18 (by decide) ?_
    refine g_zret C hQ rfl (Or.inr rfl) dX10_has_22 ?_
    have hq := (nhs_0 (x := mem 155 (150 + b)) (m := m1) (by omega)).trans (nhs_bt (by omega))
    first
      | exact ⟨by rw [b2i_f (P := vLo (mem 155) b m1 = false) (fun q => c_14 (hq.mpr q))]; rfl, rfl⟩
      | exact ⟨by rw [b2i_t (P := vLo (mem 155) b m1 = false) (hq.mp c_14)]; rfl, rfl⟩

def rm_X10_told : Room := { frames := 1, cells := 0, slots := 0, locals := 22 }
theorem iX10_told : gIv yX10_told cX10_told 5 (some .int) 2 := ⟨⟨wd_807, wd_32, by decide +kernel, by decide +kernel, by decide +kernel⟩, wd_806, wd_6⟩
set_option maxRecDepth 100000 in
set_option maxHeartbeats 4000000 in
theorem c_X10_told (l : Launch) (G : gG) {T : Nat} (mem : gM) (g : Good T (mem 155)) {m1 k : Nat} (hm : m1 < vN (mem 155)) (hk : k < 9) : gMet l yX10_told cX10_told 5 (some .int) rm_X10_told G [.ref (gad G 154), .int (nI m1), .int (nI k)] mem (fun a u => a = some (.int (mbR (mem 155) m1 k)) ∧ u = mem) := by
  refine g_of (own := RX10) (L0 := [(0, .ref (gad G 154)), (1, .int (nI m1)), (2, .int (nI k))]) (by decide +kernel) rfl (Nat.le_of_ble_eq_true rfl) rfl ?_
  intro p e s m args below meth c C Q hQ
  have hn10 := gd_n10 g
  refine g_iload_n C 2 dX10_told_0 rfl ?_
  refine g_iconst C (nI 5) dX10_told_1 (by decide) ?_
  refine g_icmp_eq C 16 dX10_told_2 (by decide) (fun c_2 => ?_) (fun c_2 => ?_)
  · obtain rfl : k = 5 := (nI_iff (by omega) (by decide)).mp c_2
    refine g_iconst C (nI 0) dX10_told_16 (by decide) ?_
    refine g_istore_n C (L2 := [(3, .int (nI 0)), (0, .ref (gad G 154)), (1, .int (nI m1)), (2, .int (nI 5))]) dX10_told_17 (by decide) rfl ?_
    refine g_iconst C (nI 0) dX10_told_18 (by decide) ?_
    refine g_istore C (L2 := [(4, .int (nI 0)), (3, .int (nI 0)), (0, .ref (gad G 154)), (1, .int (nI m1)), (2, .int (nI 5))]) dX10_told_19 (by decide) rfl ?_
    have lp_21 : ∀ (fu : Nat) (i : Nat), (i ≤ 200) → 200 - i < fu → gV p l e rm_X10_told s m args below meth c 0 0 Q G 5 mem 21 [(0, .ref (gad G 154)), (1, .int (nI m1)), (2, .int (nI 5)), (3, .int (nI (fa_cnt (fun b => vLo (mem 155) b m1) i))), (4, .int (nI i))] [] := by
      intro fu
      induction fu with
      | zero => intro i _ hfu; exact absurd hfu (Nat.not_lt_zero _)
      | succ fu ih_21 =>
        intro i hi hfu_21
        refine g_iload C 4 dX10_told_21 rfl ?_
        refine g_sipush C (nI 200) dX10_told_23 (by decide) ?_
        refine g_icmp_ge C 53 dX10_told_26 (by decide) (fun c_26 => ?_) (fun c_26 => ?_)
        · have hin : i = 200 := by have q := (nI_leI (a := 200) (b := i) (by omega) (by omega)).mp c_26; omega
          refine g_iload_n C 3 dX10_told_53 rfl ?_
          refine g_iret C hQ rfl dX10_told_54 ?_
          exact ⟨by rw [mbR, if_pos rfl, hin], rfl⟩
        · have hi2 : i < 200 := by have q := mt (nI_leI (a := 200) (b := i) (by omega) (by omega)).mpr c_26; omega
          refine g_iload_n C 3 dX10_told_29 rfl ?_
          refine g_aload_n C 0 dX10_told_30 rfl ?_
          refine g_iload_n C 1 dX10_told_31 rfl ?_
          refine g_iload C 4 dX10_told_32 rfl ?_
          refine g_cV1 C (As := [.int (nI m1), .int (nI i)]) (w := .int (b2i (vLo (mem 155) i m1 = false))) (mem3 := mem) iX10_has (c_X10_has l G mem (m1 := m1) (b := i) (by omega) (by omega)) wd_808 ob_154 rfl ⟨Nat.le_of_ble_eq_true rfl, Nat.le_of_ble_eq_true rfl⟩ ⟨rfl, rfl⟩ rfl (Nat.le_of_ble_eq_true rfl) dX10_told_34 (rfl) (rfl) ?_
          refine g_ifb_eq C 44 dX10_told_37 (by decide) (fun c_37 => ?_) (fun c_37 => ?_)
          · refine g_iconst C (nI 1) dX10_told_44 (by decide) ?_
            refine g_iadd_n C (d := (fa_cnt (fun b => vLo (mem 155) b m1) i) + 1) dX10_told_45 rfl ?_
            refine g_istore_n C (L2 := [(3, .int (nI ((fa_cnt (fun b => vLo (mem 155) b m1) i) + 1))), (0, .ref (gad G 154)), (1, .int (nI m1)), (2, .int (nI 5)), (4, .int (nI i))]) dX10_told_46 (by decide) rfl ?_
            refine g_iinc C (v := nI (i + 1)) (L2 := [(4, .int (nI (i + 1))), (3, .int (nI ((fa_cnt (fun b => vLo (mem 155) b m1) i) + 1))), (0, .ref (gad G 154)), (1, .int (nI m1)), (2, .int (nI 5))]) 4 dX10_told_47 rfl (nI_1 _) (by decide) rfl ?_
            refine g_goto C 21 dX10_told_50 (by decide) ?_
            refine g_loc (L2 := [(0, .ref (gad G 154)), (1, .int (nI m1)), (2, .int (nI 5)), (3, .int (nI ((fa_cnt (fun b => vLo (mem 155) b m1) i) + 1))), (4, .int (nI (i + 1)))]) [2, 3, 4, 1, 0] rfl ?_
            exact g_eq (ih_21 (i + 1) (hi2) (by omega)) (rfl) (gLc rfl (gLc rfl (gLc rfl (gLc (congrArg Value.int (by first | (rw [fa_cnt_yes (p := fun b => vLo (mem 155) b m1) (by simpa using c_37)]; done) | (rw [fa_cnt_no (p := fun b => vLo (mem 155) b m1) c_37]; rfl))) (rfl))))) rfl
          · refine g_iconst C (nI 0) dX10_told_40 (by decide) ?_
            refine g_goto C 45 dX10_told_41 (by decide) ?_
            refine g_iadd_n C (d := (fa_cnt (fun b => vLo (mem 155) b m1) i) + 0) dX10_told_45 rfl ?_
            refine g_istore_n C (L2 := [(3, .int (nI ((fa_cnt (fun b => vLo (mem 155) b m1) i) + 0))), (0, .ref (gad G 154)), (1, .int (nI m1)), (2, .int (nI 5)), (4, .int (nI i))]) dX10_told_46 (by decide) rfl ?_
            refine g_iinc C (v := nI (i + 1)) (L2 := [(4, .int (nI (i + 1))), (3, .int (nI ((fa_cnt (fun b => vLo (mem 155) b m1) i) + 0))), (0, .ref (gad G 154)), (1, .int (nI m1)), (2, .int (nI 5))]) 4 dX10_told_47 rfl (nI_1 _) (by decide) rfl ?_
            refine g_goto C 21 dX10_told_50 (by decide) ?_
            refine g_loc (L2 := [(0, .ref (gad G 154)), (1, .int (nI m1)), (2, .int (nI 5)), (3, .int (nI ((fa_cnt (fun b => vLo (mem 155) b m1) i) + 0))), (4, .int (nI (i + 1)))]) [2, 3, 4, 1, 0] rfl ?_
            exact g_eq (ih_21 (i + 1) (hi2) (by omega)) (rfl) (gLc rfl (gLc rfl (gLc rfl (gLc (congrArg Value.int (by first | (rw [fa_cnt_yes (p := fun b => vLo (mem 155) b m1) (by simpa using c_37)]; done) | (rw [fa_cnt_no (p := fun b => vLo (mem 155) b m1) c_37]; rfl))) (rfl))))) rfl
    refine g_loc (L2 := [(0, .ref (gad G 154)), (1, .int (nI m1)), (2, .int (nI 5)), (3, .int (nI 0)), (4, .int (nI 0))]) [2, 3, 4, 1, 0] rfl ?_
    exact g_eq (lp_21 (_ + 1) 0 (Nat.zero_le _) (Nat.lt_succ_self _)) (rfl) (gLc rfl (gLc rfl (gLc rfl (gLc (congrArg Value.int (rfl)) (rfl))))) rfl
  · have c_2 : ¬ k = 5 := fun q => c_2 (by rw [q])
    refine g_aload_n C 0 dX10_told_5 rfl ?_
    refine g_get_r C ob_154 0 (by decide) rfl wd_703 dX10_told_6 ?_
    refine g_iload_n C 1 dX10_told_9 rfl ?_
    refine g_iload_n C 2 dX10_told_10 rfl ?_
    refine g_cS1 C (As := [.int (nI m1), .int (nI k)]) (w := .int (nI (30 + 12 * m1 + k))) (mem3 := mem) iX10_at (c_X10_at l G mem m1 k) wd_780 rfl ⟨Nat.le_of_ble_eq_true rfl, Nat.le_of_ble_eq_true rfl⟩ ⟨rfl, rfl⟩ rfl (Nat.le_of_ble_eq_true rfl) dX10_told_11 (rfl) (rfl) ?_
    refine g_iald_n C (j := 30 + 12 * m1 + k) ar_155 rfl (by omega) (by decide) dX10_told_14 ?_
    refine g_iret C hQ rfl dX10_told_15 ?_
    exact ⟨by rw [mbR, if_neg c_2], rfl⟩

def rm_X10_member : Room := { frames := 2, cells := 0, slots := 0, locals := 46 }
theorem iX10_member : gIv yX10_member cX10_member 3 (some .int) 2 := ⟨⟨wd_803, wd_32, by decide +kernel, by decide +kernel, by decide +kernel⟩, wd_801, wd_802⟩
set_option maxRecDepth 100000 in
set_option maxHeartbeats 4000000 in
theorem c_X10_member (l : Launch) (G : gG) {T : Nat} (mem : gM) (g : Good T (mem 155)) (x y : Int32) : gMet l yX10_member cX10_member 3 (some .int) rm_X10_member G [.ref (gad G 154), .int x, .int y] mem (fun a u => a = some (.int (memberR (mem 155) x y)) ∧ u = mem) := by
  refine g_of (own := RX10) (L0 := [(0, .ref (gad G 154)), (1, .int x), (2, .int y)]) (by decide +kernel) rfl (Nat.le_of_ble_eq_true rfl) rfl ?_
  intro p e s m args below meth c C Q hQ
  have hn10 := gd_n10 g
  refine g_aload_n C 0 dX10_member_0 rfl ?_
  refine g_iload_n C 1 dX10_member_1 rfl ?_
  refine g_cV1 C (As := [.int x]) (w := .int (b2i (memP (mem 155) x))) (mem3 := mem) iX10_isMember (c_X10_isMember l G mem g x) wd_788 ob_154 rfl ⟨Nat.le_of_ble_eq_true rfl, Nat.le_of_ble_eq_true rfl⟩ ⟨rfl, rfl⟩ rfl (Nat.le_of_ble_eq_true rfl) dX10_member_2 (rfl) (rfl) ?_
  refine g_ifb_eq C 27 dX10_member_5 (by decide) (fun c_5 => ?_) (fun c_5 => ?_)
  · refine g_ldc C wd_774 dX10_member_27 ?_
    refine g_iret C hQ rfl dX10_member_29 ?_
    first
      | exact ⟨by rw [member_n g hj hk], rfl⟩
      | exact ⟨by rw [memberR, if_neg (fun q => c_15 q.2)], rfl⟩
      | exact ⟨by rw [memberR, if_neg (fun q => c_5 q.1)], rfl⟩
  · obtain ⟨j, hj, rfl⟩ := memP_ex g c_5
    have ej : toN (nI j) = j := toN_nI (by omega)
    refine g_iload_n C 2 dX10_member_8 rfl ?_
    refine g_iconst C (nI 0) dX10_member_9 (by decide) ?_
    refine g_bipush C (nI 8) dX10_member_10 (by decide) ?_
    refine g_cS1 C (As := [.int y, .int (nI 0), .int (nI 8)]) (w := .int (b2i (0 ≤ y ∧ y < nI 9))) (mem3 := mem) iX10_in (c_X10_in l G mem y (nI 0) (nI 8)) wd_771 rfl ⟨Nat.le_of_ble_eq_true rfl, Nat.le_of_ble_eq_true rfl⟩ ⟨rfl, rfl⟩ rfl (Nat.le_of_ble_eq_true rfl) dX10_member_12 (congrArg Value.int (b2i_congr (in_lt rfl (by decide)))) (rfl) ?_
    refine g_ifb_eq C 27 dX10_member_15 (by decide) (fun c_15 => ?_) (fun c_15 => ?_)
    · refine g_ldc C wd_774 dX10_member_27 ?_
      refine g_iret C hQ rfl dX10_member_29 ?_
      first
        | exact ⟨by rw [member_n g hj hk], rfl⟩
        | exact ⟨by rw [memberR, if_neg (fun q => c_15 q.2)], rfl⟩
        | exact ⟨by rw [memberR, if_neg (fun q => c_5 q.1)], rfl⟩
    · obtain ⟨k, hk, rfl⟩ := lt_ex (by decide) c_15
      refine g_aload_n C 0 dX10_member_18 rfl ?_
      refine g_iload_n C 1 dX10_member_19 rfl ?_
      refine g_iload_n C 2 dX10_member_20 rfl ?_
      refine g_cV1 C (As := [.int (nI j), .int (nI k)]) (w := .int (mbR (mem 155) j k)) (mem3 := mem) iX10_told (c_X10_told l G mem g (m1 := j) (k := k) hj hk) wd_804 ob_154 rfl ⟨Nat.le_of_ble_eq_true rfl, Nat.le_of_ble_eq_true rfl⟩ ⟨rfl, rfl⟩ rfl (Nat.le_of_ble_eq_true rfl) dX10_member_21 (rfl) (rfl) ?_
      refine g_goto C 29 dX10_member_24 (by decide) ?_
      refine g_iret C hQ rfl dX10_member_29 ?_
      first
        | exact ⟨by rw [member_n g hj hk], rfl⟩
        | exact ⟨by rw [memberR, if_neg (fun q => c_15 q.2)], rfl⟩
        | exact ⟨by rw [memberR, if_neg (fun q => c_5 q.1)], rfl⟩

theorem set_no {x y : Int32} (h0 : ¬ x = 0) (h1 : ¬ x = nI 1) (h2 : ¬ x = nI 2) (h3 : ¬ (nI 3 ≤ x ∧ x ≤ nI 4)) : ¬ setP x y := fun q => by
  obtain ⟨j, hj, rfl⟩ := lt_ex (by decide) q.1
  match j, hj with
  | 0, _ => exact h0 rfl
  | 1, _ => exact h1 rfl
  | 2, _ => exact h2 rfl
  | 3, _ => exact h3 (by decide)
  | 4, _ => exact h3 (by decide)
theorem set_z : zLow 0 = nI 1 ∧ zHigh 0 = nI 1000 ∧ zLow 1 = nI 0 ∧ zHigh 1 = nI 500 ∧ zLow 2 = nI 1 ∧ zHigh 2 = nI 10 ∧ zLow 3 = nI 0 ∧ zHigh 3 = nI 100 ∧ zLow 4 = nI 0 ∧ zHigh 4 = nI 100 := by decide +kernel
theorem set_j {j : Nat} {y lo hi : Int32} (hj : j < 5) (hl : zLow j = lo) (hh : zHigh j = hi) : setP (nI j) y ↔ (lo ≤ y ∧ y ≤ hi) := by
  have e : toN (nI j) = j := toN_nI (by omega)
  unfold setP
  rw [e, hl, hh]
  exact ⟨fun q => q.2, fun q => ⟨lt_of (by decide) hj, q⟩⟩
theorem set_34 {j : Nat} {y : Int32} (h3 : 3 ≤ j) (h4 : j ≤ 4) : setP (nI j) y ↔ (nI 0 ≤ y ∧ y ≤ nI 100) := by
  have q : j = 3 ∨ j = 4 := by omega
  rcases q with rfl | rfl
  · exact set_j (by decide) (set_z.2.2.2.2.2.2.1) (set_z.2.2.2.2.2.2.2.1)
  · exact set_j (by decide) (set_z.2.2.2.2.2.2.2.2.1) (set_z.2.2.2.2.2.2.2.2.2)

def rm_X10_set : Room := { frames := 2, cells := 0, slots := 0, locals := 44 }
theorem iX10_set : gIv yX10_set cX10_set 4 (some .int) 2 := ⟨⟨wd_815, wd_32, by decide +kernel, by decide +kernel, by decide +kernel⟩, wd_813, wd_814⟩
set_option maxRecDepth 100000 in
set_option maxHeartbeats 4000000 in
theorem c_X10_set (l : Launch) (G : gG) {T : Nat} (mem : gM) (g : Good T (mem 155)) {h : Nat} (hh : mem 154 2 = nI h) (h4 : h ≤ 4) (x y : Int32) : gMet l yX10_set cX10_set 4 (some .int) rm_X10_set G [.ref (gad G 154), .int x, .int y] mem (fun a u => ∃ rr : Int32, a = some (.int rr) ∧ MX h mem u (setP x y) (mem 155 (toN x)) (kBad) (upd (mem 155) (toN x) y) rr) := by
  refine g_of (own := RX10) (L0 := [(0, .ref (gad G 154)), (1, .int x), (2, .int y)]) (by decide +kernel) rfl (Nat.le_of_ble_eq_true rfl) rfl ?_
  intro p e s m args below meth c C Q hQ
  have hn10 := gd_n10 g
  refine g_iload_n C 1 dX10_set_0 rfl ?_
  refine g_if_ne C 15 dX10_set_1 (by decide) (fun c_1 => ?_) (fun c_1 => ?_)
  · refine g_iload_n C 1 dX10_set_15 rfl ?_
    refine g_iconst C (nI 1) dX10_set_16 (by decide) ?_
    refine g_icmp_ne C 31 dX10_set_17 (by decide) (fun c_17 => ?_) (fun c_17 => ?_)
    · refine g_iload_n C 1 dX10_set_31 rfl ?_
      refine g_iconst C (nI 2) dX10_set_32 (by decide) ?_
      refine g_icmp_ne C 46 dX10_set_33 (by decide) (fun c_33 => ?_) (fun c_33 => ?_)
      · refine g_iload_n C 1 dX10_set_46 rfl ?_
        refine g_iconst C (nI 3) dX10_set_47 (by decide) ?_
        refine g_iconst C (nI 4) dX10_set_48 (by decide) ?_
        refine g_cS1 C (As := [.int x, .int (nI 3), .int (nI 4)]) (w := .int (b2i ((nI 3) ≤ x ∧ x ≤ (nI 4)))) (mem3 := mem) iX10_in (c_X10_in l G mem x (nI 3) (nI 4)) wd_771 rfl ⟨Nat.le_of_ble_eq_true rfl, Nat.le_of_ble_eq_true rfl⟩ ⟨rfl, rfl⟩ rfl (Nat.le_of_ble_eq_true rfl) dX10_set_49 (rfl) (rfl) ?_
        refine g_ifb_eq C 69 dX10_set_52 (by decide) (fun c_52 => ?_) (fun c_52 => ?_)
        · refine g_iconst C (nI 0) dX10_set_69 (by decide) ?_
          refine g_istore_n C (L2 := [(3, .int (nI 0)), (0, .ref (gad G 154)), (1, .int x), (2, .int y)]) dX10_set_70 (by decide) rfl ?_
          refine g_iload_n C 0 dX10_set_71 rfl ?_
          refine g_if_eq_t C 84 (by decide) dX10_set_72 (by decide) ?_
          refine g_ldc C wd_774 dX10_set_84 ?_
          refine g_iret C hQ rfl dX10_set_86 ?_
          exact ⟨_, rfl, fun q => absurd q (set_no c_1 c_17 c_33 c_52), fun _ => ⟨rfl, MN.rf mem⟩⟩
        · obtain ⟨j, hj3, hj4, rfl⟩ : ∃ j : Nat, 3 ≤ j ∧ j ≤ 4 ∧ x = nI j := by have q := nI_range (a := 3) (b := 4) (by decide) (by decide) c_52.1 c_52.2; exact ⟨toN x, q.2.1, q.2.2, q.1⟩
          have hsj := set_34 (y := y) hj3 hj4
          refine g_iload_n C 2 dX10_set_55 rfl ?_
          refine g_iconst C (nI 0) dX10_set_56 (by decide) ?_
          refine g_bipush C (nI 100) dX10_set_57 (by decide) ?_
          refine g_cS1 C (As := [.int y, .int (nI 0), .int (nI 100)]) (w := .int (b2i (setP (nI j) y))) (mem3 := mem) iX10_in (c_X10_in l G mem y (nI 0) (nI 100)) wd_771 rfl ⟨Nat.le_of_ble_eq_true rfl, Nat.le_of_ble_eq_true rfl⟩ ⟨rfl, rfl⟩ rfl (Nat.le_of_ble_eq_true rfl) dX10_set_59 (congrArg Value.int (b2i_congr (hsj.symm))) (rfl) ?_
          refine g_ifb_eq C 69 dX10_set_62 (by decide) (fun c_62 => ?_) (fun c_62 => ?_)
          · refine g_iconst C (nI 0) dX10_set_69 (by decide) ?_
            refine g_istore_n C (L2 := [(3, .int (nI 0)), (0, .ref (gad G 154)), (1, .int (nI j)), (2, .int y)]) dX10_set_70 (by decide) rfl ?_
            refine g_iload_n C 0 dX10_set_71 rfl ?_
            refine g_if_eq_t C 84 (by decide) dX10_set_72 (by decide) ?_
            refine g_ldc C wd_774 dX10_set_84 ?_
            refine g_iret C hQ rfl dX10_set_86 ?_
            have ej : toN (nI j) = j := toN_nI (by omega)
            first
              | exact ⟨_, rfl, fun q => absurd q (c_62), fun _ => ⟨rfl, MN.rf mem⟩⟩
              | exact ⟨_, rfl, fun _ => ⟨by rw [ej], by rw [ej]; rfl, rfl, rfl, rfl, rfl, fun k hk => by rw []⟩, fun q => absurd (c_62) q⟩
          · refine g_iconst C (nI 1) dX10_set_65 (by decide) ?_
            refine g_goto C 70 dX10_set_66 (by decide) ?_
            refine g_istore_n C (L2 := [(3, .int (nI 1)), (0, .ref (gad G 154)), (1, .int (nI j)), (2, .int y)]) dX10_set_70 (by decide) rfl ?_
            refine g_iload_n C 0 dX10_set_71 rfl ?_
            refine g_if_eq_f C 84 (by decide) dX10_set_72 (by decide) ?_
            refine g_aload_n C 1 dX10_set_75 rfl ?_
            refine g_iload_n C 2 dX10_set_76 rfl ?_
            refine g_iload_n C 3 dX10_set_77 rfl ?_
            refine g_cV1 C (As := [.int (nI j), .int y]) (w := .int (mem 155 j)) (mem3 := gr (gr (gr mem 156 (pshP h (mem 155) (mem 156))) 154 (upd (mem 154) 2 (nI (pushN h)))) 155 (upd (mem 155) j y)) iX10_sets (c_X10_sets l G mem hh h4 (k := j) (by omega) y) wd_792 ob_154 rfl ⟨Nat.le_of_ble_eq_true rfl, Nat.le_of_ble_eq_true rfl⟩ ⟨rfl, rfl⟩ rfl (Nat.le_of_ble_eq_true rfl) dX10_set_78 (rfl) (rfl) ?_
            refine g_goto C 86 dX10_set_81 (by decide) ?_
            refine g_iret C hQ rfl dX10_set_86 ?_
            have ej : toN (nI j) = j := toN_nI (by omega)
            first
              | exact ⟨_, rfl, fun q => absurd q (c_62), fun _ => ⟨rfl, MN.rf mem⟩⟩
              | exact ⟨_, rfl, fun _ => ⟨by rw [ej], by rw [ej]; rfl, rfl, rfl, rfl, rfl, fun k hk => by rw [gr_n (by omega), gr_n (by omega), gr_n (by omega)]⟩, fun q => absurd (c_62) q⟩
      · obtain rfl : x = nI 2 := c_33
        refine g_iload_n C 2 dX10_set_36 rfl ?_
        refine g_iconst C (nI 1) dX10_set_37 (by decide) ?_
        refine g_bipush C (nI 10) dX10_set_38 (by decide) ?_
        refine g_cS1 C (As := [.int y, .int (nI 1), .int (nI 10)]) (w := .int (b2i (setP (nI 2) y))) (mem3 := mem) iX10_in (c_X10_in l G mem y (nI 1) (nI 10)) wd_771 rfl ⟨Nat.le_of_ble_eq_true rfl, Nat.le_of_ble_eq_true rfl⟩ ⟨rfl, rfl⟩ rfl (Nat.le_of_ble_eq_true rfl) dX10_set_40 (congrArg Value.int (b2i_congr ((set_j (by decide) (set_z.2.2.2.2.1) (set_z.2.2.2.2.2.1)).symm))) (rfl) ?_
        refine g_goto C 70 dX10_set_43 (by decide) ?_
        refine g_istore_n C (L2 := [(3, .int (b2i (setP (nI 2) y))), (0, .ref (gad G 154)), (1, .int (nI 2)), (2, .int y)]) dX10_set_70 (by decide) rfl ?_
        refine g_iload_n C 0 dX10_set_71 rfl ?_
        refine g_ifb_eq C 84 dX10_set_72 (by decide) (fun c_72 => ?_) (fun c_72 => ?_)
        · refine g_ldc C wd_774 dX10_set_84 ?_
          refine g_iret C hQ rfl dX10_set_86 ?_
          first
            | exact ⟨_, rfl, fun q => absurd q (c_72), fun _ => ⟨rfl, MN.rf mem⟩⟩
            | exact ⟨_, rfl, fun _ => ⟨rfl, rfl, rfl, rfl, rfl, rfl, fun k hk => by rw []⟩, fun q => absurd (c_72) q⟩
        · refine g_aload_n C 1 dX10_set_75 rfl ?_
          refine g_iload_n C 2 dX10_set_76 rfl ?_
          refine g_iload_n C 3 dX10_set_77 rfl ?_
          refine g_cV1 C (As := [.int (nI 2), .int y]) (w := .int (mem 155 2)) (mem3 := gr (gr (gr mem 156 (pshP h (mem 155) (mem 156))) 154 (upd (mem 154) 2 (nI (pushN h)))) 155 (upd (mem 155) 2 y)) iX10_sets (c_X10_sets l G mem hh h4 (k := 2) (by omega) y) wd_792 ob_154 rfl ⟨Nat.le_of_ble_eq_true rfl, Nat.le_of_ble_eq_true rfl⟩ ⟨rfl, rfl⟩ rfl (Nat.le_of_ble_eq_true rfl) dX10_set_78 (rfl) (rfl) ?_
          refine g_goto C 86 dX10_set_81 (by decide) ?_
          refine g_iret C hQ rfl dX10_set_86 ?_
          first
            | exact ⟨_, rfl, fun q => absurd q (c_72), fun _ => ⟨rfl, MN.rf mem⟩⟩
            | exact ⟨_, rfl, fun _ => ⟨rfl, rfl, rfl, rfl, rfl, rfl, fun k hk => by rw [gr_n (by omega), gr_n (by omega), gr_n (by omega)]⟩, fun q => absurd (c_72) q⟩
    · obtain rfl : x = nI 1 := c_17
      refine g_iload_n C 2 dX10_set_20 rfl ?_
      refine g_iconst C (nI 0) dX10_set_21 (by decide) ?_
      refine g_sipush C (nI 500) dX10_set_22 (by decide) ?_
      refine g_cS1 C (As := [.int y, .int (nI 0), .int (nI 500)]) (w := .int (b2i (setP (nI 1) y))) (mem3 := mem) iX10_in (c_X10_in l G mem y (nI 0) (nI 500)) wd_771 rfl ⟨Nat.le_of_ble_eq_true rfl, Nat.le_of_ble_eq_true rfl⟩ ⟨rfl, rfl⟩ rfl (Nat.le_of_ble_eq_true rfl) dX10_set_25 (congrArg Value.int (b2i_congr ((set_j (by decide) (set_z.2.2.1) (set_z.2.2.2.1)).symm))) (rfl) ?_
      refine g_goto C 70 dX10_set_28 (by decide) ?_
      refine g_istore_n C (L2 := [(3, .int (b2i (setP (nI 1) y))), (0, .ref (gad G 154)), (1, .int (nI 1)), (2, .int y)]) dX10_set_70 (by decide) rfl ?_
      refine g_iload_n C 0 dX10_set_71 rfl ?_
      refine g_ifb_eq C 84 dX10_set_72 (by decide) (fun c_72 => ?_) (fun c_72 => ?_)
      · refine g_ldc C wd_774 dX10_set_84 ?_
        refine g_iret C hQ rfl dX10_set_86 ?_
        first
          | exact ⟨_, rfl, fun q => absurd q (c_72), fun _ => ⟨rfl, MN.rf mem⟩⟩
          | exact ⟨_, rfl, fun _ => ⟨rfl, rfl, rfl, rfl, rfl, rfl, fun k hk => by rw []⟩, fun q => absurd (c_72) q⟩
      · refine g_aload_n C 1 dX10_set_75 rfl ?_
        refine g_iload_n C 2 dX10_set_76 rfl ?_
        refine g_iload_n C 3 dX10_set_77 rfl ?_
        refine g_cV1 C (As := [.int (nI 1), .int y]) (w := .int (mem 155 1)) (mem3 := gr (gr (gr mem 156 (pshP h (mem 155) (mem 156))) 154 (upd (mem 154) 2 (nI (pushN h)))) 155 (upd (mem 155) 1 y)) iX10_sets (c_X10_sets l G mem hh h4 (k := 1) (by omega) y) wd_792 ob_154 rfl ⟨Nat.le_of_ble_eq_true rfl, Nat.le_of_ble_eq_true rfl⟩ ⟨rfl, rfl⟩ rfl (Nat.le_of_ble_eq_true rfl) dX10_set_78 (rfl) (rfl) ?_
        refine g_goto C 86 dX10_set_81 (by decide) ?_
        refine g_iret C hQ rfl dX10_set_86 ?_
        first
          | exact ⟨_, rfl, fun q => absurd q (c_72), fun _ => ⟨rfl, MN.rf mem⟩⟩
          | exact ⟨_, rfl, fun _ => ⟨rfl, rfl, rfl, rfl, rfl, rfl, fun k hk => by rw [gr_n (by omega), gr_n (by omega), gr_n (by omega)]⟩, fun q => absurd (c_72) q⟩
  · obtain rfl : x = nI 0 := c_1
    refine g_iload_n C 2 dX10_set_4 rfl ?_
    refine g_iconst C (nI 1) dX10_set_5 (by decide) ?_
    refine g_sipush C (nI 1000) dX10_set_6 (by decide) ?_
    refine g_cS1 C (As := [.int y, .int (nI 1), .int (nI 1000)]) (w := .int (b2i (setP (nI 0) y))) (mem3 := mem) iX10_in (c_X10_in l G mem y (nI 1) (nI 1000)) wd_771 rfl ⟨Nat.le_of_ble_eq_true rfl, Nat.le_of_ble_eq_true rfl⟩ ⟨rfl, rfl⟩ rfl (Nat.le_of_ble_eq_true rfl) dX10_set_9 (congrArg Value.int (b2i_congr ((set_j (by decide) (set_z.1) (set_z.2.1)).symm))) (rfl) ?_
    refine g_goto C 70 dX10_set_12 (by decide) ?_
    refine g_istore_n C (L2 := [(3, .int (b2i (setP (nI 0) y))), (0, .ref (gad G 154)), (1, .int (nI 0)), (2, .int y)]) dX10_set_70 (by decide) rfl ?_
    refine g_iload_n C 0 dX10_set_71 rfl ?_
    refine g_ifb_eq C 84 dX10_set_72 (by decide) (fun c_72 => ?_) (fun c_72 => ?_)
    · refine g_ldc C wd_774 dX10_set_84 ?_
      refine g_iret C hQ rfl dX10_set_86 ?_
      first
        | exact ⟨_, rfl, fun q => absurd q (c_72), fun _ => ⟨rfl, MN.rf mem⟩⟩
        | exact ⟨_, rfl, fun _ => ⟨rfl, rfl, rfl, rfl, rfl, rfl, fun k hk => by rw []⟩, fun q => absurd (c_72) q⟩
    · refine g_aload_n C 1 dX10_set_75 rfl ?_
      refine g_iload_n C 2 dX10_set_76 rfl ?_
      refine g_iload_n C 3 dX10_set_77 rfl ?_
      refine g_cV1 C (As := [.int (nI 0), .int y]) (w := .int (mem 155 0)) (mem3 := gr (gr (gr mem 156 (pshP h (mem 155) (mem 156))) 154 (upd (mem 154) 2 (nI (pushN h)))) 155 (upd (mem 155) 0 y)) iX10_sets (c_X10_sets l G mem hh h4 (k := 0) (by omega) y) wd_792 ob_154 rfl ⟨Nat.le_of_ble_eq_true rfl, Nat.le_of_ble_eq_true rfl⟩ ⟨rfl, rfl⟩ rfl (Nat.le_of_ble_eq_true rfl) dX10_set_78 (rfl) (rfl) ?_
      refine g_goto C 86 dX10_set_81 (by decide) ?_
      refine g_iret C hQ rfl dX10_set_86 ?_
      first
        | exact ⟨_, rfl, fun q => absurd q (c_72), fun _ => ⟨rfl, MN.rf mem⟩⟩
        | exact ⟨_, rfl, fun _ => ⟨rfl, rfl, rfl, rfl, rfl, rfl, fun k hk => by rw [gr_n (by omega), gr_n (by omega), gr_n (by omega)]⟩, fun q => absurd (c_72) q⟩

def rm_X10_about : Room := { frames := 1, cells := 0, slots := 0, locals := 22 }
theorem iX10_about : gIv yX10_about cX10_about 2 (some .int) 1 := ⟨⟨wd_819, wd_32, by decide +kernel, by decide +kernel, by decide +kernel⟩, wd_817, wd_818⟩
set_option maxRecDepth 100000 in
set_option maxHeartbeats 4000000 in
theorem c_X10_about (l : Launch) (G : gG) (mem : gM) (x : Int32) : gMet l yX10_about cX10_about 2 (some .int) rm_X10_about G [.ref (gad G 154), .int x] mem (fun a u => a = some (.int (aboutR (mem 155) x)) ∧ u = mem) := by
  refine g_of (own := RX10) (L0 := [(0, .ref (gad G 154)), (1, .int x)]) (by decide +kernel) rfl (Nat.le_of_ble_eq_true rfl) rfl ?_
  intro p e s m args below meth c C Q hQ
  refine g_iload_n C 1 dX10_about_0 rfl ?_
  refine g_iconst C (nI 0) dX10_about_1 (by decide) ?_
  refine g_bipush C (nI 9) dX10_about_2 (by decide) ?_
  refine g_cS1 C (As := [.int x, .int (nI 0), .int (nI 9)]) (w := .int (b2i (0 ≤ x ∧ x < nI 10))) (mem3 := mem) iX10_in (c_X10_in l G mem x (nI 0) (nI 9)) wd_771 rfl ⟨Nat.le_of_ble_eq_true rfl, Nat.le_of_ble_eq_true rfl⟩ ⟨rfl, rfl⟩ rfl (Nat.le_of_ble_eq_true rfl) dX10_about_4 (congrArg Value.int (b2i_congr (in_lt rfl (by decide)))) (rfl) ?_
  refine g_ifb_eq C 19 dX10_about_7 (by decide) (fun c_7 => ?_) (fun c_7 => ?_)
  · refine g_ldc C wd_774 dX10_about_19 ?_
    refine g_iret C hQ rfl dX10_about_21 ?_
    first
      | exact ⟨by rw [about_n hj], rfl⟩
      | exact ⟨by rw [aboutR, if_neg c_7], rfl⟩
  · obtain ⟨j, hj, rfl⟩ := lt_ex (by decide) c_7
    refine g_aload_n C 0 dX10_about_10 rfl ?_
    refine g_get_r C ob_154 0 (by decide) rfl wd_703 dX10_about_11 ?_
    refine g_iload_n C 1 dX10_about_14 rfl ?_
    refine g_iald_n C (j := j) ar_155 rfl (by omega) (by decide) dX10_about_15 ?_
    refine g_goto C 21 dX10_about_16 (by decide) ?_
    refine g_iret C hQ rfl dX10_about_21 ?_
    first
      | exact ⟨by rw [about_n hj], rfl⟩
      | exact ⟨by rw [aboutR, if_neg c_7], rfl⟩

def rm_X10_lives : Room := { frames := 1, cells := 0, slots := 0, locals := 21 }
theorem iX10_lives : gIv yX10_lives cX10_lives 2 (some .boolean) 1 := ⟨⟨wd_835, wd_32, by decide +kernel, by decide +kernel, by decide +kernel⟩, wd_834, wd_8⟩
set_option maxRecDepth 100000 in
set_option maxHeartbeats 4000000 in
theorem c_X10_lives (l : Launch) (G : gG) (mem : gM) {m1 : Nat} (hm : m1 < 10) : gMet l yX10_lives cX10_lives 2 (some .boolean) rm_X10_lives G [.ref (gad G 154), .int (nI m1)] mem (fun a u => a = some (.int (b2i (vLv (mem 155) m1 = true))) ∧ u = mem) := by
  refine g_of (own := RX10) (L0 := [(0, .ref (gad G 154)), (1, .int (nI m1))]) (by decide +kernel) rfl (Nat.le_of_ble_eq_true rfl) rfl ?_
  intro p e s m args below meth c C Q hQ
  refine g_aload_n C 0 dX10_lives_0 rfl ?_
  refine g_get_r C ob_154 0 (by decide) rfl wd_703 dX10_lives_1 ?_
  refine g_iload_n C 1 dX10_lives_4 rfl ?_
  refine g_iconst C (nI 2) dX10_lives_5 (by decide) ?_
  refine g_cS1 C (As := [.int (nI m1), .int (nI 2)]) (w := .int (nI (32 + 12 * m1))) (mem3 := mem) iX10_at (c_X10_at l G mem m1 2) wd_780 rfl ⟨Nat.le_of_ble_eq_true rfl, Nat.le_of_ble_eq_true rfl⟩ ⟨rfl, rfl⟩ rfl (Nat.le_of_ble_eq_true rfl) dX10_lives_6 (congrArg Value.int (congrArg nI (by omega))) (rfl) ?_
  refine g_iald_n C (j := 32 + 12 * m1) ar_155 rfl (by omega) (by decide) dX10_lives_9 ?_
  refine g_iconst C (nI 1) dX10_lives_10 (by decide) ?_
  refine g_icmp_ne C 18 dX10_lives_11 (by decide) (fun c_11 => ?_) (fun c_11 => ?_)
  · refine g_iconst C (nI 0) dX10_lives_18 (by decide) ?_
    refine g_zret C hQ rfl (Or.inl rfl) dX10_lives_19 ?_
    first
      | exact ⟨by rw [b2i_t (P := vLv (mem 155) m1 = true) (decide_eq_true c_11)]; rfl, rfl⟩
      | exact ⟨by rw [b2i_f (P := vLv (mem 155) m1 = true) (fun q => c_11 (of_decide_eq_true q))]; rfl, rfl⟩
  · refine g_iconst C (nI 1) dX10_lives_14 (by decide) ?_
    refine g_goto C 19 dX10_lives_15 (by decide) ?_
    refine g_zret C hQ rfl (Or.inr rfl) dX10_lives_19 ?_
    first
      | exact ⟨by rw [b2i_t (P := vLv (mem 155) m1 = true) (decide_eq_true c_11)]; rfl, rfl⟩
      | exact ⟨by rw [b2i_f (P := vLv (mem 155) m1 = true) (fun q => c_11 (of_decide_eq_true q))]; rfl, rfl⟩

def rm_X10_commit : Room := { frames := 2, cells := 0, slots := 0, locals := 43 }
theorem iX10_commit : gIv yX10_commit cX10_commit 4 (some .int) 2 := ⟨⟨wd_831, wd_32, by decide +kernel, by decide +kernel, by decide +kernel⟩, wd_829, wd_830⟩
set_option maxRecDepth 100000 in
set_option maxHeartbeats 4000000 in
theorem c_X10_commit (l : Launch) (G : gG) {T : Nat} (mem : gM) (g : Good T (mem 155)) {h : Nat} (hh : mem 154 2 = nI h) (h4 : h ≤ 4) (x y : Int32) : gMet l yX10_commit cX10_commit 4 (some .int) rm_X10_commit G [.ref (gad G 154), .int x, .int y] mem (fun a u => ∃ rr : Int32, a = some (.int rr) ∧ MX h mem u (memP (mem 155) x ∧ vLv (mem 155) (toN x) = true) (if mem 155 (38 + 12 * toN x) = 0 then nI 0 else nI 1) (if memP (mem 155) x then kState else kBad) (cmV (mem 155) (toN x) y) rr) := by
  refine g_of (own := RX10) (L0 := [(0, .ref (gad G 154)), (1, .int x), (2, .int y)]) (by decide +kernel) rfl (Nat.le_of_ble_eq_true rfl) rfl ?_
  intro p e s m args below meth c C Q hQ
  have hn10 := gd_n10 g
  refine g_aload_n C 0 dX10_commit_0 rfl ?_
  refine g_iload_n C 1 dX10_commit_1 rfl ?_
  refine g_cV1 C (As := [.int x]) (w := .int (b2i (memP (mem 155) x))) (mem3 := mem) iX10_isMember (c_X10_isMember l G mem g x) wd_788 ob_154 rfl ⟨Nat.le_of_ble_eq_true rfl, Nat.le_of_ble_eq_true rfl⟩ ⟨rfl, rfl⟩ rfl (Nat.le_of_ble_eq_true rfl) dX10_commit_2 (rfl) (rfl) ?_
  refine g_ifb_ne C 11 dX10_commit_5 (by decide) (fun c_5 => ?_) (fun c_5 => ?_)
  · obtain ⟨j, hj, rfl⟩ := memP_ex g c_5
    have ej : toN (nI j) = j := toN_nI (by omega)
    refine g_aload_n C 0 dX10_commit_11 rfl ?_
    refine g_iload_n C 1 dX10_commit_12 rfl ?_
    refine g_cV1 C (As := [.int (nI j)]) (w := .int (b2i (vLv (mem 155) j = true))) (mem3 := mem) iX10_lives (c_X10_lives l G mem (m1 := j) (by omega)) wd_832 ob_154 rfl ⟨Nat.le_of_ble_eq_true rfl, Nat.le_of_ble_eq_true rfl⟩ ⟨rfl, rfl⟩ rfl (Nat.le_of_ble_eq_true rfl) dX10_commit_13 (rfl) (rfl) ?_
    refine g_ifb_ne C 22 dX10_commit_16 (by decide) (fun c_16 => ?_) (fun c_16 => ?_)
    · refine g_aload_n C 0 dX10_commit_22 rfl ?_
      refine g_cV0 C (As := []) (mem3 := gr (gr mem 156 (pshP h (mem 155) (mem 156))) 154 (upd (mem 154) 2 (nI (pushN h)))) iX10_act (c_X10_act l G mem hh h4) wd_776 ob_154 rfl ⟨Nat.le_of_ble_eq_true rfl, Nat.le_of_ble_eq_true rfl⟩ ⟨rfl, rfl⟩ rfl (Nat.le_of_ble_eq_true rfl) dX10_commit_23 (rfl) ?_
      refine g_aload_n C 0 dX10_commit_26 rfl ?_
      refine g_get_r C ob_154 0 (by decide) rfl wd_703 dX10_commit_27 ?_
      refine g_iload_n C 1 dX10_commit_30 rfl ?_
      refine g_bipush C (nI 8) dX10_commit_31 (by decide) ?_
      refine g_cS1 C (As := [.int (nI j), .int (nI 8)]) (w := .int (nI (38 + 12 * j))) (mem3 := gr (gr mem 156 (pshP h (mem 155) (mem 156))) 154 (upd (mem 154) 2 (nI (pushN h)))) iX10_at (c_X10_at l G (gr (gr mem 156 (pshP h (mem 155) (mem 156))) 154 (upd (mem 154) 2 (nI (pushN h)))) j 8) wd_780 rfl ⟨Nat.le_of_ble_eq_true rfl, Nat.le_of_ble_eq_true rfl⟩ ⟨rfl, rfl⟩ rfl (Nat.le_of_ble_eq_true rfl) dX10_commit_33 (congrArg Value.int (congrArg nI (by omega))) (rfl) ?_
      refine g_iald_n C (j := 38 + 12 * j) ar_155 rfl (by omega) (by decide) dX10_commit_36 ?_
      refine g_top (y := mem 155 (38 + 12 * j)) (rfl) ?_
      refine g_istore_n C (L2 := [(3, .int (mem 155 (38 + 12 * j))), (0, .ref (gad G 154)), (1, .int (nI j)), (2, .int y)]) dX10_commit_37 (by decide) rfl ?_
      refine g_aload_n C 1 dX10_commit_38 rfl ?_
      refine g_get_r C ob_154 0 (by decide) rfl wd_703 dX10_commit_39 ?_
      refine g_iload_n C 2 dX10_commit_42 rfl ?_
      refine g_bipush C (nI 8) dX10_commit_43 (by decide) ?_
      refine g_cS1 C (As := [.int (nI j), .int (nI 8)]) (w := .int (nI (38 + 12 * j))) (mem3 := gr (gr mem 156 (pshP h (mem 155) (mem 156))) 154 (upd (mem 154) 2 (nI (pushN h)))) iX10_at (c_X10_at l G (gr (gr mem 156 (pshP h (mem 155) (mem 156))) 154 (upd (mem 154) 2 (nI (pushN h)))) j 8) wd_780 rfl ⟨Nat.le_of_ble_eq_true rfl, Nat.le_of_ble_eq_true rfl⟩ ⟨rfl, rfl⟩ rfl (Nat.le_of_ble_eq_true rfl) dX10_commit_45 (congrArg Value.int (congrArg nI (by omega))) (rfl) ?_
      refine g_iconst C (nI 1) dX10_commit_48 (by decide) ?_
      refine g_iast_n C (j := 38 + 12 * j) ar_155 rfl (by omega) (by decide) dX10_commit_49 ?_
      refine g_aload_n C 1 dX10_commit_50 rfl ?_
      refine g_get_r C ob_154 0 (by decide) rfl wd_703 dX10_commit_51 ?_
      refine g_iload_n C 2 dX10_commit_54 rfl ?_
      refine g_bipush C (nI 9) dX10_commit_55 (by decide) ?_
      refine g_cS1 C (As := [.int (nI j), .int (nI 9)]) (w := .int (nI (39 + 12 * j))) (mem3 := gr (gr (gr mem 156 (pshP h (mem 155) (mem 156))) 154 (upd (mem 154) 2 (nI (pushN h)))) 155 (upd (mem 155) (38 + 12 * j) (nI 1))) iX10_at (c_X10_at l G (gr (gr (gr mem 156 (pshP h (mem 155) (mem 156))) 154 (upd (mem 154) 2 (nI (pushN h)))) 155 (upd (mem 155) (38 + 12 * j) (nI 1))) j 9) wd_780 rfl ⟨Nat.le_of_ble_eq_true rfl, Nat.le_of_ble_eq_true rfl⟩ ⟨rfl, rfl⟩ rfl (Nat.le_of_ble_eq_true rfl) dX10_commit_57 (congrArg Value.int (congrArg nI (by omega))) (rfl) ?_
      refine g_iload_n C 3 dX10_commit_60 rfl ?_
      refine g_iast_n C (j := 39 + 12 * j) ar_155 rfl (by omega) (by decide) dX10_commit_61 ?_
      refine g_mem (mem2 := gr (gr (gr mem 156 (pshP h (mem 155) (mem 156))) 154 (upd (mem 154) 2 (nI (pushN h)))) 155 (upd (upd (mem 155) (38 + 12 * j) (nI 1)) (39 + 12 * j) y)) (gr_gr _ _ _ _) ?_
      refine g_iload_n C 0 dX10_commit_62 rfl ?_
      refine g_if_ne C 70 dX10_commit_63 (by decide) (fun c_63 => ?_) (fun c_63 => ?_)
      · refine g_iconst C (nI 1) dX10_commit_70 (by decide) ?_
        refine g_iret C hQ rfl dX10_commit_71 ?_
        first
          | exact ⟨_, rfl, fun _ => ⟨by rw [ej, if_pos c_63], by rw [ej]; rfl, rfl, rfl, rfl, rfl, fun k hk => by rw [gr_n (by omega), gr_n (by omega), gr_n (by omega)]⟩, fun q => absurd (⟨c_5, by rw [ej]; exact c_16⟩) q⟩
          | exact ⟨_, rfl, fun _ => ⟨by rw [ej, if_neg c_63], by rw [ej]; rfl, rfl, rfl, rfl, rfl, fun k hk => by rw [gr_n (by omega), gr_n (by omega), gr_n (by omega)]⟩, fun q => absurd (⟨c_5, by rw [ej]; exact c_16⟩) q⟩
      · refine g_iconst C (nI 0) dX10_commit_66 (by decide) ?_
        refine g_goto C 71 dX10_commit_67 (by decide) ?_
        refine g_iret C hQ rfl dX10_commit_71 ?_
        first
          | exact ⟨_, rfl, fun _ => ⟨by rw [ej, if_pos c_63], by rw [ej]; rfl, rfl, rfl, rfl, rfl, fun k hk => by rw [gr_n (by omega), gr_n (by omega), gr_n (by omega)]⟩, fun q => absurd (⟨c_5, by rw [ej]; exact c_16⟩) q⟩
          | exact ⟨_, rfl, fun _ => ⟨by rw [ej, if_neg c_63], by rw [ej]; rfl, rfl, rfl, rfl, rfl, fun k hk => by rw [gr_n (by omega), gr_n (by omega), gr_n (by omega)]⟩, fun q => absurd (⟨c_5, by rw [ej]; exact c_16⟩) q⟩
    · refine g_ldc C wd_836 dX10_commit_19 ?_
      refine g_iret C hQ rfl dX10_commit_21 ?_
      exact ⟨_, rfl, fun q => absurd q (fun q => c_16 (ej ▸ q.2)), fun _ => ⟨(if_pos c_5).symm, MN.rf mem⟩⟩
  · refine g_ldc C wd_774 dX10_commit_8 ?_
    refine g_iret C hQ rfl dX10_commit_10 ?_
    exact ⟨_, rfl, fun q => absurd q (fun q => c_5 q.1), fun _ => ⟨(if_neg c_5).symm, MN.rf mem⟩⟩

def rm_X10_reveal : Room := { frames := 2, cells := 0, slots := 0, locals := 43 }
theorem iX10_reveal : gIv yX10_reveal cX10_reveal 4 (some .int) 2 := ⟨⟨wd_840, wd_32, by decide +kernel, by decide +kernel, by decide +kernel⟩, wd_838, wd_839⟩
set_option maxRecDepth 100000 in
set_option maxHeartbeats 4000000 in
theorem c_X10_reveal (l : Launch) (G : gG) {T : Nat} (mem : gM) (g : Good T (mem 155)) {h : Nat} (hh : mem 154 2 = nI h) (h4 : h ≤ 4) (x y : Int32) : gMet l yX10_reveal cX10_reveal 4 (some .int) rm_X10_reveal G [.ref (gad G 154), .int x, .int y] mem (fun a u => ∃ rr : Int32, a = some (.int rr) ∧ MX h mem u ((memP (mem 155) x ∧ vLv (mem 155) (toN x) = true) ∧ ¬ mem 155 (38 + 12 * toN x) = 0) (if mixI y = mem 155 (39 + 12 * toN x) then nI 1 else nI 0) (if memP (mem 155) x then kState else kBad) (rvV (mem 155) (toN x) y) rr) := by
  refine g_of (own := RX10) (L0 := [(0, .ref (gad G 154)), (1, .int x), (2, .int y)]) (by decide +kernel) rfl (Nat.le_of_ble_eq_true rfl) rfl ?_
  intro p e s m args below meth c C Q hQ
  have hn10 := gd_n10 g
  refine g_aload_n C 0 dX10_reveal_0 rfl ?_
  refine g_iload_n C 1 dX10_reveal_1 rfl ?_
  refine g_cV1 C (As := [.int x]) (w := .int (b2i (memP (mem 155) x))) (mem3 := mem) iX10_isMember (c_X10_isMember l G mem g x) wd_788 ob_154 rfl ⟨Nat.le_of_ble_eq_true rfl, Nat.le_of_ble_eq_true rfl⟩ ⟨rfl, rfl⟩ rfl (Nat.le_of_ble_eq_true rfl) dX10_reveal_2 (rfl) (rfl) ?_
  refine g_ifb_ne C 11 dX10_reveal_5 (by decide) (fun c_5 => ?_) (fun c_5 => ?_)
  · obtain ⟨j, hj, rfl⟩ := memP_ex g c_5
    have ej : toN (nI j) = j := toN_nI (by omega)
    refine g_aload_n C 0 dX10_reveal_11 rfl ?_
    refine g_iload_n C 1 dX10_reveal_12 rfl ?_
    refine g_cV1 C (As := [.int (nI j)]) (w := .int (b2i (vLv (mem 155) j = true))) (mem3 := mem) iX10_lives (c_X10_lives l G mem (m1 := j) (by omega)) wd_832 ob_154 rfl ⟨Nat.le_of_ble_eq_true rfl, Nat.le_of_ble_eq_true rfl⟩ ⟨rfl, rfl⟩ rfl (Nat.le_of_ble_eq_true rfl) dX10_reveal_13 (rfl) (rfl) ?_
    refine g_ifb_eq C 33 dX10_reveal_16 (by decide) (fun c_16 => ?_) (fun c_16 => ?_)
    · refine g_ldc C wd_836 dX10_reveal_33 ?_
      refine g_iret C hQ rfl dX10_reveal_35 ?_
      first
        | exact ⟨_, rfl, fun q => absurd q (fun q => c_16 (ej ▸ q.1.2)), fun _ => ⟨(if_pos c_5).symm, MN.rf mem⟩⟩
        | exact ⟨_, rfl, fun q => absurd q (fun q => q.2 (by rw [ej]; exact c_30)), fun _ => ⟨(if_pos c_5).symm, MN.rf mem⟩⟩
    · refine g_aload_n C 0 dX10_reveal_19 rfl ?_
      refine g_get_r C ob_154 0 (by decide) rfl wd_703 dX10_reveal_20 ?_
      refine g_iload_n C 1 dX10_reveal_23 rfl ?_
      refine g_bipush C (nI 8) dX10_reveal_24 (by decide) ?_
      refine g_cS1 C (As := [.int (nI j), .int (nI 8)]) (w := .int (nI (38 + 12 * j))) (mem3 := mem) iX10_at (c_X10_at l G mem j 8) wd_780 rfl ⟨Nat.le_of_ble_eq_true rfl, Nat.le_of_ble_eq_true rfl⟩ ⟨rfl, rfl⟩ rfl (Nat.le_of_ble_eq_true rfl) dX10_reveal_26 (congrArg Value.int (congrArg nI (by omega))) (rfl) ?_
      refine g_iald_n C (j := 38 + 12 * j) ar_155 rfl (by omega) (by decide) dX10_reveal_29 ?_
      refine g_if_ne C 36 dX10_reveal_30 (by decide) (fun c_30 => ?_) (fun c_30 => ?_)
      · refine g_aload_n C 0 dX10_reveal_36 rfl ?_
        refine g_cV0 C (As := []) (mem3 := gr (gr mem 156 (pshP h (mem 155) (mem 156))) 154 (upd (mem 154) 2 (nI (pushN h)))) iX10_act (c_X10_act l G mem hh h4) wd_776 ob_154 rfl ⟨Nat.le_of_ble_eq_true rfl, Nat.le_of_ble_eq_true rfl⟩ ⟨rfl, rfl⟩ rfl (Nat.le_of_ble_eq_true rfl) dX10_reveal_37 (rfl) ?_
        refine g_iload_n C 2 dX10_reveal_40 rfl ?_
        refine g_cS1 C (As := [.int y]) (w := .int (mixI y)) (mem3 := gr (gr mem 156 (pshP h (mem 155) (mem 156))) 154 (upd (mem 154) 2 (nI (pushN h)))) iX10_mixed (c_X10_mixed l G (gr (gr mem 156 (pshP h (mem 155) (mem 156))) 154 (upd (mem 154) 2 (nI (pushN h)))) y) wd_824 rfl ⟨Nat.le_of_ble_eq_true rfl, Nat.le_of_ble_eq_true rfl⟩ ⟨rfl, rfl⟩ rfl (Nat.le_of_ble_eq_true rfl) dX10_reveal_41 (rfl) (rfl) ?_
        refine g_aload_n C 0 dX10_reveal_44 rfl ?_
        refine g_get_r C ob_154 0 (by decide) rfl wd_703 dX10_reveal_45 ?_
        refine g_iload_n C 1 dX10_reveal_48 rfl ?_
        refine g_bipush C (nI 9) dX10_reveal_49 (by decide) ?_
        refine g_cS1 C (As := [.int (nI j), .int (nI 9)]) (w := .int (nI (39 + 12 * j))) (mem3 := gr (gr mem 156 (pshP h (mem 155) (mem 156))) 154 (upd (mem 154) 2 (nI (pushN h)))) iX10_at (c_X10_at l G (gr (gr mem 156 (pshP h (mem 155) (mem 156))) 154 (upd (mem 154) 2 (nI (pushN h)))) j 9) wd_780 rfl ⟨Nat.le_of_ble_eq_true rfl, Nat.le_of_ble_eq_true rfl⟩ ⟨rfl, rfl⟩ rfl (Nat.le_of_ble_eq_true rfl) dX10_reveal_51 (congrArg Value.int (congrArg nI (by omega))) (rfl) ?_
        refine g_iald_n C (j := 39 + 12 * j) ar_155 rfl (by omega) (by decide) dX10_reveal_54 ?_
        refine g_top (y := mem 155 (39 + 12 * j)) (rfl) ?_
        refine g_icmp_ne C 62 dX10_reveal_55 (by decide) (fun c_55 => ?_) (fun c_55 => ?_)
        · refine g_iconst C (nI 0) dX10_reveal_62 (by decide) ?_
          refine g_istore_n C (L2 := [(3, .int (nI 0)), (0, .ref (gad G 154)), (1, .int (nI j)), (2, .int y)]) dX10_reveal_63 (by decide) rfl ?_
          refine g_aload_n C 1 dX10_reveal_64 rfl ?_
          refine g_get_r C ob_154 0 (by decide) rfl wd_703 dX10_reveal_65 ?_
          refine g_iload_n C 2 dX10_reveal_68 rfl ?_
          refine g_bipush C (nI 8) dX10_reveal_69 (by decide) ?_
          refine g_cS1 C (As := [.int (nI j), .int (nI 8)]) (w := .int (nI (38 + 12 * j))) (mem3 := gr (gr mem 156 (pshP h (mem 155) (mem 156))) 154 (upd (mem 154) 2 (nI (pushN h)))) iX10_at (c_X10_at l G (gr (gr mem 156 (pshP h (mem 155) (mem 156))) 154 (upd (mem 154) 2 (nI (pushN h)))) j 8) wd_780 rfl ⟨Nat.le_of_ble_eq_true rfl, Nat.le_of_ble_eq_true rfl⟩ ⟨rfl, rfl⟩ rfl (Nat.le_of_ble_eq_true rfl) dX10_reveal_71 (congrArg Value.int (congrArg nI (by omega))) (rfl) ?_
          refine g_iload_n C 0 dX10_reveal_74 rfl ?_
          refine g_if_eq_t C 82 (by decide) dX10_reveal_75 (by decide) ?_
          refine g_iconst C (nI 3) dX10_reveal_82 (by decide) ?_
          refine g_iast_n C (j := 38 + 12 * j) ar_155 rfl (by omega) (by decide) dX10_reveal_83 ?_
          refine g_aload_n C 1 dX10_reveal_84 rfl ?_
          refine g_get_r C ob_154 0 (by decide) rfl wd_703 dX10_reveal_85 ?_
          refine g_iload_n C 2 dX10_reveal_88 rfl ?_
          refine g_bipush C (nI 10) dX10_reveal_89 (by decide) ?_
          refine g_cS1 C (As := [.int (nI j), .int (nI 10)]) (w := .int (nI (40 + 12 * j))) (mem3 := gr (gr (gr mem 156 (pshP h (mem 155) (mem 156))) 154 (upd (mem 154) 2 (nI (pushN h)))) 155 (upd (mem 155) (38 + 12 * j) (nI 3))) iX10_at (c_X10_at l G (gr (gr (gr mem 156 (pshP h (mem 155) (mem 156))) 154 (upd (mem 154) 2 (nI (pushN h)))) 155 (upd (mem 155) (38 + 12 * j) (nI 3))) j 10) wd_780 rfl ⟨Nat.le_of_ble_eq_true rfl, Nat.le_of_ble_eq_true rfl⟩ ⟨rfl, rfl⟩ rfl (Nat.le_of_ble_eq_true rfl) dX10_reveal_91 (congrArg Value.int (congrArg nI (by omega))) (rfl) ?_
          refine g_iload_n C 3 dX10_reveal_94 rfl ?_
          refine g_iast_n C (j := 40 + 12 * j) ar_155 rfl (by omega) (by decide) dX10_reveal_95 ?_
          refine g_mem (mem2 := gr (gr (gr mem 156 (pshP h (mem 155) (mem 156))) 154 (upd (mem 154) 2 (nI (pushN h)))) 155 (upd (upd (mem 155) (38 + 12 * j) (nI 3)) (40 + 12 * j) y)) (gr_gr _ _ _ _) ?_
          refine g_iload_n C 0 dX10_reveal_96 rfl ?_
          refine g_if_eq_t C 104 (by decide) dX10_reveal_97 (by decide) ?_
          refine g_iconst C (nI 0) dX10_reveal_104 (by decide) ?_
          refine g_iret C hQ rfl dX10_reveal_105 ?_
          first
            | exact ⟨_, rfl, fun _ => ⟨by rw [ej, if_pos c_55], by rw [ej, rvV, if_pos c_55]; rfl, rfl, rfl, rfl, rfl, fun k hk => by rw [gr_n (by omega), gr_n (by omega), gr_n (by omega)]⟩, fun q => absurd (⟨⟨c_5, by rw [ej]; exact c_16⟩, by rw [ej]; exact c_30⟩) q⟩
            | exact ⟨_, rfl, fun _ => ⟨by rw [ej, if_neg c_55], by rw [ej, rvV, if_neg c_55]; rfl, rfl, rfl, rfl, rfl, fun k hk => by rw [gr_n (by omega), gr_n (by omega), gr_n (by omega)]⟩, fun q => absurd (⟨⟨c_5, by rw [ej]; exact c_16⟩, by rw [ej]; exact c_30⟩) q⟩
        · refine g_iconst C (nI 1) dX10_reveal_58 (by decide) ?_
          refine g_goto C 63 dX10_reveal_59 (by decide) ?_
          refine g_istore_n C (L2 := [(3, .int (nI 1)), (0, .ref (gad G 154)), (1, .int (nI j)), (2, .int y)]) dX10_reveal_63 (by decide) rfl ?_
          refine g_aload_n C 1 dX10_reveal_64 rfl ?_
          refine g_get_r C ob_154 0 (by decide) rfl wd_703 dX10_reveal_65 ?_
          refine g_iload_n C 2 dX10_reveal_68 rfl ?_
          refine g_bipush C (nI 8) dX10_reveal_69 (by decide) ?_
          refine g_cS1 C (As := [.int (nI j), .int (nI 8)]) (w := .int (nI (38 + 12 * j))) (mem3 := gr (gr mem 156 (pshP h (mem 155) (mem 156))) 154 (upd (mem 154) 2 (nI (pushN h)))) iX10_at (c_X10_at l G (gr (gr mem 156 (pshP h (mem 155) (mem 156))) 154 (upd (mem 154) 2 (nI (pushN h)))) j 8) wd_780 rfl ⟨Nat.le_of_ble_eq_true rfl, Nat.le_of_ble_eq_true rfl⟩ ⟨rfl, rfl⟩ rfl (Nat.le_of_ble_eq_true rfl) dX10_reveal_71 (congrArg Value.int (congrArg nI (by omega))) (rfl) ?_
          refine g_iload_n C 0 dX10_reveal_74 rfl ?_
          refine g_if_eq_f C 82 (by decide) dX10_reveal_75 (by decide) ?_
          refine g_iconst C (nI 2) dX10_reveal_78 (by decide) ?_
          refine g_goto C 83 dX10_reveal_79 (by decide) ?_
          refine g_iast_n C (j := 38 + 12 * j) ar_155 rfl (by omega) (by decide) dX10_reveal_83 ?_
          refine g_aload_n C 1 dX10_reveal_84 rfl ?_
          refine g_get_r C ob_154 0 (by decide) rfl wd_703 dX10_reveal_85 ?_
          refine g_iload_n C 2 dX10_reveal_88 rfl ?_
          refine g_bipush C (nI 10) dX10_reveal_89 (by decide) ?_
          refine g_cS1 C (As := [.int (nI j), .int (nI 10)]) (w := .int (nI (40 + 12 * j))) (mem3 := gr (gr (gr mem 156 (pshP h (mem 155) (mem 156))) 154 (upd (mem 154) 2 (nI (pushN h)))) 155 (upd (mem 155) (38 + 12 * j) (nI 2))) iX10_at (c_X10_at l G (gr (gr (gr mem 156 (pshP h (mem 155) (mem 156))) 154 (upd (mem 154) 2 (nI (pushN h)))) 155 (upd (mem 155) (38 + 12 * j) (nI 2))) j 10) wd_780 rfl ⟨Nat.le_of_ble_eq_true rfl, Nat.le_of_ble_eq_true rfl⟩ ⟨rfl, rfl⟩ rfl (Nat.le_of_ble_eq_true rfl) dX10_reveal_91 (congrArg Value.int (congrArg nI (by omega))) (rfl) ?_
          refine g_iload_n C 3 dX10_reveal_94 rfl ?_
          refine g_iast_n C (j := 40 + 12 * j) ar_155 rfl (by omega) (by decide) dX10_reveal_95 ?_
          refine g_mem (mem2 := gr (gr (gr mem 156 (pshP h (mem 155) (mem 156))) 154 (upd (mem 154) 2 (nI (pushN h)))) 155 (upd (upd (mem 155) (38 + 12 * j) (nI 2)) (40 + 12 * j) y)) (gr_gr _ _ _ _) ?_
          refine g_iload_n C 0 dX10_reveal_96 rfl ?_
          refine g_if_eq_f C 104 (by decide) dX10_reveal_97 (by decide) ?_
          refine g_iconst C (nI 1) dX10_reveal_100 (by decide) ?_
          refine g_goto C 105 dX10_reveal_101 (by decide) ?_
          refine g_iret C hQ rfl dX10_reveal_105 ?_
          first
            | exact ⟨_, rfl, fun _ => ⟨by rw [ej, if_pos c_55], by rw [ej, rvV, if_pos c_55]; rfl, rfl, rfl, rfl, rfl, fun k hk => by rw [gr_n (by omega), gr_n (by omega), gr_n (by omega)]⟩, fun q => absurd (⟨⟨c_5, by rw [ej]; exact c_16⟩, by rw [ej]; exact c_30⟩) q⟩
            | exact ⟨_, rfl, fun _ => ⟨by rw [ej, if_neg c_55], by rw [ej, rvV, if_neg c_55]; rfl, rfl, rfl, rfl, rfl, fun k hk => by rw [gr_n (by omega), gr_n (by omega), gr_n (by omega)]⟩, fun q => absurd (⟨⟨c_5, by rw [ej]; exact c_16⟩, by rw [ej]; exact c_30⟩) q⟩
      · refine g_ldc C wd_836 dX10_reveal_33 ?_
        refine g_iret C hQ rfl dX10_reveal_35 ?_
        first
          | exact ⟨_, rfl, fun q => absurd q (fun q => c_16 (ej ▸ q.1.2)), fun _ => ⟨(if_pos c_5).symm, MN.rf mem⟩⟩
          | exact ⟨_, rfl, fun q => absurd q (fun q => q.2 (by rw [ej]; exact c_30)), fun _ => ⟨(if_pos c_5).symm, MN.rf mem⟩⟩
  · refine g_ldc C wd_774 dX10_reveal_8 ?_
    refine g_iret C hQ rfl dX10_reveal_10 ?_
    exact ⟨_, rfl, fun q => absurd q (fun q => c_5 q.1.1), fun _ => ⟨(if_neg c_5).symm, MN.rf mem⟩⟩
