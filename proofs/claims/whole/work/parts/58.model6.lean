def rm_X10_asks : Room := { frames := 2, cells := 0, slots := 0, locals := 44 }
theorem iX10_asks : gIv yX10_asks cX10_asks 8 none 2 := ⟨⟨wd_916, wd_32, by decide +kernel, by decide +kernel, by decide +kernel⟩, wd_915, wd_16⟩
set_option maxRecDepth 100000 in
set_option maxHeartbeats 4000000 in
theorem c_X10_asks (l : Launch) (G : gG) {T : Nat} (mem : gM) (g : Good T (mem 155)) {b wa : Nat} (hb : b < 200) (hwa : 1 ≤ wa) (hwa1 : wa ≤ 1000) (hlos : mem 154 12 = mk (los (mem 155) b) (vN (mem 155))) (hrp : mem 154 18 = nI (rpM (mem 155) b)) (hrk : rpK (mem 155) b < vZ (mem 155)) (hne : ¬ mk (los (mem 155) b) (vN (mem 155)) = 0) : gMet l yX10_asks cX10_asks 8 none rm_X10_asks G [.ref (gad G 154), .int (nI b), .int (nI wa)] mem (fun a u => a = none ∧ AK (mem 155) b wa mem u) := by
  refine g_of (own := RX10) (L0 := [(0, .ref (gad G 154)), (1, .int (nI b)), (2, .int (nI wa))]) (by decide +kernel) rfl (Nat.le_of_ble_eq_true rfl) rfl ?_
  intro p e s m args below meth c C Q hQ
  have hn10 := gd_n10 g
  have hrn := rp_lt g hrk
  have hst := step_le (b := b) g hrk
  refine g_aload_n C 0 dX10_asks_0 rfl ?_
  refine g_ldc C wd_783 dX10_asks_1 ?_
  refine g_put_i C ob_154 14 (by decide) rfl wd_717 rfl rfl dX10_asks_3 ?_
  refine g_iconst C (nI 0) dX10_asks_6 (by decide) ?_
  refine g_istore_n C (L2 := [(3, .int (nI 0)), (0, .ref (gad G 154)), (1, .int (nI b)), (2, .int (nI wa))]) dX10_asks_7 (by decide) rfl ?_
  have lp_8 : ∀ (fu : Nat) (m1 : Nat) (q w : Nat → Int32), (m1 ≤ vN (mem 155)) → (q 14 = oI (frF (los (mem 155) b) (wt (mem 155) b wa) m1)) → (∀ i, i ≠ 5 → i ≠ 14 → q i = mem 154 i) → (WL (mem 155) b wa m1 w) → vN (mem 155) - m1 < fu → gV p l e rm_X10_asks s m args below meth c 0 0 Q G 8 (gr (gr mem 154 q) 160 w) 8 [(0, .ref (gad G 154)), (1, .int (nI b)), (2, .int (nI wa)), (3, .int (nI m1))] [] := by
    intro fu
    induction fu with
    | zero => intro m1 q w _ _ _ _ hfu; exact absurd hfu (Nat.not_lt_zero _)
    | succ fu ih_8 =>
      intro m1 q w hi hq14 hqo hw hfu_8
      refine g_iload_n C 3 dX10_asks_8 rfl ?_
      refine g_aload_n C 0 dX10_asks_9 rfl ?_
      refine g_get_r C ob_154 0 (by decide) rfl wd_703 dX10_asks_10 ?_
      refine g_iconst C (nI 5) dX10_asks_13 (by decide) ?_
      refine g_iald_n C (j := 5) ar_155 rfl (by omega) (by decide) dX10_asks_14 ?_
      refine g_top (y := mem 155 5) (rfl) ?_
      refine g_top (y := nI (vN (mem 155))) (gd_n g) ?_
      refine g_icmp_ge C 106 dX10_asks_15 (by decide) (fun c_15 => ?_) (fun c_15 => ?_)
      · have hin : m1 = vN (mem 155) := by have q := (nI_leI (a := vN (mem 155)) (b := m1) (by omega) (by omega)).mp c_15; omega
        rw [hin] at hq14 hw
        obtain ⟨f, hfr0⟩ := fr_ex (V := mem 155) (b := b) (wa := wa) hn10 hne
        have hqf : q 14 = nI f := hq14.trans (congrArg oI hfr0)
        have hfx0 := fr_some hfr0
        have hwf := wt_lt (mem 155) b f hwa
        have hhr := hrd_le g hwa hfx0.1 hrk
        refine g_aload_n C 0 dX10_asks_106 rfl ?_
        refine g_iconst C (nI 0) dX10_asks_107 (by decide) ?_
        refine g_put_i C ob_154 15 (by decide) rfl wd_718 rfl rfl dX10_asks_108 ?_
        refine g_mem (mem2 := gr (gr mem 154 (upd q 15 (nI 0))) 160 w) ((gr_comm _ (by decide) _ _).trans (congrArg (fun z => gr z 160 w) (gr_gr _ _ _ _))) ?_
        refine g_aload_n C 0 dX10_asks_111 rfl ?_
        refine g_iconst C (nI 0) dX10_asks_112 (by decide) ?_
        refine g_put_i C ob_154 16 (by decide) rfl wd_719 rfl rfl dX10_asks_113 ?_
        refine g_mem (mem2 := gr (gr mem 154 (upd (upd q 15 (nI 0)) 16 (nI 0))) 160 w) ((gr_comm _ (by decide) _ _).trans (congrArg (fun z => gr z 160 w) (gr_gr _ _ _ _))) ?_
        refine g_ldc C wd_783 dX10_asks_116 ?_
        refine g_istore_n C (L2 := [(3, .int ((-1000009) : Int32)), (0, .ref (gad G 154)), (1, .int (nI b)), (2, .int (nI wa))]) dX10_asks_118 (by decide) rfl ?_
        refine g_iconst C (nI 0) dX10_asks_119 (by decide) ?_
        refine g_istore C (L2 := [(4, .int (nI 0)), (3, .int ((-1000009) : Int32)), (0, .ref (gad G 154)), (1, .int (nI b)), (2, .int (nI wa))]) dX10_asks_120 (by decide) rfl ?_
        refine g_iconst C (nI 0) dX10_asks_122 (by decide) ?_
        refine g_istore C (L2 := [(5, .int (nI 0)), (4, .int (nI 0)), (3, .int ((-1000009) : Int32)), (0, .ref (gad G 154)), (1, .int (nI b)), (2, .int (nI wa))]) dX10_asks_123 (by decide) rfl ?_
        have lp_125 : ∀ (fu : Nat) (m2 : Nat) (q2 : Nat → Int32), (m2 ≤ vN (mem 155)) → (q2 15 = mk (ask (mem 155) b wa f) m2) → (q2 16 = mk (sil (mem 155) b wa f) m2) → (∀ i, i ≠ 15 → i ≠ 16 → q2 i = q i) → vN (mem 155) - m2 < fu → gV p l e rm_X10_asks s m args below meth c 0 0 Q G 8 (gr (gr mem 154 q2) 160 w) 125 [(0, .ref (gad G 154)), (1, .int (nI b)), (2, .int (nI wa)), (3, .int (oI (moF (ask (mem 155) b wa f) (fun m => wt (mem 155) b wa m + dR (mem 155) b m) m2))), (4, .int (nI (tmF (los (mem 155) b) (dR (mem 155) b) m2))), (5, .int (nI m2))] [] := by
          intro fu
          induction fu with
          | zero => intro m2 q2 _ _ _ _ hfu; exact absurd hfu (Nat.not_lt_zero _)
          | succ fu ih_125 =>
            intro m2 q2 hj hq15 hq16 hq2 hfu_125
            refine g_iload C 5 dX10_asks_125 rfl ?_
            refine g_aload_n C 0 dX10_asks_127 rfl ?_
            refine g_get_r C ob_154 0 (by decide) rfl wd_703 dX10_asks_128 ?_
            refine g_iconst C (nI 5) dX10_asks_131 (by decide) ?_
            refine g_iald_n C (j := 5) ar_155 rfl (by omega) (by decide) dX10_asks_132 ?_
            refine g_top (y := mem 155 5) (rfl) ?_
            refine g_top (y := nI (vN (mem 155))) (gd_n g) ?_
            refine g_icmp_ge C 310 dX10_asks_133 (by decide) (fun c_133 => ?_) (fun c_133 => ?_)
            · have hin2 : m2 = vN (mem 155) := by have q := (nI_leI (a := vN (mem 155)) (b := m2) (by omega) (by omega)).mp c_133; omega
              rw [hin2]
              refine g_aload_n C 0 dX10_asks_310 rfl ?_
              refine g_iload_n C 3 dX10_asks_311 rfl ?_
              refine g_top (y := nI (hrd (mem 155) b wa f)) (congrArg oI (mo_ex hfx0.1 (asq_f hfx0.2))) ?_
              refine g_aload_n C 0 dX10_asks_312 rfl ?_
              refine g_get_r C ob_154 0 (by decide) rfl wd_703 dX10_asks_313 ?_
              refine g_iconst C (nI 1) dX10_asks_316 (by decide) ?_
              refine g_iald_n C (j := 1) ar_155 rfl (by omega) (by decide) dX10_asks_317 ?_
              refine g_top (y := mem 155 1) (rfl) ?_
              refine g_top (y := nI (toN (mem 155 1))) ((gd_step g).1) ?_
              refine g_aload_n C 0 dX10_asks_318 rfl ?_
              refine g_get_r C ob_154 0 (by decide) rfl wd_703 dX10_asks_319 ?_
              refine g_aload_n C 0 dX10_asks_322 rfl ?_
              refine g_get_i C ob_154 18 (by decide) rfl wd_721 dX10_asks_323 ?_
              refine g_top (y := q2 18) (rfl) ?_
              refine g_top (y := nI (rpM (mem 155) b)) ((hq2 18 (by decide) (by decide)).trans ((hqo 18 (by decide) (by decide)).trans hrp)) ?_
              refine g_iconst C (nI 4) dX10_asks_326 (by decide) ?_
              refine g_cS1 C (As := [.int (nI (rpM (mem 155) b)), .int (nI 4)]) (w := .int (nI (34 + 12 * (rpM (mem 155) b)))) (mem3 := gr (gr mem 154 q2) 160 w) iX10_at (c_X10_at l G (gr (gr mem 154 q2) 160 w) (rpM (mem 155) b) 4) wd_780 rfl ⟨Nat.le_of_ble_eq_true rfl, Nat.le_of_ble_eq_true rfl⟩ ⟨rfl, rfl⟩ rfl (Nat.le_of_ble_eq_true rfl) dX10_asks_327 (congrArg Value.int (congrArg nI (by omega))) (rfl) ?_
              refine g_iald_n C (j := 34 + 12 * (rpM (mem 155) b)) ar_155 rfl (by omega) (by decide) dX10_asks_330 ?_
              refine g_top (y := mem 155 (34 + 12 * (rpM (mem 155) b))) (rfl) ?_
              refine g_top (y := nI (rpK (mem 155) b)) ((gd_l g hrk).2.2) ?_
              refine g_imul_n C (d := (toN (mem 155 1)) * (rpK (mem 155) b)) dX10_asks_331 rfl ?_
              refine g_iadd_n C (d := (hrd (mem 155) b wa f) + ((toN (mem 155 1)) * (rpK (mem 155) b))) dX10_asks_332 rfl ?_
              refine g_put_i C ob_154 19 (by decide) rfl wd_722 rfl rfl dX10_asks_333 ?_
              refine g_mem (mem2 := gr (gr mem 154 (upd q2 19 (nI ((hrd (mem 155) b wa f) + ((toN (mem 155 1)) * (rpK (mem 155) b)))))) 160 w) ((gr_comm _ (by decide) _ _).trans (congrArg (fun z => gr z 160 w) (gr_gr _ _ _ _))) ?_
              refine g_aload_n C 0 dX10_asks_336 rfl ?_
              refine g_aload_n C 0 dX10_asks_337 rfl ?_
              refine g_get_i C ob_154 19 (by decide) rfl wd_722 dX10_asks_338 ?_
              refine g_top (y := nI ((hrd (mem 155) b wa f) + ((toN (mem 155 1)) * (rpK (mem 155) b)))) (rfl) ?_
              refine g_iload C 4 dX10_asks_341 rfl ?_
              refine g_iadd_n C (d := ((hrd (mem 155) b wa f) + ((toN (mem 155 1)) * (rpK (mem 155) b))) + (tmF (los (mem 155) b) (dR (mem 155) b) (vN (mem 155)))) dX10_asks_343 rfl ?_
              refine g_put_i C ob_154 20 (by decide) rfl wd_723 rfl rfl dX10_asks_344 ?_
              refine g_mem (mem2 := gr (gr mem 154 (upd (upd q2 19 (nI ((hrd (mem 155) b wa f) + ((toN (mem 155 1)) * (rpK (mem 155) b))))) 20 (nI (((hrd (mem 155) b wa f) + ((toN (mem 155 1)) * (rpK (mem 155) b))) + (tmF (los (mem 155) b) (dR (mem 155) b) (vN (mem 155))))))) 160 w) ((gr_comm _ (by decide) _ _).trans (congrArg (fun z => gr z 160 w) (gr_gr _ _ _ _))) ?_
              refine g_vret C hQ rfl dX10_asks_347 ?_
              rw [hin2] at hq15 hq16
              refine ⟨rfl, (upd (upd q2 19 (nI ((hrd (mem 155) b wa f) + ((toN (mem 155 1)) * (rpK (mem 155) b))))) 20 (nI (((hrd (mem 155) b wa f) + ((toN (mem 155 1)) * (rpK (mem 155) b))) + (tmF (los (mem 155) b) (dR (mem 155) b) (vN (mem 155)))))), w, f, rfl, fun i h5 h14 h15 h16 h19 h20 => ?_, hfr0, (hq2 14 (by decide) (by decide)).trans hqf, hq15, hq16, rfl, (congrArg nI (tim_sh hfx0.1 hfx0.2)).symm, hw⟩
              rw [upd_n h20, upd_n h19]
              exact (hq2 i h15 h16).trans (hqo i h5 h14)
            · have hj2 : m2 < vN (mem 155) := by have q := mt (nI_leI (a := vN (mem 155)) (b := m2) (by omega) (by omega)).mpr c_133; omega
              refine g_aload_n C 0 dX10_asks_136 rfl ?_
              refine g_aload_n C 0 dX10_asks_137 rfl ?_
              refine g_get_i C ob_154 12 (by decide) rfl wd_715 dX10_asks_138 ?_
              refine g_top (y := q2 12) (rfl) ?_
              refine g_top (y := mk (los (mem 155) b) (vN (mem 155))) ((hq2 12 (by decide) (by decide)).trans ((hqo 12 (by decide) (by decide)).trans hlos)) ?_
              refine g_iload C 5 dX10_asks_141 rfl ?_
              refine g_cV1 C (As := [.int (mk (los (mem 155) b) (vN (mem 155))), .int (nI m2)]) (w := .int (b2i (hs (mk (los (mem 155) b) (vN (mem 155))) m2))) (mem3 := gr (gr mem 154 q2) 160 w) iX10_isIn (c_X10_isIn l G (gr (gr mem 154 q2) 160 w) (mk (los (mem 155) b) (vN (mem 155))) (m1 := m2) (by omega)) wd_917 ob_154 rfl ⟨Nat.le_of_ble_eq_true rfl, Nat.le_of_ble_eq_true rfl⟩ ⟨rfl, rfl⟩ rfl (Nat.le_of_ble_eq_true rfl) dX10_asks_143 (rfl) (rfl) ?_
              refine g_ifb_eq C 304 dX10_asks_146 (by decide) (fun c_146 => ?_) (fun c_146 => ?_)
              · have hlf : los (mem 155) b m2 = false := (Bool.not_eq_true _).mp (mt (mk_hs (by omega) hj2).mpr c_146)
                refine g_iinc C (v := nI (m2 + 1)) (L2 := [(5, .int (nI (m2 + 1))), (0, .ref (gad G 154)), (1, .int (nI b)), (2, .int (nI wa)), (3, .int (oI (moF (ask (mem 155) b wa f) (fun m => wt (mem 155) b wa m + dR (mem 155) b m) m2))), (4, .int (nI (tmF (los (mem 155) b) (dR (mem 155) b) m2)))]) 5 dX10_asks_304 rfl (nI_1 _) (by decide) rfl ?_
                refine g_goto C 125 dX10_asks_307 (by decide) ?_
                refine g_loc (L2 := [(0, .ref (gad G 154)), (1, .int (nI b)), (2, .int (nI wa)), (3, .int (oI (moF (ask (mem 155) b wa f) (fun m => wt (mem 155) b wa m + dR (mem 155) b m) m2))), (4, .int (nI (tmF (los (mem 155) b) (dR (mem 155) b) m2))), (5, .int (nI (m2 + 1)))]) [1, 2, 3, 4, 5, 0] rfl ?_
                exact g_eq (ih_125 (m2 + 1) q2 (hj2) (by first | exact hq15.trans (mk_f (asq_l hlf)).symm | (show mk (ask (mem 155) b wa f) m2 ||| bit m2 = _; exact (mk_t ha).symm) | (show mk (ask (mem 155) b wa f) m2 ||| nI 0 = _; rw [or_nil]; exact (mk_f ha).symm)) (by first | exact hq16.trans (mk_f (sil_l hlf)).symm | (show mk (sil (mem 155) b wa f) m2 ||| bit m2 = _; exact (mk_t hs2).symm) | (show mk (sil (mem 155) b wa f) m2 ||| nI 0 = _; rw [or_nil]; exact (mk_f hs2).symm)) (fun i h15 h16 => by first | exact hq2 i h15 h16 | (rw [upd_n h15, upd_n h16]; exact hq2 i h15 h16)) (by omega)) (rfl) (gLc rfl (gLc rfl (gLc rfl (gLc (congrArg Value.int (by first | (rw [mo_no (asq_l hlf)]; done) | (rw [mo_no ha]; done) | (rw [mo_0 ha hmo]; done) | (rw [mo_0 ha hmo]; rfl) | (rw [mo_lt_s ha hmo c_262]; rfl) | (rw [mo_ge_s ha hmo c_262, hmo]; done))) (gLc (congrArg Value.int (by first | (rw [tm_f hlf]; done) | (rw [tm_gt hlt c_284, dR, dN_comm]; done) | (rw [tm_ge hlt c_284]; done))) (rfl)))))) rfl
              · have hlt : los (mem 155) b m2 = true := (mk_hs (by omega) hj2).mp c_146
                have hwm := wt_lt (mem 155) b m2 hwa
                have hdm := dR_le (b := b) g hrk hj2
                have hdf : dN (vP (mem 155) f) (vP (mem 155) m2) ≤ 1000 := dN_le (gd_p g hfx0.1).2 (gd_p g hj2).2
                have htm := tm_le (q := los (mem 155) b) (x := dR (mem 155) b) (c := 1000) (n := m2) fun m hm => dR_le g hrk (by omega)
                refine g_aload_n C 0 dX10_asks_149 rfl ?_
                refine g_get_r C ob_154 13 (by decide) rfl wd_716 dX10_asks_150 ?_
                refine g_iload C 5 dX10_asks_153 rfl ?_
                refine g_iald_n C (j := m2) ar_160 rfl (by omega) (by decide) dX10_asks_155 ?_
                refine g_top (y := w m2) (rfl) ?_
                refine g_top (y := nI (wt (mem 155) b wa m2)) (hw m2 hj2 hlt) ?_
                refine g_aload_n C 0 dX10_asks_156 rfl ?_
                refine g_get_r C ob_154 13 (by decide) rfl wd_716 dX10_asks_157 ?_
                refine g_aload_n C 0 dX10_asks_160 rfl ?_
                refine g_get_i C ob_154 14 (by decide) rfl wd_717 dX10_asks_161 ?_
                refine g_top (y := q2 14) (rfl) ?_
                refine g_top (y := nI f) ((hq2 14 (by decide) (by decide)).trans hqf) ?_
                refine g_iald_n C (j := f) ar_160 rfl (by omega) (by decide) dX10_asks_164 ?_
                refine g_top (y := w f) (rfl) ?_
                refine g_top (y := nI (wt (mem 155) b wa f)) (hw f hfx0.1 hfx0.2) ?_
                refine g_aload_n C 0 dX10_asks_165 rfl ?_
                refine g_aload_n C 0 dX10_asks_166 rfl ?_
                refine g_get_i C ob_154 14 (by decide) rfl wd_717 dX10_asks_167 ?_
                refine g_top (y := q2 14) (rfl) ?_
                refine g_top (y := nI f) ((hq2 14 (by decide) (by decide)).trans hqf) ?_
                refine g_iload C 5 dX10_asks_170 rfl ?_
                refine g_cV1 C (As := [.int (nI f), .int (nI m2)]) (w := .int (nI (dN (vP (mem 155) f) (vP (mem 155) m2)))) (mem3 := gr (gr mem 154 q2) 160 w) iX10_distance (c_X10_distance l G (gr (gr mem 154 q2) 160 w) g (m1 := f) (m2 := m2) (hfx0.1) (hj2)) wd_921 ob_154 rfl ⟨Nat.le_of_ble_eq_true rfl, Nat.le_of_ble_eq_true rfl⟩ ⟨rfl, rfl⟩ rfl (Nat.le_of_ble_eq_true rfl) dX10_asks_172 (rfl) (rfl) ?_
                refine g_iadd_n C (d := (wt (mem 155) b wa f) + (dN (vP (mem 155) f) (vP (mem 155) m2))) dX10_asks_175 rfl ?_
                refine g_icmp_le C 183 dX10_asks_176 (by decide) (fun c_176 => ?_) (fun c_176 => ?_)
                · have c_176 := (nI_leI (by omega) (by omega)).mp c_176
                  have ha := asq_y (wa := wa) (f := f) hlt c_176
                  have hs2 := sil_n ha
                  refine g_iconst C (nI 0) dX10_asks_183 (by decide) ?_
                  refine g_istore C (L2 := [(6, .int (nI 0)), (0, .ref (gad G 154)), (1, .int (nI b)), (2, .int (nI wa)), (3, .int (oI (moF (ask (mem 155) b wa f) (fun m => wt (mem 155) b wa m + dR (mem 155) b m) m2))), (4, .int (nI (tmF (los (mem 155) b) (dR (mem 155) b) m2))), (5, .int (nI m2))]) dX10_asks_184 (by decide) rfl ?_
                  refine g_aload_n C 1 dX10_asks_186 rfl ?_
                  refine g_dup C dX10_asks_187 rfl ?_
                  refine g_get_i C ob_154 16 (by decide) rfl wd_719 dX10_asks_188 ?_
                  refine g_top (y := q2 16) (rfl) ?_
                  refine g_top (y := mk (sil (mem 155) b wa f) m2) (hq16) ?_
                  refine g_iload C 0 dX10_asks_191 rfl ?_
                  refine g_if_eq_t C 203 (by decide) dX10_asks_193 (by decide) ?_
                  refine g_iconst C (nI 0) dX10_asks_203 (by decide) ?_
                  refine g_ior C dX10_asks_204 ?_
                  refine g_put_i C ob_154 16 (by decide) rfl wd_719 rfl rfl dX10_asks_205 ?_
                  refine g_mem (mem2 := gr (gr mem 154 (upd q2 16 ((mk (sil (mem 155) b wa f) m2) ||| (nI 0)))) 160 w) ((gr_comm _ (by decide) _ _).trans (congrArg (fun z => gr z 160 w) (gr_gr _ _ _ _))) ?_
                  refine g_aload_n C 1 dX10_asks_208 rfl ?_
                  refine g_dup C dX10_asks_209 rfl ?_
                  refine g_get_i C ob_154 15 (by decide) rfl wd_718 dX10_asks_210 ?_
                  refine g_top (y := q2 15) (rfl) ?_
                  refine g_top (y := mk (ask (mem 155) b wa f) m2) (hq15) ?_
                  refine g_iload C 0 dX10_asks_213 rfl ?_
                  refine g_if_eq_t C 222 (by decide) dX10_asks_215 (by decide) ?_
                  refine g_iconst C (nI 1) dX10_asks_222 (by decide) ?_
                  refine g_iload C 6 dX10_asks_223 rfl ?_
                  refine g_ishl C dX10_asks_225 ?_
                  refine g_ior C dX10_asks_226 ?_
                  refine g_put_i C ob_154 15 (by decide) rfl wd_718 rfl rfl dX10_asks_227 ?_
                  refine g_mem (mem2 := gr (gr mem 154 (upd (upd q2 16 ((mk (sil (mem 155) b wa f) m2) ||| (nI 0))) 15 ((mk (ask (mem 155) b wa f) m2) ||| ((nI 1) <<< ((nI m2) &&& 31))))) 160 w) ((gr_comm _ (by decide) _ _).trans (congrArg (fun z => gr z 160 w) (gr_gr _ _ _ _))) ?_
                  refine g_aload_n C 1 dX10_asks_230 rfl ?_
                  refine g_get_r C ob_154 13 (by decide) rfl wd_716 dX10_asks_231 ?_
                  refine g_iload C 6 dX10_asks_234 rfl ?_
                  refine g_iald_n C (j := m2) ar_160 rfl (by omega) (by decide) dX10_asks_236 ?_
                  refine g_top (y := w m2) (rfl) ?_
                  refine g_top (y := nI (wt (mem 155) b wa m2)) (hw m2 hj2 hlt) ?_
                  refine g_aload_n C 1 dX10_asks_237 rfl ?_
                  refine g_iload C 6 dX10_asks_238 rfl ?_
                  refine g_aload_n C 1 dX10_asks_240 rfl ?_
                  refine g_get_i C ob_154 18 (by decide) rfl wd_721 dX10_asks_241 ?_
                  refine g_top (y := q2 18) (rfl) ?_
                  refine g_top (y := nI (rpM (mem 155) b)) ((hq2 18 (by decide) (by decide)).trans ((hqo 18 (by decide) (by decide)).trans hrp)) ?_
                  refine g_cV1 C (As := [.int (nI m2), .int (nI (rpM (mem 155) b))]) (w := .int (nI (dN (vP (mem 155) m2) (vP (mem 155) (rpM (mem 155) b))))) (mem3 := gr (gr mem 154 (upd (upd q2 16 ((mk (sil (mem 155) b wa f) m2) ||| (nI 0))) 15 ((mk (ask (mem 155) b wa f) m2) ||| ((nI 1) <<< ((nI m2) &&& 31))))) 160 w) iX10_distance (c_X10_distance l G (gr (gr mem 154 (upd (upd q2 16 ((mk (sil (mem 155) b wa f) m2) ||| (nI 0))) 15 ((mk (ask (mem 155) b wa f) m2) ||| ((nI 1) <<< ((nI m2) &&& 31))))) 160 w) g (m1 := m2) (m2 := rpM (mem 155) b) (hj2) (hrn)) wd_921 ob_154 rfl ⟨Nat.le_of_ble_eq_true rfl, Nat.le_of_ble_eq_true rfl⟩ ⟨rfl, rfl⟩ rfl (Nat.le_of_ble_eq_true rfl) dX10_asks_244 (rfl) (rfl) ?_
                  refine g_top (y := nI (dR (mem 155) b m2)) (rfl) ?_
                  refine g_iadd_n C (d := (wt (mem 155) b wa m2) + (dR (mem 155) b m2)) dX10_asks_247 rfl ?_
                  refine g_istore C (L2 := [(7, .int (nI ((wt (mem 155) b wa m2) + (dR (mem 155) b m2)))), (6, .int (nI 0)), (0, .ref (gad G 154)), (1, .int (nI b)), (2, .int (nI wa)), (3, .int (oI (moF (ask (mem 155) b wa f) (fun m => wt (mem 155) b wa m + dR (mem 155) b m) m2))), (4, .int (nI (tmF (los (mem 155) b) (dR (mem 155) b) m2))), (5, .int (nI m2))]) dX10_asks_248 (by decide) rfl ?_
                  refine g_iload C 1 dX10_asks_250 rfl ?_
                  refine g_if_ne_f C 270 (by decide) dX10_asks_252 (by decide) ?_
                  rcases opt_or (moF (ask (mem 155) b wa f) (fun m => wt (mem 155) b wa m + dR (mem 155) b m) m2) with hmo | ⟨v2, hmo⟩
                  · refine g_iload_n C 5 dX10_asks_255 rfl ?_
                    refine g_top (y := kNone) (congrArg oI hmo) ?_
                    refine g_if_lt_t C 265 (by decide) dX10_asks_256 (by decide) ?_
                    refine g_iload C 0 dX10_asks_265 rfl ?_
                    refine g_goto C 271 dX10_asks_267 (by decide) ?_
                    refine g_istore_n C (L2 := [(3, .int (nI ((wt (mem 155) b wa m2) + (dR (mem 155) b m2)))), (7, .int (nI ((wt (mem 155) b wa m2) + (dR (mem 155) b m2)))), (6, .int (nI 0)), (0, .ref (gad G 154)), (1, .int (nI b)), (2, .int (nI wa)), (4, .int (nI (tmF (los (mem 155) b) (dR (mem 155) b) m2))), (5, .int (nI m2))]) dX10_asks_271 (by decide) rfl ?_
                    refine g_aload_n C 3 dX10_asks_272 rfl ?_
                    refine g_aload_n C 3 dX10_asks_273 rfl ?_
                    refine g_get_i C ob_154 18 (by decide) rfl wd_721 dX10_asks_274 ?_
                    refine g_top (y := q2 18) (rfl) ?_
                    refine g_top (y := nI (rpM (mem 155) b)) ((hq2 18 (by decide) (by decide)).trans ((hqo 18 (by decide) (by decide)).trans hrp)) ?_
                    refine g_iload C 7 dX10_asks_277 rfl ?_
                    refine g_cV1 C (As := [.int (nI (rpM (mem 155) b)), .int (nI m2)]) (w := .int (nI (dN (vP (mem 155) (rpM (mem 155) b)) (vP (mem 155) m2)))) (mem3 := gr (gr mem 154 (upd (upd q2 16 ((mk (sil (mem 155) b wa f) m2) ||| (nI 0))) 15 ((mk (ask (mem 155) b wa f) m2) ||| ((nI 1) <<< ((nI m2) &&& 31))))) 160 w) iX10_distance (c_X10_distance l G (gr (gr mem 154 (upd (upd q2 16 ((mk (sil (mem 155) b wa f) m2) ||| (nI 0))) 15 ((mk (ask (mem 155) b wa f) m2) ||| ((nI 1) <<< ((nI m2) &&& 31))))) 160 w) g (m1 := rpM (mem 155) b) (m2 := m2) (hrn) (hj2)) wd_921 ob_154 rfl ⟨Nat.le_of_ble_eq_true rfl, Nat.le_of_ble_eq_true rfl⟩ ⟨rfl, rfl⟩ rfl (Nat.le_of_ble_eq_true rfl) dX10_asks_279 (rfl) (rfl) ?_
                    refine g_iload C 6 dX10_asks_282 rfl ?_
                    refine g_icmp_le C 300 dX10_asks_284 (by decide) (fun c_284 => ?_) (fun c_284 => ?_)
                    · have c_284 : ¬ tmF (los (mem 155) b) (dR (mem 155) b) m2 < dR (mem 155) b m2 := by have q := (nI_leI (by rw [dN_comm]; exact Nat.lt_of_le_of_lt hdm (by decide)) (by omega)).mp c_284; have q2 : dR (mem 155) b m2 = dN (vP (mem 155) (rpM (mem 155) b)) (vP (mem 155) m2) := dN_comm _ _; omega
                      refine g_iload C 6 dX10_asks_300 rfl ?_
                      refine g_istore C (L2 := [(4, .int (nI (tmF (los (mem 155) b) (dR (mem 155) b) m2))), (3, .int (nI ((wt (mem 155) b wa m2) + (dR (mem 155) b m2)))), (7, .int (nI ((wt (mem 155) b wa m2) + (dR (mem 155) b m2)))), (6, .int (nI 0)), (0, .ref (gad G 154)), (1, .int (nI b)), (2, .int (nI wa)), (5, .int (nI m2))]) dX10_asks_302 (by decide) rfl ?_
                      refine g_iinc C (v := nI (m2 + 1)) (L2 := [(5, .int (nI (m2 + 1))), (4, .int (nI (tmF (los (mem 155) b) (dR (mem 155) b) m2))), (3, .int (nI ((wt (mem 155) b wa m2) + (dR (mem 155) b m2)))), (7, .int (nI ((wt (mem 155) b wa m2) + (dR (mem 155) b m2)))), (6, .int (nI 0)), (0, .ref (gad G 154)), (1, .int (nI b)), (2, .int (nI wa))]) 7 dX10_asks_304 rfl (nI_1 _) (by decide) rfl ?_
                      refine g_goto C 125 dX10_asks_307 (by decide) ?_
                      refine g_loc (L2 := [(0, .ref (gad G 154)), (1, .int (nI b)), (2, .int (nI wa)), (3, .int (nI ((wt (mem 155) b wa m2) + (dR (mem 155) b m2)))), (4, .int (nI (tmF (los (mem 155) b) (dR (mem 155) b) m2))), (5, .int (nI (m2 + 1)))]) [5, 6, 7, 2, 1, 0] rfl ?_
                      exact g_eq (ih_125 (m2 + 1) (upd (upd q2 16 ((mk (sil (mem 155) b wa f) m2) ||| (nI 0))) 15 ((mk (ask (mem 155) b wa f) m2) ||| ((nI 1) <<< ((nI m2) &&& 31)))) (hj2) (by first | exact hq15.trans (mk_f (asq_l hlf)).symm | (show mk (ask (mem 155) b wa f) m2 ||| bit m2 = _; exact (mk_t ha).symm) | (show mk (ask (mem 155) b wa f) m2 ||| nI 0 = _; rw [or_nil]; exact (mk_f ha).symm)) (by first | exact hq16.trans (mk_f (sil_l hlf)).symm | (show mk (sil (mem 155) b wa f) m2 ||| bit m2 = _; exact (mk_t hs2).symm) | (show mk (sil (mem 155) b wa f) m2 ||| nI 0 = _; rw [or_nil]; exact (mk_f hs2).symm)) (fun i h15 h16 => by first | exact hq2 i h15 h16 | (rw [upd_n h15, upd_n h16]; exact hq2 i h15 h16)) (by omega)) (rfl) (gLc rfl (gLc rfl (gLc rfl (gLc (congrArg Value.int (by first | (rw [mo_no (asq_l hlf)]; done) | (rw [mo_no ha]; done) | (rw [mo_0 ha hmo]; done) | (rw [mo_0 ha hmo]; rfl) | (rw [mo_lt_s ha hmo c_262]; rfl) | (rw [mo_ge_s ha hmo c_262, hmo]; done))) (gLc (congrArg Value.int (by first | (rw [tm_f hlf]; done) | (rw [tm_gt hlt c_284, dR, dN_comm]; done) | (rw [tm_ge hlt c_284]; done))) (rfl)))))) rfl
                    · have c_284 : tmF (los (mem 155) b) (dR (mem 155) b) m2 < dR (mem 155) b m2 := by have q := mt (nI_leI (by rw [dN_comm]; exact Nat.lt_of_le_of_lt hdm (by decide)) (by omega)).mpr c_284; have q2 : dR (mem 155) b m2 = dN (vP (mem 155) (rpM (mem 155) b)) (vP (mem 155) m2) := dN_comm _ _; omega
                      refine g_aload_n C 3 dX10_asks_287 rfl ?_
                      refine g_aload_n C 3 dX10_asks_288 rfl ?_
                      refine g_get_i C ob_154 18 (by decide) rfl wd_721 dX10_asks_289 ?_
                      refine g_top (y := q2 18) (rfl) ?_
                      refine g_top (y := nI (rpM (mem 155) b)) ((hq2 18 (by decide) (by decide)).trans ((hqo 18 (by decide) (by decide)).trans hrp)) ?_
                      refine g_iload C 7 dX10_asks_292 rfl ?_
                      refine g_cV1 C (As := [.int (nI (rpM (mem 155) b)), .int (nI m2)]) (w := .int (nI (dN (vP (mem 155) (rpM (mem 155) b)) (vP (mem 155) m2)))) (mem3 := gr (gr mem 154 (upd (upd q2 16 ((mk (sil (mem 155) b wa f) m2) ||| (nI 0))) 15 ((mk (ask (mem 155) b wa f) m2) ||| ((nI 1) <<< ((nI m2) &&& 31))))) 160 w) iX10_distance (c_X10_distance l G (gr (gr mem 154 (upd (upd q2 16 ((mk (sil (mem 155) b wa f) m2) ||| (nI 0))) 15 ((mk (ask (mem 155) b wa f) m2) ||| ((nI 1) <<< ((nI m2) &&& 31))))) 160 w) g (m1 := rpM (mem 155) b) (m2 := m2) (hrn) (hj2)) wd_921 ob_154 rfl ⟨Nat.le_of_ble_eq_true rfl, Nat.le_of_ble_eq_true rfl⟩ ⟨rfl, rfl⟩ rfl (Nat.le_of_ble_eq_true rfl) dX10_asks_294 (rfl) (rfl) ?_
                      refine g_goto C 302 dX10_asks_297 (by decide) ?_
                      refine g_istore C (L2 := [(4, .int (nI (dN (vP (mem 155) (rpM (mem 155) b)) (vP (mem 155) m2)))), (3, .int (nI ((wt (mem 155) b wa m2) + (dR (mem 155) b m2)))), (7, .int (nI ((wt (mem 155) b wa m2) + (dR (mem 155) b m2)))), (6, .int (nI 0)), (0, .ref (gad G 154)), (1, .int (nI b)), (2, .int (nI wa)), (5, .int (nI m2))]) dX10_asks_302 (by decide) rfl ?_
                      refine g_iinc C (v := nI (m2 + 1)) (L2 := [(5, .int (nI (m2 + 1))), (4, .int (nI (dN (vP (mem 155) (rpM (mem 155) b)) (vP (mem 155) m2)))), (3, .int (nI ((wt (mem 155) b wa m2) + (dR (mem 155) b m2)))), (7, .int (nI ((wt (mem 155) b wa m2) + (dR (mem 155) b m2)))), (6, .int (nI 0)), (0, .ref (gad G 154)), (1, .int (nI b)), (2, .int (nI wa))]) 7 dX10_asks_304 rfl (nI_1 _) (by decide) rfl ?_
                      refine g_goto C 125 dX10_asks_307 (by decide) ?_
                      refine g_loc (L2 := [(0, .ref (gad G 154)), (1, .int (nI b)), (2, .int (nI wa)), (3, .int (nI ((wt (mem 155) b wa m2) + (dR (mem 155) b m2)))), (4, .int (nI (dN (vP (mem 155) (rpM (mem 155) b)) (vP (mem 155) m2)))), (5, .int (nI (m2 + 1)))]) [5, 6, 7, 2, 1, 0] rfl ?_
                      exact g_eq (ih_125 (m2 + 1) (upd (upd q2 16 ((mk (sil (mem 155) b wa f) m2) ||| (nI 0))) 15 ((mk (ask (mem 155) b wa f) m2) ||| ((nI 1) <<< ((nI m2) &&& 31)))) (hj2) (by first | exact hq15.trans (mk_f (asq_l hlf)).symm | (show mk (ask (mem 155) b wa f) m2 ||| bit m2 = _; exact (mk_t ha).symm) | (show mk (ask (mem 155) b wa f) m2 ||| nI 0 = _; rw [or_nil]; exact (mk_f ha).symm)) (by first | exact hq16.trans (mk_f (sil_l hlf)).symm | (show mk (sil (mem 155) b wa f) m2 ||| bit m2 = _; exact (mk_t hs2).symm) | (show mk (sil (mem 155) b wa f) m2 ||| nI 0 = _; rw [or_nil]; exact (mk_f hs2).symm)) (fun i h15 h16 => by first | exact hq2 i h15 h16 | (rw [upd_n h15, upd_n h16]; exact hq2 i h15 h16)) (by omega)) (rfl) (gLc rfl (gLc rfl (gLc rfl (gLc (congrArg Value.int (by first | (rw [mo_no (asq_l hlf)]; done) | (rw [mo_no ha]; done) | (rw [mo_0 ha hmo]; done) | (rw [mo_0 ha hmo]; rfl) | (rw [mo_lt_s ha hmo c_262]; rfl) | (rw [mo_ge_s ha hmo c_262, hmo]; done))) (gLc (congrArg Value.int (by first | (rw [tm_f hlf]; done) | (rw [tm_gt hlt c_284, dR, dN_comm]; done) | (rw [tm_ge hlt c_284]; done))) (rfl)))))) rfl
                  · have hv2 := mo_lt (p := ask (mem 155) b wa f) (x := (fun m => wt (mem 155) b wa m + dR (mem 155) b m)) (c := 3000) (n := m2) (fun m hm => by have q1 := wt_lt (mem 155) b m hwa; have q2 := dR_le (b := b) (m := m) g hrk (by omega); show _ + _ < _; omega) hmo
                    refine g_iload_n C 5 dX10_asks_255 rfl ?_
                    refine g_top (y := nI v2) (congrArg oI hmo) ?_
                    refine g_if_lt_f C 265 (Int32.not_lt.mpr (nI_pos' (by omega))) dX10_asks_256 (by decide) ?_
                    refine g_iload C 0 dX10_asks_259 rfl ?_
                    refine g_iload_n C 5 dX10_asks_261 rfl ?_
                    refine g_top (y := nI v2) (congrArg oI hmo) ?_
                    refine g_icmp_ge C 270 dX10_asks_262 (by decide) (fun c_262 => ?_) (fun c_262 => ?_)
                    · have c_262 : ¬ wt (mem 155) b wa m2 + dR (mem 155) b m2 < v2 := by have q := (nI_leI (by omega) (by omega)).mp c_262; omega
                      refine g_iload_n C 5 dX10_asks_270 rfl ?_
                      refine g_istore_n C (L2 := [(3, .int (oI (moF (ask (mem 155) b wa f) (fun m => wt (mem 155) b wa m + dR (mem 155) b m) m2))), (7, .int (nI ((wt (mem 155) b wa m2) + (dR (mem 155) b m2)))), (6, .int (nI 0)), (0, .ref (gad G 154)), (1, .int (nI b)), (2, .int (nI wa)), (4, .int (nI (tmF (los (mem 155) b) (dR (mem 155) b) m2))), (5, .int (nI m2))]) dX10_asks_271 (by decide) rfl ?_
                      refine g_aload_n C 3 dX10_asks_272 rfl ?_
                      refine g_aload_n C 3 dX10_asks_273 rfl ?_
                      refine g_get_i C ob_154 18 (by decide) rfl wd_721 dX10_asks_274 ?_
                      refine g_top (y := q2 18) (rfl) ?_
                      refine g_top (y := nI (rpM (mem 155) b)) ((hq2 18 (by decide) (by decide)).trans ((hqo 18 (by decide) (by decide)).trans hrp)) ?_
                      refine g_iload C 7 dX10_asks_277 rfl ?_
                      refine g_cV1 C (As := [.int (nI (rpM (mem 155) b)), .int (nI m2)]) (w := .int (nI (dN (vP (mem 155) (rpM (mem 155) b)) (vP (mem 155) m2)))) (mem3 := gr (gr mem 154 (upd (upd q2 16 ((mk (sil (mem 155) b wa f) m2) ||| (nI 0))) 15 ((mk (ask (mem 155) b wa f) m2) ||| ((nI 1) <<< ((nI m2) &&& 31))))) 160 w) iX10_distance (c_X10_distance l G (gr (gr mem 154 (upd (upd q2 16 ((mk (sil (mem 155) b wa f) m2) ||| (nI 0))) 15 ((mk (ask (mem 155) b wa f) m2) ||| ((nI 1) <<< ((nI m2) &&& 31))))) 160 w) g (m1 := rpM (mem 155) b) (m2 := m2) (hrn) (hj2)) wd_921 ob_154 rfl ⟨Nat.le_of_ble_eq_true rfl, Nat.le_of_ble_eq_true rfl⟩ ⟨rfl, rfl⟩ rfl (Nat.le_of_ble_eq_true rfl) dX10_asks_279 (rfl) (rfl) ?_
                      refine g_iload C 6 dX10_asks_282 rfl ?_
                      refine g_icmp_le C 300 dX10_asks_284 (by decide) (fun c_284 => ?_) (fun c_284 => ?_)
                      · have c_284 : ¬ tmF (los (mem 155) b) (dR (mem 155) b) m2 < dR (mem 155) b m2 := by have q := (nI_leI (by rw [dN_comm]; exact Nat.lt_of_le_of_lt hdm (by decide)) (by omega)).mp c_284; have q2 : dR (mem 155) b m2 = dN (vP (mem 155) (rpM (mem 155) b)) (vP (mem 155) m2) := dN_comm _ _; omega
                        refine g_iload C 6 dX10_asks_300 rfl ?_
                        refine g_istore C (L2 := [(4, .int (nI (tmF (los (mem 155) b) (dR (mem 155) b) m2))), (3, .int (oI (moF (ask (mem 155) b wa f) (fun m => wt (mem 155) b wa m + dR (mem 155) b m) m2))), (7, .int (nI ((wt (mem 155) b wa m2) + (dR (mem 155) b m2)))), (6, .int (nI 0)), (0, .ref (gad G 154)), (1, .int (nI b)), (2, .int (nI wa)), (5, .int (nI m2))]) dX10_asks_302 (by decide) rfl ?_
                        refine g_iinc C (v := nI (m2 + 1)) (L2 := [(5, .int (nI (m2 + 1))), (4, .int (nI (tmF (los (mem 155) b) (dR (mem 155) b) m2))), (3, .int (oI (moF (ask (mem 155) b wa f) (fun m => wt (mem 155) b wa m + dR (mem 155) b m) m2))), (7, .int (nI ((wt (mem 155) b wa m2) + (dR (mem 155) b m2)))), (6, .int (nI 0)), (0, .ref (gad G 154)), (1, .int (nI b)), (2, .int (nI wa))]) 7 dX10_asks_304 rfl (nI_1 _) (by decide) rfl ?_
                        refine g_goto C 125 dX10_asks_307 (by decide) ?_
                        refine g_loc (L2 := [(0, .ref (gad G 154)), (1, .int (nI b)), (2, .int (nI wa)), (3, .int (oI (moF (ask (mem 155) b wa f) (fun m => wt (mem 155) b wa m + dR (mem 155) b m) m2))), (4, .int (nI (tmF (los (mem 155) b) (dR (mem 155) b) m2))), (5, .int (nI (m2 + 1)))]) [5, 6, 7, 2, 1, 0] rfl ?_
                        exact g_eq (ih_125 (m2 + 1) (upd (upd q2 16 ((mk (sil (mem 155) b wa f) m2) ||| (nI 0))) 15 ((mk (ask (mem 155) b wa f) m2) ||| ((nI 1) <<< ((nI m2) &&& 31)))) (hj2) (by first | exact hq15.trans (mk_f (asq_l hlf)).symm | (show mk (ask (mem 155) b wa f) m2 ||| bit m2 = _; exact (mk_t ha).symm) | (show mk (ask (mem 155) b wa f) m2 ||| nI 0 = _; rw [or_nil]; exact (mk_f ha).symm)) (by first | exact hq16.trans (mk_f (sil_l hlf)).symm | (show mk (sil (mem 155) b wa f) m2 ||| bit m2 = _; exact (mk_t hs2).symm) | (show mk (sil (mem 155) b wa f) m2 ||| nI 0 = _; rw [or_nil]; exact (mk_f hs2).symm)) (fun i h15 h16 => by first | exact hq2 i h15 h16 | (rw [upd_n h15, upd_n h16]; exact hq2 i h15 h16)) (by omega)) (rfl) (gLc rfl (gLc rfl (gLc rfl (gLc (congrArg Value.int (by first | (rw [mo_no (asq_l hlf)]; done) | (rw [mo_no ha]; done) | (rw [mo_0 ha hmo]; done) | (rw [mo_0 ha hmo]; rfl) | (rw [mo_lt_s ha hmo c_262]; rfl) | (rw [mo_ge_s ha hmo c_262, hmo]; done))) (gLc (congrArg Value.int (by first | (rw [tm_f hlf]; done) | (rw [tm_gt hlt c_284, dR, dN_comm]; done) | (rw [tm_ge hlt c_284]; done))) (rfl)))))) rfl
                      · have c_284 : tmF (los (mem 155) b) (dR (mem 155) b) m2 < dR (mem 155) b m2 := by have q := mt (nI_leI (by rw [dN_comm]; exact Nat.lt_of_le_of_lt hdm (by decide)) (by omega)).mpr c_284; have q2 : dR (mem 155) b m2 = dN (vP (mem 155) (rpM (mem 155) b)) (vP (mem 155) m2) := dN_comm _ _; omega
                        refine g_aload_n C 3 dX10_asks_287 rfl ?_
                        refine g_aload_n C 3 dX10_asks_288 rfl ?_
                        refine g_get_i C ob_154 18 (by decide) rfl wd_721 dX10_asks_289 ?_
                        refine g_top (y := q2 18) (rfl) ?_
                        refine g_top (y := nI (rpM (mem 155) b)) ((hq2 18 (by decide) (by decide)).trans ((hqo 18 (by decide) (by decide)).trans hrp)) ?_
                        refine g_iload C 7 dX10_asks_292 rfl ?_
                        refine g_cV1 C (As := [.int (nI (rpM (mem 155) b)), .int (nI m2)]) (w := .int (nI (dN (vP (mem 155) (rpM (mem 155) b)) (vP (mem 155) m2)))) (mem3 := gr (gr mem 154 (upd (upd q2 16 ((mk (sil (mem 155) b wa f) m2) ||| (nI 0))) 15 ((mk (ask (mem 155) b wa f) m2) ||| ((nI 1) <<< ((nI m2) &&& 31))))) 160 w) iX10_distance (c_X10_distance l G (gr (gr mem 154 (upd (upd q2 16 ((mk (sil (mem 155) b wa f) m2) ||| (nI 0))) 15 ((mk (ask (mem 155) b wa f) m2) ||| ((nI 1) <<< ((nI m2) &&& 31))))) 160 w) g (m1 := rpM (mem 155) b) (m2 := m2) (hrn) (hj2)) wd_921 ob_154 rfl ⟨Nat.le_of_ble_eq_true rfl, Nat.le_of_ble_eq_true rfl⟩ ⟨rfl, rfl⟩ rfl (Nat.le_of_ble_eq_true rfl) dX10_asks_294 (rfl) (rfl) ?_
                        refine g_goto C 302 dX10_asks_297 (by decide) ?_
                        refine g_istore C (L2 := [(4, .int (nI (dN (vP (mem 155) (rpM (mem 155) b)) (vP (mem 155) m2)))), (3, .int (oI (moF (ask (mem 155) b wa f) (fun m => wt (mem 155) b wa m + dR (mem 155) b m) m2))), (7, .int (nI ((wt (mem 155) b wa m2) + (dR (mem 155) b m2)))), (6, .int (nI 0)), (0, .ref (gad G 154)), (1, .int (nI b)), (2, .int (nI wa)), (5, .int (nI m2))]) dX10_asks_302 (by decide) rfl ?_
                        refine g_iinc C (v := nI (m2 + 1)) (L2 := [(5, .int (nI (m2 + 1))), (4, .int (nI (dN (vP (mem 155) (rpM (mem 155) b)) (vP (mem 155) m2)))), (3, .int (oI (moF (ask (mem 155) b wa f) (fun m => wt (mem 155) b wa m + dR (mem 155) b m) m2))), (7, .int (nI ((wt (mem 155) b wa m2) + (dR (mem 155) b m2)))), (6, .int (nI 0)), (0, .ref (gad G 154)), (1, .int (nI b)), (2, .int (nI wa))]) 7 dX10_asks_304 rfl (nI_1 _) (by decide) rfl ?_
                        refine g_goto C 125 dX10_asks_307 (by decide) ?_
                        refine g_loc (L2 := [(0, .ref (gad G 154)), (1, .int (nI b)), (2, .int (nI wa)), (3, .int (oI (moF (ask (mem 155) b wa f) (fun m => wt (mem 155) b wa m + dR (mem 155) b m) m2))), (4, .int (nI (dN (vP (mem 155) (rpM (mem 155) b)) (vP (mem 155) m2)))), (5, .int (nI (m2 + 1)))]) [5, 6, 7, 2, 1, 0] rfl ?_
                        exact g_eq (ih_125 (m2 + 1) (upd (upd q2 16 ((mk (sil (mem 155) b wa f) m2) ||| (nI 0))) 15 ((mk (ask (mem 155) b wa f) m2) ||| ((nI 1) <<< ((nI m2) &&& 31)))) (hj2) (by first | exact hq15.trans (mk_f (asq_l hlf)).symm | (show mk (ask (mem 155) b wa f) m2 ||| bit m2 = _; exact (mk_t ha).symm) | (show mk (ask (mem 155) b wa f) m2 ||| nI 0 = _; rw [or_nil]; exact (mk_f ha).symm)) (by first | exact hq16.trans (mk_f (sil_l hlf)).symm | (show mk (sil (mem 155) b wa f) m2 ||| bit m2 = _; exact (mk_t hs2).symm) | (show mk (sil (mem 155) b wa f) m2 ||| nI 0 = _; rw [or_nil]; exact (mk_f hs2).symm)) (fun i h15 h16 => by first | exact hq2 i h15 h16 | (rw [upd_n h15, upd_n h16]; exact hq2 i h15 h16)) (by omega)) (rfl) (gLc rfl (gLc rfl (gLc rfl (gLc (congrArg Value.int (by first | (rw [mo_no (asq_l hlf)]; done) | (rw [mo_no ha]; done) | (rw [mo_0 ha hmo]; done) | (rw [mo_0 ha hmo]; rfl) | (rw [mo_lt_s ha hmo c_262]; rfl) | (rw [mo_ge_s ha hmo c_262, hmo]; done))) (gLc (congrArg Value.int (by first | (rw [tm_f hlf]; done) | (rw [tm_gt hlt c_284, dR, dN_comm]; done) | (rw [tm_ge hlt c_284]; done))) (rfl)))))) rfl
                    · have c_262 : wt (mem 155) b wa m2 + dR (mem 155) b m2 < v2 := by have q := mt (nI_leI (by omega) (by omega)).mpr c_262; omega
                      refine g_iload C 0 dX10_asks_265 rfl ?_
                      refine g_goto C 271 dX10_asks_267 (by decide) ?_
                      refine g_istore_n C (L2 := [(3, .int (nI ((wt (mem 155) b wa m2) + (dR (mem 155) b m2)))), (7, .int (nI ((wt (mem 155) b wa m2) + (dR (mem 155) b m2)))), (6, .int (nI 0)), (0, .ref (gad G 154)), (1, .int (nI b)), (2, .int (nI wa)), (4, .int (nI (tmF (los (mem 155) b) (dR (mem 155) b) m2))), (5, .int (nI m2))]) dX10_asks_271 (by decide) rfl ?_
                      refine g_aload_n C 3 dX10_asks_272 rfl ?_
                      refine g_aload_n C 3 dX10_asks_273 rfl ?_
                      refine g_get_i C ob_154 18 (by decide) rfl wd_721 dX10_asks_274 ?_
                      refine g_top (y := q2 18) (rfl) ?_
                      refine g_top (y := nI (rpM (mem 155) b)) ((hq2 18 (by decide) (by decide)).trans ((hqo 18 (by decide) (by decide)).trans hrp)) ?_
                      refine g_iload C 7 dX10_asks_277 rfl ?_
                      refine g_cV1 C (As := [.int (nI (rpM (mem 155) b)), .int (nI m2)]) (w := .int (nI (dN (vP (mem 155) (rpM (mem 155) b)) (vP (mem 155) m2)))) (mem3 := gr (gr mem 154 (upd (upd q2 16 ((mk (sil (mem 155) b wa f) m2) ||| (nI 0))) 15 ((mk (ask (mem 155) b wa f) m2) ||| ((nI 1) <<< ((nI m2) &&& 31))))) 160 w) iX10_distance (c_X10_distance l G (gr (gr mem 154 (upd (upd q2 16 ((mk (sil (mem 155) b wa f) m2) ||| (nI 0))) 15 ((mk (ask (mem 155) b wa f) m2) ||| ((nI 1) <<< ((nI m2) &&& 31))))) 160 w) g (m1 := rpM (mem 155) b) (m2 := m2) (hrn) (hj2)) wd_921 ob_154 rfl ⟨Nat.le_of_ble_eq_true rfl, Nat.le_of_ble_eq_true rfl⟩ ⟨rfl, rfl⟩ rfl (Nat.le_of_ble_eq_true rfl) dX10_asks_279 (rfl) (rfl) ?_
                      refine g_iload C 6 dX10_asks_282 rfl ?_
                      refine g_icmp_le C 300 dX10_asks_284 (by decide) (fun c_284 => ?_) (fun c_284 => ?_)
                      · have c_284 : ¬ tmF (los (mem 155) b) (dR (mem 155) b) m2 < dR (mem 155) b m2 := by have q := (nI_leI (by rw [dN_comm]; exact Nat.lt_of_le_of_lt hdm (by decide)) (by omega)).mp c_284; have q2 : dR (mem 155) b m2 = dN (vP (mem 155) (rpM (mem 155) b)) (vP (mem 155) m2) := dN_comm _ _; omega
                        refine g_iload C 6 dX10_asks_300 rfl ?_
                        refine g_istore C (L2 := [(4, .int (nI (tmF (los (mem 155) b) (dR (mem 155) b) m2))), (3, .int (nI ((wt (mem 155) b wa m2) + (dR (mem 155) b m2)))), (7, .int (nI ((wt (mem 155) b wa m2) + (dR (mem 155) b m2)))), (6, .int (nI 0)), (0, .ref (gad G 154)), (1, .int (nI b)), (2, .int (nI wa)), (5, .int (nI m2))]) dX10_asks_302 (by decide) rfl ?_
                        refine g_iinc C (v := nI (m2 + 1)) (L2 := [(5, .int (nI (m2 + 1))), (4, .int (nI (tmF (los (mem 155) b) (dR (mem 155) b) m2))), (3, .int (nI ((wt (mem 155) b wa m2) + (dR (mem 155) b m2)))), (7, .int (nI ((wt (mem 155) b wa m2) + (dR (mem 155) b m2)))), (6, .int (nI 0)), (0, .ref (gad G 154)), (1, .int (nI b)), (2, .int (nI wa))]) 7 dX10_asks_304 rfl (nI_1 _) (by decide) rfl ?_
                        refine g_goto C 125 dX10_asks_307 (by decide) ?_
                        refine g_loc (L2 := [(0, .ref (gad G 154)), (1, .int (nI b)), (2, .int (nI wa)), (3, .int (nI ((wt (mem 155) b wa m2) + (dR (mem 155) b m2)))), (4, .int (nI (tmF (los (mem 155) b) (dR (mem 155) b) m2))), (5, .int (nI (m2 + 1)))]) [5, 6, 7, 2, 1, 0] rfl ?_
                        exact g_eq (ih_125 (m2 + 1) (upd (upd q2 16 ((mk (sil (mem 155) b wa f) m2) ||| (nI 0))) 15 ((mk (ask (mem 155) b wa f) m2) ||| ((nI 1) <<< ((nI m2) &&& 31)))) (hj2) (by first | exact hq15.trans (mk_f (asq_l hlf)).symm | (show mk (ask (mem 155) b wa f) m2 ||| bit m2 = _; exact (mk_t ha).symm) | (show mk (ask (mem 155) b wa f) m2 ||| nI 0 = _; rw [or_nil]; exact (mk_f ha).symm)) (by first | exact hq16.trans (mk_f (sil_l hlf)).symm | (show mk (sil (mem 155) b wa f) m2 ||| bit m2 = _; exact (mk_t hs2).symm) | (show mk (sil (mem 155) b wa f) m2 ||| nI 0 = _; rw [or_nil]; exact (mk_f hs2).symm)) (fun i h15 h16 => by first | exact hq2 i h15 h16 | (rw [upd_n h15, upd_n h16]; exact hq2 i h15 h16)) (by omega)) (rfl) (gLc rfl (gLc rfl (gLc rfl (gLc (congrArg Value.int (by first | (rw [mo_no (asq_l hlf)]; done) | (rw [mo_no ha]; done) | (rw [mo_0 ha hmo]; done) | (rw [mo_0 ha hmo]; rfl) | (rw [mo_lt_s ha hmo c_262]; rfl) | (rw [mo_ge_s ha hmo c_262, hmo]; done))) (gLc (congrArg Value.int (by first | (rw [tm_f hlf]; done) | (rw [tm_gt hlt c_284, dR, dN_comm]; done) | (rw [tm_ge hlt c_284]; done))) (rfl)))))) rfl
                      · have c_284 : tmF (los (mem 155) b) (dR (mem 155) b) m2 < dR (mem 155) b m2 := by have q := mt (nI_leI (by rw [dN_comm]; exact Nat.lt_of_le_of_lt hdm (by decide)) (by omega)).mpr c_284; have q2 : dR (mem 155) b m2 = dN (vP (mem 155) (rpM (mem 155) b)) (vP (mem 155) m2) := dN_comm _ _; omega
                        refine g_aload_n C 3 dX10_asks_287 rfl ?_
                        refine g_aload_n C 3 dX10_asks_288 rfl ?_
                        refine g_get_i C ob_154 18 (by decide) rfl wd_721 dX10_asks_289 ?_
                        refine g_top (y := q2 18) (rfl) ?_
                        refine g_top (y := nI (rpM (mem 155) b)) ((hq2 18 (by decide) (by decide)).trans ((hqo 18 (by decide) (by decide)).trans hrp)) ?_
                        refine g_iload C 7 dX10_asks_292 rfl ?_
                        refine g_cV1 C (As := [.int (nI (rpM (mem 155) b)), .int (nI m2)]) (w := .int (nI (dN (vP (mem 155) (rpM (mem 155) b)) (vP (mem 155) m2)))) (mem3 := gr (gr mem 154 (upd (upd q2 16 ((mk (sil (mem 155) b wa f) m2) ||| (nI 0))) 15 ((mk (ask (mem 155) b wa f) m2) ||| ((nI 1) <<< ((nI m2) &&& 31))))) 160 w) iX10_distance (c_X10_distance l G (gr (gr mem 154 (upd (upd q2 16 ((mk (sil (mem 155) b wa f) m2) ||| (nI 0))) 15 ((mk (ask (mem 155) b wa f) m2) ||| ((nI 1) <<< ((nI m2) &&& 31))))) 160 w) g (m1 := rpM (mem 155) b) (m2 := m2) (hrn) (hj2)) wd_921 ob_154 rfl ⟨Nat.le_of_ble_eq_true rfl, Nat.le_of_ble_eq_true rfl⟩ ⟨rfl, rfl⟩ rfl (Nat.le_of_ble_eq_true rfl) dX10_asks_294 (rfl) (rfl) ?_
                        refine g_goto C 302 dX10_asks_297 (by decide) ?_
                        refine g_istore C (L2 := [(4, .int (nI (dN (vP (mem 155) (rpM (mem 155) b)) (vP (mem 155) m2)))), (3, .int (nI ((wt (mem 155) b wa m2) + (dR (mem 155) b m2)))), (7, .int (nI ((wt (mem 155) b wa m2) + (dR (mem 155) b m2)))), (6, .int (nI 0)), (0, .ref (gad G 154)), (1, .int (nI b)), (2, .int (nI wa)), (5, .int (nI m2))]) dX10_asks_302 (by decide) rfl ?_
                        refine g_iinc C (v := nI (m2 + 1)) (L2 := [(5, .int (nI (m2 + 1))), (4, .int (nI (dN (vP (mem 155) (rpM (mem 155) b)) (vP (mem 155) m2)))), (3, .int (nI ((wt (mem 155) b wa m2) + (dR (mem 155) b m2)))), (7, .int (nI ((wt (mem 155) b wa m2) + (dR (mem 155) b m2)))), (6, .int (nI 0)), (0, .ref (gad G 154)), (1, .int (nI b)), (2, .int (nI wa))]) 7 dX10_asks_304 rfl (nI_1 _) (by decide) rfl ?_
                        refine g_goto C 125 dX10_asks_307 (by decide) ?_
                        refine g_loc (L2 := [(0, .ref (gad G 154)), (1, .int (nI b)), (2, .int (nI wa)), (3, .int (nI ((wt (mem 155) b wa m2) + (dR (mem 155) b m2)))), (4, .int (nI (dN (vP (mem 155) (rpM (mem 155) b)) (vP (mem 155) m2)))), (5, .int (nI (m2 + 1)))]) [5, 6, 7, 2, 1, 0] rfl ?_
                        exact g_eq (ih_125 (m2 + 1) (upd (upd q2 16 ((mk (sil (mem 155) b wa f) m2) ||| (nI 0))) 15 ((mk (ask (mem 155) b wa f) m2) ||| ((nI 1) <<< ((nI m2) &&& 31)))) (hj2) (by first | exact hq15.trans (mk_f (asq_l hlf)).symm | (show mk (ask (mem 155) b wa f) m2 ||| bit m2 = _; exact (mk_t ha).symm) | (show mk (ask (mem 155) b wa f) m2 ||| nI 0 = _; rw [or_nil]; exact (mk_f ha).symm)) (by first | exact hq16.trans (mk_f (sil_l hlf)).symm | (show mk (sil (mem 155) b wa f) m2 ||| bit m2 = _; exact (mk_t hs2).symm) | (show mk (sil (mem 155) b wa f) m2 ||| nI 0 = _; rw [or_nil]; exact (mk_f hs2).symm)) (fun i h15 h16 => by first | exact hq2 i h15 h16 | (rw [upd_n h15, upd_n h16]; exact hq2 i h15 h16)) (by omega)) (rfl) (gLc rfl (gLc rfl (gLc rfl (gLc (congrArg Value.int (by first | (rw [mo_no (asq_l hlf)]; done) | (rw [mo_no ha]; done) | (rw [mo_0 ha hmo]; done) | (rw [mo_0 ha hmo]; rfl) | (rw [mo_lt_s ha hmo c_262]; rfl) | (rw [mo_ge_s ha hmo c_262, hmo]; done))) (gLc (congrArg Value.int (by first | (rw [tm_f hlf]; done) | (rw [tm_gt hlt c_284, dR, dN_comm]; done) | (rw [tm_ge hlt c_284]; done))) (rfl)))))) rfl
                · have c_176 := mt (nI_leI (by omega) (by omega)).mpr c_176
                  have ha := asq_n (b := b) (wa := wa) (f := f) (m := m2) c_176
                  have hs2 := sil_y hlt ha
                  refine g_iconst C (nI 1) dX10_asks_179 (by decide) ?_
                  refine g_goto C 184 dX10_asks_180 (by decide) ?_
                  refine g_istore C (L2 := [(6, .int (nI 1)), (0, .ref (gad G 154)), (1, .int (nI b)), (2, .int (nI wa)), (3, .int (oI (moF (ask (mem 155) b wa f) (fun m => wt (mem 155) b wa m + dR (mem 155) b m) m2))), (4, .int (nI (tmF (los (mem 155) b) (dR (mem 155) b) m2))), (5, .int (nI m2))]) dX10_asks_184 (by decide) rfl ?_
                  refine g_aload_n C 1 dX10_asks_186 rfl ?_
                  refine g_dup C dX10_asks_187 rfl ?_
                  refine g_get_i C ob_154 16 (by decide) rfl wd_719 dX10_asks_188 ?_
                  refine g_top (y := q2 16) (rfl) ?_
                  refine g_top (y := mk (sil (mem 155) b wa f) m2) (hq16) ?_
                  refine g_iload C 0 dX10_asks_191 rfl ?_
                  refine g_if_eq_f C 203 (by decide) dX10_asks_193 (by decide) ?_
                  refine g_iconst C (nI 1) dX10_asks_196 (by decide) ?_
                  refine g_iload C 6 dX10_asks_197 rfl ?_
                  refine g_ishl C dX10_asks_199 ?_
                  refine g_goto C 204 dX10_asks_200 (by decide) ?_
                  refine g_ior C dX10_asks_204 ?_
                  refine g_put_i C ob_154 16 (by decide) rfl wd_719 rfl rfl dX10_asks_205 ?_
                  refine g_mem (mem2 := gr (gr mem 154 (upd q2 16 ((mk (sil (mem 155) b wa f) m2) ||| ((nI 1) <<< ((nI m2) &&& 31))))) 160 w) ((gr_comm _ (by decide) _ _).trans (congrArg (fun z => gr z 160 w) (gr_gr _ _ _ _))) ?_
                  refine g_aload_n C 1 dX10_asks_208 rfl ?_
                  refine g_dup C dX10_asks_209 rfl ?_
                  refine g_get_i C ob_154 15 (by decide) rfl wd_718 dX10_asks_210 ?_
                  refine g_top (y := q2 15) (rfl) ?_
                  refine g_top (y := mk (ask (mem 155) b wa f) m2) (hq15) ?_
                  refine g_iload C 0 dX10_asks_213 rfl ?_
                  refine g_if_eq_f C 222 (by decide) dX10_asks_215 (by decide) ?_
                  refine g_iconst C (nI 0) dX10_asks_218 (by decide) ?_
                  refine g_goto C 226 dX10_asks_219 (by decide) ?_
                  refine g_ior C dX10_asks_226 ?_
                  refine g_put_i C ob_154 15 (by decide) rfl wd_718 rfl rfl dX10_asks_227 ?_
                  refine g_mem (mem2 := gr (gr mem 154 (upd (upd q2 16 ((mk (sil (mem 155) b wa f) m2) ||| ((nI 1) <<< ((nI m2) &&& 31)))) 15 ((mk (ask (mem 155) b wa f) m2) ||| (nI 0)))) 160 w) ((gr_comm _ (by decide) _ _).trans (congrArg (fun z => gr z 160 w) (gr_gr _ _ _ _))) ?_
                  refine g_aload_n C 1 dX10_asks_230 rfl ?_
                  refine g_get_r C ob_154 13 (by decide) rfl wd_716 dX10_asks_231 ?_
                  refine g_iload C 6 dX10_asks_234 rfl ?_
                  refine g_iald_n C (j := m2) ar_160 rfl (by omega) (by decide) dX10_asks_236 ?_
                  refine g_top (y := w m2) (rfl) ?_
                  refine g_top (y := nI (wt (mem 155) b wa m2)) (hw m2 hj2 hlt) ?_
                  refine g_aload_n C 1 dX10_asks_237 rfl ?_
                  refine g_iload C 6 dX10_asks_238 rfl ?_
                  refine g_aload_n C 1 dX10_asks_240 rfl ?_
                  refine g_get_i C ob_154 18 (by decide) rfl wd_721 dX10_asks_241 ?_
                  refine g_top (y := q2 18) (rfl) ?_
                  refine g_top (y := nI (rpM (mem 155) b)) ((hq2 18 (by decide) (by decide)).trans ((hqo 18 (by decide) (by decide)).trans hrp)) ?_
                  refine g_cV1 C (As := [.int (nI m2), .int (nI (rpM (mem 155) b))]) (w := .int (nI (dN (vP (mem 155) m2) (vP (mem 155) (rpM (mem 155) b))))) (mem3 := gr (gr mem 154 (upd (upd q2 16 ((mk (sil (mem 155) b wa f) m2) ||| ((nI 1) <<< ((nI m2) &&& 31)))) 15 ((mk (ask (mem 155) b wa f) m2) ||| (nI 0)))) 160 w) iX10_distance (c_X10_distance l G (gr (gr mem 154 (upd (upd q2 16 ((mk (sil (mem 155) b wa f) m2) ||| ((nI 1) <<< ((nI m2) &&& 31)))) 15 ((mk (ask (mem 155) b wa f) m2) ||| (nI 0)))) 160 w) g (m1 := m2) (m2 := rpM (mem 155) b) (hj2) (hrn)) wd_921 ob_154 rfl ⟨Nat.le_of_ble_eq_true rfl, Nat.le_of_ble_eq_true rfl⟩ ⟨rfl, rfl⟩ rfl (Nat.le_of_ble_eq_true rfl) dX10_asks_244 (rfl) (rfl) ?_
                  refine g_top (y := nI (dR (mem 155) b m2)) (rfl) ?_
                  refine g_iadd_n C (d := (wt (mem 155) b wa m2) + (dR (mem 155) b m2)) dX10_asks_247 rfl ?_
                  refine g_istore C (L2 := [(7, .int (nI ((wt (mem 155) b wa m2) + (dR (mem 155) b m2)))), (6, .int (nI 1)), (0, .ref (gad G 154)), (1, .int (nI b)), (2, .int (nI wa)), (3, .int (oI (moF (ask (mem 155) b wa f) (fun m => wt (mem 155) b wa m + dR (mem 155) b m) m2))), (4, .int (nI (tmF (los (mem 155) b) (dR (mem 155) b) m2))), (5, .int (nI m2))]) dX10_asks_248 (by decide) rfl ?_
                  refine g_iload C 1 dX10_asks_250 rfl ?_
                  refine g_if_ne_t C 270 (by decide) dX10_asks_252 (by decide) ?_
                  refine g_iload_n C 5 dX10_asks_270 rfl ?_
                  refine g_istore_n C (L2 := [(3, .int (oI (moF (ask (mem 155) b wa f) (fun m => wt (mem 155) b wa m + dR (mem 155) b m) m2))), (7, .int (nI ((wt (mem 155) b wa m2) + (dR (mem 155) b m2)))), (6, .int (nI 1)), (0, .ref (gad G 154)), (1, .int (nI b)), (2, .int (nI wa)), (4, .int (nI (tmF (los (mem 155) b) (dR (mem 155) b) m2))), (5, .int (nI m2))]) dX10_asks_271 (by decide) rfl ?_
                  refine g_aload_n C 3 dX10_asks_272 rfl ?_
                  refine g_aload_n C 3 dX10_asks_273 rfl ?_
                  refine g_get_i C ob_154 18 (by decide) rfl wd_721 dX10_asks_274 ?_
                  refine g_top (y := q2 18) (rfl) ?_
                  refine g_top (y := nI (rpM (mem 155) b)) ((hq2 18 (by decide) (by decide)).trans ((hqo 18 (by decide) (by decide)).trans hrp)) ?_
                  refine g_iload C 7 dX10_asks_277 rfl ?_
                  refine g_cV1 C (As := [.int (nI (rpM (mem 155) b)), .int (nI m2)]) (w := .int (nI (dN (vP (mem 155) (rpM (mem 155) b)) (vP (mem 155) m2)))) (mem3 := gr (gr mem 154 (upd (upd q2 16 ((mk (sil (mem 155) b wa f) m2) ||| ((nI 1) <<< ((nI m2) &&& 31)))) 15 ((mk (ask (mem 155) b wa f) m2) ||| (nI 0)))) 160 w) iX10_distance (c_X10_distance l G (gr (gr mem 154 (upd (upd q2 16 ((mk (sil (mem 155) b wa f) m2) ||| ((nI 1) <<< ((nI m2) &&& 31)))) 15 ((mk (ask (mem 155) b wa f) m2) ||| (nI 0)))) 160 w) g (m1 := rpM (mem 155) b) (m2 := m2) (hrn) (hj2)) wd_921 ob_154 rfl ⟨Nat.le_of_ble_eq_true rfl, Nat.le_of_ble_eq_true rfl⟩ ⟨rfl, rfl⟩ rfl (Nat.le_of_ble_eq_true rfl) dX10_asks_279 (rfl) (rfl) ?_
                  refine g_iload C 6 dX10_asks_282 rfl ?_
                  refine g_icmp_le C 300 dX10_asks_284 (by decide) (fun c_284 => ?_) (fun c_284 => ?_)
                  · have c_284 : ¬ tmF (los (mem 155) b) (dR (mem 155) b) m2 < dR (mem 155) b m2 := by have q := (nI_leI (by rw [dN_comm]; exact Nat.lt_of_le_of_lt hdm (by decide)) (by omega)).mp c_284; have q2 : dR (mem 155) b m2 = dN (vP (mem 155) (rpM (mem 155) b)) (vP (mem 155) m2) := dN_comm _ _; omega
                    refine g_iload C 6 dX10_asks_300 rfl ?_
                    refine g_istore C (L2 := [(4, .int (nI (tmF (los (mem 155) b) (dR (mem 155) b) m2))), (3, .int (oI (moF (ask (mem 155) b wa f) (fun m => wt (mem 155) b wa m + dR (mem 155) b m) m2))), (7, .int (nI ((wt (mem 155) b wa m2) + (dR (mem 155) b m2)))), (6, .int (nI 1)), (0, .ref (gad G 154)), (1, .int (nI b)), (2, .int (nI wa)), (5, .int (nI m2))]) dX10_asks_302 (by decide) rfl ?_
                    refine g_iinc C (v := nI (m2 + 1)) (L2 := [(5, .int (nI (m2 + 1))), (4, .int (nI (tmF (los (mem 155) b) (dR (mem 155) b) m2))), (3, .int (oI (moF (ask (mem 155) b wa f) (fun m => wt (mem 155) b wa m + dR (mem 155) b m) m2))), (7, .int (nI ((wt (mem 155) b wa m2) + (dR (mem 155) b m2)))), (6, .int (nI 1)), (0, .ref (gad G 154)), (1, .int (nI b)), (2, .int (nI wa))]) 7 dX10_asks_304 rfl (nI_1 _) (by decide) rfl ?_
                    refine g_goto C 125 dX10_asks_307 (by decide) ?_
                    refine g_loc (L2 := [(0, .ref (gad G 154)), (1, .int (nI b)), (2, .int (nI wa)), (3, .int (oI (moF (ask (mem 155) b wa f) (fun m => wt (mem 155) b wa m + dR (mem 155) b m) m2))), (4, .int (nI (tmF (los (mem 155) b) (dR (mem 155) b) m2))), (5, .int (nI (m2 + 1)))]) [5, 6, 7, 2, 1, 0] rfl ?_
                    exact g_eq (ih_125 (m2 + 1) (upd (upd q2 16 ((mk (sil (mem 155) b wa f) m2) ||| ((nI 1) <<< ((nI m2) &&& 31)))) 15 ((mk (ask (mem 155) b wa f) m2) ||| (nI 0))) (hj2) (by first | exact hq15.trans (mk_f (asq_l hlf)).symm | (show mk (ask (mem 155) b wa f) m2 ||| bit m2 = _; exact (mk_t ha).symm) | (show mk (ask (mem 155) b wa f) m2 ||| nI 0 = _; rw [or_nil]; exact (mk_f ha).symm)) (by first | exact hq16.trans (mk_f (sil_l hlf)).symm | (show mk (sil (mem 155) b wa f) m2 ||| bit m2 = _; exact (mk_t hs2).symm) | (show mk (sil (mem 155) b wa f) m2 ||| nI 0 = _; rw [or_nil]; exact (mk_f hs2).symm)) (fun i h15 h16 => by first | exact hq2 i h15 h16 | (rw [upd_n h15, upd_n h16]; exact hq2 i h15 h16)) (by omega)) (rfl) (gLc rfl (gLc rfl (gLc rfl (gLc (congrArg Value.int (by first | (rw [mo_no (asq_l hlf)]; done) | (rw [mo_no ha]; done) | (rw [mo_0 ha hmo]; done) | (rw [mo_0 ha hmo]; rfl) | (rw [mo_lt_s ha hmo c_262]; rfl) | (rw [mo_ge_s ha hmo c_262, hmo]; done))) (gLc (congrArg Value.int (by first | (rw [tm_f hlf]; done) | (rw [tm_gt hlt c_284, dR, dN_comm]; done) | (rw [tm_ge hlt c_284]; done))) (rfl)))))) rfl
                  · have c_284 : tmF (los (mem 155) b) (dR (mem 155) b) m2 < dR (mem 155) b m2 := by have q := mt (nI_leI (by rw [dN_comm]; exact Nat.lt_of_le_of_lt hdm (by decide)) (by omega)).mpr c_284; have q2 : dR (mem 155) b m2 = dN (vP (mem 155) (rpM (mem 155) b)) (vP (mem 155) m2) := dN_comm _ _; omega
                    refine g_aload_n C 3 dX10_asks_287 rfl ?_
                    refine g_aload_n C 3 dX10_asks_288 rfl ?_
                    refine g_get_i C ob_154 18 (by decide) rfl wd_721 dX10_asks_289 ?_
                    refine g_top (y := q2 18) (rfl) ?_
                    refine g_top (y := nI (rpM (mem 155) b)) ((hq2 18 (by decide) (by decide)).trans ((hqo 18 (by decide) (by decide)).trans hrp)) ?_
                    refine g_iload C 7 dX10_asks_292 rfl ?_
                    refine g_cV1 C (As := [.int (nI (rpM (mem 155) b)), .int (nI m2)]) (w := .int (nI (dN (vP (mem 155) (rpM (mem 155) b)) (vP (mem 155) m2)))) (mem3 := gr (gr mem 154 (upd (upd q2 16 ((mk (sil (mem 155) b wa f) m2) ||| ((nI 1) <<< ((nI m2) &&& 31)))) 15 ((mk (ask (mem 155) b wa f) m2) ||| (nI 0)))) 160 w) iX10_distance (c_X10_distance l G (gr (gr mem 154 (upd (upd q2 16 ((mk (sil (mem 155) b wa f) m2) ||| ((nI 1) <<< ((nI m2) &&& 31)))) 15 ((mk (ask (mem 155) b wa f) m2) ||| (nI 0)))) 160 w) g (m1 := rpM (mem 155) b) (m2 := m2) (hrn) (hj2)) wd_921 ob_154 rfl ⟨Nat.le_of_ble_eq_true rfl, Nat.le_of_ble_eq_true rfl⟩ ⟨rfl, rfl⟩ rfl (Nat.le_of_ble_eq_true rfl) dX10_asks_294 (rfl) (rfl) ?_
                    refine g_goto C 302 dX10_asks_297 (by decide) ?_
                    refine g_istore C (L2 := [(4, .int (nI (dN (vP (mem 155) (rpM (mem 155) b)) (vP (mem 155) m2)))), (3, .int (oI (moF (ask (mem 155) b wa f) (fun m => wt (mem 155) b wa m + dR (mem 155) b m) m2))), (7, .int (nI ((wt (mem 155) b wa m2) + (dR (mem 155) b m2)))), (6, .int (nI 1)), (0, .ref (gad G 154)), (1, .int (nI b)), (2, .int (nI wa)), (5, .int (nI m2))]) dX10_asks_302 (by decide) rfl ?_
                    refine g_iinc C (v := nI (m2 + 1)) (L2 := [(5, .int (nI (m2 + 1))), (4, .int (nI (dN (vP (mem 155) (rpM (mem 155) b)) (vP (mem 155) m2)))), (3, .int (oI (moF (ask (mem 155) b wa f) (fun m => wt (mem 155) b wa m + dR (mem 155) b m) m2))), (7, .int (nI ((wt (mem 155) b wa m2) + (dR (mem 155) b m2)))), (6, .int (nI 1)), (0, .ref (gad G 154)), (1, .int (nI b)), (2, .int (nI wa))]) 7 dX10_asks_304 rfl (nI_1 _) (by decide) rfl ?_
                    refine g_goto C 125 dX10_asks_307 (by decide) ?_
                    refine g_loc (L2 := [(0, .ref (gad G 154)), (1, .int (nI b)), (2, .int (nI wa)), (3, .int (oI (moF (ask (mem 155) b wa f) (fun m => wt (mem 155) b wa m + dR (mem 155) b m) m2))), (4, .int (nI (dN (vP (mem 155) (rpM (mem 155) b)) (vP (mem 155) m2)))), (5, .int (nI (m2 + 1)))]) [5, 6, 7, 2, 1, 0] rfl ?_
                    exact g_eq (ih_125 (m2 + 1) (upd (upd q2 16 ((mk (sil (mem 155) b wa f) m2) ||| ((nI 1) <<< ((nI m2) &&& 31)))) 15 ((mk (ask (mem 155) b wa f) m2) ||| (nI 0))) (hj2) (by first | exact hq15.trans (mk_f (asq_l hlf)).symm | (show mk (ask (mem 155) b wa f) m2 ||| bit m2 = _; exact (mk_t ha).symm) | (show mk (ask (mem 155) b wa f) m2 ||| nI 0 = _; rw [or_nil]; exact (mk_f ha).symm)) (by first | exact hq16.trans (mk_f (sil_l hlf)).symm | (show mk (sil (mem 155) b wa f) m2 ||| bit m2 = _; exact (mk_t hs2).symm) | (show mk (sil (mem 155) b wa f) m2 ||| nI 0 = _; rw [or_nil]; exact (mk_f hs2).symm)) (fun i h15 h16 => by first | exact hq2 i h15 h16 | (rw [upd_n h15, upd_n h16]; exact hq2 i h15 h16)) (by omega)) (rfl) (gLc rfl (gLc rfl (gLc rfl (gLc (congrArg Value.int (by first | (rw [mo_no (asq_l hlf)]; done) | (rw [mo_no ha]; done) | (rw [mo_0 ha hmo]; done) | (rw [mo_0 ha hmo]; rfl) | (rw [mo_lt_s ha hmo c_262]; rfl) | (rw [mo_ge_s ha hmo c_262, hmo]; done))) (gLc (congrArg Value.int (by first | (rw [tm_f hlf]; done) | (rw [tm_gt hlt c_284, dR, dN_comm]; done) | (rw [tm_ge hlt c_284]; done))) (rfl)))))) rfl
        refine g_loc (L2 := [(0, .ref (gad G 154)), (1, .int (nI b)), (2, .int (nI wa)), (3, .int ((-1000009) : Int32)), (4, .int (nI 0)), (5, .int (nI 0))]) [3, 4, 5, 2, 1, 0] rfl ?_
        exact g_eq (lp_125 (_ + 1) 0 (upd (upd q 15 (nI 0)) 16 (nI 0)) (Nat.zero_le _) (rfl) (rfl) (fun i h15 h16 => by rw [upd_n h16, upd_n h15]) (Nat.lt_succ_self _)) (rfl) (gLc rfl (gLc rfl (gLc rfl (gLc (congrArg Value.int (rfl)) (gLc (congrArg Value.int (rfl)) (rfl)))))) rfl
      · have hi2 : m1 < vN (mem 155) := by have q := mt (nI_leI (a := vN (mem 155)) (b := m1) (by omega) (by omega)).mpr c_15; omega
        refine g_aload_n C 0 dX10_asks_18 rfl ?_
        refine g_aload_n C 0 dX10_asks_19 rfl ?_
        refine g_get_i C ob_154 12 (by decide) rfl wd_715 dX10_asks_20 ?_
        refine g_top (y := q 12) (rfl) ?_
        refine g_top (y := mk (los (mem 155) b) (vN (mem 155))) ((hqo 12 (by decide) (by decide)).trans hlos) ?_
        refine g_iload_n C 3 dX10_asks_23 rfl ?_
        refine g_cV1 C (As := [.int (mk (los (mem 155) b) (vN (mem 155))), .int (nI m1)]) (w := .int (b2i (hs (mk (los (mem 155) b) (vN (mem 155))) m1))) (mem3 := gr (gr mem 154 q) 160 w) iX10_isIn (c_X10_isIn l G (gr (gr mem 154 q) 160 w) (mk (los (mem 155) b) (vN (mem 155))) (m1 := m1) (by omega)) wd_917 ob_154 rfl ⟨Nat.le_of_ble_eq_true rfl, Nat.le_of_ble_eq_true rfl⟩ ⟨rfl, rfl⟩ rfl (Nat.le_of_ble_eq_true rfl) dX10_asks_24 (rfl) (rfl) ?_
        refine g_ifb_eq C 100 dX10_asks_27 (by decide) (fun c_27 => ?_) (fun c_27 => ?_)
        · have hlf : los (mem 155) b m1 = false := (Bool.not_eq_true _).mp (mt (mk_hs (by omega) hi2).mpr c_27)
          refine g_iinc C (v := nI (m1 + 1)) (L2 := [(3, .int (nI (m1 + 1))), (0, .ref (gad G 154)), (1, .int (nI b)), (2, .int (nI wa))]) 3 dX10_asks_100 rfl (nI_1 _) (by decide) rfl ?_
          refine g_goto C 8 dX10_asks_103 (by decide) ?_
          refine g_loc (L2 := [(0, .ref (gad G 154)), (1, .int (nI b)), (2, .int (nI wa)), (3, .int (nI (m1 + 1)))]) [1, 2, 3, 0] rfl ?_
          exact g_eq (ih_8 (m1 + 1) q w (hi2) (by first | exact hq14.trans (congrArg oI (fr_no hlf).symm) | exact (congrArg oI (fr_0 hlt hfr)).symm | exact (congrArg oI (fr_lt hlt hfr c_86)).symm | exact (congrArg oI (fr_ge hlt hfr c_86)).symm) (fun i h5 h14 => by first | exact hqo i h5 h14 | (rw [upd_n h14, upd_n h5, upd_n h5]; exact hqo i h5 h14)) (by first | exact wl_no hw hlf | exact wl_yes hw) (by omega)) (rfl) (rfl) rfl
        · have hlt : los (mem 155) b m1 = true := (mk_hs (by omega) hi2).mp c_27
          refine g_aload_n C 0 dX10_asks_30 rfl ?_
          refine g_aload_n C 0 dX10_asks_31 rfl ?_
          refine g_get_r C ob_154 0 (by decide) rfl wd_703 dX10_asks_32 ?_
          refine g_bipush C (nI 10) dX10_asks_35 (by decide) ?_
          refine g_iald_n C (j := 10) ar_155 rfl (by omega) (by decide) dX10_asks_37 ?_
          refine g_top (y := mem 155 10) (rfl) ?_
          refine g_sipush C (nI 1000) dX10_asks_38 (by decide) ?_
          refine g_iload_n C 1 dX10_asks_41 rfl ?_
          refine g_imul_n C (d := 1000 * b) dX10_asks_42 rfl ?_
          refine g_iload_n C 3 dX10_asks_43 rfl ?_
          refine g_iadd_n C (d := (1000 * b) + m1) dX10_asks_44 rfl ?_
          refine g_ixor C dX10_asks_45 ?_
          refine g_cS1 C (As := [.int ((mem 155 10) ^^^ (nI ((1000 * b) + m1)))]) (w := .int (mixI ((mem 155 10) ^^^ (nI ((1000 * b) + m1))))) (mem3 := gr (gr mem 154 q) 160 w) iX10_mixed (c_X10_mixed l G (gr (gr mem 154 q) 160 w) ((mem 155 10) ^^^ (nI ((1000 * b) + m1)))) wd_824 rfl ⟨Nat.le_of_ble_eq_true rfl, Nat.le_of_ble_eq_true rfl⟩ ⟨rfl, rfl⟩ rfl (Nat.le_of_ble_eq_true rfl) dX10_asks_46 (rfl) (rfl) ?_
          refine g_put_i C ob_154 5 (by decide) rfl wd_708 rfl rfl dX10_asks_49 ?_
          refine g_mem (mem2 := gr (gr mem 154 (upd q 5 (mixI ((mem 155 10) ^^^ (nI ((1000 * b) + m1)))))) 160 w) ((gr_comm _ (by decide) _ _).trans (congrArg (fun z => gr z 160 w) (gr_gr _ _ _ _))) ?_
          refine g_aload_n C 0 dX10_asks_52 rfl ?_
          refine g_get_r C ob_154 13 (by decide) rfl wd_716 dX10_asks_53 ?_
          refine g_iload_n C 3 dX10_asks_56 rfl ?_
          refine g_aload_n C 0 dX10_asks_57 rfl ?_
          refine g_iload_n C 2 dX10_asks_58 rfl ?_
          refine g_cV1 C (As := [.int (nI wa)]) (w := .int (nI (lotN (mixI (mixI (mem 155 10 ^^^ nI (1000 * b + m1)))) wa))) (mem3 := gr (gr (gr mem 154 (upd q 5 (mixI ((mem 155 10) ^^^ (nI ((1000 * b) + m1)))))) 160 w) 154 (upd (upd q 5 (mixI ((mem 155 10) ^^^ (nI ((1000 * b) + m1))))) 5 (mixI (mixI (mem 155 10 ^^^ nI (1000 * b + m1)))))) iX10_lot (c_X10_lot l G (gr (gr mem 154 (upd q 5 (mixI ((mem 155 10) ^^^ (nI ((1000 * b) + m1)))))) 160 w) (s0 := mixI (mem 155 10 ^^^ nI (1000 * b + m1))) rfl (hwa) (by omega)) wd_853 ob_154 rfl ⟨Nat.le_of_ble_eq_true rfl, Nat.le_of_ble_eq_true rfl⟩ ⟨rfl, rfl⟩ rfl (Nat.le_of_ble_eq_true rfl) dX10_asks_59 (rfl) (rfl) ?_
          refine g_mem (mem2 := gr (gr mem 154 (upd (upd q 5 (mixI ((mem 155 10) ^^^ (nI ((1000 * b) + m1))))) 5 (mixI (mixI (mem 155 10 ^^^ nI (1000 * b + m1)))))) 160 w) ((gr_comm _ (by decide) _ _).trans (congrArg (fun z => gr z 160 w) (gr_gr _ _ _ _))) ?_
          refine g_top (y := nI (wt (mem 155) b wa m1)) (rfl) ?_
          refine g_iast_n C (j := m1) ar_160 rfl (by omega) (by decide) dX10_asks_62 ?_
          refine g_mem (mem2 := gr (gr mem 154 (upd (upd q 5 (mixI ((mem 155 10) ^^^ (nI ((1000 * b) + m1))))) 5 (mixI (mixI (mem 155 10 ^^^ nI (1000 * b + m1)))))) 160 (upd w m1 (nI (wt (mem 155) b wa m1)))) (gr_gr _ _ _ _) ?_
          refine g_aload_n C 0 dX10_asks_63 rfl ?_
          rcases opt_or (frF (los (mem 155) b) (wt (mem 155) b wa) m1) with hfr | ⟨f2, hfr⟩
          · refine g_aload_n C 0 dX10_asks_64 rfl ?_
            refine g_get_i C ob_154 14 (by decide) rfl wd_717 dX10_asks_65 ?_
            refine g_top (y := q 14) (rfl) ?_
            refine g_top (y := kNone) (hq14.trans (congrArg oI hfr)) ?_
            refine g_if_lt_t C 89 (by decide) dX10_asks_68 (by decide) ?_
            refine g_iload_n C 3 dX10_asks_89 rfl ?_
            refine g_goto C 97 dX10_asks_90 (by decide) ?_
            refine g_put_i C ob_154 14 (by decide) rfl wd_717 rfl rfl dX10_asks_97 ?_
            refine g_mem (mem2 := gr (gr mem 154 (upd (upd (upd q 5 (mixI ((mem 155 10) ^^^ (nI ((1000 * b) + m1))))) 5 (mixI (mixI (mem 155 10 ^^^ nI (1000 * b + m1))))) 14 (nI m1))) 160 (upd w m1 (nI (wt (mem 155) b wa m1)))) ((gr_comm _ (by decide) _ _).trans (congrArg (fun z => gr z 160 (upd w m1 (nI (wt (mem 155) b wa m1)))) (gr_gr _ _ _ _))) ?_
            refine g_iinc C (v := nI (m1 + 1)) (L2 := [(3, .int (nI (m1 + 1))), (0, .ref (gad G 154)), (1, .int (nI b)), (2, .int (nI wa))]) 3 dX10_asks_100 rfl (nI_1 _) (by decide) rfl ?_
            refine g_goto C 8 dX10_asks_103 (by decide) ?_
            refine g_loc (L2 := [(0, .ref (gad G 154)), (1, .int (nI b)), (2, .int (nI wa)), (3, .int (nI (m1 + 1)))]) [1, 2, 3, 0] rfl ?_
            exact g_eq (ih_8 (m1 + 1) (upd (upd (upd q 5 (mixI ((mem 155 10) ^^^ (nI ((1000 * b) + m1))))) 5 (mixI (mixI (mem 155 10 ^^^ nI (1000 * b + m1))))) 14 (nI m1)) (upd w m1 (nI (wt (mem 155) b wa m1))) (hi2) (by first | exact hq14.trans (congrArg oI (fr_no hlf).symm) | exact (congrArg oI (fr_0 hlt hfr)).symm | exact (congrArg oI (fr_lt hlt hfr c_86)).symm | exact (congrArg oI (fr_ge hlt hfr c_86)).symm) (fun i h5 h14 => by first | exact hqo i h5 h14 | (rw [upd_n h14, upd_n h5, upd_n h5]; exact hqo i h5 h14)) (by first | exact wl_no hw hlf | exact wl_yes hw) (by omega)) (rfl) (rfl) rfl
          · have hfx := fr_some hfr
            have hw1 := wt_lt (mem 155) b m1 hwa
            have hw2 := wt_lt (mem 155) b f2 hwa
            refine g_aload_n C 0 dX10_asks_64 rfl ?_
            refine g_get_i C ob_154 14 (by decide) rfl wd_717 dX10_asks_65 ?_
            refine g_top (y := q 14) (rfl) ?_
            refine g_top (y := nI f2) (hq14.trans (congrArg oI hfr)) ?_
            refine g_if_lt_f C 89 (Int32.not_lt.mpr (nI_pos' (by omega))) dX10_asks_68 (by decide) ?_
            refine g_aload_n C 0 dX10_asks_71 rfl ?_
            refine g_get_r C ob_154 13 (by decide) rfl wd_716 dX10_asks_72 ?_
            refine g_iload_n C 3 dX10_asks_75 rfl ?_
            refine g_iald_n C (j := m1) ar_160 rfl (by omega) (by decide) dX10_asks_76 ?_
            refine g_top (y := nI (wt (mem 155) b wa m1)) (upd_s _ _ _) ?_
            refine g_aload_n C 0 dX10_asks_77 rfl ?_
            refine g_get_r C ob_154 13 (by decide) rfl wd_716 dX10_asks_78 ?_
            refine g_aload_n C 0 dX10_asks_81 rfl ?_
            refine g_get_i C ob_154 14 (by decide) rfl wd_717 dX10_asks_82 ?_
            refine g_top (y := q 14) (rfl) ?_
            refine g_top (y := nI f2) (hq14.trans (congrArg oI hfr)) ?_
            refine g_iald_n C (j := f2) ar_160 rfl (by omega) (by decide) dX10_asks_85 ?_
            refine g_top (y := (upd w m1 (nI (wt (mem 155) b wa m1))) f2) (rfl) ?_
            refine g_top (y := nI (wt (mem 155) b wa f2)) ((upd_n (by omega)).trans (hw f2 hfx.1 hfx.2)) ?_
            refine g_icmp_ge C 93 dX10_asks_86 (by decide) (fun c_86 => ?_) (fun c_86 => ?_)
            · have c_86 : ¬ wt (mem 155) b wa m1 < wt (mem 155) b wa f2 := by have q := (nI_leI (by omega) (by omega)).mp c_86; omega
              refine g_aload_n C 0 dX10_asks_93 rfl ?_
              refine g_get_i C ob_154 14 (by decide) rfl wd_717 dX10_asks_94 ?_
              refine g_top (y := q 14) (rfl) ?_
              refine g_top (y := nI f2) (hq14.trans (congrArg oI hfr)) ?_
              refine g_put_i C ob_154 14 (by decide) rfl wd_717 rfl rfl dX10_asks_97 ?_
              refine g_mem (mem2 := gr (gr mem 154 (upd (upd (upd q 5 (mixI ((mem 155 10) ^^^ (nI ((1000 * b) + m1))))) 5 (mixI (mixI (mem 155 10 ^^^ nI (1000 * b + m1))))) 14 (nI f2))) 160 (upd w m1 (nI (wt (mem 155) b wa m1)))) ((gr_comm _ (by decide) _ _).trans (congrArg (fun z => gr z 160 (upd w m1 (nI (wt (mem 155) b wa m1)))) (gr_gr _ _ _ _))) ?_
              refine g_iinc C (v := nI (m1 + 1)) (L2 := [(3, .int (nI (m1 + 1))), (0, .ref (gad G 154)), (1, .int (nI b)), (2, .int (nI wa))]) 3 dX10_asks_100 rfl (nI_1 _) (by decide) rfl ?_
              refine g_goto C 8 dX10_asks_103 (by decide) ?_
              refine g_loc (L2 := [(0, .ref (gad G 154)), (1, .int (nI b)), (2, .int (nI wa)), (3, .int (nI (m1 + 1)))]) [1, 2, 3, 0] rfl ?_
              exact g_eq (ih_8 (m1 + 1) (upd (upd (upd q 5 (mixI ((mem 155 10) ^^^ (nI ((1000 * b) + m1))))) 5 (mixI (mixI (mem 155 10 ^^^ nI (1000 * b + m1))))) 14 (nI f2)) (upd w m1 (nI (wt (mem 155) b wa m1))) (hi2) (by first | exact hq14.trans (congrArg oI (fr_no hlf).symm) | exact (congrArg oI (fr_0 hlt hfr)).symm | exact (congrArg oI (fr_lt hlt hfr c_86)).symm | exact (congrArg oI (fr_ge hlt hfr c_86)).symm) (fun i h5 h14 => by first | exact hqo i h5 h14 | (rw [upd_n h14, upd_n h5, upd_n h5]; exact hqo i h5 h14)) (by first | exact wl_no hw hlf | exact wl_yes hw) (by omega)) (rfl) (rfl) rfl
            · have c_86 : wt (mem 155) b wa m1 < wt (mem 155) b wa f2 := by have q := mt (nI_leI (by omega) (by omega)).mpr c_86; omega
              refine g_iload_n C 3 dX10_asks_89 rfl ?_
              refine g_goto C 97 dX10_asks_90 (by decide) ?_
              refine g_put_i C ob_154 14 (by decide) rfl wd_717 rfl rfl dX10_asks_97 ?_
              refine g_mem (mem2 := gr (gr mem 154 (upd (upd (upd q 5 (mixI ((mem 155 10) ^^^ (nI ((1000 * b) + m1))))) 5 (mixI (mixI (mem 155 10 ^^^ nI (1000 * b + m1))))) 14 (nI m1))) 160 (upd w m1 (nI (wt (mem 155) b wa m1)))) ((gr_comm _ (by decide) _ _).trans (congrArg (fun z => gr z 160 (upd w m1 (nI (wt (mem 155) b wa m1)))) (gr_gr _ _ _ _))) ?_
              refine g_iinc C (v := nI (m1 + 1)) (L2 := [(3, .int (nI (m1 + 1))), (0, .ref (gad G 154)), (1, .int (nI b)), (2, .int (nI wa))]) 3 dX10_asks_100 rfl (nI_1 _) (by decide) rfl ?_
              refine g_goto C 8 dX10_asks_103 (by decide) ?_
              refine g_loc (L2 := [(0, .ref (gad G 154)), (1, .int (nI b)), (2, .int (nI wa)), (3, .int (nI (m1 + 1)))]) [1, 2, 3, 0] rfl ?_
              exact g_eq (ih_8 (m1 + 1) (upd (upd (upd q 5 (mixI ((mem 155 10) ^^^ (nI ((1000 * b) + m1))))) 5 (mixI (mixI (mem 155 10 ^^^ nI (1000 * b + m1))))) 14 (nI m1)) (upd w m1 (nI (wt (mem 155) b wa m1))) (hi2) (by first | exact hq14.trans (congrArg oI (fr_no hlf).symm) | exact (congrArg oI (fr_0 hlt hfr)).symm | exact (congrArg oI (fr_lt hlt hfr c_86)).symm | exact (congrArg oI (fr_ge hlt hfr c_86)).symm) (fun i h5 h14 => by first | exact hqo i h5 h14 | (rw [upd_n h14, upd_n h5, upd_n h5]; exact hqo i h5 h14)) (by first | exact wl_no hw hlf | exact wl_yes hw) (by omega)) (rfl) (rfl) rfl
  refine g_loc (L2 := [(0, .ref (gad G 154)), (1, .int (nI b)), (2, .int (nI wa)), (3, .int (nI 0))]) [1, 2, 3, 0] rfl ?_
  exact g_eq (lp_8 (_ + 1) 0 (upd (mem 154) 14 kNone) (mem 160) (Nat.zero_le _) (rfl) (fun i h5 h14 => upd_n h14) (fun m hm => absurd hm (Nat.not_lt_zero m)) (Nat.lt_succ_self _)) (by first | exact (gr_self _ 160).symm | exact gr_self _ 160) (rfl) rfl
