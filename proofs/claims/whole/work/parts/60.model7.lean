def rm_X10_works : Room := { frames := 3, cells := 0, slots := 0, locals := 71 }
theorem iX10_works : gIv yX10_works cX10_works 5 (some .int) 2 := ⟨⟨wd_912, wd_32, by decide +kernel, by decide +kernel, by decide +kernel⟩, wd_911, wd_15⟩
set_option maxRecDepth 100000 in
set_option maxHeartbeats 4000000 in
theorem c_X10_works (l : Launch) (G : gG) {T : Nat} (mem : gM) (g : Good T (mem 155)) {b wa : Nat} (hb : b < 200) (hwa : 1 ≤ wa) (hwa1 : wa ≤ 1000) : gMet l yX10_works cX10_works 5 (some .int) rm_X10_works G [.ref (gad G 154), .int (nI b), .int (nI wa)] mem (fun a u => ∃ rr : Int32, a = some (.int rr) ∧ (rr = nI (hcd (mem 155) b) ∧ WK (mem 155) b wa mem u)) := by
  refine g_of (own := RX10) (L0 := [(0, .ref (gad G 154)), (1, .int (nI b)), (2, .int (nI wa))]) (by decide +kernel) rfl (Nat.le_of_ble_eq_true rfl) rfl ?_
  intro p e s m args below meth c C Q hQ
  have hn10 := gd_n10 g
  have hzn := (gd_z g).2
  refine g_aload_n C 0 dX10_works_0 rfl ?_
  refine g_iconst C (nI 0) dX10_works_1 (by decide) ?_
  refine g_put_i C ob_154 12 (by decide) rfl wd_715 rfl rfl dX10_works_2 ?_
  refine g_iconst C (nI 0) dX10_works_5 (by decide) ?_
  refine g_istore_n C (L2 := [(3, .int (nI 0)), (0, .ref (gad G 154)), (1, .int (nI b)), (2, .int (nI wa))]) dX10_works_6 (by decide) rfl ?_
  have lp_7 : ∀ (fu : Nat) (m1 : Nat), (m1 ≤ vN (mem 155)) → vN (mem 155) - m1 < fu → gV p l e rm_X10_works s m args below meth c 0 0 Q G 5 (gr mem 154 (upd (mem 154) 12 (mk (los (mem 155) b) m1))) 7 [(0, .ref (gad G 154)), (1, .int (nI b)), (2, .int (nI wa)), (3, .int (nI m1))] [] := by
    intro fu
    induction fu with
    | zero => intro m1 _ hfu; exact absurd hfu (Nat.not_lt_zero _)
    | succ fu ih_7 =>
      intro m1 hi hfu_7
      refine g_iload_n C 3 dX10_works_7 rfl ?_
      refine g_aload_n C 0 dX10_works_8 rfl ?_
      refine g_get_r C ob_154 0 (by decide) rfl wd_703 dX10_works_9 ?_
      refine g_iconst C (nI 5) dX10_works_12 (by decide) ?_
      refine g_iald_n C (j := 5) ar_155 rfl (by omega) (by decide) dX10_works_13 ?_
      refine g_top (y := mem 155 5) (rfl) ?_
      refine g_top (y := nI (vN (mem 155))) (gd_n g) ?_
      refine g_icmp_ge C 56 dX10_works_14 (by decide) (fun c_14 => ?_) (fun c_14 => ?_)
      · have hin : m1 = vN (mem 155) := by have q := (nI_leI (a := vN (mem 155)) (b := m1) (by omega) (by omega)).mp c_14; omega
        rw [hin]
        refine g_aload_n C 0 dX10_works_56 rfl ?_
        refine g_iconst C (nI 0) dX10_works_57 (by decide) ?_
        refine g_put_i C ob_154 17 (by decide) rfl wd_720 rfl rfl dX10_works_58 ?_
        refine g_mem (mem2 := gr mem 154 (upd (upd (mem 154) 12 (mk (los (mem 155) b) (vN (mem 155)))) 17 (nI 0))) (gr_gr _ _ _ _) ?_
        refine g_aload_n C 0 dX10_works_61 rfl ?_
        refine g_ldc C wd_783 dX10_works_62 ?_
        refine g_put_i C ob_154 18 (by decide) rfl wd_721 rfl rfl dX10_works_64 ?_
        refine g_mem (mem2 := gr mem 154 (upd (upd (upd (mem 154) 12 (mk (los (mem 155) b) (vN (mem 155)))) 17 (nI 0)) 18 ((-1000009) : Int32))) (gr_gr _ _ _ _) ?_
        refine g_iconst C (nI 0) dX10_works_67 (by decide) ?_
        refine g_istore_n C (L2 := [(3, .int (nI 0)), (0, .ref (gad G 154)), (1, .int (nI b)), (2, .int (nI wa))]) dX10_works_68 (by decide) rfl ?_
        have lp_69 : ∀ (fu : Nat) (r1 : Nat) (q : Nat → Int32), (r1 ≤ vZ (mem 155)) → (q 12 = mk (los (mem 155) b) (vN (mem 155))) → (q 17 = msF (mem 155) (fa_first (rpG (mem 155) b) r1)) → (q 18 = rpI (mem 155) b r1) → (∀ i, i ≠ 12 → i ≠ 17 → i ≠ 18 → q i = mem 154 i) → vZ (mem 155) - r1 < fu → gV p l e rm_X10_works s m args below meth c 0 0 Q G 5 (gr mem 154 q) 69 [(0, .ref (gad G 154)), (1, .int (nI b)), (2, .int (nI wa)), (3, .int (nI r1))] [] := by
          intro fu
          induction fu with
          | zero => intro r1 q _ _ _ _ _ hfu; exact absurd hfu (Nat.not_lt_zero _)
          | succ fu ih_69 =>
            intro r1 q hr hq12 hq17 hq18 hqo hfu_69
            refine g_iload_n C 3 dX10_works_69 rfl ?_
            refine g_aload_n C 0 dX10_works_70 rfl ?_
            refine g_get_r C ob_154 0 (by decide) rfl wd_703 dX10_works_71 ?_
            refine g_bipush C (nI 11) dX10_works_74 (by decide) ?_
            refine g_iald_n C (j := 11) ar_155 rfl (by omega) (by decide) dX10_works_76 ?_
            refine g_top (y := mem 155 11) (rfl) ?_
            refine g_top (y := nI (vZ (mem 155))) ((gd_z g).1) ?_
            refine g_icmp_ge C 162 dX10_works_77 (by decide) (fun c_77 => ?_) (fun c_77 => ?_)
            · have hin2 : r1 = vZ (mem 155) := by have q := (nI_leI (a := vZ (mem 155)) (b := r1) (by omega) (by omega)).mp c_77; omega
              have hK : fa_first (rpG (mem 155) b) r1 = rpK (mem 155) b := by rw [hin2]; rfl
              have hlr : rpK (mem 155) b < vZ (mem 155) ↔ fa_first (rpG (mem 155) b) r1 < r1 := by rw [hK, hin2]
              refine g_aload_n C 0 dX10_works_162 rfl ?_
              refine g_get_r C ob_154 0 (by decide) rfl wd_703 dX10_works_163 ?_
              refine g_bipush C (nI 6) dX10_works_166 (by decide) ?_
              refine g_iald_n C (j := 6) ar_155 rfl (by omega) (by decide) dX10_works_168 ?_
              refine g_top (y := mem 155 6) (rfl) ?_
              refine g_if_ne C 174 dX10_works_169 (by decide) (fun c_169 => ?_) (fun c_169 => ?_)
              · refine g_aload_n C 0 dX10_works_174 rfl ?_
                refine g_get_i C ob_154 12 (by decide) rfl wd_715 dX10_works_175 ?_
                refine g_top (y := q 12) (rfl) ?_
                refine g_top (y := mk (los (mem 155) b) (vN (mem 155))) (hq12) ?_
                refine g_if_ne C 183 dX10_works_178 (by decide) (fun c_178 => ?_) (fun c_178 => ?_)
                · by_cases hrk : rpK (mem 155) b < vZ (mem 155)
                  · have hrpv : rpI (mem 155) b r1 = nI (rpM (mem 155) b) := by rw [rpI, if_pos (hlr.mp hrk), hK]; rfl
                    have hne : ¬ mk (los (mem 155) b) (vN (mem 155)) = 0 := c_178
                    refine g_aload_n C 0 dX10_works_183 rfl ?_
                    refine g_get_i C ob_154 18 (by decide) rfl wd_721 dX10_works_184 ?_
                    refine g_top (y := q 18) (rfl) ?_
                    refine g_top (y := nI (rpM (mem 155) b)) (hq18.trans hrpv) ?_
                    refine g_if_ge_t C 192 (nI_pos' (by have q := rp_lt g hrk; omega)) dX10_works_187 (by decide) ?_
                    refine g_aload_n C 0 dX10_works_192 rfl ?_
                    refine g_iload_n C 1 dX10_works_193 rfl ?_
                    refine g_iload_n C 2 dX10_works_194 rfl ?_
                    refine g_cVq C (As := [.int (nI b), .int (nI wa)]) iX10_asks (c_X10_asks l G (gr mem 154 q) g (b := b) (wa := wa) hb hwa hwa1 hq12 (hq18.trans hrpv) hrk hne) wd_913 ob_154 rfl ⟨Nat.le_of_ble_eq_true rfl, Nat.le_of_ble_eq_true rfl⟩ ⟨rfl, rfl⟩ rfl (Nat.le_of_ble_eq_true rfl) dX10_works_195 (fun u1 hq => ?_)
                    obtain ⟨q3, w3, f, rfl, hq3, hfr, h14, h15, h16, h19, h20, hwl⟩ := hq
                    refine g_mem (mem2 := gr (gr mem 154 q3) 160 w3) (congrArg (fun z => gr z 160 w3) (gr_gr _ _ _ _)) ?_
                    refine g_iconst C (nI 0) dX10_works_198 (by decide) ?_
                    refine g_iret C hQ rfl dX10_works_199 ?_
                    exact ⟨_, rfl, by rw [hcd, if_neg c_169, if_neg c_178, if_pos hrk], q3, w3, rfl, (hq3 2 (by decide) (by decide) (by decide) (by decide) (by decide) (by decide)).trans (hqo 2 (by decide) (by decide) (by decide)), (hq3 7 (by decide) (by decide) (by decide) (by decide) (by decide) (by decide)).trans (hqo 7 (by decide) (by decide) (by decide)), fun _ => ⟨f, hfr, (hq3 12 (by decide) (by decide) (by decide) (by decide) (by decide) (by decide)).trans hq12, h14, h15, h16, (hq3 17 (by decide) (by decide) (by decide) (by decide) (by decide) (by decide)).trans (hq17.trans (by rw [hK])), (hq3 18 (by decide) (by decide) (by decide) (by decide) (by decide) (by decide)).trans (hq18.trans hrpv), h19, h20, hwl⟩⟩
                  · have hrpv : rpI (mem 155) b r1 = kNone := if_neg (mt hlr.mpr hrk)
                    refine g_aload_n C 0 dX10_works_183 rfl ?_
                    refine g_get_i C ob_154 18 (by decide) rfl wd_721 dX10_works_184 ?_
                    refine g_top (y := q 18) (rfl) ?_
                    refine g_top (y := kNone) (hq18.trans hrpv) ?_
                    refine g_if_ge_f C 192 (by decide) dX10_works_187 (by decide) ?_
                    refine g_iconst C (nI 3) dX10_works_190 (by decide) ?_
                    refine g_iret C hQ rfl dX10_works_191 ?_
                    exact ⟨_, rfl, by rw [hcd, if_neg c_169, if_neg c_178, if_neg hrk], WK_no ((hqo 2 (by decide) (by decide) (by decide))) ((hqo 7 (by decide) (by decide) (by decide))) (by rw [hcd, if_neg c_169, if_neg c_178, if_neg hrk]; decide)⟩
                · refine g_iconst C (nI 2) dX10_works_181 (by decide) ?_
                  refine g_iret C hQ rfl dX10_works_182 ?_
                  exact ⟨_, rfl, by rw [hcd, if_neg c_169, if_pos c_178], WK_no ((hqo 2 (by decide) (by decide) (by decide))) ((hqo 7 (by decide) (by decide) (by decide))) (by rw [hcd, if_neg c_169, if_pos c_178]; decide)⟩
              · refine g_iconst C (nI 1) dX10_works_172 (by decide) ?_
                refine g_iret C hQ rfl dX10_works_173 ?_
                exact ⟨_, rfl, by rw [hcd, if_pos c_169], WK_no ((hqo 2 (by decide) (by decide) (by decide))) ((hqo 7 (by decide) (by decide) (by decide))) (by rw [hcd, if_pos c_169]; decide)⟩
            · have hr2 : r1 < vZ (mem 155) := by have q := mt (nI_leI (a := vZ (mem 155)) (b := r1) (by omega) (by omega)).mpr c_77; omega
              have hgl := gd_l g hr2
              by_cases hf : fa_first (rpG (mem 155) b) r1 < r1
              · refine g_aload_n C 0 dX10_works_80 rfl ?_
                refine g_get_i C ob_154 18 (by decide) rfl wd_721 dX10_works_81 ?_
                refine g_top (y := q 18) (rfl) ?_
                refine g_top (y := nI (vL (mem 155) (fa_first (rpG (mem 155) b) r1))) (hq18.trans (if_pos hf)) ?_
                refine g_if_ge_t C 162 (nI_pos' (by have q := (gd_l g (r := fa_first (rpG (mem 155) b) r1) (by omega)).2.1; omega)) dX10_works_84 (by decide) ?_
                have hK : fa_first (rpG (mem 155) b) r1 = rpK (mem 155) b := (fa_w hf hr).symm
                have hlr : rpK (mem 155) b < vZ (mem 155) ↔ fa_first (rpG (mem 155) b) r1 < r1 := ⟨fun _ => hf, fun _ => by rw [← hK]; omega⟩
                refine g_aload_n C 0 dX10_works_162 rfl ?_
                refine g_get_r C ob_154 0 (by decide) rfl wd_703 dX10_works_163 ?_
                refine g_bipush C (nI 6) dX10_works_166 (by decide) ?_
                refine g_iald_n C (j := 6) ar_155 rfl (by omega) (by decide) dX10_works_168 ?_
                refine g_top (y := mem 155 6) (rfl) ?_
                refine g_if_ne C 174 dX10_works_169 (by decide) (fun c_169 => ?_) (fun c_169 => ?_)
                · refine g_aload_n C 0 dX10_works_174 rfl ?_
                  refine g_get_i C ob_154 12 (by decide) rfl wd_715 dX10_works_175 ?_
                  refine g_top (y := q 12) (rfl) ?_
                  refine g_top (y := mk (los (mem 155) b) (vN (mem 155))) (hq12) ?_
                  refine g_if_ne C 183 dX10_works_178 (by decide) (fun c_178 => ?_) (fun c_178 => ?_)
                  · by_cases hrk : rpK (mem 155) b < vZ (mem 155)
                    · have hrpv : rpI (mem 155) b r1 = nI (rpM (mem 155) b) := by rw [rpI, if_pos (hlr.mp hrk), hK]; rfl
                      have hne : ¬ mk (los (mem 155) b) (vN (mem 155)) = 0 := c_178
                      refine g_aload_n C 0 dX10_works_183 rfl ?_
                      refine g_get_i C ob_154 18 (by decide) rfl wd_721 dX10_works_184 ?_
                      refine g_top (y := q 18) (rfl) ?_
                      refine g_top (y := nI (rpM (mem 155) b)) (hq18.trans hrpv) ?_
                      refine g_if_ge_t C 192 (nI_pos' (by have q := rp_lt g hrk; omega)) dX10_works_187 (by decide) ?_
                      refine g_aload_n C 0 dX10_works_192 rfl ?_
                      refine g_iload_n C 1 dX10_works_193 rfl ?_
                      refine g_iload_n C 2 dX10_works_194 rfl ?_
                      refine g_cVq C (As := [.int (nI b), .int (nI wa)]) iX10_asks (c_X10_asks l G (gr mem 154 q) g (b := b) (wa := wa) hb hwa hwa1 hq12 (hq18.trans hrpv) hrk hne) wd_913 ob_154 rfl ⟨Nat.le_of_ble_eq_true rfl, Nat.le_of_ble_eq_true rfl⟩ ⟨rfl, rfl⟩ rfl (Nat.le_of_ble_eq_true rfl) dX10_works_195 (fun u1 hq => ?_)
                      obtain ⟨q3, w3, f, rfl, hq3, hfr, h14, h15, h16, h19, h20, hwl⟩ := hq
                      refine g_mem (mem2 := gr (gr mem 154 q3) 160 w3) (congrArg (fun z => gr z 160 w3) (gr_gr _ _ _ _)) ?_
                      refine g_iconst C (nI 0) dX10_works_198 (by decide) ?_
                      refine g_iret C hQ rfl dX10_works_199 ?_
                      exact ⟨_, rfl, by rw [hcd, if_neg c_169, if_neg c_178, if_pos hrk], q3, w3, rfl, (hq3 2 (by decide) (by decide) (by decide) (by decide) (by decide) (by decide)).trans (hqo 2 (by decide) (by decide) (by decide)), (hq3 7 (by decide) (by decide) (by decide) (by decide) (by decide) (by decide)).trans (hqo 7 (by decide) (by decide) (by decide)), fun _ => ⟨f, hfr, (hq3 12 (by decide) (by decide) (by decide) (by decide) (by decide) (by decide)).trans hq12, h14, h15, h16, (hq3 17 (by decide) (by decide) (by decide) (by decide) (by decide) (by decide)).trans (hq17.trans (by rw [hK])), (hq3 18 (by decide) (by decide) (by decide) (by decide) (by decide) (by decide)).trans (hq18.trans hrpv), h19, h20, hwl⟩⟩
                    · have hrpv : rpI (mem 155) b r1 = kNone := if_neg (mt hlr.mpr hrk)
                      refine g_aload_n C 0 dX10_works_183 rfl ?_
                      refine g_get_i C ob_154 18 (by decide) rfl wd_721 dX10_works_184 ?_
                      refine g_top (y := q 18) (rfl) ?_
                      refine g_top (y := kNone) (hq18.trans hrpv) ?_
                      refine g_if_ge_f C 192 (by decide) dX10_works_187 (by decide) ?_
                      refine g_iconst C (nI 3) dX10_works_190 (by decide) ?_
                      refine g_iret C hQ rfl dX10_works_191 ?_
                      exact ⟨_, rfl, by rw [hcd, if_neg c_169, if_neg c_178, if_neg hrk], WK_no ((hqo 2 (by decide) (by decide) (by decide))) ((hqo 7 (by decide) (by decide) (by decide))) (by rw [hcd, if_neg c_169, if_neg c_178, if_neg hrk]; decide)⟩
                  · refine g_iconst C (nI 2) dX10_works_181 (by decide) ?_
                    refine g_iret C hQ rfl dX10_works_182 ?_
                    exact ⟨_, rfl, by rw [hcd, if_neg c_169, if_pos c_178], WK_no ((hqo 2 (by decide) (by decide) (by decide))) ((hqo 7 (by decide) (by decide) (by decide))) (by rw [hcd, if_neg c_169, if_pos c_178]; decide)⟩
                · refine g_iconst C (nI 1) dX10_works_172 (by decide) ?_
                  refine g_iret C hQ rfl dX10_works_173 ?_
                  exact ⟨_, rfl, by rw [hcd, if_pos c_169], WK_no ((hqo 2 (by decide) (by decide) (by decide))) ((hqo 7 (by decide) (by decide) (by decide))) (by rw [hcd, if_pos c_169]; decide)⟩
              · refine g_aload_n C 0 dX10_works_80 rfl ?_
                refine g_get_i C ob_154 18 (by decide) rfl wd_721 dX10_works_81 ?_
                refine g_top (y := q 18) (rfl) ?_
                refine g_top (y := kNone) (hq18.trans (if_neg hf)) ?_
                refine g_if_ge_f C 162 (by decide) dX10_works_84 (by decide) ?_
                refine g_aload_n C 0 dX10_works_87 rfl ?_
                refine g_get_r C ob_154 0 (by decide) rfl wd_703 dX10_works_88 ?_
                refine g_bipush C (nI 12) dX10_works_91 (by decide) ?_
                refine g_iload_n C 3 dX10_works_93 rfl ?_
                refine g_iadd_n C (d := 12 + r1) dX10_works_94 rfl ?_
                refine g_iald_n C (j := 12 + r1) ar_155 rfl (by omega) (by decide) dX10_works_95 ?_
                refine g_top (y := mem 155 (12 + r1)) (rfl) ?_
                refine g_top (y := nI (vL (mem 155) r1)) (hgl.1) ?_
                refine g_istore C (L2 := [(4, .int (nI (vL (mem 155) r1))), (0, .ref (gad G 154)), (1, .int (nI b)), (2, .int (nI wa)), (3, .int (nI r1))]) dX10_works_96 (by decide) rfl ?_
                refine g_aload_n C 1 dX10_works_98 rfl ?_
                refine g_aload_n C 1 dX10_works_99 rfl ?_
                refine g_iload C 0 dX10_works_100 rfl ?_
                refine g_cV1 C (As := [.int (nI (vL (mem 155) r1))]) (w := .int (b2i (vLv (mem 155) (vL (mem 155) r1) = true))) (mem3 := gr mem 154 q) iX10_lives (c_X10_lives l G (gr mem 154 q) (m1 := vL (mem 155) r1) (by omega)) wd_832 ob_154 rfl ⟨Nat.le_of_ble_eq_true rfl, Nat.le_of_ble_eq_true rfl⟩ ⟨rfl, rfl⟩ rfl (Nat.le_of_ble_eq_true rfl) dX10_works_102 (rfl) (rfl) ?_
                refine g_ifb_eq C 123 dX10_works_105 (by decide) (fun c_105 => ?_) (fun c_105 => ?_)
                · have hG := rpG_d (b := b) c_105
                  refine g_aload_n C 1 dX10_works_123 rfl ?_
                  refine g_get_i C ob_154 18 (by decide) rfl wd_721 dX10_works_124 ?_
                  refine g_top (y := q 18) (rfl) ?_
                  refine g_top (y := kNone) (hq18.trans (if_neg hf)) ?_
                  refine g_put_i C ob_154 18 (by decide) rfl wd_721 rfl rfl dX10_works_127 ?_
                  refine g_mem (mem2 := gr mem 154 (upd q 18 kNone)) (gr_gr _ _ _ _) ?_
                  refine g_aload_n C 1 dX10_works_130 rfl ?_
                  refine g_dup C dX10_works_131 rfl ?_
                  refine g_get_i C ob_154 17 (by decide) rfl wd_720 dX10_works_132 ?_
                  refine g_top (y := q 17) (rfl) ?_
                  refine g_top (y := msF (mem 155) (fa_first (rpG (mem 155) b) r1)) (hq17) ?_
                  refine g_aload_n C 1 dX10_works_135 rfl ?_
                  refine g_iload C 0 dX10_works_136 rfl ?_
                  refine g_cV1 C (As := [.int (nI (vL (mem 155) r1))]) (w := .int (b2i (vLv (mem 155) (vL (mem 155) r1) = true))) (mem3 := gr mem 154 (upd q 18 kNone)) iX10_lives (c_X10_lives l G (gr mem 154 (upd q 18 kNone)) (m1 := vL (mem 155) r1) (by omega)) wd_832 ob_154 rfl ⟨Nat.le_of_ble_eq_true rfl, Nat.le_of_ble_eq_true rfl⟩ ⟨rfl, rfl⟩ rfl (Nat.le_of_ble_eq_true rfl) dX10_works_138 (rfl) (rfl) ?_
                  refine g_ifb_eq_t C 148 (c_105) dX10_works_141 (by decide) ?_
                  refine g_iconst C (nI 1) dX10_works_148 (by decide) ?_
                  refine g_iload C 0 dX10_works_149 rfl ?_
                  refine g_ishl C dX10_works_151 ?_
                  refine g_ior C dX10_works_152 ?_
                  refine g_put_i C ob_154 17 (by decide) rfl wd_720 rfl rfl dX10_works_153 ?_
                  refine g_mem (mem2 := gr mem 154 (upd (upd q 18 kNone) 17 ((msF (mem 155) (fa_first (rpG (mem 155) b) r1)) ||| ((nI 1) <<< ((nI (vL (mem 155) r1)) &&& 31))))) (gr_gr _ _ _ _) ?_
                  refine g_iinc C (v := nI (r1 + 1)) (L2 := [(3, .int (nI (r1 + 1))), (4, .int (nI (vL (mem 155) r1))), (0, .ref (gad G 154)), (1, .int (nI b)), (2, .int (nI wa))]) 4 dX10_works_156 rfl (nI_1 _) (by decide) rfl ?_
                  refine g_goto C 69 dX10_works_159 (by decide) ?_
                  refine g_loc (L2 := [(0, .ref (gad G 154)), (1, .int (nI b)), (2, .int (nI wa)), (3, .int (nI (r1 + 1)))]) [2, 3, 4, 0] rfl ?_
                  exact g_eq (ih_69 (r1 + 1) (upd (upd q 18 kNone) 17 ((msF (mem 155) (fa_first (rpG (mem 155) b) r1)) ||| ((nI 1) <<< ((nI (vL (mem 155) r1)) &&& 31)))) (hr2) (hq12) (by first | exact msA_y hf hG | exact msA_n hf hG c_105 | exact msA_d hf hG c_105) (by first | exact rpI_y hf hG | exact rpI_n hf hG) (fun i h12 h17 h18 => by rw [upd_n h17, upd_n h18]; exact hqo i h12 h17 h18) (by omega)) (rfl) (rfl) rfl
                · refine g_aload_n C 1 dX10_works_108 rfl ?_
                  refine g_iload C 0 dX10_works_109 rfl ?_
                  refine g_iload_n C 2 dX10_works_111 rfl ?_
                  refine g_cV1 C (As := [.int (nI (vL (mem 155) r1)), .int (nI b)]) (w := .int (b2i (vLo (mem 155) b (vL (mem 155) r1) = false))) (mem3 := gr mem 154 q) iX10_has (c_X10_has l G (gr mem 154 q) (m1 := vL (mem 155) r1) (b := b) (by omega) (by omega)) wd_808 ob_154 rfl ⟨Nat.le_of_ble_eq_true rfl, Nat.le_of_ble_eq_true rfl⟩ ⟨rfl, rfl⟩ rfl (Nat.le_of_ble_eq_true rfl) dX10_works_112 (rfl) (rfl) ?_
                  refine g_ifb_eq C 123 dX10_works_115 (by decide) (fun c_115 => ?_) (fun c_115 => ?_)
                  · have hG := rpG_n c_115
                    refine g_aload_n C 1 dX10_works_123 rfl ?_
                    refine g_get_i C ob_154 18 (by decide) rfl wd_721 dX10_works_124 ?_
                    refine g_top (y := q 18) (rfl) ?_
                    refine g_top (y := kNone) (hq18.trans (if_neg hf)) ?_
                    refine g_put_i C ob_154 18 (by decide) rfl wd_721 rfl rfl dX10_works_127 ?_
                    refine g_mem (mem2 := gr mem 154 (upd q 18 kNone)) (gr_gr _ _ _ _) ?_
                    refine g_aload_n C 1 dX10_works_130 rfl ?_
                    refine g_dup C dX10_works_131 rfl ?_
                    refine g_get_i C ob_154 17 (by decide) rfl wd_720 dX10_works_132 ?_
                    refine g_top (y := q 17) (rfl) ?_
                    refine g_top (y := msF (mem 155) (fa_first (rpG (mem 155) b) r1)) (hq17) ?_
                    refine g_aload_n C 1 dX10_works_135 rfl ?_
                    refine g_iload C 0 dX10_works_136 rfl ?_
                    refine g_cV1 C (As := [.int (nI (vL (mem 155) r1))]) (w := .int (b2i (vLv (mem 155) (vL (mem 155) r1) = true))) (mem3 := gr mem 154 (upd q 18 kNone)) iX10_lives (c_X10_lives l G (gr mem 154 (upd q 18 kNone)) (m1 := vL (mem 155) r1) (by omega)) wd_832 ob_154 rfl ⟨Nat.le_of_ble_eq_true rfl, Nat.le_of_ble_eq_true rfl⟩ ⟨rfl, rfl⟩ rfl (Nat.le_of_ble_eq_true rfl) dX10_works_138 (rfl) (rfl) ?_
                    refine g_ifb_eq_f C 148 (c_105) dX10_works_141 (by decide) ?_
                    refine g_iconst C (nI 0) dX10_works_144 (by decide) ?_
                    refine g_goto C 152 dX10_works_145 (by decide) ?_
                    refine g_ior C dX10_works_152 ?_
                    refine g_put_i C ob_154 17 (by decide) rfl wd_720 rfl rfl dX10_works_153 ?_
                    refine g_mem (mem2 := gr mem 154 (upd (upd q 18 kNone) 17 ((msF (mem 155) (fa_first (rpG (mem 155) b) r1)) ||| (nI 0)))) (gr_gr _ _ _ _) ?_
                    refine g_iinc C (v := nI (r1 + 1)) (L2 := [(3, .int (nI (r1 + 1))), (4, .int (nI (vL (mem 155) r1))), (0, .ref (gad G 154)), (1, .int (nI b)), (2, .int (nI wa))]) 4 dX10_works_156 rfl (nI_1 _) (by decide) rfl ?_
                    refine g_goto C 69 dX10_works_159 (by decide) ?_
                    refine g_loc (L2 := [(0, .ref (gad G 154)), (1, .int (nI b)), (2, .int (nI wa)), (3, .int (nI (r1 + 1)))]) [2, 3, 4, 0] rfl ?_
                    exact g_eq (ih_69 (r1 + 1) (upd (upd q 18 kNone) 17 ((msF (mem 155) (fa_first (rpG (mem 155) b) r1)) ||| (nI 0))) (hr2) (hq12) (by first | exact msA_y hf hG | exact msA_n hf hG c_105 | exact msA_d hf hG c_105) (by first | exact rpI_y hf hG | exact rpI_n hf hG) (fun i h12 h17 h18 => by rw [upd_n h17, upd_n h18]; exact hqo i h12 h17 h18) (by omega)) (rfl) (rfl) rfl
                  · have hG := rpG_y c_105 c_115
                    refine g_iload C 0 dX10_works_118 rfl ?_
                    refine g_goto C 127 dX10_works_120 (by decide) ?_
                    refine g_put_i C ob_154 18 (by decide) rfl wd_721 rfl rfl dX10_works_127 ?_
                    refine g_mem (mem2 := gr mem 154 (upd q 18 (nI (vL (mem 155) r1)))) (gr_gr _ _ _ _) ?_
                    refine g_aload_n C 1 dX10_works_130 rfl ?_
                    refine g_dup C dX10_works_131 rfl ?_
                    refine g_get_i C ob_154 17 (by decide) rfl wd_720 dX10_works_132 ?_
                    refine g_top (y := q 17) (rfl) ?_
                    refine g_top (y := msF (mem 155) (fa_first (rpG (mem 155) b) r1)) (hq17) ?_
                    refine g_aload_n C 1 dX10_works_135 rfl ?_
                    refine g_iload C 0 dX10_works_136 rfl ?_
                    refine g_cV1 C (As := [.int (nI (vL (mem 155) r1))]) (w := .int (b2i (vLv (mem 155) (vL (mem 155) r1) = true))) (mem3 := gr mem 154 (upd q 18 (nI (vL (mem 155) r1)))) iX10_lives (c_X10_lives l G (gr mem 154 (upd q 18 (nI (vL (mem 155) r1)))) (m1 := vL (mem 155) r1) (by omega)) wd_832 ob_154 rfl ⟨Nat.le_of_ble_eq_true rfl, Nat.le_of_ble_eq_true rfl⟩ ⟨rfl, rfl⟩ rfl (Nat.le_of_ble_eq_true rfl) dX10_works_138 (rfl) (rfl) ?_
                    refine g_ifb_eq_f C 148 (c_105) dX10_works_141 (by decide) ?_
                    refine g_iconst C (nI 0) dX10_works_144 (by decide) ?_
                    refine g_goto C 152 dX10_works_145 (by decide) ?_
                    refine g_ior C dX10_works_152 ?_
                    refine g_put_i C ob_154 17 (by decide) rfl wd_720 rfl rfl dX10_works_153 ?_
                    refine g_mem (mem2 := gr mem 154 (upd (upd q 18 (nI (vL (mem 155) r1))) 17 ((msF (mem 155) (fa_first (rpG (mem 155) b) r1)) ||| (nI 0)))) (gr_gr _ _ _ _) ?_
                    refine g_iinc C (v := nI (r1 + 1)) (L2 := [(3, .int (nI (r1 + 1))), (4, .int (nI (vL (mem 155) r1))), (0, .ref (gad G 154)), (1, .int (nI b)), (2, .int (nI wa))]) 4 dX10_works_156 rfl (nI_1 _) (by decide) rfl ?_
                    refine g_goto C 69 dX10_works_159 (by decide) ?_
                    refine g_loc (L2 := [(0, .ref (gad G 154)), (1, .int (nI b)), (2, .int (nI wa)), (3, .int (nI (r1 + 1)))]) [2, 3, 4, 0] rfl ?_
                    exact g_eq (ih_69 (r1 + 1) (upd (upd q 18 (nI (vL (mem 155) r1))) 17 ((msF (mem 155) (fa_first (rpG (mem 155) b) r1)) ||| (nI 0))) (hr2) (hq12) (by first | exact msA_y hf hG | exact msA_n hf hG c_105 | exact msA_d hf hG c_105) (by first | exact rpI_y hf hG | exact rpI_n hf hG) (fun i h12 h17 h18 => by rw [upd_n h17, upd_n h18]; exact hqo i h12 h17 h18) (by omega)) (rfl) (rfl) rfl
        refine g_loc (L2 := [(0, .ref (gad G 154)), (1, .int (nI b)), (2, .int (nI wa)), (3, .int (nI 0))]) [1, 2, 3, 0] rfl ?_
        exact g_eq (lp_69 (_ + 1) 0 (upd (upd (upd (mem 154) 12 (mk (los (mem 155) b) (vN (mem 155)))) 17 (nI 0)) 18 ((-1000009) : Int32)) (Nat.zero_le _) (rfl) (rfl) (rfl) (fun i h12 h17 h18 => by rw [upd_n h18, upd_n h17, upd_n h12]) (Nat.lt_succ_self _)) (rfl) (rfl) rfl
      · have hi2 : m1 < vN (mem 155) := by have q := mt (nI_leI (a := vN (mem 155)) (b := m1) (by omega) (by omega)).mpr c_14; omega
        refine g_aload_n C 0 dX10_works_17 rfl ?_
        refine g_dup C dX10_works_18 rfl ?_
        refine g_get_i C ob_154 12 (by decide) rfl wd_715 dX10_works_19 ?_
        refine g_top (y := mk (los (mem 155) b) m1) (rfl) ?_
        refine g_aload_n C 0 dX10_works_22 rfl ?_
        refine g_iload_n C 3 dX10_works_23 rfl ?_
        refine g_cV1 C (As := [.int (nI m1)]) (w := .int (b2i (vLv (mem 155) m1 = true))) (mem3 := gr mem 154 (upd (mem 154) 12 (mk (los (mem 155) b) m1))) iX10_lives (c_X10_lives l G (gr mem 154 (upd (mem 154) 12 (mk (los (mem 155) b) m1))) (m1 := m1) (by omega)) wd_832 ob_154 rfl ⟨Nat.le_of_ble_eq_true rfl, Nat.le_of_ble_eq_true rfl⟩ ⟨rfl, rfl⟩ rfl (Nat.le_of_ble_eq_true rfl) dX10_works_24 (rfl) (rfl) ?_
        refine g_ifb_eq C 45 dX10_works_27 (by decide) (fun c_27 => ?_) (fun c_27 => ?_)
        · have hlf := los_d (b := b) c_27
          refine g_iconst C (nI 0) dX10_works_45 (by decide) ?_
          refine g_ior C dX10_works_46 ?_
          refine g_put_i C ob_154 12 (by decide) rfl wd_715 rfl rfl dX10_works_47 ?_
          refine g_mem (mem2 := gr mem 154 (upd (upd (mem 154) 12 (mk (los (mem 155) b) m1)) 12 ((mk (los (mem 155) b) m1) ||| (nI 0)))) (gr_gr _ _ _ _) ?_
          refine g_iinc C (v := nI (m1 + 1)) (L2 := [(3, .int (nI (m1 + 1))), (0, .ref (gad G 154)), (1, .int (nI b)), (2, .int (nI wa))]) 3 dX10_works_50 rfl (nI_1 _) (by decide) rfl ?_
          refine g_goto C 7 dX10_works_53 (by decide) ?_
          refine g_loc (L2 := [(0, .ref (gad G 154)), (1, .int (nI b)), (2, .int (nI wa)), (3, .int (nI (m1 + 1)))]) [1, 2, 3, 0] rfl ?_
          exact g_eq (ih_7 (m1 + 1) (hi2) (by omega)) (by first | (rw [upd_upd, or_nil, mk_f hlf]; done) | (rw [upd_upd, mk_t hlt]; rfl)) (rfl) rfl
        · refine g_aload_n C 0 dX10_works_30 rfl ?_
          refine g_iload_n C 3 dX10_works_31 rfl ?_
          refine g_iload_n C 1 dX10_works_32 rfl ?_
          refine g_cV1 C (As := [.int (nI m1), .int (nI b)]) (w := .int (b2i (vLo (mem 155) b m1 = false))) (mem3 := gr mem 154 (upd (mem 154) 12 (mk (los (mem 155) b) m1))) iX10_has (c_X10_has l G (gr mem 154 (upd (mem 154) 12 (mk (los (mem 155) b) m1))) (m1 := m1) (b := b) (by omega) (by omega)) wd_808 ob_154 rfl ⟨Nat.le_of_ble_eq_true rfl, Nat.le_of_ble_eq_true rfl⟩ ⟨rfl, rfl⟩ rfl (Nat.le_of_ble_eq_true rfl) dX10_works_33 (rfl) (rfl) ?_
          refine g_ifb_ne C 45 dX10_works_36 (by decide) (fun c_36 => ?_) (fun c_36 => ?_)
          · have hlf := los_f c_36
            refine g_iconst C (nI 0) dX10_works_45 (by decide) ?_
            refine g_ior C dX10_works_46 ?_
            refine g_put_i C ob_154 12 (by decide) rfl wd_715 rfl rfl dX10_works_47 ?_
            refine g_mem (mem2 := gr mem 154 (upd (upd (mem 154) 12 (mk (los (mem 155) b) m1)) 12 ((mk (los (mem 155) b) m1) ||| (nI 0)))) (gr_gr _ _ _ _) ?_
            refine g_iinc C (v := nI (m1 + 1)) (L2 := [(3, .int (nI (m1 + 1))), (0, .ref (gad G 154)), (1, .int (nI b)), (2, .int (nI wa))]) 3 dX10_works_50 rfl (nI_1 _) (by decide) rfl ?_
            refine g_goto C 7 dX10_works_53 (by decide) ?_
            refine g_loc (L2 := [(0, .ref (gad G 154)), (1, .int (nI b)), (2, .int (nI wa)), (3, .int (nI (m1 + 1)))]) [1, 2, 3, 0] rfl ?_
            exact g_eq (ih_7 (m1 + 1) (hi2) (by omega)) (by first | (rw [upd_upd, or_nil, mk_f hlf]; done) | (rw [upd_upd, mk_t hlt]; rfl)) (rfl) rfl
          · have hlt := los_t c_27 c_36
            refine g_iconst C (nI 1) dX10_works_39 (by decide) ?_
            refine g_iload_n C 3 dX10_works_40 rfl ?_
            refine g_ishl C dX10_works_41 ?_
            refine g_goto C 46 dX10_works_42 (by decide) ?_
            refine g_ior C dX10_works_46 ?_
            refine g_put_i C ob_154 12 (by decide) rfl wd_715 rfl rfl dX10_works_47 ?_
            refine g_mem (mem2 := gr mem 154 (upd (upd (mem 154) 12 (mk (los (mem 155) b) m1)) 12 ((mk (los (mem 155) b) m1) ||| ((nI 1) <<< ((nI m1) &&& 31))))) (gr_gr _ _ _ _) ?_
            refine g_iinc C (v := nI (m1 + 1)) (L2 := [(3, .int (nI (m1 + 1))), (0, .ref (gad G 154)), (1, .int (nI b)), (2, .int (nI wa))]) 3 dX10_works_50 rfl (nI_1 _) (by decide) rfl ?_
            refine g_goto C 7 dX10_works_53 (by decide) ?_
            refine g_loc (L2 := [(0, .ref (gad G 154)), (1, .int (nI b)), (2, .int (nI wa)), (3, .int (nI (m1 + 1)))]) [1, 2, 3, 0] rfl ?_
            exact g_eq (ih_7 (m1 + 1) (hi2) (by omega)) (by first | (rw [upd_upd, or_nil, mk_f hlf]; done) | (rw [upd_upd, mk_t hlt]; rfl)) (rfl) rfl
  refine g_loc (L2 := [(0, .ref (gad G 154)), (1, .int (nI b)), (2, .int (nI wa)), (3, .int (nI 0))]) [1, 2, 3, 0] rfl ?_
  exact g_eq (lp_7 (_ + 1) 0 (Nat.zero_le _) (Nat.lt_succ_self _)) (rfl) (rfl) rfl
