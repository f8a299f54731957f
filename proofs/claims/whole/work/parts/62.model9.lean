theorem upd_id (f : Nat → Int32) (i : Nat) : upd f i (f i) = f := by
  funext j
  unfold upd
  by_cases e : j = i
  · rw [if_pos e, e]
  · rw [if_neg e]
theorem mkF_t {V : Nat → Int32} {b wa k : Nat} (h : hs (msF V (rpK V b)) k) : mkF V b wa (k + 1) = upd (upd (mkF V b wa k) (33 + 12 * k) (mkF V b wa k (33 + 12 * k) - V 4)) (37 + 12 * k) (V (37 + 12 * k) + nI 1) := by
  rw [mkF, if_pos h, Int32.sub_eq_add_neg]
theorem mkF_f {V : Nat → Int32} {b wa k : Nat} (h : ¬ hs (msF V (rpK V b)) k) (e : mkF V b wa k (37 + 12 * k) = V (37 + 12 * k)) : mkF V b wa (k + 1) = upd (upd (mkF V b wa k) (33 + 12 * k) (mkF V b wa k (33 + 12 * k) - nI 0)) (37 + 12 * k) (V (37 + 12 * k) + nI 0) := by
  rw [mkF, if_neg h, show mkF V b wa k (33 + 12 * k) - nI 0 = mkF V b wa k (33 + 12 * k) from Int32.sub_zero _, upd_id, show V (37 + 12 * k) + nI 0 = mkF V b wa k (37 + 12 * k) from (Int32.add_zero _).trans e.symm, upd_id]
theorem cnt_mk {p : Nat → Bool} {n : Nat} (hn : n ≤ 10) : fa_cnt (bt (mk p n)) 10 = fa_cnt p n := by
  rw [← fa_cnt_wide (p := p) hn]
  exact fa_cnt_cong fun i hi => bt_mk p n (by omega) i (by omega)

def rm_X10_makes : Room := { frames := 1, cells := 0, slots := 0, locals := 22 }
theorem iX10_makes : gIv yX10_makes cX10_makes 3 none 1 := ⟨⟨wd_928, wd_32, by decide +kernel, by decide +kernel, by decide +kernel⟩, wd_927, wd_19⟩
set_option maxRecDepth 100000 in
set_option maxHeartbeats 4000000 in
theorem c_X10_makes (l : Launch) (G : gG) (mem : gM) {T : Nat} (g : Good T (mem 155)) (hT : T < 2 ^ 19) {b wa f : Nat} {w : Nat → Int32} (hb : b < 200) (hp : MPl (mem 155) b wa f (mem 154) w) (hrk : rpK (mem 155) b < vZ (mem 155)) : gMet l yX10_makes cX10_makes 3 none rm_X10_makes G [.ref (gad G 154), .int (nI b)] mem (fun a u => a = none ∧ u = gr mem 155 (rpV (mem 155) b wa)) := by
  refine g_of (own := RX10) (L0 := [(0, .ref (gad G 154)), (1, .int (nI b))]) (by decide +kernel) rfl (Nat.le_of_ble_eq_true rfl) rfl ?_
  intro p e s m args below meth c C Q hQ
  have hn10 := gd_n10 g
  obtain ⟨hfr, h12, h14, h15, h16, h17, h18, h19, h20, -⟩ := id hp
  have hrn := rp_lt g hrk
  have hgm := gd_made g
  have hga := gd_asks g
  have hfF := fF_eq hfr
  refine g_aload_n C 0 dX10_makes_0 rfl ?_
  refine g_get_r C ob_154 0 (by decide) rfl wd_703 dX10_makes_1 ?_
  refine g_sipush C (nI 150) dX10_makes_4 (by decide) ?_
  refine g_iload_n C 1 dX10_makes_7 rfl ?_
  refine g_iadd_n C (d := 150 + b) dX10_makes_8 rfl ?_
  refine g_dup2 C dX10_makes_9 rfl rfl ?_
  refine g_iald_n C (j := 150 + b) ar_155 rfl (by omega) (by decide) dX10_makes_10 ?_
  refine g_aload_n C 0 dX10_makes_11 rfl ?_
  refine g_get_i C ob_154 12 (by decide) rfl wd_715 dX10_makes_12 ?_
  refine g_top (y := mk (los (mem 155) b) (vN (mem 155))) (h12) ?_
  refine g_iconst C (((-1) : Int32)) dX10_makes_15 (by decide) ?_
  refine g_ixor C dX10_makes_16 ?_
  refine g_iand C dX10_makes_17 ?_
  refine g_iast_n C (j := 150 + b) ar_155 rfl (by omega) (by decide) dX10_makes_18 ?_
  refine g_aload_n C 0 dX10_makes_19 rfl ?_
  refine g_get_r C ob_154 0 (by decide) rfl wd_703 dX10_makes_20 ?_
  refine g_aload_n C 0 dX10_makes_23 rfl ?_
  refine g_get_i C ob_154 18 (by decide) rfl wd_721 dX10_makes_24 ?_
  refine g_top (y := mem 154 18) (rfl) ?_
  refine g_top (y := nI (rpM (mem 155) b)) (h18) ?_
  refine g_iconst C (nI 3) dX10_makes_27 (by decide) ?_
  refine g_cS1 C (As := [.int (nI (rpM (mem 155) b)), .int (nI 3)]) (w := .int (nI (33 + 12 * (rpM (mem 155) b)))) (mem3 := gr mem 155 (upd (mem 155) (150 + b) ((mem 155 (150 + b)) &&& ((mk (los (mem 155) b) (vN (mem 155))) ^^^ ((-1) : Int32))))) iX10_at (c_X10_at l G (gr mem 155 (upd (mem 155) (150 + b) ((mem 155 (150 + b)) &&& ((mk (los (mem 155) b) (vN (mem 155))) ^^^ ((-1) : Int32))))) (rpM (mem 155) b) 3) wd_780 rfl ⟨Nat.le_of_ble_eq_true rfl, Nat.le_of_ble_eq_true rfl⟩ ⟨rfl, rfl⟩ rfl (Nat.le_of_ble_eq_true rfl) dX10_makes_28 (congrArg Value.int (congrArg nI (by omega))) (rfl) ?_
  refine g_dup2 C dX10_makes_31 rfl rfl ?_
  refine g_iald_n C (j := 33 + 12 * (rpM (mem 155) b)) ar_155 rfl (by omega) (by decide) dX10_makes_32 ?_
  refine g_top (y := (upd (mem 155) (150 + b) ((mem 155 (150 + b)) &&& ((mk (los (mem 155) b) (vN (mem 155))) ^^^ ((-1) : Int32)))) (33 + 12 * (rpM (mem 155) b))) (rfl) ?_
  refine g_top (y := mem 155 (33 + 12 * rpM (mem 155) b)) (upd_n (by omega)) ?_
  refine g_aload_n C 0 dX10_makes_33 rfl ?_
  refine g_get_r C ob_154 0 (by decide) rfl wd_703 dX10_makes_34 ?_
  refine g_iconst C (nI 3) dX10_makes_37 (by decide) ?_
  refine g_iald_n C (j := 3) ar_155 rfl (by omega) (by decide) dX10_makes_38 ?_
  refine g_top (y := (upd (mem 155) (150 + b) ((mem 155 (150 + b)) &&& ((mk (los (mem 155) b) (vN (mem 155))) ^^^ ((-1) : Int32)))) 3) (rfl) ?_
  refine g_top (y := mem 155 3) ((upd_n (by omega))) ?_
  refine g_iadd C dX10_makes_39 ?_
  refine g_iast_n C (j := 33 + 12 * (rpM (mem 155) b)) ar_155 rfl (by omega) (by decide) dX10_makes_40 ?_
  refine g_mem (mem2 := gr mem 155 (upd (upd (mem 155) (150 + b) ((mem 155 (150 + b)) &&& ((mk (los (mem 155) b) (vN (mem 155))) ^^^ ((-1) : Int32)))) (33 + 12 * (rpM (mem 155) b)) ((mem 155 (33 + 12 * rpM (mem 155) b)) + (mem 155 3)))) (gr_gr _ _ _ _) ?_
  refine g_aload_n C 0 dX10_makes_41 rfl ?_
  refine g_get_r C ob_154 0 (by decide) rfl wd_703 dX10_makes_42 ?_
  refine g_aload_n C 0 dX10_makes_45 rfl ?_
  refine g_get_i C ob_154 18 (by decide) rfl wd_721 dX10_makes_46 ?_
  refine g_top (y := mem 154 18) (rfl) ?_
  refine g_top (y := nI (rpM (mem 155) b)) (h18) ?_
  refine g_bipush C (nI 6) dX10_makes_49 (by decide) ?_
  refine g_cS1 C (As := [.int (nI (rpM (mem 155) b)), .int (nI 6)]) (w := .int (nI (36 + 12 * (rpM (mem 155) b)))) (mem3 := gr mem 155 (upd (upd (mem 155) (150 + b) ((mem 155 (150 + b)) &&& ((mk (los (mem 155) b) (vN (mem 155))) ^^^ ((-1) : Int32)))) (33 + 12 * (rpM (mem 155) b)) ((mem 155 (33 + 12 * rpM (mem 155) b)) + (mem 155 3)))) iX10_at (c_X10_at l G (gr mem 155 (upd (upd (mem 155) (150 + b) ((mem 155 (150 + b)) &&& ((mk (los (mem 155) b) (vN (mem 155))) ^^^ ((-1) : Int32)))) (33 + 12 * (rpM (mem 155) b)) ((mem 155 (33 + 12 * rpM (mem 155) b)) + (mem 155 3)))) (rpM (mem 155) b) 6) wd_780 rfl ⟨Nat.le_of_ble_eq_true rfl, Nat.le_of_ble_eq_true rfl⟩ ⟨rfl, rfl⟩ rfl (Nat.le_of_ble_eq_true rfl) dX10_makes_51 (congrArg Value.int (congrArg nI (by omega))) (rfl) ?_
  refine g_dup2 C dX10_makes_54 rfl rfl ?_
  refine g_iald_n C (j := 36 + 12 * (rpM (mem 155) b)) ar_155 rfl (by omega) (by decide) dX10_makes_55 ?_
  refine g_top (y := (upd (upd (mem 155) (150 + b) ((mem 155 (150 + b)) &&& ((mk (los (mem 155) b) (vN (mem 155))) ^^^ ((-1) : Int32)))) (33 + 12 * (rpM (mem 155) b)) ((mem 155 (33 + 12 * rpM (mem 155) b)) + (mem 155 3))) (36 + 12 * (rpM (mem 155) b))) (rfl) ?_
  refine g_top (y := mem 155 (36 + 12 * rpM (mem 155) b)) (by rw [upd_n (by omega), upd_n (by omega)]) ?_
  refine g_iconst C (nI 1) dX10_makes_56 (by decide) ?_
  refine g_iadd C dX10_makes_57 ?_
  refine g_iast_n C (j := 36 + 12 * (rpM (mem 155) b)) ar_155 rfl (by omega) (by decide) dX10_makes_58 ?_
  refine g_mem (mem2 := gr mem 155 (upd (upd (upd (mem 155) (150 + b) ((mem 155 (150 + b)) &&& ((mk (los (mem 155) b) (vN (mem 155))) ^^^ ((-1) : Int32)))) (33 + 12 * (rpM (mem 155) b)) ((mem 155 (33 + 12 * rpM (mem 155) b)) + (mem 155 3))) (36 + 12 * (rpM (mem 155) b)) ((mem 155 (36 + 12 * rpM (mem 155) b)) + (nI 1)))) (gr_gr _ _ _ _) ?_
  refine g_iconst C (nI 0) dX10_makes_59 (by decide) ?_
  refine g_istore_n C (L2 := [(2, .int (nI 0)), (0, .ref (gad G 154)), (1, .int (nI b))]) dX10_makes_60 (by decide) rfl ?_
  have lp_61 : ∀ (fu : Nat) (k : Nat), (k ≤ vN (mem 155)) → vN (mem 155) - k < fu → gV p l e rm_X10_makes s m args below meth c 0 0 Q G 3 (gr mem 155 (mkF (mem 155) b wa k)) 61 [(0, .ref (gad G 154)), (1, .int (nI b)), (2, .int (nI k))] [] := by
    intro fu
    induction fu with
    | zero => intro k _ hfu; exact absurd hfu (Nat.not_lt_zero _)
    | succ fu ih_61 =>
      intro k hk hfu_61
      refine g_iload_n C 2 dX10_makes_61 rfl ?_
      refine g_aload_n C 0 dX10_makes_62 rfl ?_
      refine g_get_r C ob_154 0 (by decide) rfl wd_703 dX10_makes_63 ?_
      refine g_iconst C (nI 5) dX10_makes_66 (by decide) ?_
      refine g_iald_n C (j := 5) ar_155 rfl (by omega) (by decide) dX10_makes_67 ?_
      refine g_top (y := mkF (mem 155) b wa k 5) (rfl) ?_
      refine g_top (y := nI (vN (mem 155))) ((mkF_old (by omega) (by omega) (by omega) (fun m _ => by omega)).trans (gd_n g)) ?_
      refine g_icmp_ge C 143 dX10_makes_68 (by decide) (fun c_68 => ?_) (fun c_68 => ?_)
      · have hin : k = vN (mem 155) := by have q := (nI_leI (a := vN (mem 155)) (b := k) (by omega) (by omega)).mp c_68; omega
        rw [hin]
        refine g_sipush C (nI 360) dX10_makes_143 (by decide) ?_
        refine g_bipush C (nI 7) dX10_makes_146 (by decide) ?_
        refine g_aload_n C 0 dX10_makes_148 rfl ?_
        refine g_get_r C ob_154 0 (by decide) rfl wd_703 dX10_makes_149 ?_
        refine g_bipush C (nI 7) dX10_makes_152 (by decide) ?_
        refine g_iald_n C (j := 7) ar_155 rfl (by omega) (by decide) dX10_makes_154 ?_
        refine g_top (y := mkF (mem 155) b wa (vN (mem 155)) 7) (rfl) ?_
        refine g_top (y := nI (toN (mem 155 7))) ((mkF_old (by omega) (by omega) (by omega) (fun m _ => by omega)).trans hgm.1) ?_
        refine g_bipush C (nI 20) dX10_makes_155 (by decide) ?_
        refine g_irem C (by decide) dX10_makes_157 ?_
        refine g_top (y := nI (toN (mem 155 7) % 20)) (pk_rem (by omega) (by decide) (by decide)) ?_
        refine g_imul_n C (d := 7 * (toN (mem 155 7) % 20)) dX10_makes_158 rfl ?_
        refine g_iadd_n C (d := 360 + (7 * (toN (mem 155 7) % 20))) dX10_makes_159 rfl ?_
        refine g_istore_n C (L2 := [(2, .int (nI (360 + (7 * (toN (mem 155 7) % 20))))), (0, .ref (gad G 154)), (1, .int (nI b))]) dX10_makes_160 (by decide) rfl ?_
        refine g_aload_n C 1 dX10_makes_161 rfl ?_
        refine g_get_r C ob_154 0 (by decide) rfl wd_703 dX10_makes_162 ?_
        refine g_iload_n C 0 dX10_makes_165 rfl ?_
        refine g_iload_n C 2 dX10_makes_166 rfl ?_
        refine g_iast_n C (j := 360 + (7 * (toN (mem 155 7) % 20))) ar_155 rfl (by omega) (by decide) dX10_makes_167 ?_
        refine g_mem (mem2 := gr mem 155 (upd (mkF (mem 155) b wa (vN (mem 155))) (360 + (7 * (toN (mem 155 7) % 20))) (nI b))) (gr_gr _ _ _ _) ?_
        refine g_aload_n C 1 dX10_makes_168 rfl ?_
        refine g_get_r C ob_154 0 (by decide) rfl wd_703 dX10_makes_169 ?_
        refine g_iload_n C 0 dX10_makes_172 rfl ?_
        refine g_iconst C (nI 1) dX10_makes_173 (by decide) ?_
        refine g_iadd_n C (d := (360 + (7 * (toN (mem 155 7) % 20))) + 1) dX10_makes_174 rfl ?_
        refine g_aload_n C 1 dX10_makes_175 rfl ?_
        refine g_get_r C ob_154 0 (by decide) rfl wd_703 dX10_makes_176 ?_
        refine g_bipush C (nI 6) dX10_makes_179 (by decide) ?_
        refine g_iald_n C (j := 6) ar_155 rfl (by omega) (by decide) dX10_makes_181 ?_
        refine g_top (y := (upd (mkF (mem 155) b wa (vN (mem 155))) (360 + (7 * (toN (mem 155 7) % 20))) (nI b)) 6) (rfl) ?_
        refine g_top (y := mem 155 6) ((upd_n (by omega)).trans (mkF_old (by omega) (by omega) (by omega) (fun m _ => by omega))) ?_
        refine g_iast_n C (j := (360 + (7 * (toN (mem 155 7) % 20))) + 1) ar_155 rfl (by omega) (by decide) dX10_makes_182 ?_
        refine g_mem (mem2 := gr mem 155 (upd (upd (mkF (mem 155) b wa (vN (mem 155))) (360 + (7 * (toN (mem 155 7) % 20))) (nI b)) ((360 + (7 * (toN (mem 155 7) % 20))) + 1) (mem 155 6))) (gr_gr _ _ _ _) ?_
        refine g_aload_n C 1 dX10_makes_183 rfl ?_
        refine g_get_r C ob_154 0 (by decide) rfl wd_703 dX10_makes_184 ?_
        refine g_iload_n C 0 dX10_makes_187 rfl ?_
        refine g_iconst C (nI 2) dX10_makes_188 (by decide) ?_
        refine g_iadd_n C (d := (360 + (7 * (toN (mem 155 7) % 20))) + 2) dX10_makes_189 rfl ?_
        refine g_aload_n C 1 dX10_makes_190 rfl ?_
        refine g_get_i C ob_154 18 (by decide) rfl wd_721 dX10_makes_191 ?_
        refine g_top (y := mem 154 18) (rfl) ?_
        refine g_top (y := nI (rpM (mem 155) b)) (h18) ?_
        refine g_iast_n C (j := (360 + (7 * (toN (mem 155 7) % 20))) + 2) ar_155 rfl (by omega) (by decide) dX10_makes_194 ?_
        refine g_mem (mem2 := gr mem 155 (upd (upd (upd (mkF (mem 155) b wa (vN (mem 155))) (360 + (7 * (toN (mem 155 7) % 20))) (nI b)) ((360 + (7 * (toN (mem 155 7) % 20))) + 1) (mem 155 6)) ((360 + (7 * (toN (mem 155 7) % 20))) + 2) (nI (rpM (mem 155) b)))) (gr_gr _ _ _ _) ?_
        refine g_aload_n C 1 dX10_makes_195 rfl ?_
        refine g_get_r C ob_154 0 (by decide) rfl wd_703 dX10_makes_196 ?_
        refine g_iload_n C 0 dX10_makes_199 rfl ?_
        refine g_iconst C (nI 3) dX10_makes_200 (by decide) ?_
        refine g_iadd_n C (d := (360 + (7 * (toN (mem 155 7) % 20))) + 3) dX10_makes_201 rfl ?_
        refine g_aload_n C 1 dX10_makes_202 rfl ?_
        refine g_get_i C ob_154 15 (by decide) rfl wd_718 dX10_makes_203 ?_
        refine g_top (y := mem 154 15) (rfl) ?_
        refine g_top (y := mk (ask (mem 155) b wa f) (vN (mem 155))) (h15) ?_
        refine g_iast_n C (j := (360 + (7 * (toN (mem 155 7) % 20))) + 3) ar_155 rfl (by omega) (by decide) dX10_makes_206 ?_
        refine g_mem (mem2 := gr mem 155 (upd (upd (upd (upd (mkF (mem 155) b wa (vN (mem 155))) (360 + (7 * (toN (mem 155 7) % 20))) (nI b)) ((360 + (7 * (toN (mem 155 7) % 20))) + 1) (mem 155 6)) ((360 + (7 * (toN (mem 155 7) % 20))) + 2) (nI (rpM (mem 155) b))) ((360 + (7 * (toN (mem 155 7) % 20))) + 3) (mk (ask (mem 155) b wa f) (vN (mem 155))))) (gr_gr _ _ _ _) ?_
        refine g_aload_n C 1 dX10_makes_207 rfl ?_
        refine g_get_r C ob_154 0 (by decide) rfl wd_703 dX10_makes_208 ?_
        refine g_iload_n C 0 dX10_makes_211 rfl ?_
        refine g_iconst C (nI 4) dX10_makes_212 (by decide) ?_
        refine g_iadd_n C (d := (360 + (7 * (toN (mem 155 7) % 20))) + 4) dX10_makes_213 rfl ?_
        refine g_aload_n C 1 dX10_makes_214 rfl ?_
        refine g_get_i C ob_154 16 (by decide) rfl wd_719 dX10_makes_215 ?_
        refine g_top (y := mem 154 16) (rfl) ?_
        refine g_top (y := mk (sil (mem 155) b wa f) (vN (mem 155))) (h16) ?_
        refine g_iast_n C (j := (360 + (7 * (toN (mem 155 7) % 20))) + 4) ar_155 rfl (by omega) (by decide) dX10_makes_218 ?_
        refine g_mem (mem2 := gr mem 155 (upd (upd (upd (upd (upd (mkF (mem 155) b wa (vN (mem 155))) (360 + (7 * (toN (mem 155 7) % 20))) (nI b)) ((360 + (7 * (toN (mem 155 7) % 20))) + 1) (mem 155 6)) ((360 + (7 * (toN (mem 155 7) % 20))) + 2) (nI (rpM (mem 155) b))) ((360 + (7 * (toN (mem 155 7) % 20))) + 3) (mk (ask (mem 155) b wa f) (vN (mem 155)))) ((360 + (7 * (toN (mem 155 7) % 20))) + 4) (mk (sil (mem 155) b wa f) (vN (mem 155))))) (gr_gr _ _ _ _) ?_
        refine g_aload_n C 1 dX10_makes_219 rfl ?_
        refine g_get_r C ob_154 0 (by decide) rfl wd_703 dX10_makes_220 ?_
        refine g_iload_n C 0 dX10_makes_223 rfl ?_
        refine g_iconst C (nI 5) dX10_makes_224 (by decide) ?_
        refine g_iadd_n C (d := (360 + (7 * (toN (mem 155 7) % 20))) + 5) dX10_makes_225 rfl ?_
        refine g_aload_n C 1 dX10_makes_226 rfl ?_
        refine g_get_i C ob_154 17 (by decide) rfl wd_720 dX10_makes_227 ?_
        refine g_top (y := mem 154 17) (rfl) ?_
        refine g_top (y := msF (mem 155) (rpK (mem 155) b)) (h17) ?_
        refine g_iast_n C (j := (360 + (7 * (toN (mem 155 7) % 20))) + 5) ar_155 rfl (by omega) (by decide) dX10_makes_230 ?_
        refine g_mem (mem2 := gr mem 155 (upd (upd (upd (upd (upd (upd (mkF (mem 155) b wa (vN (mem 155))) (360 + (7 * (toN (mem 155 7) % 20))) (nI b)) ((360 + (7 * (toN (mem 155 7) % 20))) + 1) (mem 155 6)) ((360 + (7 * (toN (mem 155 7) % 20))) + 2) (nI (rpM (mem 155) b))) ((360 + (7 * (toN (mem 155 7) % 20))) + 3) (mk (ask (mem 155) b wa f) (vN (mem 155)))) ((360 + (7 * (toN (mem 155 7) % 20))) + 4) (mk (sil (mem 155) b wa f) (vN (mem 155)))) ((360 + (7 * (toN (mem 155 7) % 20))) + 5) (msF (mem 155) (rpK (mem 155) b)))) (gr_gr _ _ _ _) ?_
        refine g_aload_n C 1 dX10_makes_231 rfl ?_
        refine g_get_r C ob_154 0 (by decide) rfl wd_703 dX10_makes_232 ?_
        refine g_iload_n C 0 dX10_makes_235 rfl ?_
        refine g_bipush C (nI 6) dX10_makes_236 (by decide) ?_
        refine g_iadd_n C (d := (360 + (7 * (toN (mem 155 7) % 20))) + 6) dX10_makes_238 rfl ?_
        refine g_aload_n C 1 dX10_makes_239 rfl ?_
        refine g_get_i C ob_154 20 (by decide) rfl wd_723 dX10_makes_240 ?_
        refine g_top (y := mem 154 20) (rfl) ?_
        refine g_top (y := nI (tim (mem 155) b wa f)) (h20) ?_
        refine g_iast_n C (j := (360 + (7 * (toN (mem 155 7) % 20))) + 6) ar_155 rfl (by omega) (by decide) dX10_makes_243 ?_
        refine g_mem (mem2 := gr mem 155 (upd (upd (upd (upd (upd (upd (upd (mkF (mem 155) b wa (vN (mem 155))) (360 + (7 * (toN (mem 155 7) % 20))) (nI b)) ((360 + (7 * (toN (mem 155 7) % 20))) + 1) (mem 155 6)) ((360 + (7 * (toN (mem 155 7) % 20))) + 2) (nI (rpM (mem 155) b))) ((360 + (7 * (toN (mem 155 7) % 20))) + 3) (mk (ask (mem 155) b wa f) (vN (mem 155)))) ((360 + (7 * (toN (mem 155 7) % 20))) + 4) (mk (sil (mem 155) b wa f) (vN (mem 155)))) ((360 + (7 * (toN (mem 155 7) % 20))) + 5) (msF (mem 155) (rpK (mem 155) b))) ((360 + (7 * (toN (mem 155 7) % 20))) + 6) (nI (tim (mem 155) b wa f)))) (gr_gr _ _ _ _) ?_
        refine g_aload_n C 1 dX10_makes_244 rfl ?_
        refine g_get_r C ob_154 0 (by decide) rfl wd_703 dX10_makes_245 ?_
        refine g_bipush C (nI 7) dX10_makes_248 (by decide) ?_
        refine g_dup2 C dX10_makes_250 rfl rfl ?_
        refine g_iald_n C (j := 7) ar_155 rfl (by omega) (by decide) dX10_makes_251 ?_
        refine g_top (y := (upd (upd (upd (upd (upd (upd (upd (mkF (mem 155) b wa (vN (mem 155))) (360 + (7 * (toN (mem 155 7) % 20))) (nI b)) ((360 + (7 * (toN (mem 155 7) % 20))) + 1) (mem 155 6)) ((360 + (7 * (toN (mem 155 7) % 20))) + 2) (nI (rpM (mem 155) b))) ((360 + (7 * (toN (mem 155 7) % 20))) + 3) (mk (ask (mem 155) b wa f) (vN (mem 155)))) ((360 + (7 * (toN (mem 155 7) % 20))) + 4) (mk (sil (mem 155) b wa f) (vN (mem 155)))) ((360 + (7 * (toN (mem 155 7) % 20))) + 5) (msF (mem 155) (rpK (mem 155) b))) ((360 + (7 * (toN (mem 155 7) % 20))) + 6) (nI (tim (mem 155) b wa f))) 7) (rfl) ?_
        refine g_top (y := nI (toN (mem 155 7))) (by rw [upd_n (by omega), upd_n (by omega), upd_n (by omega), upd_n (by omega), upd_n (by omega), upd_n (by omega), upd_n (by omega)]; exact (mkF_old (by omega) (by omega) (by omega) (fun m _ => by omega)).trans hgm.1) ?_
        refine g_iconst C (nI 1) dX10_makes_252 (by decide) ?_
        refine g_iadd_n C (d := (toN (mem 155 7)) + 1) dX10_makes_253 rfl ?_
        refine g_iast_n C (j := 7) ar_155 rfl (by omega) (by decide) dX10_makes_254 ?_
        refine g_mem (mem2 := gr mem 155 (upd (upd (upd (upd (upd (upd (upd (upd (mkF (mem 155) b wa (vN (mem 155))) (360 + (7 * (toN (mem 155 7) % 20))) (nI b)) ((360 + (7 * (toN (mem 155 7) % 20))) + 1) (mem 155 6)) ((360 + (7 * (toN (mem 155 7) % 20))) + 2) (nI (rpM (mem 155) b))) ((360 + (7 * (toN (mem 155 7) % 20))) + 3) (mk (ask (mem 155) b wa f) (vN (mem 155)))) ((360 + (7 * (toN (mem 155 7) % 20))) + 4) (mk (sil (mem 155) b wa f) (vN (mem 155)))) ((360 + (7 * (toN (mem 155 7) % 20))) + 5) (msF (mem 155) (rpK (mem 155) b))) ((360 + (7 * (toN (mem 155 7) % 20))) + 6) (nI (tim (mem 155) b wa f))) 7 (nI ((toN (mem 155 7)) + 1)))) (gr_gr _ _ _ _) ?_
        refine g_aload_n C 1 dX10_makes_255 rfl ?_
        refine g_get_r C ob_154 0 (by decide) rfl wd_703 dX10_makes_256 ?_
        refine g_bipush C (nI 8) dX10_makes_259 (by decide) ?_
        refine g_dup2 C dX10_makes_261 rfl rfl ?_
        refine g_iald_n C (j := 8) ar_155 rfl (by omega) (by decide) dX10_makes_262 ?_
        refine g_top (y := (upd (upd (upd (upd (upd (upd (upd (mkF (mem 155) b wa (vN (mem 155))) (360 + (7 * (toN (mem 155 7) % 20))) (nI b)) ((360 + (7 * (toN (mem 155 7) % 20))) + 1) (mem 155 6)) ((360 + (7 * (toN (mem 155 7) % 20))) + 2) (nI (rpM (mem 155) b))) ((360 + (7 * (toN (mem 155 7) % 20))) + 3) (mk (ask (mem 155) b wa f) (vN (mem 155)))) ((360 + (7 * (toN (mem 155 7) % 20))) + 4) (mk (sil (mem 155) b wa f) (vN (mem 155)))) ((360 + (7 * (toN (mem 155 7) % 20))) + 5) (msF (mem 155) (rpK (mem 155) b))) ((360 + (7 * (toN (mem 155 7) % 20))) + 6) (nI (tim (mem 155) b wa f))) 8) (rfl) ?_
        refine g_top (y := nI (toN (mem 155 8))) (by rw [upd_n (by omega), upd_n (by omega), upd_n (by omega), upd_n (by omega), upd_n (by omega), upd_n (by omega), upd_n (by omega)]; exact (mkF_old (by omega) (by omega) (by omega) (fun m _ => by omega)).trans hga.1) ?_
        refine g_aload_n C 1 dX10_makes_263 rfl ?_
        refine g_get_i C ob_154 15 (by decide) rfl wd_718 dX10_makes_264 ?_
        refine g_top (y := mem 154 15) (rfl) ?_
        refine g_top (y := mk (ask (mem 155) b wa f) (vN (mem 155))) (h15) ?_
        refine g_cS1 C (As := [.int (mk (ask (mem 155) b wa f) (vN (mem 155)))]) (w := .int (nI (fa_cnt (bt (mk (ask (mem 155) b wa f) (vN (mem 155)))) 10))) (mem3 := gr mem 155 (upd (upd (upd (upd (upd (upd (upd (upd (mkF (mem 155) b wa (vN (mem 155))) (360 + (7 * (toN (mem 155 7) % 20))) (nI b)) ((360 + (7 * (toN (mem 155 7) % 20))) + 1) (mem 155 6)) ((360 + (7 * (toN (mem 155 7) % 20))) + 2) (nI (rpM (mem 155) b))) ((360 + (7 * (toN (mem 155 7) % 20))) + 3) (mk (ask (mem 155) b wa f) (vN (mem 155)))) ((360 + (7 * (toN (mem 155 7) % 20))) + 4) (mk (sil (mem 155) b wa f) (vN (mem 155)))) ((360 + (7 * (toN (mem 155 7) % 20))) + 5) (msF (mem 155) (rpK (mem 155) b))) ((360 + (7 * (toN (mem 155 7) % 20))) + 6) (nI (tim (mem 155) b wa f))) 7 (nI ((toN (mem 155 7)) + 1)))) iX10_many (c_X10_many l G (gr mem 155 (upd (upd (upd (upd (upd (upd (upd (upd (mkF (mem 155) b wa (vN (mem 155))) (360 + (7 * (toN (mem 155 7) % 20))) (nI b)) ((360 + (7 * (toN (mem 155 7) % 20))) + 1) (mem 155 6)) ((360 + (7 * (toN (mem 155 7) % 20))) + 2) (nI (rpM (mem 155) b))) ((360 + (7 * (toN (mem 155 7) % 20))) + 3) (mk (ask (mem 155) b wa f) (vN (mem 155)))) ((360 + (7 * (toN (mem 155 7) % 20))) + 4) (mk (sil (mem 155) b wa f) (vN (mem 155)))) ((360 + (7 * (toN (mem 155 7) % 20))) + 5) (msF (mem 155) (rpK (mem 155) b))) ((360 + (7 * (toN (mem 155 7) % 20))) + 6) (nI (tim (mem 155) b wa f))) 7 (nI ((toN (mem 155 7)) + 1)))) (mk (ask (mem 155) b wa f) (vN (mem 155)))) wd_929 rfl ⟨Nat.le_of_ble_eq_true rfl, Nat.le_of_ble_eq_true rfl⟩ ⟨rfl, rfl⟩ rfl (Nat.le_of_ble_eq_true rfl) dX10_makes_267 (rfl) (rfl) ?_
        refine g_top (y := nI (fa_cnt (ask (mem 155) b wa f) (vN (mem 155)))) (congrArg nI (cnt_mk hn10)) ?_
        refine g_iadd_n C (d := (toN (mem 155 8)) + (fa_cnt (ask (mem 155) b wa f) (vN (mem 155)))) dX10_makes_270 rfl ?_
        refine g_iast_n C (j := 8) ar_155 rfl (by omega) (by decide) dX10_makes_271 ?_
        refine g_mem (mem2 := gr mem 155 (upd (upd (upd (upd (upd (upd (upd (upd (upd (mkF (mem 155) b wa (vN (mem 155))) (360 + (7 * (toN (mem 155 7) % 20))) (nI b)) ((360 + (7 * (toN (mem 155 7) % 20))) + 1) (mem 155 6)) ((360 + (7 * (toN (mem 155 7) % 20))) + 2) (nI (rpM (mem 155) b))) ((360 + (7 * (toN (mem 155 7) % 20))) + 3) (mk (ask (mem 155) b wa f) (vN (mem 155)))) ((360 + (7 * (toN (mem 155 7) % 20))) + 4) (mk (sil (mem 155) b wa f) (vN (mem 155)))) ((360 + (7 * (toN (mem 155 7) % 20))) + 5) (msF (mem 155) (rpK (mem 155) b))) ((360 + (7 * (toN (mem 155 7) % 20))) + 6) (nI (tim (mem 155) b wa f))) 7 (nI ((toN (mem 155 7)) + 1))) 8 (nI ((toN (mem 155 8)) + (fa_cnt (ask (mem 155) b wa f) (vN (mem 155))))))) (gr_gr _ _ _ _) ?_
        refine g_aload_n C 1 dX10_makes_272 rfl ?_
        refine g_get_r C ob_154 0 (by decide) rfl wd_703 dX10_makes_273 ?_
        refine g_bipush C (nI 9) dX10_makes_276 (by decide) ?_
        refine g_dup2 C dX10_makes_278 rfl rfl ?_
        refine g_iald_n C (j := 9) ar_155 rfl (by omega) (by decide) dX10_makes_279 ?_
        refine g_top (y := (upd (upd (upd (upd (upd (upd (upd (mkF (mem 155) b wa (vN (mem 155))) (360 + (7 * (toN (mem 155 7) % 20))) (nI b)) ((360 + (7 * (toN (mem 155 7) % 20))) + 1) (mem 155 6)) ((360 + (7 * (toN (mem 155 7) % 20))) + 2) (nI (rpM (mem 155) b))) ((360 + (7 * (toN (mem 155 7) % 20))) + 3) (mk (ask (mem 155) b wa f) (vN (mem 155)))) ((360 + (7 * (toN (mem 155 7) % 20))) + 4) (mk (sil (mem 155) b wa f) (vN (mem 155)))) ((360 + (7 * (toN (mem 155 7) % 20))) + 5) (msF (mem 155) (rpK (mem 155) b))) ((360 + (7 * (toN (mem 155 7) % 20))) + 6) (nI (tim (mem 155) b wa f))) 9) (rfl) ?_
        refine g_top (y := nI (toN (mem 155 9))) (by rw [upd_n (by omega), upd_n (by omega), upd_n (by omega), upd_n (by omega), upd_n (by omega), upd_n (by omega), upd_n (by omega)]; exact (mkF_old (by omega) (by omega) (by omega) (fun m _ => by omega)).trans hga.2.1) ?_
        refine g_aload_n C 1 dX10_makes_280 rfl ?_
        refine g_get_i C ob_154 16 (by decide) rfl wd_719 dX10_makes_281 ?_
        refine g_top (y := mem 154 16) (rfl) ?_
        refine g_top (y := mk (sil (mem 155) b wa f) (vN (mem 155))) (h16) ?_
        refine g_cS1 C (As := [.int (mk (sil (mem 155) b wa f) (vN (mem 155)))]) (w := .int (nI (fa_cnt (bt (mk (sil (mem 155) b wa f) (vN (mem 155)))) 10))) (mem3 := gr mem 155 (upd (upd (upd (upd (upd (upd (upd (upd (upd (mkF (mem 155) b wa (vN (mem 155))) (360 + (7 * (toN (mem 155 7) % 20))) (nI b)) ((360 + (7 * (toN (mem 155 7) % 20))) + 1) (mem 155 6)) ((360 + (7 * (toN (mem 155 7) % 20))) + 2) (nI (rpM (mem 155) b))) ((360 + (7 * (toN (mem 155 7) % 20))) + 3) (mk (ask (mem 155) b wa f) (vN (mem 155)))) ((360 + (7 * (toN (mem 155 7) % 20))) + 4) (mk (sil (mem 155) b wa f) (vN (mem 155)))) ((360 + (7 * (toN (mem 155 7) % 20))) + 5) (msF (mem 155) (rpK (mem 155) b))) ((360 + (7 * (toN (mem 155 7) % 20))) + 6) (nI (tim (mem 155) b wa f))) 7 (nI ((toN (mem 155 7)) + 1))) 8 (nI ((toN (mem 155 8)) + (fa_cnt (ask (mem 155) b wa f) (vN (mem 155))))))) iX10_many (c_X10_many l G (gr mem 155 (upd (upd (upd (upd (upd (upd (upd (upd (upd (mkF (mem 155) b wa (vN (mem 155))) (360 + (7 * (toN (mem 155 7) % 20))) (nI b)) ((360 + (7 * (toN (mem 155 7) % 20))) + 1) (mem 155 6)) ((360 + (7 * (toN (mem 155 7) % 20))) + 2) (nI (rpM (mem 155) b))) ((360 + (7 * (toN (mem 155 7) % 20))) + 3) (mk (ask (mem 155) b wa f) (vN (mem 155)))) ((360 + (7 * (toN (mem 155 7) % 20))) + 4) (mk (sil (mem 155) b wa f) (vN (mem 155)))) ((360 + (7 * (toN (mem 155 7) % 20))) + 5) (msF (mem 155) (rpK (mem 155) b))) ((360 + (7 * (toN (mem 155 7) % 20))) + 6) (nI (tim (mem 155) b wa f))) 7 (nI ((toN (mem 155 7)) + 1))) 8 (nI ((toN (mem 155 8)) + (fa_cnt (ask (mem 155) b wa f) (vN (mem 155))))))) (mk (sil (mem 155) b wa f) (vN (mem 155)))) wd_929 rfl ⟨Nat.le_of_ble_eq_true rfl, Nat.le_of_ble_eq_true rfl⟩ ⟨rfl, rfl⟩ rfl (Nat.le_of_ble_eq_true rfl) dX10_makes_284 (rfl) (rfl) ?_
        refine g_top (y := nI (fa_cnt (sil (mem 155) b wa f) (vN (mem 155)))) (congrArg nI (cnt_mk hn10)) ?_
        refine g_iadd_n C (d := (toN (mem 155 9)) + (fa_cnt (sil (mem 155) b wa f) (vN (mem 155)))) dX10_makes_287 rfl ?_
        refine g_iast_n C (j := 9) ar_155 rfl (by omega) (by decide) dX10_makes_288 ?_
        refine g_mem (mem2 := gr mem 155 (upd (upd (upd (upd (upd (upd (upd (upd (upd (upd (mkF (mem 155) b wa (vN (mem 155))) (360 + (7 * (toN (mem 155 7) % 20))) (nI b)) ((360 + (7 * (toN (mem 155 7) % 20))) + 1) (mem 155 6)) ((360 + (7 * (toN (mem 155 7) % 20))) + 2) (nI (rpM (mem 155) b))) ((360 + (7 * (toN (mem 155 7) % 20))) + 3) (mk (ask (mem 155) b wa f) (vN (mem 155)))) ((360 + (7 * (toN (mem 155 7) % 20))) + 4) (mk (sil (mem 155) b wa f) (vN (mem 155)))) ((360 + (7 * (toN (mem 155 7) % 20))) + 5) (msF (mem 155) (rpK (mem 155) b))) ((360 + (7 * (toN (mem 155 7) % 20))) + 6) (nI (tim (mem 155) b wa f))) 7 (nI ((toN (mem 155 7)) + 1))) 8 (nI ((toN (mem 155 8)) + (fa_cnt (ask (mem 155) b wa f) (vN (mem 155)))))) 9 (nI ((toN (mem 155 9)) + (fa_cnt (sil (mem 155) b wa f) (vN (mem 155))))))) (gr_gr _ _ _ _) ?_
        refine g_vret C hQ rfl dX10_makes_289 ?_
        refine ⟨rfl, ?_⟩
        rw [rpV, hfF]
        rfl
      · have hi2 : k < vN (mem 155) := by have q := mt (nI_leI (a := vN (mem 155)) (b := k) (by omega) (by omega)).mpr c_68; omega
        refine g_aload_n C 0 dX10_makes_71 rfl ?_
        refine g_get_r C ob_154 0 (by decide) rfl wd_703 dX10_makes_72 ?_
        refine g_iload_n C 2 dX10_makes_75 rfl ?_
        refine g_iconst C (nI 3) dX10_makes_76 (by decide) ?_
        refine g_cS1 C (As := [.int (nI k), .int (nI 3)]) (w := .int (nI (33 + 12 * k))) (mem3 := gr mem 155 (mkF (mem 155) b wa k)) iX10_at (c_X10_at l G (gr mem 155 (mkF (mem 155) b wa k)) k 3) wd_780 rfl ⟨Nat.le_of_ble_eq_true rfl, Nat.le_of_ble_eq_true rfl⟩ ⟨rfl, rfl⟩ rfl (Nat.le_of_ble_eq_true rfl) dX10_makes_77 (congrArg Value.int (congrArg nI (by omega))) (rfl) ?_
        refine g_dup2 C dX10_makes_80 rfl rfl ?_
        refine g_iald_n C (j := 33 + 12 * k) ar_155 rfl (by omega) (by decide) dX10_makes_81 ?_
        refine g_top (y := mkF (mem 155) b wa k (33 + 12 * k)) (rfl) ?_
        refine g_aload_n C 0 dX10_makes_82 rfl ?_
        refine g_aload_n C 0 dX10_makes_83 rfl ?_
        refine g_get_i C ob_154 17 (by decide) rfl wd_720 dX10_makes_84 ?_
        refine g_top (y := mem 154 17) (rfl) ?_
        refine g_top (y := msF (mem 155) (rpK (mem 155) b)) (h17) ?_
        refine g_iload_n C 2 dX10_makes_87 rfl ?_
        refine g_cV1 C (As := [.int (msF (mem 155) (rpK (mem 155) b)), .int (nI k)]) (w := .int (b2i (hs (msF (mem 155) (rpK (mem 155) b)) k))) (mem3 := gr mem 155 (mkF (mem 155) b wa k)) iX10_isIn (c_X10_isIn l G (gr mem 155 (mkF (mem 155) b wa k)) (msF (mem 155) (rpK (mem 155) b)) (m1 := k) (by omega)) wd_917 ob_154 rfl ⟨Nat.le_of_ble_eq_true rfl, Nat.le_of_ble_eq_true rfl⟩ ⟨rfl, rfl⟩ rfl (Nat.le_of_ble_eq_true rfl) dX10_makes_88 (rfl) (rfl) ?_
        refine g_ifb_eq C 103 dX10_makes_91 (by decide) (fun c_91 => ?_) (fun c_91 => ?_)
        · refine g_iconst C (nI 0) dX10_makes_103 (by decide) ?_
          refine g_isub C dX10_makes_104 ?_
          refine g_iast_n C (j := 33 + 12 * k) ar_155 rfl (by omega) (by decide) dX10_makes_105 ?_
          refine g_mem (mem2 := gr mem 155 (upd (mkF (mem 155) b wa k) (33 + 12 * k) ((mkF (mem 155) b wa k (33 + 12 * k)) - (nI 0)))) (gr_gr _ _ _ _) ?_
          refine g_aload_n C 0 dX10_makes_106 rfl ?_
          refine g_get_r C ob_154 0 (by decide) rfl wd_703 dX10_makes_107 ?_
          refine g_iload_n C 2 dX10_makes_110 rfl ?_
          refine g_bipush C (nI 7) dX10_makes_111 (by decide) ?_
          refine g_cS1 C (As := [.int (nI k), .int (nI 7)]) (w := .int (nI (37 + 12 * k))) (mem3 := gr mem 155 (upd (mkF (mem 155) b wa k) (33 + 12 * k) ((mkF (mem 155) b wa k (33 + 12 * k)) - (nI 0)))) iX10_at (c_X10_at l G (gr mem 155 (upd (mkF (mem 155) b wa k) (33 + 12 * k) ((mkF (mem 155) b wa k (33 + 12 * k)) - (nI 0)))) k 7) wd_780 rfl ⟨Nat.le_of_ble_eq_true rfl, Nat.le_of_ble_eq_true rfl⟩ ⟨rfl, rfl⟩ rfl (Nat.le_of_ble_eq_true rfl) dX10_makes_113 (congrArg Value.int (congrArg nI (by omega))) (rfl) ?_
          refine g_dup2 C dX10_makes_116 rfl rfl ?_
          refine g_iald_n C (j := 37 + 12 * k) ar_155 rfl (by omega) (by decide) dX10_makes_117 ?_
          refine g_top (y := (upd (mkF (mem 155) b wa k) (33 + 12 * k) ((mkF (mem 155) b wa k (33 + 12 * k)) - (nI 0))) (37 + 12 * k)) (rfl) ?_
          refine g_top (y := mem 155 (37 + 12 * k)) ((upd_n (by omega)).trans (mkF_old (by omega) (by omega) (by omega) (fun m _ => by omega))) ?_
          refine g_aload_n C 0 dX10_makes_118 rfl ?_
          refine g_aload_n C 0 dX10_makes_119 rfl ?_
          refine g_get_i C ob_154 17 (by decide) rfl wd_720 dX10_makes_120 ?_
          refine g_top (y := mem 154 17) (rfl) ?_
          refine g_top (y := msF (mem 155) (rpK (mem 155) b)) (h17) ?_
          refine g_iload_n C 2 dX10_makes_123 rfl ?_
          refine g_cV1 C (As := [.int (msF (mem 155) (rpK (mem 155) b)), .int (nI k)]) (w := .int (b2i (hs (msF (mem 155) (rpK (mem 155) b)) k))) (mem3 := gr mem 155 (upd (mkF (mem 155) b wa k) (33 + 12 * k) ((mkF (mem 155) b wa k (33 + 12 * k)) - (nI 0)))) iX10_isIn (c_X10_isIn l G (gr mem 155 (upd (mkF (mem 155) b wa k) (33 + 12 * k) ((mkF (mem 155) b wa k (33 + 12 * k)) - (nI 0)))) (msF (mem 155) (rpK (mem 155) b)) (m1 := k) (by omega)) wd_917 ob_154 rfl ⟨Nat.le_of_ble_eq_true rfl, Nat.le_of_ble_eq_true rfl⟩ ⟨rfl, rfl⟩ rfl (Nat.le_of_ble_eq_true rfl) dX10_makes_124 (rfl) (rfl) ?_
          refine g_ifb_eq_t C 134 (c_91) dX10_makes_127 (by decide) ?_
          refine g_iconst C (nI 0) dX10_makes_134 (by decide) ?_
          refine g_iadd C dX10_makes_135 ?_
          refine g_iast_n C (j := 37 + 12 * k) ar_155 rfl (by omega) (by decide) dX10_makes_136 ?_
          refine g_mem (mem2 := gr mem 155 (upd (upd (mkF (mem 155) b wa k) (33 + 12 * k) ((mkF (mem 155) b wa k (33 + 12 * k)) - (nI 0))) (37 + 12 * k) ((mem 155 (37 + 12 * k)) + (nI 0)))) (gr_gr _ _ _ _) ?_
          refine g_iinc C (v := nI (k + 1)) (L2 := [(2, .int (nI (k + 1))), (0, .ref (gad G 154)), (1, .int (nI b))]) 2 dX10_makes_137 rfl (nI_1 _) (by decide) rfl ?_
          refine g_goto C 61 dX10_makes_140 (by decide) ?_
          refine g_loc (L2 := [(0, .ref (gad G 154)), (1, .int (nI b)), (2, .int (nI (k + 1)))]) [1, 2, 0] rfl ?_
          exact g_eq (ih_61 (k + 1) (hi2) (by omega)) (by first | (rw [mkF_t c_91]; done) | (rw [mkF_f c_91 (mkF_old (by omega) (by omega) (by omega) (fun m _ => by omega))]; done)) (rfl) rfl
        · refine g_aload_n C 0 dX10_makes_94 rfl ?_
          refine g_get_r C ob_154 0 (by decide) rfl wd_703 dX10_makes_95 ?_
          refine g_iconst C (nI 4) dX10_makes_98 (by decide) ?_
          refine g_iald_n C (j := 4) ar_155 rfl (by omega) (by decide) dX10_makes_99 ?_
          refine g_top (y := mkF (mem 155) b wa k 4) (rfl) ?_
          refine g_top (y := mem 155 4) (mkF_old (by omega) (by omega) (by omega) (fun m _ => by omega)) ?_
          refine g_goto C 104 dX10_makes_100 (by decide) ?_
          refine g_isub C dX10_makes_104 ?_
          refine g_iast_n C (j := 33 + 12 * k) ar_155 rfl (by omega) (by decide) dX10_makes_105 ?_
          refine g_mem (mem2 := gr mem 155 (upd (mkF (mem 155) b wa k) (33 + 12 * k) ((mkF (mem 155) b wa k (33 + 12 * k)) - (mem 155 4)))) (gr_gr _ _ _ _) ?_
          refine g_aload_n C 0 dX10_makes_106 rfl ?_
          refine g_get_r C ob_154 0 (by decide) rfl wd_703 dX10_makes_107 ?_
          refine g_iload_n C 2 dX10_makes_110 rfl ?_
          refine g_bipush C (nI 7) dX10_makes_111 (by decide) ?_
          refine g_cS1 C (As := [.int (nI k), .int (nI 7)]) (w := .int (nI (37 + 12 * k))) (mem3 := gr mem 155 (upd (mkF (mem 155) b wa k) (33 + 12 * k) ((mkF (mem 155) b wa k (33 + 12 * k)) - (mem 155 4)))) iX10_at (c_X10_at l G (gr mem 155 (upd (mkF (mem 155) b wa k) (33 + 12 * k) ((mkF (mem 155) b wa k (33 + 12 * k)) - (mem 155 4)))) k 7) wd_780 rfl ⟨Nat.le_of_ble_eq_true rfl, Nat.le_of_ble_eq_true rfl⟩ ⟨rfl, rfl⟩ rfl (Nat.le_of_ble_eq_true rfl) dX10_makes_113 (congrArg Value.int (congrArg nI (by omega))) (rfl) ?_
          refine g_dup2 C dX10_makes_116 rfl rfl ?_
          refine g_iald_n C (j := 37 + 12 * k) ar_155 rfl (by omega) (by decide) dX10_makes_117 ?_
          refine g_top (y := (upd (mkF (mem 155) b wa k) (33 + 12 * k) ((mkF (mem 155) b wa k (33 + 12 * k)) - (mem 155 4))) (37 + 12 * k)) (rfl) ?_
          refine g_top (y := mem 155 (37 + 12 * k)) ((upd_n (by omega)).trans (mkF_old (by omega) (by omega) (by omega) (fun m _ => by omega))) ?_
          refine g_aload_n C 0 dX10_makes_118 rfl ?_
          refine g_aload_n C 0 dX10_makes_119 rfl ?_
          refine g_get_i C ob_154 17 (by decide) rfl wd_720 dX10_makes_120 ?_
          refine g_top (y := mem 154 17) (rfl) ?_
          refine g_top (y := msF (mem 155) (rpK (mem 155) b)) (h17) ?_
          refine g_iload_n C 2 dX10_makes_123 rfl ?_
          refine g_cV1 C (As := [.int (msF (mem 155) (rpK (mem 155) b)), .int (nI k)]) (w := .int (b2i (hs (msF (mem 155) (rpK (mem 155) b)) k))) (mem3 := gr mem 155 (upd (mkF (mem 155) b wa k) (33 + 12 * k) ((mkF (mem 155) b wa k (33 + 12 * k)) - (mem 155 4)))) iX10_isIn (c_X10_isIn l G (gr mem 155 (upd (mkF (mem 155) b wa k) (33 + 12 * k) ((mkF (mem 155) b wa k (33 + 12 * k)) - (mem 155 4)))) (msF (mem 155) (rpK (mem 155) b)) (m1 := k) (by omega)) wd_917 ob_154 rfl ⟨Nat.le_of_ble_eq_true rfl, Nat.le_of_ble_eq_true rfl⟩ ⟨rfl, rfl⟩ rfl (Nat.le_of_ble_eq_true rfl) dX10_makes_124 (rfl) (rfl) ?_
          refine g_ifb_eq_f C 134 (c_91) dX10_makes_127 (by decide) ?_
          refine g_iconst C (nI 1) dX10_makes_130 (by decide) ?_
          refine g_goto C 135 dX10_makes_131 (by decide) ?_
          refine g_iadd C dX10_makes_135 ?_
          refine g_iast_n C (j := 37 + 12 * k) ar_155 rfl (by omega) (by decide) dX10_makes_136 ?_
          refine g_mem (mem2 := gr mem 155 (upd (upd (mkF (mem 155) b wa k) (33 + 12 * k) ((mkF (mem 155) b wa k (33 + 12 * k)) - (mem 155 4))) (37 + 12 * k) ((mem 155 (37 + 12 * k)) + (nI 1)))) (gr_gr _ _ _ _) ?_
          refine g_iinc C (v := nI (k + 1)) (L2 := [(2, .int (nI (k + 1))), (0, .ref (gad G 154)), (1, .int (nI b))]) 2 dX10_makes_137 rfl (nI_1 _) (by decide) rfl ?_
          refine g_goto C 61 dX10_makes_140 (by decide) ?_
          refine g_loc (L2 := [(0, .ref (gad G 154)), (1, .int (nI b)), (2, .int (nI (k + 1)))]) [1, 2, 0] rfl ?_
          exact g_eq (ih_61 (k + 1) (hi2) (by omega)) (by first | (rw [mkF_t c_91]; done) | (rw [mkF_f c_91 (mkF_old (by omega) (by omega) (by omega) (fun m _ => by omega))]; done)) (rfl) rfl
  refine g_loc (L2 := [(0, .ref (gad G 154)), (1, .int (nI b)), (2, .int (nI 0))]) [1, 2, 0] rfl ?_
  exact g_eq (lp_61 (_ + 1) 0 (Nat.zero_le _) (Nat.lt_succ_self _)) (rfl) (rfl) rfl
