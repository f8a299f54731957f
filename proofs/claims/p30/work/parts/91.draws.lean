/-! what the law's draws looks at -/
theorem ls_ast {T : Nat} {V : Nat → Int32} {Vs : Nat → Nat → Int32} {h j : Nat} {A B A2 : Nat → Int32} {v : Int32} {mem : gM} (L : kLS T V Vs h A B mem) (e : upd A j v = A2) : kLS T V Vs h A2 B (gr mem 154 (upd (mem 154) j v)) := by
  rw [L.2.2.2.1, e]
  exact ls_a L A2
theorem ls_bst {T : Nat} {V : Nat → Int32} {Vs : Nat → Nat → Int32} {h j : Nat} {A B B2 : Nat → Int32} {v : Int32} {mem : gM} (L : kLS T V Vs h A B mem) (e : upd B j v = B2) : kLS T V Vs h A B2 (gr mem 155 (upd (mem 155) j v)) := by
  rw [L.2.2.2.2, e]
  exact ls_b L B2
/-- the law's object, between the law's calls -/
def LI (T n : Nat) (u : gM) : Prop := ∃ (V : Nat → Int32) (Vs : Nat → Nat → Int32) (h : Nat) (A B : Nat → Int32), kLS T V Vs h A B u ∧ Good T V ∧ Ex T V ∧ vN V = n
section DRL
variable {T : Nat} {V : Nat → Int32}
theorem cr_y {m : Nat} (h : V (38 + 12 * m) = nI 1 ∨ V (38 + 12 * m) = nI 3) : V (33 + 12 * m) - V 4 = crV V m := by rw [crV, if_pos h, Int32.sub_eq_add_neg]
theorem cr_n {m : Nat} (h1 : ¬ V (38 + 12 * m) = nI 1) (h2 : ¬ V (38 + 12 * m) = nI 3) : V (33 + 12 * m) - nI 0 = crV V m := by
  rw [crV, if_neg (fun q => q.elim h1 h2)]
  exact Int32.sub_zero _
theorem rr_y {m : Nat} (h : V (38 + 12 * m) = nI 2) : nI (fa_cnt (vRR V) m + 1) = nI (fa_cnt (vRR V) (m + 1)) := by rw [fa_cnt_yes (decide_eq_true h)]
theorem rr_n {m : Nat} (h : ¬ V (38 + 12 * m) = nI 2) : nI (fa_cnt (vRR V) m + 0) = nI (fa_cnt (vRR V) (m + 1)) := by rw [fa_cnt_no (decide_eq_false h), Nat.add_zero]
theorem lf_0 {m : Nat} : lfP V (nI 0) m = vRR V m := by
  unfold lfP
  rw [show (nI 0 : Int32) = 0 from rfl, b_0]
  simp
theorem lf_fun : lfP V (nI 0) = vRR V := funext fun _ => lf_0
theorem left_no {m : Nat} (hm : m < 2 ^ 31) (h : ¬ toN (V 2) ≤ fa_cnt (vRR V) (vN V)) : leftR V (nI 0) (nI m) = kState := by
  rw [leftR, if_pos ⟨⟨by decide, by decide⟩, nI_pos' hm⟩, lf_fun, if_neg h]
theorem left_ok {m : Nat} (hn : vN V ≤ 10) (hm : m < vN V) (h : toN (V 2) ≤ fa_cnt (vRR V) (vN V)) : leftR V (nI 0) (nI m) = nI (nM V (nSd V (mk (vRR V) (vN V))) m) := by
  rw [leftR, if_pos ⟨⟨by decide, by decide⟩, nI_pos' (by omega)⟩, lf_fun, if_pos h, if_pos (nI_lt hm (by omega)), toN_nI (by omega)]
theorem dr_law (g : Good T V) {sd : Int32} {V2 : Nat → Int32} (e : V2 = drV V sd) : Good T V2 ∧ vN V2 = vN V ∧ vZ V2 = vN V ∧ V2 6 = V 6 + nI 1 ∧ V2 2 = V 2 ∧ (∀ m, m < vN V → V2 (33 + 12 * m) = crV V m ∧ V2 (38 + 12 * m) = nI 0) ∧ ∀ r, r < vN V → V2 (12 + r) = nI (nM V sd r) := by
  subst e
  have n10 := gd_n10 g
  obtain ⟨⟨a1, a2, a3⟩, b, c, d, -, -⟩ := dr_vals g sd _ (Nat.le_refl _)
  refine ⟨good_draw g sd, (dr_nz g sd).1, (dr_nz g sd).2, a1, dr_rest g sd (by decide) (by decide) (by decide) (by decide) (fun m _ => by omega), fun m hm => ⟨(c m (by omega)).trans (if_pos hm), (d m (by omega)).trans (if_pos hm)⟩, fun r hr => (b r (by omega)).trans (if_pos hr)⟩
end DRL

def rm_L_draws : Room := { frames := 6, cells := 2, slots := 20, locals := 147 }
theorem iL_draws : gIs yL_draws cL_draws 8 (some .boolean) 2 := ⟨⟨wd_667, wd_3, by decide +kernel, by decide +kernel, by decide +kernel⟩, wd_666⟩
set_option maxRecDepth 100000 in
set_option maxHeartbeats 4000000 in
theorem c_L_draws (l : Launch) (G : gG) (hA : upA (gA G)) (hx0 : G.2.2.1.2.2 = 0) {T : Nat} {V : Nat → Int32} {Vs : Nat → Nat → Int32} {h : Nat} {A B : Nat → Int32} (g : Good T V) (mem : gM) (L : kLS T V Vs h A B mem) (hT : T < 2 ^ 20) (x : Ex T V) (hn : 0 < vN V) : gMetX l yL_draws cL_draws 8 (some .boolean) rm_L_draws G [.ref (gad G 0), .int (nI (vN V))] mem (fun a u => a = some (.int (nI 1)) ∧ LI (T + 1) (vN V) u) 2 20 := by
  refine g_ofx (own := RL) (L0 := [(0, .ref (gad G 0)), (1, .int (nI (vN V)))]) hA (by decide +kernel) rfl (Nat.le_of_ble_eq_true rfl) rfl ?_
  intro p e s m args below meth c C hfr Q hQ
  have hn10 := gd_n10 g
  have hzn := (gd_z g).2
  refine g_iconst C (nI 0) dL_draws_0 (by decide) ?_
  refine g_istore_n C (L2 := [(2, .int (nI 0)), (0, .ref (gad G 0)), (1, .int (nI (vN V)))]) dL_draws_1 (by decide) rfl ?_
  refine g_bipush C (nI 10) dL_draws_2 (by decide) ?_
  refine g_new10 C hfr (x := 0) hx0 wd_41 (mc2 := 1) (ms2 := 10) rfl rfl ⟨Nat.le_of_ble_eq_true rfl, Nat.le_of_ble_eq_true rfl⟩ dL_draws_4 (fun G1 S1 x1 k1 C => ?_)
  rw [k1 0 (by decide)]
  have hfr1 : ∀ q, s.heap.size ≤ q → gA G1 q := S1.1 ▸ hfr
  refine g_mem (mem2 := (gr mem 154 fun _ => 0)) rfl ?_
  have L82 := ls_a L (fun _ => 0)
  generalize (gr mem 154 fun _ => 0) = u83 at L82 ⊢
  refine g_astore_n C (L2 := [(3, .ref (gad G1 154)), (2, .int (nI 0)), (0, .ref (gad G1 0)), (1, .int (nI (vN V)))]) dL_draws_6 (by decide) rfl ?_
  refine g_bipush C (nI 10) dL_draws_7 (by decide) ?_
  refine g_new10 C hfr1 (x := 1) x1 wd_41 (mc2 := 2) (ms2 := 20) rfl rfl ⟨Nat.le_of_ble_eq_true rfl, Nat.le_of_ble_eq_true rfl⟩ dL_draws_9 (fun G2 S2 x2 k2 C => ?_)
  rw [k2 0 (by decide)]
  rw [k2 154 (by decide)]
  have hfr2 : ∀ q, s.heap.size ≤ q → gA G2 q := S2.1 ▸ hfr1
  refine g_mem (mem2 := (gr u83 155 fun _ => 0)) rfl ?_
  have L84 := ls_b L82 (fun _ => 0)
  generalize (gr u83 155 fun _ => 0) = u85 at L84 ⊢
  refine g_astore C (L2 := [(4, .ref (gad G2 155)), (3, .ref (gad G2 154)), (2, .int (nI 0)), (0, .ref (gad G2 0)), (1, .int (nI (vN V)))]) dL_draws_11 (by decide) rfl ?_
  refine g_iconst C (nI 0) dL_draws_13 (by decide) ?_
  refine g_istore C (L2 := [(5, .int (nI 0)), (4, .ref (gad G2 155)), (3, .ref (gad G2 154)), (2, .int (nI 0)), (0, .ref (gad G2 0)), (1, .int (nI (vN V)))]) dL_draws_14 (by decide) rfl ?_
  have lp_16 : ∀ (fu : Nat) (m1 : Nat) (M1 : gM), (m1 ≤ vN V) → (kLS T V Vs h (cpy m1 (crV V) (fun _ => 0)) (cpy m1 (fun q => leftR V (nI 0) (nI q)) (fun _ => 0)) M1) → vN V - m1 < fu → gV p l e rm_L_draws s m args below meth c 2 20 Q G2 8 M1 16 [(0, .ref (gad G2 0)), (1, .int (nI (vN V))), (2, .int (nI (fa_cnt (vRR V) m1))), (3, .ref (gad G2 154)), (4, .ref (gad G2 155)), (5, .int (nI m1))] [] := by
    intro fu
    induction fu with
    | zero => intro m1 M1 _ _ hfu; exact absurd hfu (Nat.not_lt_zero _)
    | succ fu ih_16 =>
      intro m1 M1 hm LM hfu_16
      refine g_iload C 5 dL_draws_16 rfl ?_
      refine g_iload_n C 1 dL_draws_18 rfl ?_
      refine g_icmp_ge C 97 dL_draws_19 (by decide) (fun c_19 => ?_) (fun c_19 => ?_)
      · have hin : m1 = vN V := by have q := (nI_leI (a := vN V) (b := m1) (by omega) (by omega)).mp c_19; omega
        rw [hin] at LM
        rw [hin]
        refine g_aload_n C 0 dL_draws_97 rfl ?_
        refine g_bipush C (nI 6) dL_draws_98 (by decide) ?_
        refine g_cV1 C (As := [.int (nI 6)]) (w := .int (V 6)) (mem3 := M1) iX9_about (c_X9_about l G2 g M1 LM.1 (nI 6)) wd_401 ob_0 rfl ⟨Nat.le_of_ble_eq_true rfl, Nat.le_of_ble_eq_true rfl⟩ ⟨rfl, rfl⟩ rfl (Nat.le_of_ble_eq_true rfl) dL_draws_100 (congrArg Value.int (about_n (by decide))) (rfl) ?_
        refine g_istore C (L2 := [(5, .int (V 6)), (0, .ref (gad G2 0)), (1, .int (nI (vN V))), (2, .int (nI (fa_cnt (vRR V) (vN V)))), (3, .ref (gad G2 154)), (4, .ref (gad G2 155))]) dL_draws_103 (by decide) rfl ?_
        rcases Classical.em (toN (V 2) ≤ fa_cnt (vRR V) (vN V)) with hk | hk
        · refine g_aload_n C 1 dL_draws_105 rfl ?_
          refine g_cVr C (As := []) iX9_draw (c_X9_draw l G2 g M1 LM.1 LM.2.1.choose_spec) wd_423 ob_0 rfl ⟨Nat.le_of_ble_eq_true rfl, Nat.le_of_ble_eq_true rfl⟩ ⟨rfl, rfl⟩ rfl (Nat.le_of_ble_eq_true rfl) dL_draws_106 (fun r89 u86 hq => ?_)
          obtain ⟨e88, L87⟩ := ax_ok LM hq (hk)
          have e88 : r89 = V 6 + nI 1 := e88.trans (rfl)
          subst e88
          obtain ⟨V2, hV2⟩ : ∃ V2, V2 = drV V (nSd V (mk (vRR V) (vN V))) := ⟨_, rfl⟩
          rw [← hV2] at L87
          obtain ⟨g2, eN, eZ, e6, e2, hcr, hdl⟩ := dr_law g hV2
          refine g_istore C (L2 := [(6, .int (V 6 + nI 1)), (5, .int (V 6)), (0, .ref (gad G2 0)), (1, .int (nI (vN V))), (2, .int (nI (fa_cnt (vRR V) (vN V)))), (3, .ref (gad G2 154)), (4, .ref (gad G2 155))]) dL_draws_109 (by decide) rfl ?_
          refine g_iload_n C 4 dL_draws_111 rfl ?_
          refine g_aload_n C 2 dL_draws_112 rfl ?_
          refine g_iconst C (nI 2) dL_draws_113 (by decide) ?_
          refine g_cV1 C (As := [.int (nI 2)]) (w := .int (nI (toN (V 2)))) (mem3 := u86) iX9_about (c_X9_about l G2 g2 u86 L87.1 (nI 2)) wd_401 ob_0 rfl ⟨Nat.le_of_ble_eq_true rfl, Nat.le_of_ble_eq_true rfl⟩ ⟨rfl, rfl⟩ rfl (Nat.le_of_ble_eq_true rfl) dL_draws_114 (congrArg Value.int ((about_n (by decide)).trans (e2.trans (gd_least g).1))) (rfl) ?_
          refine g_icmp_ge_t C 142 (nI_le hk (by have := fa_cnt_le (vRR V) (vN V); omega)) dL_draws_117 (by decide) ?_
          refine g_iconst C (nI 0) dL_draws_142 (by decide) ?_
          refine g_istore C (L2 := [(7, .int (nI 0)), (6, .int (V 6 + nI 1)), (5, .int (V 6)), (0, .ref (gad G2 0)), (1, .int (nI (vN V))), (2, .int (nI (fa_cnt (vRR V) (vN V)))), (3, .ref (gad G2 154)), (4, .ref (gad G2 155))]) dL_draws_143 (by decide) rfl ?_
          have lp_145 : ∀ (fu : Nat) (m2 : Nat), (m2 ≤ vN V) → vN V - m2 < fu → gV p l e rm_L_draws s m args below meth c 2 20 Q G2 8 u86 145 [(0, .ref (gad G2 0)), (1, .int (nI (vN V))), (2, .int (nI (fa_cnt (vRR V) (vN V)))), (3, .ref (gad G2 154)), (4, .ref (gad G2 155)), (5, .int (V 6)), (6, .int (V 6 + nI 1)), (7, .int (nI m2))] [] := by
            intro fu
            induction fu with
            | zero => intro m2 _ hfu; exact absurd hfu (Nat.not_lt_zero _)
            | succ fu ih_145 =>
              intro m2 hm2b hfu_145
              refine g_iload C 7 dL_draws_145 rfl ?_
              refine g_iload_n C 1 dL_draws_147 rfl ?_
              refine g_icmp_ge C 198 dL_draws_148 (by decide) (fun c_148 => ?_) (fun c_148 => ?_)
              · have hin2 : m2 = vN V := by have q := (nI_leI (a := vN V) (b := m2) (by omega) (by omega)).mp c_148; omega
                refine g_iload C 6 dL_draws_198 rfl ?_
                refine g_iload C 5 dL_draws_200 rfl ?_
                refine g_iconst C (nI 1) dL_draws_202 (by decide) ?_
                refine g_iadd C dL_draws_203 ?_
                refine g_icmp_ne_f C 232 (rfl) dL_draws_204 (by decide) ?_
                refine g_aload_n C 0 dL_draws_207 rfl ?_
                refine g_bipush C (nI 6) dL_draws_208 (by decide) ?_
                refine g_cV1 C (As := [.int (nI 6)]) (w := .int (V 6 + nI 1)) (mem3 := u86) iX9_about (c_X9_about l G2 g2 u86 L87.1 (nI 6)) wd_401 ob_0 rfl ⟨Nat.le_of_ble_eq_true rfl, Nat.le_of_ble_eq_true rfl⟩ ⟨rfl, rfl⟩ rfl (Nat.le_of_ble_eq_true rfl) dL_draws_210 (congrArg Value.int ((about_n (by decide)).trans e6)) (rfl) ?_
                refine g_iload C 6 dL_draws_213 rfl ?_
                refine g_icmp_ne_f C 232 (rfl) dL_draws_215 (by decide) ?_
                refine g_aload_n C 0 dL_draws_218 rfl ?_
                refine g_iload_n C 1 dL_draws_219 rfl ?_
                refine g_cV1 C (As := [.int (nI (vN V))]) (w := .int kNone) (mem3 := u86) iX9_duty (c_X9_duty l G2 g2 u86 L87.1 (nI (vN V))) wd_471 ob_0 rfl ⟨Nat.le_of_ble_eq_true rfl, Nat.le_of_ble_eq_true rfl⟩ ⟨rfl, rfl⟩ rfl (Nat.le_of_ble_eq_true rfl) dL_draws_220 (congrArg Value.int (duty_out g2 (by rw [eZ]; exact Nat.le_refl _) (by omega))) (rfl) ?_
                refine g_ldc C wd_626 dL_draws_223 ?_
                refine g_icmp_ne_f C 232 (rfl) dL_draws_225 (by decide) ?_
                refine g_iconst C (nI 1) dL_draws_228 (by decide) ?_
                refine g_goto C 233 dL_draws_229 (by decide) ?_
                exact g_zretX C (S1.tr S2) hQ rfl (Or.inr rfl) dL_draws_233 ⟨rfl, V2, _, _, _, _, L87.more (Nat.le_succ T), g2.more (Nat.le_succ T), hV2 ▸ ex_draw g x hn hT (nSd V (mk (vRR V) (vN V))), eN⟩
              · have hm3 : m2 < vN V := by have q := mt (nI_leI (a := vN V) (b := m2) (by omega) (by omega)).mpr c_148; omega
                refine g_aload_n C 0 dL_draws_151 rfl ?_
                refine g_iload C 7 dL_draws_152 rfl ?_
                refine g_iconst C (nI 3) dL_draws_154 (by decide) ?_
                refine g_cV1 C (As := [.int (nI m2), .int (nI 3)]) (w := .int (crV V m2)) (mem3 := u86) iX9_member (c_X9_member l G2 g2 u86 L87.1 (nI m2) (nI 3)) wd_364 ob_0 rfl ⟨Nat.le_of_ble_eq_true rfl, Nat.le_of_ble_eq_true rfl⟩ ⟨rfl, rfl⟩ rfl (Nat.le_of_ble_eq_true rfl) dL_draws_155 (congrArg Value.int ((mem_n g2 (by rw [eN]; exact hm3) (w := 3) (by decide) (by omega)).trans (hcr m2 hm3).1)) (rfl) ?_
                refine g_aload_n C 3 dL_draws_158 rfl ?_
                refine g_iload C 7 dL_draws_159 rfl ?_
                refine g_xald C (j := m2) (gx_at x2 (k := 0) (by decide)) (by omega) dL_draws_161 ?_
                refine g_top (y := crV V m2) ((congrFun L87.2.2.2.1 m2).trans (cpy_in hm3)) ?_
                refine g_icmp_ne_f C 190 (rfl) dL_draws_162 (by decide) ?_
                refine g_aload_n C 0 dL_draws_165 rfl ?_
                refine g_iload C 7 dL_draws_166 rfl ?_
                refine g_bipush C (nI 8) dL_draws_168 (by decide) ?_
                refine g_cV1 C (As := [.int (nI m2), .int (nI 8)]) (w := .int (nI 0)) (mem3 := u86) iX9_member (c_X9_member l G2 g2 u86 L87.1 (nI m2) (nI 8)) wd_364 ob_0 rfl ⟨Nat.le_of_ble_eq_true rfl, Nat.le_of_ble_eq_true rfl⟩ ⟨rfl, rfl⟩ rfl (Nat.le_of_ble_eq_true rfl) dL_draws_170 (congrArg Value.int ((mem_n g2 (by rw [eN]; exact hm3) (w := 8) (by decide) (by omega)).trans (hcr m2 hm3).2)) (rfl) ?_
                refine g_if_ne_f C 190 (by decide) dL_draws_173 (by decide) ?_
                refine g_aload_n C 0 dL_draws_176 rfl ?_
                refine g_iload C 7 dL_draws_177 rfl ?_
                refine g_cV1 C (As := [.int (nI m2)]) (w := .int (nI (nM V (nSd V (mk (vRR V) (vN V))) m2))) (mem3 := u86) iX9_duty (c_X9_duty l G2 g2 u86 L87.1 (nI m2)) wd_471 ob_0 rfl ⟨Nat.le_of_ble_eq_true rfl, Nat.le_of_ble_eq_true rfl⟩ ⟨rfl, rfl⟩ rfl (Nat.le_of_ble_eq_true rfl) dL_draws_179 (congrArg Value.int ((duty_n g2 (by rw [eZ]; exact hm3)).trans (hdl m2 hm3))) (rfl) ?_
                refine g_aload C 4 dL_draws_182 rfl ?_
                refine g_iload C 7 dL_draws_184 rfl ?_
                refine g_xald C (j := m2) (gx_at x2 (k := 1) (by decide)) (by omega) dL_draws_186 ?_
                refine g_top (y := nI (nM V (nSd V (mk (vRR V) (vN V))) m2)) ((congrFun L87.2.2.2.2 m2).trans ((cpy_in hm3).trans (left_ok hn10 hm3 hk))) ?_
                refine g_icmp_eq_t C 192 (rfl) dL_draws_187 (by decide) ?_
                refine g_iinc C (v := nI (m2 + 1)) (L2 := [(7, .int (nI (m2 + 1))), (0, .ref (gad G2 0)), (1, .int (nI (vN V))), (2, .int (nI (fa_cnt (vRR V) (vN V)))), (3, .ref (gad G2 154)), (4, .ref (gad G2 155)), (5, .int (V 6)), (6, .int (V 6 + nI 1))]) 7 dL_draws_192 rfl (nI_1 _) (by decide) rfl ?_
                refine g_goto C 145 dL_draws_195 (by decide) ?_
                refine g_loc (L2 := [(0, .ref (gad G2 0)), (1, .int (nI (vN V))), (2, .int (nI (fa_cnt (vRR V) (vN V)))), (3, .ref (gad G2 154)), (4, .ref (gad G2 155)), (5, .int (V 6)), (6, .int (V 6 + nI 1)), (7, .int (nI (m2 + 1)))]) [1, 2, 3, 4, 5, 6, 7, 0] rfl ?_
                exact g_eq (ih_145 (m2 + 1) (hm3) (by omega)) (rfl) (rfl) rfl
          refine g_loc (L2 := [(0, .ref (gad G2 0)), (1, .int (nI (vN V))), (2, .int (nI (fa_cnt (vRR V) (vN V)))), (3, .ref (gad G2 154)), (4, .ref (gad G2 155)), (5, .int (V 6)), (6, .int (V 6 + nI 1)), (7, .int (nI 0))]) [3, 4, 5, 6, 7, 2, 1, 0] rfl ?_
          exact g_eq (lp_145 (_ + 1) 0 (Nat.zero_le _) (Nat.lt_succ_self _)) (rfl) (rfl) rfl
        · refine g_aload_n C 1 dL_draws_105 rfl ?_
          refine g_cVr C (As := []) iX9_draw (c_X9_draw l G2 g M1 LM.1 LM.2.1.choose_spec) wd_423 ob_0 rfl ⟨Nat.le_of_ble_eq_true rfl, Nat.le_of_ble_eq_true rfl⟩ ⟨rfl, rfl⟩ rfl (Nat.le_of_ble_eq_true rfl) dL_draws_106 (fun r93 u90 hq => ?_)
          obtain ⟨e92, L91⟩ := ax_no LM hq (hk)
          have e92 : r93 = kState := e92.trans (rfl)
          subst e92
          refine g_istore C (L2 := [(6, .int kState), (5, .int (V 6)), (0, .ref (gad G2 0)), (1, .int (nI (vN V))), (2, .int (nI (fa_cnt (vRR V) (vN V)))), (3, .ref (gad G2 154)), (4, .ref (gad G2 155))]) dL_draws_109 (by decide) rfl ?_
          refine g_iload_n C 4 dL_draws_111 rfl ?_
          refine g_aload_n C 2 dL_draws_112 rfl ?_
          refine g_iconst C (nI 2) dL_draws_113 (by decide) ?_
          refine g_cV1 C (As := [.int (nI 2)]) (w := .int (nI (toN (V 2)))) (mem3 := u90) iX9_about (c_X9_about l G2 g u90 L91.1 (nI 2)) wd_401 ob_0 rfl ⟨Nat.le_of_ble_eq_true rfl, Nat.le_of_ble_eq_true rfl⟩ ⟨rfl, rfl⟩ rfl (Nat.le_of_ble_eq_true rfl) dL_draws_114 (congrArg Value.int ((about_n (by decide)).trans (gd_least g).1)) (rfl) ?_
          refine g_icmp_ge_f C 142 (fun q => hk ((nI_leI (a := toN (V 2)) (b := fa_cnt (vRR V) (vN V)) (toN_lt _) (by have := fa_cnt_le (vRR V) (vN V); omega)).mp q)) dL_draws_117 (by decide) ?_
          refine g_iload C 0 dL_draws_120 rfl ?_
          refine g_ldc C wd_661 dL_draws_122 ?_
          refine g_icmp_ne_f C 140 (rfl) dL_draws_124 (by decide) ?_
          refine g_aload C 6 dL_draws_127 rfl ?_
          refine g_iconst C (nI 0) dL_draws_129 (by decide) ?_
          refine g_xald C (j := 0) (gx_at x2 (k := 1) (by decide)) (by decide) dL_draws_130 ?_
          refine g_top (y := kState) ((congrFun L91.2.2.2.2 0).trans ((cpy_in hn).trans (left_no (by decide) hk))) ?_
          refine g_ldc C wd_661 dL_draws_131 ?_
          refine g_icmp_ne_f C 140 (rfl) dL_draws_133 (by decide) ?_
          refine g_iconst C (nI 1) dL_draws_136 (by decide) ?_
          refine g_goto C 141 dL_draws_137 (by decide) ?_
          exact g_zretX C (S1.tr S2) hQ rfl (Or.inr rfl) dL_draws_141 ⟨rfl, V, Vs, h, _, _, L91.more (Nat.le_succ T), g.more (Nat.le_succ T), x.more (Nat.le_succ T), rfl⟩
      · have hm2 : m1 < vN V := by have q := mt (nI_leI (a := vN V) (b := m1) (by omega) (by omega)).mpr c_19; omega
        refine g_aload_n C 0 dL_draws_22 rfl ?_
        refine g_iload C 5 dL_draws_23 rfl ?_
        refine g_bipush C (nI 8) dL_draws_25 (by decide) ?_
        refine g_cV1 C (As := [.int (nI m1), .int (nI 8)]) (w := .int (V (38 + 12 * m1))) (mem3 := M1) iX9_member (c_X9_member l G2 g M1 LM.1 (nI m1) (nI 8)) wd_364 ob_0 rfl ⟨Nat.le_of_ble_eq_true rfl, Nat.le_of_ble_eq_true rfl⟩ ⟨rfl, rfl⟩ rfl (Nat.le_of_ble_eq_true rfl) dL_draws_27 (congrArg Value.int (mem_n g hm2 (w := 8) (by decide) (by omega))) (rfl) ?_
        refine g_istore C (L2 := [(6, .int (V (38 + 12 * m1))), (0, .ref (gad G2 0)), (1, .int (nI (vN V))), (2, .int (nI (fa_cnt (vRR V) m1))), (3, .ref (gad G2 154)), (4, .ref (gad G2 155)), (5, .int (nI m1))]) dL_draws_30 (by decide) rfl ?_
        refine g_iload_n C 3 dL_draws_32 rfl ?_
        refine g_iload C 0 dL_draws_33 rfl ?_
        refine g_iconst C (nI 2) dL_draws_35 (by decide) ?_
        refine g_icmp_ne C 43 dL_draws_36 (by decide) (fun c_36 => ?_) (fun c_36 => ?_)
        · refine g_iconst C (nI 0) dL_draws_43 (by decide) ?_
          refine g_iadd_n C (d := (fa_cnt (vRR V) m1) + 0) dL_draws_44 rfl ?_
          refine g_top (y := nI (fa_cnt (vRR V) (m1 + 1))) (rr_n c_36) ?_
          refine g_istore_n C (L2 := [(2, .int (nI (fa_cnt (vRR V) (m1 + 1)))), (6, .int (V (38 + 12 * m1))), (0, .ref (gad G2 0)), (1, .int (nI (vN V))), (3, .ref (gad G2 154)), (4, .ref (gad G2 155)), (5, .int (nI m1))]) dL_draws_45 (by decide) rfl ?_
          refine g_aload_n C 4 dL_draws_46 rfl ?_
          refine g_iload C 6 dL_draws_47 rfl ?_
          refine g_aload_n C 2 dL_draws_49 rfl ?_
          refine g_iload C 6 dL_draws_50 rfl ?_
          refine g_iconst C (nI 3) dL_draws_52 (by decide) ?_
          refine g_cV1 C (As := [.int (nI m1), .int (nI 3)]) (w := .int (V (33 + 12 * m1))) (mem3 := M1) iX9_member (c_X9_member l G2 g M1 LM.1 (nI m1) (nI 3)) wd_364 ob_0 rfl ⟨Nat.le_of_ble_eq_true rfl, Nat.le_of_ble_eq_true rfl⟩ ⟨rfl, rfl⟩ rfl (Nat.le_of_ble_eq_true rfl) dL_draws_53 (congrArg Value.int (mem_n g hm2 (w := 3) (by decide) (by omega))) (rfl) ?_
          refine g_iload C 1 dL_draws_56 rfl ?_
          refine g_iconst C (nI 1) dL_draws_58 (by decide) ?_
          refine g_icmp_eq C 68 dL_draws_59 (by decide) (fun c_59 => ?_) (fun c_59 => ?_)
          · refine g_aload_n C 2 dL_draws_68 rfl ?_
            refine g_iconst C (nI 4) dL_draws_69 (by decide) ?_
            refine g_cV1 C (As := [.int (nI 4)]) (w := .int (V 4)) (mem3 := M1) iX9_about (c_X9_about l G2 g M1 LM.1 (nI 4)) wd_401 ob_0 rfl ⟨Nat.le_of_ble_eq_true rfl, Nat.le_of_ble_eq_true rfl⟩ ⟨rfl, rfl⟩ rfl (Nat.le_of_ble_eq_true rfl) dL_draws_70 (congrArg Value.int (about_n (by decide))) (rfl) ?_
            refine g_goto C 77 dL_draws_73 (by decide) ?_
            refine g_isub C dL_draws_77 ?_
            refine g_top (y := crV V m1) (cr_y (Or.inl c_59)) ?_
            refine g_xast C (j := m1) (gx_at x2 (k := 0) (by decide)) (by omega) dL_draws_78 ?_
            have L94 : kLS T V Vs h (cpy (m1 + 1) (crV V) (fun _ => 0)) (cpy m1 (fun q => leftR V (nI 0) (nI q)) (fun _ => 0)) (gr M1 154 (upd (M1 154) m1 (crV V m1))) := ls_ast LM (cpy_s rfl)
            generalize gr M1 154 (upd (M1 154) m1 (crV V m1)) = u95 at L94 ⊢
            refine g_aload C 5 dL_draws_79 rfl ?_
            refine g_iload C 6 dL_draws_81 rfl ?_
            refine g_aload_n C 2 dL_draws_83 rfl ?_
            refine g_iconst C (nI 0) dL_draws_84 (by decide) ?_
            refine g_iload C 6 dL_draws_85 rfl ?_
            refine g_cVf C (As := [.int (nI 0), .int (nI m1)]) (v := .int (leftR V (nI 0) (nI m1))) iX9_ifLeft (c_X9_ifLeft l G2 g u95 L94.1 (nI 0) (nI m1)) wd_627 ob_0 rfl ⟨Nat.le_of_ble_eq_true rfl, Nat.le_of_ble_eq_true rfl⟩ ⟨rfl, rfl⟩ rfl (Nat.le_of_ble_eq_true rfl) dL_draws_87 (fun u96 hq => ?_)
            have L97 := ls_fr L94 hq
            refine g_xast C (j := m1) (gx_at x2 (k := 1) (by decide)) (by omega) dL_draws_90 ?_
            have L98 : kLS T V Vs h (cpy (m1 + 1) (crV V) (fun _ => 0)) (cpy (m1 + 1) (fun q => leftR V (nI 0) (nI q)) (fun _ => 0)) (gr u96 155 (upd (u96 155) m1 (leftR V (nI 0) (nI m1)))) := ls_bst L97 (cpy_s rfl)
            generalize gr u96 155 (upd (u96 155) m1 (leftR V (nI 0) (nI m1))) = u99 at L98 ⊢
            refine g_iinc C (v := nI (m1 + 1)) (L2 := [(5, .int (nI (m1 + 1))), (2, .int (nI (fa_cnt (vRR V) (m1 + 1)))), (6, .int (V (38 + 12 * m1))), (0, .ref (gad G2 0)), (1, .int (nI (vN V))), (3, .ref (gad G2 154)), (4, .ref (gad G2 155))]) 6 dL_draws_91 rfl (nI_1 _) (by decide) rfl ?_
            refine g_goto C 16 dL_draws_94 (by decide) ?_
            refine g_loc (L2 := [(0, .ref (gad G2 0)), (1, .int (nI (vN V))), (2, .int (nI (fa_cnt (vRR V) (m1 + 1)))), (3, .ref (gad G2 154)), (4, .ref (gad G2 155)), (5, .int (nI (m1 + 1)))]) [3, 4, 1, 5, 6, 0] rfl ?_
            exact g_eq (ih_16 (m1 + 1) u99 (hm2) (L98) (by omega)) (rfl) (rfl) rfl
          · refine g_iload C 1 dL_draws_62 rfl ?_
            refine g_iconst C (nI 3) dL_draws_64 (by decide) ?_
            refine g_icmp_ne C 76 dL_draws_65 (by decide) (fun c_65 => ?_) (fun c_65 => ?_)
            · refine g_iconst C (nI 0) dL_draws_76 (by decide) ?_
              refine g_isub C dL_draws_77 ?_
              refine g_top (y := crV V m1) (cr_n c_59 c_65) ?_
              refine g_xast C (j := m1) (gx_at x2 (k := 0) (by decide)) (by omega) dL_draws_78 ?_
              have L100 : kLS T V Vs h (cpy (m1 + 1) (crV V) (fun _ => 0)) (cpy m1 (fun q => leftR V (nI 0) (nI q)) (fun _ => 0)) (gr M1 154 (upd (M1 154) m1 (crV V m1))) := ls_ast LM (cpy_s rfl)
              generalize gr M1 154 (upd (M1 154) m1 (crV V m1)) = u101 at L100 ⊢
              refine g_aload C 5 dL_draws_79 rfl ?_
              refine g_iload C 6 dL_draws_81 rfl ?_
              refine g_aload_n C 2 dL_draws_83 rfl ?_
              refine g_iconst C (nI 0) dL_draws_84 (by decide) ?_
              refine g_iload C 6 dL_draws_85 rfl ?_
              refine g_cVf C (As := [.int (nI 0), .int (nI m1)]) (v := .int (leftR V (nI 0) (nI m1))) iX9_ifLeft (c_X9_ifLeft l G2 g u101 L100.1 (nI 0) (nI m1)) wd_627 ob_0 rfl ⟨Nat.le_of_ble_eq_true rfl, Nat.le_of_ble_eq_true rfl⟩ ⟨rfl, rfl⟩ rfl (Nat.le_of_ble_eq_true rfl) dL_draws_87 (fun u102 hq => ?_)
              have L103 := ls_fr L100 hq
              refine g_xast C (j := m1) (gx_at x2 (k := 1) (by decide)) (by omega) dL_draws_90 ?_
              have L104 : kLS T V Vs h (cpy (m1 + 1) (crV V) (fun _ => 0)) (cpy (m1 + 1) (fun q => leftR V (nI 0) (nI q)) (fun _ => 0)) (gr u102 155 (upd (u102 155) m1 (leftR V (nI 0) (nI m1)))) := ls_bst L103 (cpy_s rfl)
              generalize gr u102 155 (upd (u102 155) m1 (leftR V (nI 0) (nI m1))) = u105 at L104 ⊢
              refine g_iinc C (v := nI (m1 + 1)) (L2 := [(5, .int (nI (m1 + 1))), (2, .int (nI (fa_cnt (vRR V) (m1 + 1)))), (6, .int (V (38 + 12 * m1))), (0, .ref (gad G2 0)), (1, .int (nI (vN V))), (3, .ref (gad G2 154)), (4, .ref (gad G2 155))]) 6 dL_draws_91 rfl (nI_1 _) (by decide) rfl ?_
              refine g_goto C 16 dL_draws_94 (by decide) ?_
              refine g_loc (L2 := [(0, .ref (gad G2 0)), (1, .int (nI (vN V))), (2, .int (nI (fa_cnt (vRR V) (m1 + 1)))), (3, .ref (gad G2 154)), (4, .ref (gad G2 155)), (5, .int (nI (m1 + 1)))]) [3, 4, 1, 5, 6, 0] rfl ?_
              exact g_eq (ih_16 (m1 + 1) u105 (hm2) (L104) (by omega)) (rfl) (rfl) rfl
            · refine g_aload_n C 2 dL_draws_68 rfl ?_
              refine g_iconst C (nI 4) dL_draws_69 (by decide) ?_
              refine g_cV1 C (As := [.int (nI 4)]) (w := .int (V 4)) (mem3 := M1) iX9_about (c_X9_about l G2 g M1 LM.1 (nI 4)) wd_401 ob_0 rfl ⟨Nat.le_of_ble_eq_true rfl, Nat.le_of_ble_eq_true rfl⟩ ⟨rfl, rfl⟩ rfl (Nat.le_of_ble_eq_true rfl) dL_draws_70 (congrArg Value.int (about_n (by decide))) (rfl) ?_
              refine g_goto C 77 dL_draws_73 (by decide) ?_
              refine g_isub C dL_draws_77 ?_
              refine g_top (y := crV V m1) (cr_y (Or.inr c_65)) ?_
              refine g_xast C (j := m1) (gx_at x2 (k := 0) (by decide)) (by omega) dL_draws_78 ?_
              have L106 : kLS T V Vs h (cpy (m1 + 1) (crV V) (fun _ => 0)) (cpy m1 (fun q => leftR V (nI 0) (nI q)) (fun _ => 0)) (gr M1 154 (upd (M1 154) m1 (crV V m1))) := ls_ast LM (cpy_s rfl)
              generalize gr M1 154 (upd (M1 154) m1 (crV V m1)) = u107 at L106 ⊢
              refine g_aload C 5 dL_draws_79 rfl ?_
              refine g_iload C 6 dL_draws_81 rfl ?_
              refine g_aload_n C 2 dL_draws_83 rfl ?_
              refine g_iconst C (nI 0) dL_draws_84 (by decide) ?_
              refine g_iload C 6 dL_draws_85 rfl ?_
              refine g_cVf C (As := [.int (nI 0), .int (nI m1)]) (v := .int (leftR V (nI 0) (nI m1))) iX9_ifLeft (c_X9_ifLeft l G2 g u107 L106.1 (nI 0) (nI m1)) wd_627 ob_0 rfl ⟨Nat.le_of_ble_eq_true rfl, Nat.le_of_ble_eq_true rfl⟩ ⟨rfl, rfl⟩ rfl (Nat.le_of_ble_eq_true rfl) dL_draws_87 (fun u108 hq => ?_)
              have L109 := ls_fr L106 hq
              refine g_xast C (j := m1) (gx_at x2 (k := 1) (by decide)) (by omega) dL_draws_90 ?_
              have L110 : kLS T V Vs h (cpy (m1 + 1) (crV V) (fun _ => 0)) (cpy (m1 + 1) (fun q => leftR V (nI 0) (nI q)) (fun _ => 0)) (gr u108 155 (upd (u108 155) m1 (leftR V (nI 0) (nI m1)))) := ls_bst L109 (cpy_s rfl)
              generalize gr u108 155 (upd (u108 155) m1 (leftR V (nI 0) (nI m1))) = u111 at L110 ⊢
              refine g_iinc C (v := nI (m1 + 1)) (L2 := [(5, .int (nI (m1 + 1))), (2, .int (nI (fa_cnt (vRR V) (m1 + 1)))), (6, .int (V (38 + 12 * m1))), (0, .ref (gad G2 0)), (1, .int (nI (vN V))), (3, .ref (gad G2 154)), (4, .ref (gad G2 155))]) 6 dL_draws_91 rfl (nI_1 _) (by decide) rfl ?_
              refine g_goto C 16 dL_draws_94 (by decide) ?_
              refine g_loc (L2 := [(0, .ref (gad G2 0)), (1, .int (nI (vN V))), (2, .int (nI (fa_cnt (vRR V) (m1 + 1)))), (3, .ref (gad G2 154)), (4, .ref (gad G2 155)), (5, .int (nI (m1 + 1)))]) [3, 4, 1, 5, 6, 0] rfl ?_
              exact g_eq (ih_16 (m1 + 1) u111 (hm2) (L110) (by omega)) (rfl) (rfl) rfl
        · refine g_iconst C (nI 1) dL_draws_39 (by decide) ?_
          refine g_goto C 44 dL_draws_40 (by decide) ?_
          refine g_iadd_n C (d := (fa_cnt (vRR V) m1) + 1) dL_draws_44 rfl ?_
          refine g_top (y := nI (fa_cnt (vRR V) (m1 + 1))) (rr_y c_36) ?_
          refine g_istore_n C (L2 := [(2, .int (nI (fa_cnt (vRR V) (m1 + 1)))), (6, .int (V (38 + 12 * m1))), (0, .ref (gad G2 0)), (1, .int (nI (vN V))), (3, .ref (gad G2 154)), (4, .ref (gad G2 155)), (5, .int (nI m1))]) dL_draws_45 (by decide) rfl ?_
          refine g_aload_n C 4 dL_draws_46 rfl ?_
          refine g_iload C 6 dL_draws_47 rfl ?_
          refine g_aload_n C 2 dL_draws_49 rfl ?_
          refine g_iload C 6 dL_draws_50 rfl ?_
          refine g_iconst C (nI 3) dL_draws_52 (by decide) ?_
          refine g_cV1 C (As := [.int (nI m1), .int (nI 3)]) (w := .int (V (33 + 12 * m1))) (mem3 := M1) iX9_member (c_X9_member l G2 g M1 LM.1 (nI m1) (nI 3)) wd_364 ob_0 rfl ⟨Nat.le_of_ble_eq_true rfl, Nat.le_of_ble_eq_true rfl⟩ ⟨rfl, rfl⟩ rfl (Nat.le_of_ble_eq_true rfl) dL_draws_53 (congrArg Value.int (mem_n g hm2 (w := 3) (by decide) (by omega))) (rfl) ?_
          refine g_iload C 1 dL_draws_56 rfl ?_
          refine g_iconst C (nI 1) dL_draws_58 (by decide) ?_
          refine g_icmp_eq C 68 dL_draws_59 (by decide) (fun c_59 => ?_) (fun c_59 => ?_)
          · refine g_aload_n C 2 dL_draws_68 rfl ?_
            refine g_iconst C (nI 4) dL_draws_69 (by decide) ?_
            refine g_cV1 C (As := [.int (nI 4)]) (w := .int (V 4)) (mem3 := M1) iX9_about (c_X9_about l G2 g M1 LM.1 (nI 4)) wd_401 ob_0 rfl ⟨Nat.le_of_ble_eq_true rfl, Nat.le_of_ble_eq_true rfl⟩ ⟨rfl, rfl⟩ rfl (Nat.le_of_ble_eq_true rfl) dL_draws_70 (congrArg Value.int (about_n (by decide))) (rfl) ?_
            refine g_goto C 77 dL_draws_73 (by decide) ?_
            refine g_isub C dL_draws_77 ?_
            refine g_top (y := crV V m1) (cr_y (Or.inl c_59)) ?_
            refine g_xast C (j := m1) (gx_at x2 (k := 0) (by decide)) (by omega) dL_draws_78 ?_
            have L112 : kLS T V Vs h (cpy (m1 + 1) (crV V) (fun _ => 0)) (cpy m1 (fun q => leftR V (nI 0) (nI q)) (fun _ => 0)) (gr M1 154 (upd (M1 154) m1 (crV V m1))) := ls_ast LM (cpy_s rfl)
            generalize gr M1 154 (upd (M1 154) m1 (crV V m1)) = u113 at L112 ⊢
            refine g_aload C 5 dL_draws_79 rfl ?_
            refine g_iload C 6 dL_draws_81 rfl ?_
            refine g_aload_n C 2 dL_draws_83 rfl ?_
            refine g_iconst C (nI 0) dL_draws_84 (by decide) ?_
            refine g_iload C 6 dL_draws_85 rfl ?_
            refine g_cVf C (As := [.int (nI 0), .int (nI m1)]) (v := .int (leftR V (nI 0) (nI m1))) iX9_ifLeft (c_X9_ifLeft l G2 g u113 L112.1 (nI 0) (nI m1)) wd_627 ob_0 rfl ⟨Nat.le_of_ble_eq_true rfl, Nat.le_of_ble_eq_true rfl⟩ ⟨rfl, rfl⟩ rfl (Nat.le_of_ble_eq_true rfl) dL_draws_87 (fun u114 hq => ?_)
            have L115 := ls_fr L112 hq
            refine g_xast C (j := m1) (gx_at x2 (k := 1) (by decide)) (by omega) dL_draws_90 ?_
            have L116 : kLS T V Vs h (cpy (m1 + 1) (crV V) (fun _ => 0)) (cpy (m1 + 1) (fun q => leftR V (nI 0) (nI q)) (fun _ => 0)) (gr u114 155 (upd (u114 155) m1 (leftR V (nI 0) (nI m1)))) := ls_bst L115 (cpy_s rfl)
            generalize gr u114 155 (upd (u114 155) m1 (leftR V (nI 0) (nI m1))) = u117 at L116 ⊢
            refine g_iinc C (v := nI (m1 + 1)) (L2 := [(5, .int (nI (m1 + 1))), (2, .int (nI (fa_cnt (vRR V) (m1 + 1)))), (6, .int (V (38 + 12 * m1))), (0, .ref (gad G2 0)), (1, .int (nI (vN V))), (3, .ref (gad G2 154)), (4, .ref (gad G2 155))]) 6 dL_draws_91 rfl (nI_1 _) (by decide) rfl ?_
            refine g_goto C 16 dL_draws_94 (by decide) ?_
            refine g_loc (L2 := [(0, .ref (gad G2 0)), (1, .int (nI (vN V))), (2, .int (nI (fa_cnt (vRR V) (m1 + 1)))), (3, .ref (gad G2 154)), (4, .ref (gad G2 155)), (5, .int (nI (m1 + 1)))]) [3, 4, 1, 5, 6, 0] rfl ?_
            exact g_eq (ih_16 (m1 + 1) u117 (hm2) (L116) (by omega)) (rfl) (rfl) rfl
          · refine g_iload C 1 dL_draws_62 rfl ?_
            refine g_iconst C (nI 3) dL_draws_64 (by decide) ?_
            refine g_icmp_ne C 76 dL_draws_65 (by decide) (fun c_65 => ?_) (fun c_65 => ?_)
            · refine g_iconst C (nI 0) dL_draws_76 (by decide) ?_
              refine g_isub C dL_draws_77 ?_
              refine g_top (y := crV V m1) (cr_n c_59 c_65) ?_
              refine g_xast C (j := m1) (gx_at x2 (k := 0) (by decide)) (by omega) dL_draws_78 ?_
              have L118 : kLS T V Vs h (cpy (m1 + 1) (crV V) (fun _ => 0)) (cpy m1 (fun q => leftR V (nI 0) (nI q)) (fun _ => 0)) (gr M1 154 (upd (M1 154) m1 (crV V m1))) := ls_ast LM (cpy_s rfl)
              generalize gr M1 154 (upd (M1 154) m1 (crV V m1)) = u119 at L118 ⊢
              refine g_aload C 5 dL_draws_79 rfl ?_
              refine g_iload C 6 dL_draws_81 rfl ?_
              refine g_aload_n C 2 dL_draws_83 rfl ?_
              refine g_iconst C (nI 0) dL_draws_84 (by decide) ?_
              refine g_iload C 6 dL_draws_85 rfl ?_
              refine g_cVf C (As := [.int (nI 0), .int (nI m1)]) (v := .int (leftR V (nI 0) (nI m1))) iX9_ifLeft (c_X9_ifLeft l G2 g u119 L118.1 (nI 0) (nI m1)) wd_627 ob_0 rfl ⟨Nat.le_of_ble_eq_true rfl, Nat.le_of_ble_eq_true rfl⟩ ⟨rfl, rfl⟩ rfl (Nat.le_of_ble_eq_true rfl) dL_draws_87 (fun u120 hq => ?_)
              have L121 := ls_fr L118 hq
              refine g_xast C (j := m1) (gx_at x2 (k := 1) (by decide)) (by omega) dL_draws_90 ?_
              have L122 : kLS T V Vs h (cpy (m1 + 1) (crV V) (fun _ => 0)) (cpy (m1 + 1) (fun q => leftR V (nI 0) (nI q)) (fun _ => 0)) (gr u120 155 (upd (u120 155) m1 (leftR V (nI 0) (nI m1)))) := ls_bst L121 (cpy_s rfl)
              generalize gr u120 155 (upd (u120 155) m1 (leftR V (nI 0) (nI m1))) = u123 at L122 ⊢
              refine g_iinc C (v := nI (m1 + 1)) (L2 := [(5, .int (nI (m1 + 1))), (2, .int (nI (fa_cnt (vRR V) (m1 + 1)))), (6, .int (V (38 + 12 * m1))), (0, .ref (gad G2 0)), (1, .int (nI (vN V))), (3, .ref (gad G2 154)), (4, .ref (gad G2 155))]) 6 dL_draws_91 rfl (nI_1 _) (by decide) rfl ?_
              refine g_goto C 16 dL_draws_94 (by decide) ?_
              refine g_loc (L2 := [(0, .ref (gad G2 0)), (1, .int (nI (vN V))), (2, .int (nI (fa_cnt (vRR V) (m1 + 1)))), (3, .ref (gad G2 154)), (4, .ref (gad G2 155)), (5, .int (nI (m1 + 1)))]) [3, 4, 1, 5, 6, 0] rfl ?_
              exact g_eq (ih_16 (m1 + 1) u123 (hm2) (L122) (by omega)) (rfl) (rfl) rfl
            · refine g_aload_n C 2 dL_draws_68 rfl ?_
              refine g_iconst C (nI 4) dL_draws_69 (by decide) ?_
              refine g_cV1 C (As := [.int (nI 4)]) (w := .int (V 4)) (mem3 := M1) iX9_about (c_X9_about l G2 g M1 LM.1 (nI 4)) wd_401 ob_0 rfl ⟨Nat.le_of_ble_eq_true rfl, Nat.le_of_ble_eq_true rfl⟩ ⟨rfl, rfl⟩ rfl (Nat.le_of_ble_eq_true rfl) dL_draws_70 (congrArg Value.int (about_n (by decide))) (rfl) ?_
              refine g_goto C 77 dL_draws_73 (by decide) ?_
              refine g_isub C dL_draws_77 ?_
              refine g_top (y := crV V m1) (cr_y (Or.inr c_65)) ?_
              refine g_xast C (j := m1) (gx_at x2 (k := 0) (by decide)) (by omega) dL_draws_78 ?_
              have L124 : kLS T V Vs h (cpy (m1 + 1) (crV V) (fun _ => 0)) (cpy m1 (fun q => leftR V (nI 0) (nI q)) (fun _ => 0)) (gr M1 154 (upd (M1 154) m1 (crV V m1))) := ls_ast LM (cpy_s rfl)
              generalize gr M1 154 (upd (M1 154) m1 (crV V m1)) = u125 at L124 ⊢
              refine g_aload C 5 dL_draws_79 rfl ?_
              refine g_iload C 6 dL_draws_81 rfl ?_
              refine g_aload_n C 2 dL_draws_83 rfl ?_
              refine g_iconst C (nI 0) dL_draws_84 (by decide) ?_
              refine g_iload C 6 dL_draws_85 rfl ?_
              refine g_cVf C (As := [.int (nI 0), .int (nI m1)]) (v := .int (leftR V (nI 0) (nI m1))) iX9_ifLeft (c_X9_ifLeft l G2 g u125 L124.1 (nI 0) (nI m1)) wd_627 ob_0 rfl ⟨Nat.le_of_ble_eq_true rfl, Nat.le_of_ble_eq_true rfl⟩ ⟨rfl, rfl⟩ rfl (Nat.le_of_ble_eq_true rfl) dL_draws_87 (fun u126 hq => ?_)
              have L127 := ls_fr L124 hq
              refine g_xast C (j := m1) (gx_at x2 (k := 1) (by decide)) (by omega) dL_draws_90 ?_
              have L128 : kLS T V Vs h (cpy (m1 + 1) (crV V) (fun _ => 0)) (cpy (m1 + 1) (fun q => leftR V (nI 0) (nI q)) (fun _ => 0)) (gr u126 155 (upd (u126 155) m1 (leftR V (nI 0) (nI m1)))) := ls_bst L127 (cpy_s rfl)
              generalize gr u126 155 (upd (u126 155) m1 (leftR V (nI 0) (nI m1))) = u129 at L128 ⊢
              refine g_iinc C (v := nI (m1 + 1)) (L2 := [(5, .int (nI (m1 + 1))), (2, .int (nI (fa_cnt (vRR V) (m1 + 1)))), (6, .int (V (38 + 12 * m1))), (0, .ref (gad G2 0)), (1, .int (nI (vN V))), (3, .ref (gad G2 154)), (4, .ref (gad G2 155))]) 6 dL_draws_91 rfl (nI_1 _) (by decide) rfl ?_
              refine g_goto C 16 dL_draws_94 (by decide) ?_
              refine g_loc (L2 := [(0, .ref (gad G2 0)), (1, .int (nI (vN V))), (2, .int (nI (fa_cnt (vRR V) (m1 + 1)))), (3, .ref (gad G2 154)), (4, .ref (gad G2 155)), (5, .int (nI (m1 + 1)))]) [3, 4, 1, 5, 6, 0] rfl ?_
              exact g_eq (ih_16 (m1 + 1) u129 (hm2) (L128) (by omega)) (rfl) (rfl) rfl
  refine g_loc (L2 := [(0, .ref (gad G2 0)), (1, .int (nI (vN V))), (2, .int (nI 0)), (3, .ref (gad G2 154)), (4, .ref (gad G2 155)), (5, .int (nI 0))]) [4, 5, 3, 2, 1, 0] rfl ?_
  exact g_eq (lp_16 (_ + 1) 0 u85 (Nat.zero_le _) (by rw [cpy_0, cpy_0]; exact L84) (Nat.lt_succ_self _)) (rfl) (gLc rfl (gLc rfl (gLc (congrArg Value.int (rfl)) (rfl)))) rfl
