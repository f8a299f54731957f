def rm_X10_readsGroup : Room := { frames := 1, cells := 0, slots := 0, locals := 22 }
theorem iX10_readsGroup : gIv yX10_readsGroup cX10_readsGroup 4 (some .boolean) 0 := ⟨⟨wd_896, wd_32, by decide +kernel, by decide +kernel, by decide +kernel⟩, wd_895, wd_13⟩
set_option maxRecDepth 100000 in
set_option maxHeartbeats 4000000 in
theorem c_X10_readsGroup (l : Launch) (G : gG) (mem : gM) {tx : Nat → Nat} {tl n p1 : Nat} (hn : mem 155 5 = nI n) (hn10 : n ≤ 10) (tX : TXM tx tl mem) (hp : p1 ≤ tl) (m0 : gM) (rg : RG n tx tl m0 mem p1) (hau : auS n tx p1 = some (false, 0)) (hgs : gsT tx p1 = p1) : gMet l yX10_readsGroup cX10_readsGroup 4 (some .boolean) rm_X10_readsGroup G [.ref (gad G 154)] mem (fun a u => ∃ rr : Int32, a = some (.int rr) ∧ RGP n tx tl m0 u p1 rr) := by
  refine g_of (own := RX10) (L0 := [(0, .ref (gad G 154))]) (by decide +kernel) rfl (Nat.le_of_ble_eq_true rfl) rfl ?_
  intro p e s m args below meth c C Q hQ
  have h60 := tX.2.1
  refine g_aload_n C 0 dX10_readsGroup_0 rfl ?_
  refine g_get_i C ob_154 8 (by decide) rfl wd_711 dX10_readsGroup_1 ?_
  refine g_top (y := nI p1) (rg.1) ?_
  refine g_istore_n C (L2 := [(1, .int (nI p1)), (0, .ref (gad G 154))]) dX10_readsGroup_4 (by decide) rfl ?_
  refine g_iconst C (nI 0) dX10_readsGroup_5 (by decide) ?_
  refine g_istore_n C (L2 := [(2, .int (nI 0)), (1, .int (nI p1)), (0, .ref (gad G 154))]) dX10_readsGroup_6 (by decide) rfl ?_
  have lp_7 : ∀ (fu : Nat) (k : Nat) (M1 : gM), (p1 + k ≤ tl) → (k ≤ 3) → (auS n tx (p1 + k) = some (false, k)) → (gsT tx (p1 + k) = p1) → (RG n tx tl m0 M1 (p1 + k)) → 3 - k < fu → gV p l e rm_X10_readsGroup s m args below meth c 0 0 Q G 4 M1 7 [(0, .ref (gad G 154)), (1, .int (nI p1)), (2, .int (nI (vlT tx p1 k)))] [] := by
    intro fu
    induction fu with
    | zero => intro k M1 _ _ _ _ _ hfu; exact absurd hfu (Nat.not_lt_zero _)
    | succ fu ih_7 =>
      intro k M1 hk hk3 hau1 hgs1 rg1 hfu_7
      have tX1 := rg_txd tX rg rg1
      have h1551 := rg_155 rg rg1
      refine g_aload_n C 0 dX10_readsGroup_7 rfl ?_
      refine g_get_i C ob_154 8 (by decide) rfl wd_711 dX10_readsGroup_8 ?_
      refine g_top (y := nI (p1 + k)) (rg1.1) ?_
      refine g_iload_n C 1 dX10_readsGroup_11 rfl ?_
      refine g_iconst C (nI 3) dX10_readsGroup_12 (by decide) ?_
      refine g_iadd_n C (d := p1 + 3) dX10_readsGroup_13 rfl ?_
      refine g_icmp_ge C 57 dX10_readsGroup_14 (by decide) (fun c_14 => ?_) (fun c_14 => ?_)
      · have hk33 : p1 + 3 ≤ p1 + k := by have q := (nI_leI (a := p1 + 3) (b := p1 + k) (by omega) (by omega)).mp c_14; omega
        have hxe : ¬ (p1 + k < tl ∧ dgN (tx (p1 + k)) ∧ k < 3) := fun q => absurd q.2.2 (by omega)
        refine g_aload_n C 0 dX10_readsGroup_57 rfl ?_
        refine g_get_i C ob_154 8 (by decide) rfl wd_711 dX10_readsGroup_58 ?_
        refine g_top (y := nI (p1 + k)) (rg1.1) ?_
        refine g_iload_n C 1 dX10_readsGroup_61 rfl ?_
        refine g_icmp_eq C 74 dX10_readsGroup_62 (by decide) (fun c_62 => ?_) (fun c_62 => ?_)
        · have hk0 : ¬ 0 < k := by have q := (nI_iff (a := p1 + k) (b := p1) (by omega) (by omega)).mp c_62; omega
          refine g_iconst C (nI 0) dX10_readsGroup_74 (by decide) ?_
          refine g_zret C hQ rfl (Or.inl rfl) dX10_readsGroup_75 ?_
          have hw := sk_f hk hau1 hxe (by first | exact fun q => absurd q.2.2 hk0 | exact fun q => hnc ⟨q.1, q.2.1⟩)
          exact ⟨_, rfl, Or.inl ⟨rfl, _, rg1, hk, hw.1, hw.2⟩⟩
        · have hk0 : 0 < k := by have q : ¬ p1 + k = p1 := fun z => c_62 (congrArg nI z); omega
          refine g_aload_n C 0 dX10_readsGroup_65 rfl ?_
          refine g_cV1 C (As := []) (w := .int (sgI tx tl (p1 + k))) (mem3 := M1) iX10_sign (c_X10_sign l G M1 tX1 (p1 := p1 + k) rg1.1 (by omega)) wd_897 ob_154 rfl ⟨Nat.le_of_ble_eq_true rfl, Nat.le_of_ble_eq_true rfl⟩ ⟨rfl, rfl⟩ rfl (Nat.le_of_ble_eq_true rfl) dX10_readsGroup_66 (rfl) (rfl) ?_
          refine g_bipush C (nI 58) dX10_readsGroup_69 (by decide) ?_
          refine g_icmp_eq C 76 dX10_readsGroup_71 (by decide) (fun c_71 => ?_) (fun c_71 => ?_)
          · have hcol := (sg_eq tX1 (by decide)).mp c_71
            have hnf := nf_col (tl := tl) hn10 hau1 hcol.1 hcol.2
            rw [hgs1] at hnf
            refine g_aload_n C 0 dX10_readsGroup_76 rfl ?_
            refine g_dup C dX10_readsGroup_77 rfl ?_
            refine g_get_i C ob_154 8 (by decide) rfl wd_711 dX10_readsGroup_78 ?_
            refine g_top (y := nI (p1 + k)) (rg1.1) ?_
            refine g_iconst C (nI 1) dX10_readsGroup_81 (by decide) ?_
            refine g_iadd_n C (d := (p1 + k) + 1) dX10_readsGroup_82 rfl ?_
            refine g_put_i C ob_154 8 (by decide) rfl wd_711 rfl rfl dX10_readsGroup_83 ?_
            refine g_aload_n C 0 dX10_readsGroup_86 rfl ?_
            refine g_aload_n C 0 dX10_readsGroup_87 rfl ?_
            refine g_get_i C ob_154 9 (by decide) rfl wd_712 dX10_readsGroup_88 ?_
            refine g_top (y := M1 154 9) (rfl) ?_
            refine g_top (y := wrT tx tl (p1 + k)) (rg1.2.1) ?_
            have jn_109 : gV p l e rm_X10_readsGroup s m args below meth c 0 0 Q G 4 (gr M1 154 (upd (M1 154) 8 (nI ((p1 + k) + 1)))) 109 [(0, .ref (gad G 154)), (1, .int (nI p1)), (2, .int (nI (vlT tx p1 k)))] [.int (wrT tx tl (p1 + k + 1)), .ref (gad G 154)] := by
              refine g_put_i C ob_154 9 (by decide) rfl wd_712 rfl rfl dX10_readsGroup_109 ?_
              refine g_mem (mem2 := gr M1 154 (upd (upd (M1 154) 8 (nI ((p1 + k) + 1))) 9 (wrT tx tl (p1 + k + 1)))) (gr_gr _ _ _ _) ?_
              refine g_aload_n C 0 dX10_readsGroup_112 rfl ?_
              refine g_get_i C ob_154 8 (by decide) rfl wd_711 dX10_readsGroup_113 ?_
              refine g_top (y := nI ((p1 + k) + 1)) (rfl) ?_
              refine g_istore_n C (L2 := [(3, .int (nI ((p1 + k) + 1))), (0, .ref (gad G 154)), (1, .int (nI p1)), (2, .int (nI (vlT tx p1 k)))]) dX10_readsGroup_116 (by decide) rfl ?_
              have lp_117 : ∀ (fu : Nat) (q d : Nat) (M2 : gM), (q ≤ tl) → (q = p1 + k + 1 + d) → (auS n tx q = some (true, d)) → (gsT tx q = p1) → (RG n tx tl m0 M2 q) → tl - q < fu → gV p l e rm_X10_readsGroup s m args below meth c 0 0 Q G 4 M2 117 [(0, .ref (gad G 154)), (1, .int (nI p1)), (2, .int (nI (vlT tx p1 k))), (3, .int (nI (p1 + k + 1)))] [] := by
                intro fu
                induction fu with
                | zero => intro q d M2 _ _ _ _ _ hfu; exact absurd hfu (Nat.not_lt_zero _)
                | succ fu ih_117 =>
                  intro q d M2 hq1 hqp hau2 hgs2 rg2 hfu_117
                  have tX2 := rg_txd tX rg rg2
                  have h1552 := rg_155 rg rg2
                  refine g_aload_n C 0 dX10_readsGroup_117 rfl ?_
                  refine g_cV1 C (As := []) (w := .int (sgI tx tl q)) (mem3 := M2) iX10_sign (c_X10_sign l G M2 tX2 (p1 := q) rg2.1 (by omega)) wd_897 ob_154 rfl ⟨Nat.le_of_ble_eq_true rfl, Nat.le_of_ble_eq_true rfl⟩ ⟨rfl, rfl⟩ rfl (Nat.le_of_ble_eq_true rfl) dX10_readsGroup_118 (rfl) (rfl) ?_
                  refine g_bipush C (nI 48) dX10_readsGroup_121 (by decide) ?_
                  refine g_isub C dX10_readsGroup_123 ?_
                  refine g_iconst C (nI 0) dX10_readsGroup_124 (by decide) ?_
                  refine g_aload_n C 0 dX10_readsGroup_125 rfl ?_
                  refine g_get_r C ob_154 0 (by decide) rfl wd_703 dX10_readsGroup_126 ?_
                  refine g_iconst C (nI 5) dX10_readsGroup_129 (by decide) ?_
                  refine g_iald_n C (j := 5) ar_155 rfl (by omega) (by decide) dX10_readsGroup_130 ?_
                  refine g_top (y := nI n) ((congrFun h1552 5).trans hn) ?_
                  refine g_iconst C (nI 1) dX10_readsGroup_131 (by decide) ?_
                  refine g_isub C dX10_readsGroup_132 ?_
                  refine g_cS1 C (As := [.int ((sgI tx tl q) - (nI 48)), .int (nI 0), .int ((nI n) - (nI 1))]) (w := .int (b2i (q < tl ∧ (48 ≤ tx q ∧ tx q - 48 < n)))) (mem3 := M2) iX10_in (c_X10_in l G M2 ((sgI tx tl q) - (nI 48)) (nI 0) ((nI n) - (nI 1))) wd_771 rfl ⟨Nat.le_of_ble_eq_true rfl, Nat.le_of_ble_eq_true rfl⟩ ⟨rfl, rfl⟩ rfl (Nat.le_of_ble_eq_true rfl) dX10_readsGroup_133 (congrArg Value.int (b2i_congr (sg_mem tX2 hn10))) (rfl) ?_
                  refine g_ifb_eq C 183 dX10_readsGroup_136 (by decide) (fun c_136 => ?_) (fun c_136 => ?_)
                  · refine g_aload_n C 0 dX10_readsGroup_183 rfl ?_
                    refine g_get_i C ob_154 8 (by decide) rfl wd_711 dX10_readsGroup_184 ?_
                    refine g_top (y := nI q) (rg2.1) ?_
                    refine g_iload_n C 3 dX10_readsGroup_187 rfl ?_
                    refine g_icmp_le C 195 dX10_readsGroup_188 (by decide) (fun c_188 => ?_) (fun c_188 => ?_)
                    · have hd0 : ¬ 0 < d := by have z := (nI_leI (a := q) (b := p1 + k + 1) (by omega) (by omega)).mp c_188; omega
                      refine g_iconst C (nI 0) dX10_readsGroup_195 (by decide) ?_
                      refine g_zret C hQ rfl (Or.inl rfl) dX10_readsGroup_196 ?_
                      have hw := sk_t hq1 hau2 c_136 hd0
                      exact ⟨_, rfl, Or.inl ⟨rfl, q, rg2, hq1, hw.1, hw.2⟩⟩
                    · have hd0 : 0 < d := by have z := mt (nI_leI (a := q) (b := p1 + k + 1) (by omega) (by omega)).mpr c_188; omega
                      refine g_iconst C (nI 1) dX10_readsGroup_191 (by decide) ?_
                      refine g_goto C 196 dX10_readsGroup_192 (by decide) ?_
                      refine g_zret C hQ rfl (Or.inr rfl) dX10_readsGroup_196 ?_
                      exact ⟨_, rfl, Or.inr ⟨rfl, q, d, by omega, hq1, hau2, hd0, c_136, rg2⟩⟩
                  · have hlt := c_136.1
                    have hd1 := c_136.2.1
                    have hcb := tX2.2.2 _ hlt
                    refine g_aload_n C 0 dX10_readsGroup_139 rfl ?_
                    refine g_get_r C ob_154 10 (by decide) rfl wd_713 dX10_readsGroup_140 ?_
                    refine g_aload_n C 0 dX10_readsGroup_143 rfl ?_
                    refine g_get_i C ob_154 11 (by decide) rfl wd_714 dX10_readsGroup_144 ?_
                    refine g_top (y := nI ((lsT n tx tl q).length)) (rg2.2.2.1) ?_
                    refine g_bipush C (nI 10) dX10_readsGroup_147 (by decide) ?_
                    refine g_iload_n C 2 dX10_readsGroup_149 rfl ?_
                    refine g_imul_n C (d := 10 * (vlT tx p1 k)) dX10_readsGroup_150 rfl ?_
                    refine g_aload_n C 0 dX10_readsGroup_151 rfl ?_
                    refine g_cV1 C (As := []) (w := .int (sgI tx tl q)) (mem3 := M2) iX10_sign (c_X10_sign l G M2 tX2 (p1 := q) rg2.1 (by omega)) wd_897 ob_154 rfl ⟨Nat.le_of_ble_eq_true rfl, Nat.le_of_ble_eq_true rfl⟩ ⟨rfl, rfl⟩ rfl (Nat.le_of_ble_eq_true rfl) dX10_readsGroup_152 (rfl) (rfl) ?_
                    refine g_top (y := nI (tx q)) (if_pos hlt) ?_
                    refine g_iadd_n C (d := (10 * (vlT tx p1 k)) + (tx q)) dX10_readsGroup_155 rfl ?_
                    refine g_bipush C (nI 48) dX10_readsGroup_156 (by decide) ?_
                    refine g_isub C dX10_readsGroup_158 ?_
                    refine g_top (y := nI (10 * vlT tx p1 k + (tx q - 48))) ((pk_sub (by omega)).trans (congrArg nI (by omega))) ?_
                    refine g_iast_n C (j := (lsT n tx tl q).length) ar_159 rfl (by have z := ls_len (n := n) (tl := tl) (tx := tx) q; omega) (by decide) dX10_readsGroup_159 ?_
                    refine g_aload_n C 0 dX10_readsGroup_160 rfl ?_
                    refine g_dup C dX10_readsGroup_161 rfl ?_
                    refine g_get_i C ob_154 11 (by decide) rfl wd_714 dX10_readsGroup_162 ?_
                    refine g_top (y := M2 154 11) (rfl) ?_
                    refine g_top (y := nI ((lsT n tx tl q).length)) (rg2.2.2.1) ?_
                    refine g_iconst C (nI 1) dX10_readsGroup_165 (by decide) ?_
                    refine g_iadd_n C (d := ((lsT n tx tl q).length) + 1) dX10_readsGroup_166 rfl ?_
                    refine g_put_i C ob_154 11 (by decide) rfl wd_714 rfl rfl dX10_readsGroup_167 ?_
                    refine g_aload_n C 0 dX10_readsGroup_170 rfl ?_
                    refine g_dup C dX10_readsGroup_171 rfl ?_
                    refine g_get_i C ob_154 8 (by decide) rfl wd_711 dX10_readsGroup_172 ?_
                    refine g_top (y := M2 154 8) (rfl) ?_
                    refine g_top (y := nI q) (rg2.1) ?_
                    refine g_iconst C (nI 1) dX10_readsGroup_175 (by decide) ?_
                    refine g_iadd_n C (d := q + 1) dX10_readsGroup_176 rfl ?_
                    refine g_put_i C ob_154 8 (by decide) rfl wd_711 rfl rfl dX10_readsGroup_177 ?_
                    refine g_mem (mem2 := gr (gr M2 159 (upd (M2 159) ((lsT n tx tl q).length) (nI (10 * vlT tx p1 k + (tx q - 48))))) 154 (upd (upd (M2 154) 11 (nI (((lsT n tx tl q).length) + 1))) 8 (nI (q + 1)))) (gr_gr _ _ _ _) ?_
                    refine g_goto C 117 dX10_readsGroup_180 (by decide) ?_
                    exact g_eq (ih_117 (q + 1) (d + 1) (gr (gr M2 159 (upd (M2 159) ((lsT n tx tl q).length) (nI (10 * vlT tx p1 k + (tx q - 48))))) 154 (upd (upd (M2 154) 11 (nI (((lsT n tx tl q).length) + 1))) 8 (nI (q + 1)))) (hlt) (by omega) (by rw [au_s hau2, au_td c_136.2.1 c_136.2.2]) (by rw [gs_n (by omega)]; exact hgs2) (rg_mem rg2 (ls_y hau2 c_136.2.1 c_136.2.2) (wr_no (gb_n (by omega))) (by rw [hgs2, hnf.1])) (by omega)) (rfl) (rfl) rfl
              refine g_loc (L2 := [(0, .ref (gad G 154)), (1, .int (nI p1)), (2, .int (nI (vlT tx p1 k))), (3, .int (nI ((p1 + k) + 1)))]) [1, 2, 3, 0] rfl ?_
              exact g_eq (lp_117 (_ + 1) (p1 + k + 1) 0 (gr M1 154 (upd (upd (M1 154) 8 (nI ((p1 + k) + 1))) 9 (wrT tx tl (p1 + k + 1)))) (hcol.1) (rfl) (by rw [au_s hau1, au_fs hcol.2 hk0]) (by rw [gs_n (by omega)]; exact hgs1) (rg_col rg1 (ls_f hau1)) (Nat.lt_succ_self _)) (rfl) (rfl) rfl
            refine g_if_ge C 105 dX10_readsGroup_91 (by decide) (fun c_91 => ?_) (fun c_91 => ?_)
            · have hwr : wrT tx tl (p1 + k + 1) = wrT tx tl (p1 + k) := wr_keep (Classical.not_not.mp (mt (wr_neg (by omega)).mpr (Int32.not_lt.mpr c_91)))
              refine g_aload_n C 0 dX10_readsGroup_105 rfl ?_
              refine g_get_i C ob_154 9 (by decide) rfl wd_712 dX10_readsGroup_106 ?_
              refine g_top (y := M1 154 9) (rfl) ?_
              refine g_top (y := wrT tx tl (p1 + k + 1)) (rg1.2.1.trans hwr.symm) ?_
              exact g_eq (jn_109  ) (rfl) (rfl) (rfl)
            · have hwn := (wr_neg (by omega)).mp (Int32.not_le.mp c_91)
              refine g_iload_n C 2 dX10_readsGroup_94 rfl ?_
              refine g_sipush C (nI 199) dX10_readsGroup_95 (by decide) ?_
              refine g_icmp_le C 105 dX10_readsGroup_98 (by decide) (fun c_98 => ?_) (fun c_98 => ?_)
              · have hwr : wrT tx tl (p1 + k + 1) = wrT tx tl (p1 + k) := wr_no (decide_eq_false fun q => absurd ((nI_leI (by omega) (by decide)).mp c_98) (by rw [← hnf.1]; have := q.2; rw [hgs1] at this; omega))
                refine g_aload_n C 0 dX10_readsGroup_105 rfl ?_
                refine g_get_i C ob_154 9 (by decide) rfl wd_712 dX10_readsGroup_106 ?_
                refine g_top (y := M1 154 9) (rfl) ?_
                refine g_top (y := wrT tx tl (p1 + k + 1)) (rg1.2.1.trans hwr.symm) ?_
                exact g_eq (jn_109  ) (rfl) (rfl) (rfl)
              · have hwr : nI p1 = wrT tx tl (p1 + k + 1) := by rw [wr_new hwn (decide_eq_true ⟨hcol.2, by have q := mt (nI_leI (a := vlT tx p1 k) (b := 199) (by omega) (by decide)).mpr c_98; rw [hgs1, hnf.1]; omega⟩), hgs1]
                refine g_iload_n C 1 dX10_readsGroup_101 rfl ?_
                refine g_top (y := wrT tx tl (p1 + k + 1)) (hwr) ?_
                refine g_goto C 109 dX10_readsGroup_102 (by decide) ?_
                exact g_eq (jn_109  ) (rfl) (rfl) (rfl)
          · have hnc := mt (sg_eq tX1 (by decide)).mpr c_71
            refine g_iconst C (nI 0) dX10_readsGroup_74 (by decide) ?_
            refine g_zret C hQ rfl (Or.inl rfl) dX10_readsGroup_75 ?_
            have hw := sk_f hk hau1 hxe (by first | exact fun q => absurd q.2.2 hk0 | exact fun q => hnc ⟨q.1, q.2.1⟩)
            exact ⟨_, rfl, Or.inl ⟨rfl, _, rg1, hk, hw.1, hw.2⟩⟩
      · have hk33 : p1 + k < p1 + 3 := by have q := mt (nI_leI (a := p1 + 3) (b := p1 + k) (by omega) (by omega)).mpr c_14; omega
        refine g_aload_n C 0 dX10_readsGroup_17 rfl ?_
        refine g_cV1 C (As := []) (w := .int (sgI tx tl (p1 + k))) (mem3 := M1) iX10_sign (c_X10_sign l G M1 tX1 (p1 := p1 + k) rg1.1 (by omega)) wd_897 ob_154 rfl ⟨Nat.le_of_ble_eq_true rfl, Nat.le_of_ble_eq_true rfl⟩ ⟨rfl, rfl⟩ rfl (Nat.le_of_ble_eq_true rfl) dX10_readsGroup_18 (rfl) (rfl) ?_
        refine g_bipush C (nI 48) dX10_readsGroup_21 (by decide) ?_
        refine g_bipush C (nI 57) dX10_readsGroup_23 (by decide) ?_
        refine g_cS1 C (As := [.int (sgI tx tl (p1 + k)), .int (nI 48), .int (nI 57)]) (w := .int (b2i (p1 + k < tl ∧ dgN (tx (p1 + k))))) (mem3 := M1) iX10_in (c_X10_in l G M1 (sgI tx tl (p1 + k)) (nI 48) (nI 57)) wd_771 rfl ⟨Nat.le_of_ble_eq_true rfl, Nat.le_of_ble_eq_true rfl⟩ ⟨rfl, rfl⟩ rfl (Nat.le_of_ble_eq_true rfl) dX10_readsGroup_25 (congrArg Value.int (b2i_congr (sg_dg tX1))) (rfl) ?_
        refine g_ifb_eq C 57 dX10_readsGroup_28 (by decide) (fun c_28 => ?_) (fun c_28 => ?_)
        · have hxe : ¬ (p1 + k < tl ∧ dgN (tx (p1 + k)) ∧ k < 3) := fun q => c_28 ⟨q.1, q.2.1⟩
          refine g_aload_n C 0 dX10_readsGroup_57 rfl ?_
          refine g_get_i C ob_154 8 (by decide) rfl wd_711 dX10_readsGroup_58 ?_
          refine g_top (y := nI (p1 + k)) (rg1.1) ?_
          refine g_iload_n C 1 dX10_readsGroup_61 rfl ?_
          refine g_icmp_eq C 74 dX10_readsGroup_62 (by decide) (fun c_62 => ?_) (fun c_62 => ?_)
          · have hk0 : ¬ 0 < k := by have q := (nI_iff (a := p1 + k) (b := p1) (by omega) (by omega)).mp c_62; omega
            refine g_iconst C (nI 0) dX10_readsGroup_74 (by decide) ?_
            refine g_zret C hQ rfl (Or.inl rfl) dX10_readsGroup_75 ?_
            have hw := sk_f hk hau1 hxe (by first | exact fun q => absurd q.2.2 hk0 | exact fun q => hnc ⟨q.1, q.2.1⟩)
            exact ⟨_, rfl, Or.inl ⟨rfl, _, rg1, hk, hw.1, hw.2⟩⟩
          · have hk0 : 0 < k := by have q : ¬ p1 + k = p1 := fun z => c_62 (congrArg nI z); omega
            refine g_aload_n C 0 dX10_readsGroup_65 rfl ?_
            refine g_cV1 C (As := []) (w := .int (sgI tx tl (p1 + k))) (mem3 := M1) iX10_sign (c_X10_sign l G M1 tX1 (p1 := p1 + k) rg1.1 (by omega)) wd_897 ob_154 rfl ⟨Nat.le_of_ble_eq_true rfl, Nat.le_of_ble_eq_true rfl⟩ ⟨rfl, rfl⟩ rfl (Nat.le_of_ble_eq_true rfl) dX10_readsGroup_66 (rfl) (rfl) ?_
            refine g_bipush C (nI 58) dX10_readsGroup_69 (by decide) ?_
            refine g_icmp_eq C 76 dX10_readsGroup_71 (by decide) (fun c_71 => ?_) (fun c_71 => ?_)
            · have hcol := (sg_eq tX1 (by decide)).mp c_71
              have hnf := nf_col (tl := tl) hn10 hau1 hcol.1 hcol.2
              rw [hgs1] at hnf
              refine g_aload_n C 0 dX10_readsGroup_76 rfl ?_
              refine g_dup C dX10_readsGroup_77 rfl ?_
              refine g_get_i C ob_154 8 (by decide) rfl wd_711 dX10_readsGroup_78 ?_
              refine g_top (y := nI (p1 + k)) (rg1.1) ?_
              refine g_iconst C (nI 1) dX10_readsGroup_81 (by decide) ?_
              refine g_iadd_n C (d := (p1 + k) + 1) dX10_readsGroup_82 rfl ?_
              refine g_put_i C ob_154 8 (by decide) rfl wd_711 rfl rfl dX10_readsGroup_83 ?_
              refine g_aload_n C 0 dX10_readsGroup_86 rfl ?_
              refine g_aload_n C 0 dX10_readsGroup_87 rfl ?_
              refine g_get_i C ob_154 9 (by decide) rfl wd_712 dX10_readsGroup_88 ?_
              refine g_top (y := M1 154 9) (rfl) ?_
              refine g_top (y := wrT tx tl (p1 + k)) (rg1.2.1) ?_
              have jn_109 : gV p l e rm_X10_readsGroup s m args below meth c 0 0 Q G 4 (gr M1 154 (upd (M1 154) 8 (nI ((p1 + k) + 1)))) 109 [(0, .ref (gad G 154)), (1, .int (nI p1)), (2, .int (nI (vlT tx p1 k)))] [.int (wrT tx tl (p1 + k + 1)), .ref (gad G 154)] := by
                refine g_put_i C ob_154 9 (by decide) rfl wd_712 rfl rfl dX10_readsGroup_109 ?_
                refine g_mem (mem2 := gr M1 154 (upd (upd (M1 154) 8 (nI ((p1 + k) + 1))) 9 (wrT tx tl (p1 + k + 1)))) (gr_gr _ _ _ _) ?_
                refine g_aload_n C 0 dX10_readsGroup_112 rfl ?_
                refine g_get_i C ob_154 8 (by decide) rfl wd_711 dX10_readsGroup_113 ?_
                refine g_top (y := nI ((p1 + k) + 1)) (rfl) ?_
                refine g_istore_n C (L2 := [(3, .int (nI ((p1 + k) + 1))), (0, .ref (gad G 154)), (1, .int (nI p1)), (2, .int (nI (vlT tx p1 k)))]) dX10_readsGroup_116 (by decide) rfl ?_
                have lp_117 : ∀ (fu : Nat) (q d : Nat) (M2 : gM), (q ≤ tl) → (q = p1 + k + 1 + d) → (auS n tx q = some (true, d)) → (gsT tx q = p1) → (RG n tx tl m0 M2 q) → tl - q < fu → gV p l e rm_X10_readsGroup s m args below meth c 0 0 Q G 4 M2 117 [(0, .ref (gad G 154)), (1, .int (nI p1)), (2, .int (nI (vlT tx p1 k))), (3, .int (nI (p1 + k + 1)))] [] := by
                  intro fu
                  induction fu with
                  | zero => intro q d M2 _ _ _ _ _ hfu; exact absurd hfu (Nat.not_lt_zero _)
                  | succ fu ih_117 =>
                    intro q d M2 hq1 hqp hau2 hgs2 rg2 hfu_117
                    have tX2 := rg_txd tX rg rg2
                    have h1552 := rg_155 rg rg2
                    refine g_aload_n C 0 dX10_readsGroup_117 rfl ?_
                    refine g_cV1 C (As := []) (w := .int (sgI tx tl q)) (mem3 := M2) iX10_sign (c_X10_sign l G M2 tX2 (p1 := q) rg2.1 (by omega)) wd_897 ob_154 rfl ⟨Nat.le_of_ble_eq_true rfl, Nat.le_of_ble_eq_true rfl⟩ ⟨rfl, rfl⟩ rfl (Nat.le_of_ble_eq_true rfl) dX10_readsGroup_118 (rfl) (rfl) ?_
                    refine g_bipush C (nI 48) dX10_readsGroup_121 (by decide) ?_
                    refine g_isub C dX10_readsGroup_123 ?_
                    refine g_iconst C (nI 0) dX10_readsGroup_124 (by decide) ?_
                    refine g_aload_n C 0 dX10_readsGroup_125 rfl ?_
                    refine g_get_r C ob_154 0 (by decide) rfl wd_703 dX10_readsGroup_126 ?_
                    refine g_iconst C (nI 5) dX10_readsGroup_129 (by decide) ?_
                    refine g_iald_n C (j := 5) ar_155 rfl (by omega) (by decide) dX10_readsGroup_130 ?_
                    refine g_top (y := nI n) ((congrFun h1552 5).trans hn) ?_
                    refine g_iconst C (nI 1) dX10_readsGroup_131 (by decide) ?_
                    refine g_isub C dX10_readsGroup_132 ?_
                    refine g_cS1 C (As := [.int ((sgI tx tl q) - (nI 48)), .int (nI 0), .int ((nI n) - (nI 1))]) (w := .int (b2i (q < tl ∧ (48 ≤ tx q ∧ tx q - 48 < n)))) (mem3 := M2) iX10_in (c_X10_in l G M2 ((sgI tx tl q) - (nI 48)) (nI 0) ((nI n) - (nI 1))) wd_771 rfl ⟨Nat.le_of_ble_eq_true rfl, Nat.le_of_ble_eq_true rfl⟩ ⟨rfl, rfl⟩ rfl (Nat.le_of_ble_eq_true rfl) dX10_readsGroup_133 (congrArg Value.int (b2i_congr (sg_mem tX2 hn10))) (rfl) ?_
                    refine g_ifb_eq C 183 dX10_readsGroup_136 (by decide) (fun c_136 => ?_) (fun c_136 => ?_)
                    · refine g_aload_n C 0 dX10_readsGroup_183 rfl ?_
                      refine g_get_i C ob_154 8 (by decide) rfl wd_711 dX10_readsGroup_184 ?_
                      refine g_top (y := nI q) (rg2.1) ?_
                      refine g_iload_n C 3 dX10_readsGroup_187 rfl ?_
                      refine g_icmp_le C 195 dX10_readsGroup_188 (by decide) (fun c_188 => ?_) (fun c_188 => ?_)
                      · have hd0 : ¬ 0 < d := by have z := (nI_leI (a := q) (b := p1 + k + 1) (by omega) (by omega)).mp c_188; omega
                        refine g_iconst C (nI 0) dX10_readsGroup_195 (by decide) ?_
                        refine g_zret C hQ rfl (Or.inl rfl) dX10_readsGroup_196 ?_
                        have hw := sk_t hq1 hau2 c_136 hd0
                        exact ⟨_, rfl, Or.inl ⟨rfl, q, rg2, hq1, hw.1, hw.2⟩⟩
                      · have hd0 : 0 < d := by have z := mt (nI_leI (a := q) (b := p1 + k + 1) (by omega) (by omega)).mpr c_188; omega
                        refine g_iconst C (nI 1) dX10_readsGroup_191 (by decide) ?_
                        refine g_goto C 196 dX10_readsGroup_192 (by decide) ?_
                        refine g_zret C hQ rfl (Or.inr rfl) dX10_readsGroup_196 ?_
                        exact ⟨_, rfl, Or.inr ⟨rfl, q, d, by omega, hq1, hau2, hd0, c_136, rg2⟩⟩
                    · have hlt := c_136.1
                      have hd1 := c_136.2.1
                      have hcb := tX2.2.2 _ hlt
                      refine g_aload_n C 0 dX10_readsGroup_139 rfl ?_
                      refine g_get_r C ob_154 10 (by decide) rfl wd_713 dX10_readsGroup_140 ?_
                      refine g_aload_n C 0 dX10_readsGroup_143 rfl ?_
                      refine g_get_i C ob_154 11 (by decide) rfl wd_714 dX10_readsGroup_144 ?_
                      refine g_top (y := nI ((lsT n tx tl q).length)) (rg2.2.2.1) ?_
                      refine g_bipush C (nI 10) dX10_readsGroup_147 (by decide) ?_
                      refine g_iload_n C 2 dX10_readsGroup_149 rfl ?_
                      refine g_imul_n C (d := 10 * (vlT tx p1 k)) dX10_readsGroup_150 rfl ?_
                      refine g_aload_n C 0 dX10_readsGroup_151 rfl ?_
                      refine g_cV1 C (As := []) (w := .int (sgI tx tl q)) (mem3 := M2) iX10_sign (c_X10_sign l G M2 tX2 (p1 := q) rg2.1 (by omega)) wd_897 ob_154 rfl ⟨Nat.le_of_ble_eq_true rfl, Nat.le_of_ble_eq_true rfl⟩ ⟨rfl, rfl⟩ rfl (Nat.le_of_ble_eq_true rfl) dX10_readsGroup_152 (rfl) (rfl) ?_
                      refine g_top (y := nI (tx q)) (if_pos hlt) ?_
                      refine g_iadd_n C (d := (10 * (vlT tx p1 k)) + (tx q)) dX10_readsGroup_155 rfl ?_
                      refine g_bipush C (nI 48) dX10_readsGroup_156 (by decide) ?_
                      refine g_isub C dX10_readsGroup_158 ?_
                      refine g_top (y := nI (10 * vlT tx p1 k + (tx q - 48))) ((pk_sub (by omega)).trans (congrArg nI (by omega))) ?_
                      refine g_iast_n C (j := (lsT n tx tl q).length) ar_159 rfl (by have z := ls_len (n := n) (tl := tl) (tx := tx) q; omega) (by decide) dX10_readsGroup_159 ?_
                      refine g_aload_n C 0 dX10_readsGroup_160 rfl ?_
                      refine g_dup C dX10_readsGroup_161 rfl ?_
                      refine g_get_i C ob_154 11 (by decide) rfl wd_714 dX10_readsGroup_162 ?_
                      refine g_top (y := M2 154 11) (rfl) ?_
                      refine g_top (y := nI ((lsT n tx tl q).length)) (rg2.2.2.1) ?_
                      refine g_iconst C (nI 1) dX10_readsGroup_165 (by decide) ?_
                      refine g_iadd_n C (d := ((lsT n tx tl q).length) + 1) dX10_readsGroup_166 rfl ?_
                      refine g_put_i C ob_154 11 (by decide) rfl wd_714 rfl rfl dX10_readsGroup_167 ?_
                      refine g_aload_n C 0 dX10_readsGroup_170 rfl ?_
                      refine g_dup C dX10_readsGroup_171 rfl ?_
                      refine g_get_i C ob_154 8 (by decide) rfl wd_711 dX10_readsGroup_172 ?_
                      refine g_top (y := M2 154 8) (rfl) ?_
                      refine g_top (y := nI q) (rg2.1) ?_
                      refine g_iconst C (nI 1) dX10_readsGroup_175 (by decide) ?_
                      refine g_iadd_n C (d := q + 1) dX10_readsGroup_176 rfl ?_
                      refine g_put_i C ob_154 8 (by decide) rfl wd_711 rfl rfl dX10_readsGroup_177 ?_
                      refine g_mem (mem2 := gr (gr M2 159 (upd (M2 159) ((lsT n tx tl q).length) (nI (10 * vlT tx p1 k + (tx q - 48))))) 154 (upd (upd (M2 154) 11 (nI (((lsT n tx tl q).length) + 1))) 8 (nI (q + 1)))) (gr_gr _ _ _ _) ?_
                      refine g_goto C 117 dX10_readsGroup_180 (by decide) ?_
                      exact g_eq (ih_117 (q + 1) (d + 1) (gr (gr M2 159 (upd (M2 159) ((lsT n tx tl q).length) (nI (10 * vlT tx p1 k + (tx q - 48))))) 154 (upd (upd (M2 154) 11 (nI (((lsT n tx tl q).length) + 1))) 8 (nI (q + 1)))) (hlt) (by omega) (by rw [au_s hau2, au_td c_136.2.1 c_136.2.2]) (by rw [gs_n (by omega)]; exact hgs2) (rg_mem rg2 (ls_y hau2 c_136.2.1 c_136.2.2) (wr_no (gb_n (by omega))) (by rw [hgs2, hnf.1])) (by omega)) (rfl) (rfl) rfl
                refine g_loc (L2 := [(0, .ref (gad G 154)), (1, .int (nI p1)), (2, .int (nI (vlT tx p1 k))), (3, .int (nI ((p1 + k) + 1)))]) [1, 2, 3, 0] rfl ?_
                exact g_eq (lp_117 (_ + 1) (p1 + k + 1) 0 (gr M1 154 (upd (upd (M1 154) 8 (nI ((p1 + k) + 1))) 9 (wrT tx tl (p1 + k + 1)))) (hcol.1) (rfl) (by rw [au_s hau1, au_fs hcol.2 hk0]) (by rw [gs_n (by omega)]; exact hgs1) (rg_col rg1 (ls_f hau1)) (Nat.lt_succ_self _)) (rfl) (rfl) rfl
              refine g_if_ge C 105 dX10_readsGroup_91 (by decide) (fun c_91 => ?_) (fun c_91 => ?_)
              · have hwr : wrT tx tl (p1 + k + 1) = wrT tx tl (p1 + k) := wr_keep (Classical.not_not.mp (mt (wr_neg (by omega)).mpr (Int32.not_lt.mpr c_91)))
                refine g_aload_n C 0 dX10_readsGroup_105 rfl ?_
                refine g_get_i C ob_154 9 (by decide) rfl wd_712 dX10_readsGroup_106 ?_
                refine g_top (y := M1 154 9) (rfl) ?_
                refine g_top (y := wrT tx tl (p1 + k + 1)) (rg1.2.1.trans hwr.symm) ?_
                exact g_eq (jn_109  ) (rfl) (rfl) (rfl)
              · have hwn := (wr_neg (by omega)).mp (Int32.not_le.mp c_91)
                refine g_iload_n C 2 dX10_readsGroup_94 rfl ?_
                refine g_sipush C (nI 199) dX10_readsGroup_95 (by decide) ?_
                refine g_icmp_le C 105 dX10_readsGroup_98 (by decide) (fun c_98 => ?_) (fun c_98 => ?_)
                · have hwr : wrT tx tl (p1 + k + 1) = wrT tx tl (p1 + k) := wr_no (decide_eq_false fun q => absurd ((nI_leI (by omega) (by decide)).mp c_98) (by rw [← hnf.1]; have := q.2; rw [hgs1] at this; omega))
                  refine g_aload_n C 0 dX10_readsGroup_105 rfl ?_
                  refine g_get_i C ob_154 9 (by decide) rfl wd_712 dX10_readsGroup_106 ?_
                  refine g_top (y := M1 154 9) (rfl) ?_
                  refine g_top (y := wrT tx tl (p1 + k + 1)) (rg1.2.1.trans hwr.symm) ?_
                  exact g_eq (jn_109  ) (rfl) (rfl) (rfl)
                · have hwr : nI p1 = wrT tx tl (p1 + k + 1) := by rw [wr_new hwn (decide_eq_true ⟨hcol.2, by have q := mt (nI_leI (a := vlT tx p1 k) (b := 199) (by omega) (by decide)).mpr c_98; rw [hgs1, hnf.1]; omega⟩), hgs1]
                  refine g_iload_n C 1 dX10_readsGroup_101 rfl ?_
                  refine g_top (y := wrT tx tl (p1 + k + 1)) (hwr) ?_
                  refine g_goto C 109 dX10_readsGroup_102 (by decide) ?_
                  exact g_eq (jn_109  ) (rfl) (rfl) (rfl)
            · have hnc := mt (sg_eq tX1 (by decide)).mpr c_71
              refine g_iconst C (nI 0) dX10_readsGroup_74 (by decide) ?_
              refine g_zret C hQ rfl (Or.inl rfl) dX10_readsGroup_75 ?_
              have hw := sk_f hk hau1 hxe (by first | exact fun q => absurd q.2.2 hk0 | exact fun q => hnc ⟨q.1, q.2.1⟩)
              exact ⟨_, rfl, Or.inl ⟨rfl, _, rg1, hk, hw.1, hw.2⟩⟩
        · have hlt := c_28.1
          have hd1 := c_28.2.1
          have hd2 := c_28.2.2
          have hcb := tX1.2.2 _ hlt
          refine g_bipush C (nI 10) dX10_readsGroup_31 (by decide) ?_
          refine g_iload_n C 2 dX10_readsGroup_33 rfl ?_
          refine g_imul_n C (d := 10 * (vlT tx p1 k)) dX10_readsGroup_34 rfl ?_
          refine g_aload_n C 0 dX10_readsGroup_35 rfl ?_
          refine g_cV1 C (As := []) (w := .int (sgI tx tl (p1 + k))) (mem3 := M1) iX10_sign (c_X10_sign l G M1 tX1 (p1 := p1 + k) rg1.1 (by omega)) wd_897 ob_154 rfl ⟨Nat.le_of_ble_eq_true rfl, Nat.le_of_ble_eq_true rfl⟩ ⟨rfl, rfl⟩ rfl (Nat.le_of_ble_eq_true rfl) dX10_readsGroup_36 (rfl) (rfl) ?_
          refine g_top (y := nI (tx (p1 + k))) (if_pos hlt) ?_
          refine g_iadd_n C (d := (10 * (vlT tx p1 k)) + (tx (p1 + k))) dX10_readsGroup_39 rfl ?_
          refine g_bipush C (nI 48) dX10_readsGroup_40 (by decide) ?_
          refine g_isub C dX10_readsGroup_42 ?_
          refine g_top (y := nI (10 * vlT tx p1 k + (tx (p1 + k) - 48))) ((pk_sub (by omega)).trans (congrArg nI (by omega))) ?_
          refine g_istore_n C (L2 := [(2, .int (nI (10 * vlT tx p1 k + (tx (p1 + k) - 48)))), (0, .ref (gad G 154)), (1, .int (nI p1))]) dX10_readsGroup_43 (by decide) rfl ?_
          refine g_aload_n C 1 dX10_readsGroup_44 rfl ?_
          refine g_dup C dX10_readsGroup_45 rfl ?_
          refine g_get_i C ob_154 8 (by decide) rfl wd_711 dX10_readsGroup_46 ?_
          refine g_top (y := nI (p1 + k)) (rg1.1) ?_
          refine g_iconst C (nI 1) dX10_readsGroup_49 (by decide) ?_
          refine g_iadd_n C (d := (p1 + k) + 1) dX10_readsGroup_50 rfl ?_
          refine g_put_i C ob_154 8 (by decide) rfl wd_711 rfl rfl dX10_readsGroup_51 ?_
          refine g_goto C 7 dX10_readsGroup_54 (by decide) ?_
          refine g_loc (L2 := [(0, .ref (gad G 154)), (1, .int (nI p1)), (2, .int (nI (10 * vlT tx p1 k + (tx (p1 + k) - 48))))]) [1, 2, 0] rfl ?_
          exact g_eq (ih_7 (k + 1) (gr M1 154 (upd (M1 154) 8 (nI ((p1 + k) + 1)))) (hlt) (by omega) (by rw [← Nat.add_assoc, au_s hau1, au_fd c_28.2 (by omega)]) (by rw [← Nat.add_assoc, gs_n (by omega)]; exact hgs1) (rg_pl rg1 (ls_f hau1) (wr_no (gb_n (by omega)))) (by omega)) (rfl) (gLc rfl (gLc rfl (gLc (congrArg Value.int (rfl)) (rfl)))) rfl
  refine g_loc (L2 := [(0, .ref (gad G 154)), (1, .int (nI p1)), (2, .int (nI 0))]) [2, 1, 0] rfl ?_
  exact g_eq (lp_7 (_ + 1) 0 mem (hp) (by decide) (hau) (hgs) (rg) (Nat.lt_succ_self _)) (rfl) (gLc rfl (gLc rfl (gLc (congrArg Value.int (rfl)) (rfl)))) rfl
