/-! the law's fails: calls that return errors change nothing -/
theorem nmem (V : Nat → Int32) : ¬ memP V (nI (vN V)) := fun q => Int32.lt_irrefl q.2
theorem kBad_ne : ¬ (0 ≤ (-1 : Int32)) := by decide

theorem lg_self (x : Int64) : lg_cmp x x = 0 := by unfold lg_cmp; simp

def rm_L_fails : Room := { frames := 6, cells := 0, slots := 0, locals := 150 }
theorem iL_fails : gIs yL_fails cL_fails 5 (some .boolean) 2 := ⟨⟨wd_620, wd_3, by decide +kernel, by decide +kernel, by decide +kernel⟩, wd_619⟩
set_option maxRecDepth 100000 in
set_option maxHeartbeats 4000000 in
theorem c_L_fails (l : Launch) (G : gG) {T : Nat} {V : Nat → Int32} {Vs : Nat → Nat → Int32} {h : Nat} {A B : Nat → Int32} (g : Good T V) (mem : gM) (L : kLS T V Vs h A B mem) (hT : T < 2 ^ 20) : gMet l yL_fails cL_fails 5 (some .boolean) rm_L_fails G [.ref (gad G 0), .int (nI (vN V))] mem (fun a u => a = some (.int (nI 1)) ∧ kLS T V Vs h A B u) := by
  refine g_of (own := RL) (L0 := [(0, .ref (gad G 0)), (1, .int (nI (vN V)))]) (by decide +kernel) rfl (Nat.le_of_ble_eq_true rfl) rfl ?_
  intro p e s m args below meth c C Q hQ
  have hn10 := gd_n10 g
  have hzn := (gd_z g).2
  refine g_aload_n C 0 dL_fails_0 rfl ?_
  refine g_cV1 C (As := []) (w := .long (fpR V)) (mem3 := mem) iX9_fingerprint (c_X9_fingerprint l G g mem L.1 hT) wd_580 ob_0 rfl ⟨Nat.le_of_ble_eq_true rfl, Nat.le_of_ble_eq_true rfl⟩ ⟨rfl, rfl⟩ rfl (Nat.le_of_ble_eq_true rfl) dL_fails_1 (rfl) (rfl) ?_
  refine g_lstore_n C (L2 := [(2, .long (fpR V)), (0, .ref (gad G 0)), (1, .int (nI (vN V)))]) dL_fails_4 (by decide) rfl ?_
  refine g_aload_n C 1 dL_fails_5 rfl ?_
  refine g_iconst C (nI 0) dL_fails_6 (by decide) ?_
  refine g_iconst C (nI 0) dL_fails_7 (by decide) ?_
  refine g_cVr C (As := [.int (nI 0), .int (nI 0)]) iX9_join (c_X9_join l G g mem L.1 L.2.1.choose_spec (nI 0) (nI 0)) wd_295 ob_0 rfl ⟨Nat.le_of_ble_eq_true rfl, Nat.le_of_ble_eq_true rfl⟩ ⟨rfl, rfl⟩ rfl (Nat.le_of_ble_eq_true rfl) dL_fails_8 (fun r4 u1 hq => ?_)
  obtain ⟨e3, L2⟩ := ax_no L hq (fun q => absurd q.1.1.1 (by decide))
  have e3 : r4 = kBad := e3.trans (if_neg (fun q => absurd q.1.1 (by decide)))
  subst e3
  refine g_ldc C wd_621 dL_fails_11 ?_
  refine g_icmp_ne_f C 208 (rfl) dL_fails_13 (by decide) ?_
  refine g_aload_n C 1 dL_fails_16 rfl ?_
  refine g_bipush C (nI 10) dL_fails_17 (by decide) ?_
  refine g_iconst C (nI 0) dL_fails_19 (by decide) ?_
  refine g_cVr C (As := [.int (nI 10), .int (nI 0)]) iX9_join (c_X9_join l G g u1 L2.1 L2.2.1.choose_spec (nI 10) (nI 0)) wd_295 ob_0 rfl ⟨Nat.le_of_ble_eq_true rfl, Nat.le_of_ble_eq_true rfl⟩ ⟨rfl, rfl⟩ rfl (Nat.le_of_ble_eq_true rfl) dL_fails_20 (fun r8 u5 hq => ?_)
  obtain ⟨e7, L6⟩ := ax_no L2 hq (fun q => absurd q.1.1.2 (by decide))
  have e7 : r8 = kBad := e7.trans (if_neg (fun q => absurd q.1.2 (by decide)))
  subst e7
  refine g_ldc C wd_621 dL_fails_23 ?_
  refine g_icmp_ne_f C 208 (rfl) dL_fails_25 (by decide) ?_
  refine g_aload_n C 1 dL_fails_28 rfl ?_
  refine g_iconst C (nI 1) dL_fails_29 (by decide) ?_
  refine g_sipush C (nI 1001) dL_fails_30 (by decide) ?_
  refine g_cVr C (As := [.int (nI 1), .int (nI 1001)]) iX9_join (c_X9_join l G g u5 L6.1 L6.2.1.choose_spec (nI 1) (nI 1001)) wd_295 ob_0 rfl ⟨Nat.le_of_ble_eq_true rfl, Nat.le_of_ble_eq_true rfl⟩ ⟨rfl, rfl⟩ rfl (Nat.le_of_ble_eq_true rfl) dL_fails_33 (fun r12 u9 hq => ?_)
  obtain ⟨e11, L10⟩ := ax_no L6 hq (fun q => absurd q.1.2.2 (by decide))
  have e11 : r12 = kBad := e11.trans (if_neg (fun q => absurd q.2.2 (by decide)))
  subst e11
  refine g_ldc C wd_621 dL_fails_36 ?_
  refine g_icmp_ne_f C 208 (rfl) dL_fails_38 (by decide) ?_
  refine g_aload_n C 1 dL_fails_41 rfl ?_
  refine g_iload_n C 2 dL_fails_42 rfl ?_
  refine g_iconst C (nI 0) dL_fails_43 (by decide) ?_
  refine g_iconst C (nI 1) dL_fails_44 (by decide) ?_
  refine g_cVr C (As := [.int (nI (vN V)), .int (nI 0), .int (nI 1)]) iX9_change (c_X9_change l G g u9 L10.1 L10.2.1.choose_spec (nI (vN V)) (nI 0) (nI 1)) wd_622 ob_0 rfl ⟨Nat.le_of_ble_eq_true rfl, Nat.le_of_ble_eq_true rfl⟩ ⟨rfl, rfl⟩ rfl (Nat.le_of_ble_eq_true rfl) dL_fails_45 (fun r16 u13 hq => ?_)
  obtain ⟨e15, L14⟩ := ax_no L10 hq (fun q => nmem V q.1)
  have e15 : r16 = kBad := e15.trans (rfl)
  subst e15
  refine g_ldc C wd_621 dL_fails_48 ?_
  refine g_icmp_ne_f C 208 (rfl) dL_fails_50 (by decide) ?_
  refine g_aload_n C 1 dL_fails_53 rfl ?_
  refine g_iconst C (nI 0) dL_fails_54 (by decide) ?_
  refine g_iconst C (nI 2) dL_fails_55 (by decide) ?_
  refine g_iconst C (nI 1) dL_fails_56 (by decide) ?_
  refine g_cVr C (As := [.int (nI 0), .int (nI 2), .int (nI 1)]) iX9_change (c_X9_change l G g u13 L14.1 L14.2.1.choose_spec (nI 0) (nI 2) (nI 1)) wd_622 ob_0 rfl ⟨Nat.le_of_ble_eq_true rfl, Nat.le_of_ble_eq_true rfl⟩ ⟨rfl, rfl⟩ rfl (Nat.le_of_ble_eq_true rfl) dL_fails_57 (fun r20 u17 hq => ?_)
  obtain ⟨e19, L18⟩ := ax_no L14 hq (fun q => q.2.elim (fun z => absurd z.1 (by decide)) (fun z => absurd z.1 (by decide)))
  have e19 : r20 = kBad := e19.trans (rfl)
  subst e19
  refine g_ldc C wd_621 dL_fails_60 ?_
  refine g_icmp_ne_f C 208 (rfl) dL_fails_62 (by decide) ?_
  refine g_aload_n C 1 dL_fails_65 rfl ?_
  refine g_iconst C (nI 0) dL_fails_66 (by decide) ?_
  refine g_iconst C (nI 0) dL_fails_67 (by decide) ?_
  refine g_bipush C (nI 10) dL_fails_68 (by decide) ?_
  refine g_cVr C (As := [.int (nI 0), .int (nI 0), .int (nI 10)]) iX9_change (c_X9_change l G g u17 L18.1 L18.2.1.choose_spec (nI 0) (nI 0) (nI 10)) wd_622 ob_0 rfl ⟨Nat.le_of_ble_eq_true rfl, Nat.le_of_ble_eq_true rfl⟩ ⟨rfl, rfl⟩ rfl (Nat.le_of_ble_eq_true rfl) dL_fails_70 (fun r24 u21 hq => ?_)
  obtain ⟨e23, L22⟩ := ax_no L18 hq (fun q => q.2.elim (fun z => absurd z.2.2 (by decide)) (fun z => absurd z.1 (by decide)))
  have e23 : r24 = kBad := e23.trans (rfl)
  subst e23
  refine g_ldc C wd_621 dL_fails_73 ?_
  refine g_icmp_ne_f C 208 (rfl) dL_fails_75 (by decide) ?_
  refine g_aload_n C 1 dL_fails_78 rfl ?_
  refine g_iload_n C 2 dL_fails_79 rfl ?_
  refine g_iconst C (nI 1) dL_fails_80 (by decide) ?_
  refine g_cVr C (As := [.int (nI (vN V)), .int (nI 1)]) iX9_live (c_X9_live l G g u21 L22.1 L22.2.1.choose_spec (nI (vN V)) (nI 1)) wd_349 ob_0 rfl ⟨Nat.le_of_ble_eq_true rfl, Nat.le_of_ble_eq_true rfl⟩ ⟨rfl, rfl⟩ rfl (Nat.le_of_ble_eq_true rfl) dL_fails_81 (fun r28 u25 hq => ?_)
  obtain ⟨e27, L26⟩ := ax_no L22 hq (nmem V)
  have e27 : r28 = kBad := e27.trans (rfl)
  subst e27
  refine g_ldc C wd_621 dL_fails_84 ?_
  refine g_icmp_ne_f C 208 (rfl) dL_fails_86 (by decide) ?_
  refine g_aload_n C 1 dL_fails_89 rfl ?_
  refine g_iload_n C 2 dL_fails_90 rfl ?_
  refine g_iconst C (nI 0) dL_fails_91 (by decide) ?_
  refine g_cV1 C (As := [.int (nI (vN V)), .int (nI 0)]) (w := .int kBad) (mem3 := u25) iX9_member (c_X9_member l G g u25 L26.1 (nI (vN V)) (nI 0)) wd_364 ob_0 rfl ⟨Nat.le_of_ble_eq_true rfl, Nat.le_of_ble_eq_true rfl⟩ ⟨rfl, rfl⟩ rfl (Nat.le_of_ble_eq_true rfl) dL_fails_92 (congrArg Value.int (if_neg (fun q => nmem V q.1))) (rfl) ?_
  refine g_ldc C wd_621 dL_fails_95 ?_
  refine g_icmp_ne_f C 208 (rfl) dL_fails_97 (by decide) ?_
  refine g_aload_n C 1 dL_fails_100 rfl ?_
  refine g_iconst C (nI 0) dL_fails_101 (by decide) ?_
  refine g_bipush C (nI 9) dL_fails_102 (by decide) ?_
  refine g_cV1 C (As := [.int (nI 0), .int (nI 9)]) (w := .int kBad) (mem3 := u25) iX9_member (c_X9_member l G g u25 L26.1 (nI 0) (nI 9)) wd_364 ob_0 rfl ⟨Nat.le_of_ble_eq_true rfl, Nat.le_of_ble_eq_true rfl⟩ ⟨rfl, rfl⟩ rfl (Nat.le_of_ble_eq_true rfl) dL_fails_104 (congrArg Value.int (if_neg (fun q => absurd q.2.2 (by decide)))) (rfl) ?_
  refine g_ldc C wd_621 dL_fails_107 ?_
  refine g_icmp_ne_f C 208 (rfl) dL_fails_109 (by decide) ?_
  refine g_aload_n C 1 dL_fails_112 rfl ?_
  refine g_iconst C (nI 5) dL_fails_113 (by decide) ?_
  refine g_iconst C (nI 1) dL_fails_114 (by decide) ?_
  refine g_cVr C (As := [.int (nI 5), .int (nI 1)]) iX9_set (c_X9_set l G g u25 L26.1 L26.2.1.choose_spec (nI 5) (nI 1)) wd_384 ob_0 rfl ⟨Nat.le_of_ble_eq_true rfl, Nat.le_of_ble_eq_true rfl⟩ ⟨rfl, rfl⟩ rfl (Nat.le_of_ble_eq_true rfl) dL_fails_115 (fun r32 u29 hq => ?_)
  obtain ⟨e31, L30⟩ := ax_no L26 hq (fun q => absurd q.1.2 (by decide))
  have e31 : r32 = kBad := e31.trans (rfl)
  subst e31
  refine g_ldc C wd_621 dL_fails_118 ?_
  refine g_icmp_ne_f C 208 (rfl) dL_fails_120 (by decide) ?_
  refine g_aload_n C 1 dL_fails_123 rfl ?_
  refine g_iconst C (nI 0) dL_fails_124 (by decide) ?_
  refine g_iconst C (nI 0) dL_fails_125 (by decide) ?_
  refine g_cVr C (As := [.int (nI 0), .int (nI 0)]) iX9_set (c_X9_set l G g u29 L30.1 L30.2.1.choose_spec (nI 0) (nI 0)) wd_384 ob_0 rfl ⟨Nat.le_of_ble_eq_true rfl, Nat.le_of_ble_eq_true rfl⟩ ⟨rfl, rfl⟩ rfl (Nat.le_of_ble_eq_true rfl) dL_fails_126 (fun r36 u33 hq => ?_)
  obtain ⟨e35, L34⟩ := ax_no L30 hq (fun q => absurd q.2.1 (by decide))
  have e35 : r36 = kBad := e35.trans (rfl)
  subst e35
  refine g_ldc C wd_621 dL_fails_129 ?_
  refine g_icmp_ne_f C 208 (rfl) dL_fails_131 (by decide) ?_
  refine g_aload_n C 1 dL_fails_134 rfl ?_
  refine g_iconst C (nI 1) dL_fails_135 (by decide) ?_
  refine g_sipush C (nI 501) dL_fails_136 (by decide) ?_
  refine g_cVr C (As := [.int (nI 1), .int (nI 501)]) iX9_set (c_X9_set l G g u33 L34.1 L34.2.1.choose_spec (nI 1) (nI 501)) wd_384 ob_0 rfl ⟨Nat.le_of_ble_eq_true rfl, Nat.le_of_ble_eq_true rfl⟩ ⟨rfl, rfl⟩ rfl (Nat.le_of_ble_eq_true rfl) dL_fails_139 (fun r40 u37 hq => ?_)
  obtain ⟨e39, L38⟩ := ax_no L34 hq (fun q => absurd q.2.2 (by decide))
  have e39 : r40 = kBad := e39.trans (rfl)
  subst e39
  refine g_ldc C wd_621 dL_fails_142 ?_
  refine g_icmp_ne_f C 208 (rfl) dL_fails_144 (by decide) ?_
  refine g_aload_n C 1 dL_fails_147 rfl ?_
  refine g_iconst C (nI 2) dL_fails_148 (by decide) ?_
  refine g_bipush C (nI 11) dL_fails_149 (by decide) ?_
  refine g_cVr C (As := [.int (nI 2), .int (nI 11)]) iX9_set (c_X9_set l G g u37 L38.1 L38.2.1.choose_spec (nI 2) (nI 11)) wd_384 ob_0 rfl ⟨Nat.le_of_ble_eq_true rfl, Nat.le_of_ble_eq_true rfl⟩ ⟨rfl, rfl⟩ rfl (Nat.le_of_ble_eq_true rfl) dL_fails_151 (fun r44 u41 hq => ?_)
  obtain ⟨e43, L42⟩ := ax_no L38 hq (fun q => absurd q.2.2 (by decide))
  have e43 : r44 = kBad := e43.trans (rfl)
  subst e43
  refine g_ldc C wd_621 dL_fails_154 ?_
  refine g_icmp_ne_f C 208 (rfl) dL_fails_156 (by decide) ?_
  refine g_aload_n C 1 dL_fails_159 rfl ?_
  refine g_iconst C (nI 4) dL_fails_160 (by decide) ?_
  refine g_bipush C (nI 101) dL_fails_161 (by decide) ?_
  refine g_cVr C (As := [.int (nI 4), .int (nI 101)]) iX9_set (c_X9_set l G g u41 L42.1 L42.2.1.choose_spec (nI 4) (nI 101)) wd_384 ob_0 rfl ⟨Nat.le_of_ble_eq_true rfl, Nat.le_of_ble_eq_true rfl⟩ ⟨rfl, rfl⟩ rfl (Nat.le_of_ble_eq_true rfl) dL_fails_163 (fun r48 u45 hq => ?_)
  obtain ⟨e47, L46⟩ := ax_no L42 hq (fun q => absurd q.2.2 (by decide))
  have e47 : r48 = kBad := e47.trans (rfl)
  subst e47
  refine g_ldc C wd_621 dL_fails_166 ?_
  refine g_icmp_ne_f C 208 (rfl) dL_fails_168 (by decide) ?_
  refine g_aload_n C 1 dL_fails_171 rfl ?_
  refine g_bipush C (nI 10) dL_fails_172 (by decide) ?_
  refine g_cV1 C (As := [.int (nI 10)]) (w := .int kBad) (mem3 := u45) iX9_about (c_X9_about l G g u45 L46.1 (nI 10)) wd_401 ob_0 rfl ⟨Nat.le_of_ble_eq_true rfl, Nat.le_of_ble_eq_true rfl⟩ ⟨rfl, rfl⟩ rfl (Nat.le_of_ble_eq_true rfl) dL_fails_174 (congrArg Value.int (if_neg (fun q => absurd q.2 (by decide)))) (rfl) ?_
  refine g_ldc C wd_621 dL_fails_177 ?_
  refine g_icmp_ne_f C 208 (rfl) dL_fails_179 (by decide) ?_
  refine g_aload_n C 1 dL_fails_182 rfl ?_
  refine g_iload_n C 2 dL_fails_183 rfl ?_
  refine g_iconst C (nI 1) dL_fails_184 (by decide) ?_
  refine g_cVr C (As := [.int (nI (vN V)), .int (nI 1)]) iX9_commit (c_X9_commit l G g u45 L46.1 L46.2.1.choose_spec (nI (vN V)) (nI 1)) wd_413 ob_0 rfl ⟨Nat.le_of_ble_eq_true rfl, Nat.le_of_ble_eq_true rfl⟩ ⟨rfl, rfl⟩ rfl (Nat.le_of_ble_eq_true rfl) dL_fails_185 (fun r52 u49 hq => ?_)
  obtain ⟨e51, L50⟩ := ax_no L46 hq (fun q => nmem V q.1)
  have e51 : r52 = kBad := e51.trans (if_neg (nmem V))
  subst e51
  refine g_ldc C wd_621 dL_fails_188 ?_
  refine g_icmp_ne_f C 208 (rfl) dL_fails_190 (by decide) ?_
  refine g_aload_n C 1 dL_fails_193 rfl ?_
  refine g_iconst C (((-1) : Int32)) dL_fails_194 (by decide) ?_
  refine g_iconst C (nI 1) dL_fails_195 (by decide) ?_
  refine g_cVr C (As := [.int ((-1) : Int32), .int (nI 1)]) iX9_reveal (c_X9_reveal l G g u49 L50.1 L50.2.1.choose_spec ((-1) : Int32) (nI 1)) wd_419 ob_0 rfl ⟨Nat.le_of_ble_eq_true rfl, Nat.le_of_ble_eq_true rfl⟩ ⟨rfl, rfl⟩ rfl (Nat.le_of_ble_eq_true rfl) dL_fails_196 (fun r56 u53 hq => ?_)
  obtain ⟨e55, L54⟩ := ax_no L50 hq (fun q => absurd q.1.1.1 (by decide))
  have e55 : r56 = kBad := e55.trans (if_neg (fun q => absurd q.1 (by decide)))
  subst e55
  refine g_ldc C wd_621 dL_fails_199 ?_
  refine g_icmp_ne_f C 208 (rfl) dL_fails_201 (by decide) ?_
  refine g_iconst C (nI 1) dL_fails_204 (by decide) ?_
  refine g_goto C 209 dL_fails_205 (by decide) ?_
  refine g_istore C (L2 := [(4, .int (nI 1)), (2, .long (fpR V)), (0, .ref (gad G 0)), (1, .int (nI (vN V)))]) dL_fails_209 (by decide) rfl ?_
  refine g_iload C 0 dL_fails_211 rfl ?_
  refine g_if_eq_f C 405 (by decide) dL_fails_213 (by decide) ?_
  refine g_aload_n C 2 dL_fails_216 rfl ?_
  refine g_iconst C (((-1) : Int32)) dL_fails_217 (by decide) ?_
  refine g_cV1 C (As := [.int ((-1) : Int32)]) (w := .int kBad) (mem3 := u53) iX9_duty (c_X9_duty l G g u53 L54.1 ((-1) : Int32)) wd_471 ob_0 rfl ⟨Nat.le_of_ble_eq_true rfl, Nat.le_of_ble_eq_true rfl⟩ ⟨rfl, rfl⟩ rfl (Nat.le_of_ble_eq_true rfl) dL_fails_218 (congrArg Value.int (if_pos (by decide))) (rfl) ?_
  refine g_ldc C wd_621 dL_fails_221 ?_
  refine g_icmp_ne_f C 405 (rfl) dL_fails_223 (by decide) ?_
  refine g_aload_n C 2 dL_fails_226 rfl ?_
  refine g_bipush C (nI 10) dL_fails_227 (by decide) ?_
  refine g_cV1 C (As := [.int (nI 10)]) (w := .int kNone) (mem3 := u53) iX9_duty (c_X9_duty l G g u53 L54.1 (nI 10)) wd_471 ob_0 rfl ⟨Nat.le_of_ble_eq_true rfl, Nat.le_of_ble_eq_true rfl⟩ ⟨rfl, rfl⟩ rfl (Nat.le_of_ble_eq_true rfl) dL_fails_229 (congrArg Value.int ((if_neg (by decide)).trans (if_neg (nI_nlt (a := 10) (b := vZ V) (by omega) (by omega))))) (rfl) ?_
  refine g_ldc C wd_626 dL_fails_232 ?_
  refine g_icmp_ne_f C 405 (rfl) dL_fails_234 (by decide) ?_
  refine g_aload_n C 2 dL_fails_237 rfl ?_
  refine g_sipush C (nI 1024) dL_fails_238 (by decide) ?_
  refine g_iconst C (nI 0) dL_fails_241 (by decide) ?_
  refine g_cVf C (As := [.int (nI 1024), .int (nI 0)]) (v := .int (leftR V (nI 1024) (nI 0))) iX9_ifLeft (c_X9_ifLeft l G g u53 L54.1 (nI 1024) (nI 0)) wd_627 ob_0 rfl ⟨Nat.le_of_ble_eq_true rfl, Nat.le_of_ble_eq_true rfl⟩ ⟨rfl, rfl⟩ rfl (Nat.le_of_ble_eq_true rfl) dL_fails_242 (fun u57 hq => ?_)
  have L58 := ls_fr L54 hq
  refine g_top (y := kBad) (if_neg (fun q => absurd q.1.2 (by decide))) ?_
  refine g_ldc C wd_621 dL_fails_245 ?_
  refine g_icmp_ne_f C 405 (rfl) dL_fails_247 (by decide) ?_
  refine g_aload_n C 2 dL_fails_250 rfl ?_
  refine g_iconst C (nI 0) dL_fails_251 (by decide) ?_
  refine g_iconst C (((-1) : Int32)) dL_fails_252 (by decide) ?_
  refine g_cVf C (As := [.int (nI 0), .int ((-1) : Int32)]) (v := .int (leftR V (nI 0) ((-1) : Int32))) iX9_ifLeft (c_X9_ifLeft l G g u57 L58.1 (nI 0) ((-1) : Int32)) wd_627 ob_0 rfl ⟨Nat.le_of_ble_eq_true rfl, Nat.le_of_ble_eq_true rfl⟩ ⟨rfl, rfl⟩ rfl (Nat.le_of_ble_eq_true rfl) dL_fails_253 (fun u59 hq => ?_)
  have L60 := ls_fr L58 hq
  refine g_top (y := kBad) (if_neg (fun q => absurd q.2 (by decide))) ?_
  refine g_ldc C wd_621 dL_fails_256 ?_
  refine g_icmp_ne_f C 405 (rfl) dL_fails_258 (by decide) ?_
  refine g_aload_n C 2 dL_fails_261 rfl ?_
  refine g_iload_n C 3 dL_fails_262 rfl ?_
  refine g_iconst C (nI 0) dL_fails_263 (by decide) ?_
  refine g_cVr C (As := [.int (nI (vN V)), .int (nI 0)]) iX9_lose (c_X9_lose l G g u59 L60.1 L60.2.1.choose_spec (nI (vN V)) (nI 0)) wd_479 ob_0 rfl ⟨Nat.le_of_ble_eq_true rfl, Nat.le_of_ble_eq_true rfl⟩ ⟨rfl, rfl⟩ rfl (Nat.le_of_ble_eq_true rfl) dL_fails_264 (fun r64 u61 hq => ?_)
  obtain ⟨e63, L62⟩ := ax_no L60 hq (fun q => nmem V q.1)
  have e63 : r64 = kBad := e63.trans (rfl)
  subst e63
  refine g_ldc C wd_621 dL_fails_267 ?_
  refine g_icmp_ne_f C 405 (rfl) dL_fails_269 (by decide) ?_
  refine g_aload_n C 2 dL_fails_272 rfl ?_
  refine g_iconst C (nI 0) dL_fails_273 (by decide) ?_
  refine g_sipush C (nI 200) dL_fails_274 (by decide) ?_
  refine g_cVr C (As := [.int (nI 0), .int (nI 200)]) iX9_lose (c_X9_lose l G g u61 L62.1 L62.2.1.choose_spec (nI 0) (nI 200)) wd_479 ob_0 rfl ⟨Nat.le_of_ble_eq_true rfl, Nat.le_of_ble_eq_true rfl⟩ ⟨rfl, rfl⟩ rfl (Nat.le_of_ble_eq_true rfl) dL_fails_277 (fun r68 u65 hq => ?_)
  obtain ⟨e67, L66⟩ := ax_no L62 hq (fun q => absurd q.2.2 (by decide))
  have e67 : r68 = kBad := e67.trans (rfl)
  subst e67
  refine g_ldc C wd_621 dL_fails_280 ?_
  refine g_icmp_ne_f C 405 (rfl) dL_fails_282 (by decide) ?_
  refine g_aload_n C 2 dL_fails_285 rfl ?_
  refine g_bipush C (nI 31) dL_fails_286 (by decide) ?_
  refine g_cVr C (As := [.int (nI 31)]) iX9_type (c_X9_type l G u65 L66.2.2.1.choose_spec.choose_spec (nI 31)) wd_631 ob_0 rfl ⟨Nat.le_of_ble_eq_true rfl, Nat.le_of_ble_eq_true rfl⟩ ⟨rfl, rfl⟩ rfl (Nat.le_of_ble_eq_true rfl) dL_fails_288 (fun r71 u69 hq => ?_)
  obtain ⟨⟨tx2, tl2, ty, t2⟩, hf⟩ := hq
  have L70 := ls_ty L66 t2 hf
  obtain ⟨e9, -⟩ := ty.1 (fun q => absurd q.1 (by decide))
  subst e9
  refine g_ldc C wd_621 dL_fails_291 ?_
  refine g_icmp_ne_f C 405 (rfl) dL_fails_293 (by decide) ?_
  refine g_aload_n C 2 dL_fails_296 rfl ?_
  refine g_iload_n C 3 dL_fails_297 rfl ?_
  refine g_iconst C (nI 0) dL_fails_298 (by decide) ?_
  refine g_cV1 C (As := [.int (nI (vN V)), .int (nI 0)]) (w := .int kBad) (mem3 := u69) iX9_lost (c_X9_lost l G g u69 L70.1 (nI (vN V)) (nI 0)) wd_486 ob_0 rfl ⟨Nat.le_of_ble_eq_true rfl, Nat.le_of_ble_eq_true rfl⟩ ⟨rfl, rfl⟩ rfl (Nat.le_of_ble_eq_true rfl) dL_fails_299 (congrArg Value.int (if_neg (fun q => nmem V q.1))) (rfl) ?_
  refine g_ldc C wd_621 dL_fails_302 ?_
  refine g_icmp_ne_f C 405 (rfl) dL_fails_304 (by decide) ?_
  refine g_aload_n C 2 dL_fails_307 rfl ?_
  refine g_iconst C (nI 0) dL_fails_308 (by decide) ?_
  refine g_iconst C (((-1) : Int32)) dL_fails_309 (by decide) ?_
  refine g_cV1 C (As := [.int (nI 0), .int ((-1) : Int32)]) (w := .int kBad) (mem3 := u69) iX9_lost (c_X9_lost l G g u69 L70.1 (nI 0) ((-1) : Int32)) wd_486 ob_0 rfl ⟨Nat.le_of_ble_eq_true rfl, Nat.le_of_ble_eq_true rfl⟩ ⟨rfl, rfl⟩ rfl (Nat.le_of_ble_eq_true rfl) dL_fails_310 (congrArg Value.int (if_neg (fun q => absurd q.2.1 (by decide)))) (rfl) ?_
  refine g_ldc C wd_621 dL_fails_313 ?_
  refine g_icmp_ne_f C 405 (rfl) dL_fails_315 (by decide) ?_
  refine g_aload_n C 2 dL_fails_318 rfl ?_
  refine g_sipush C (nI 200) dL_fails_319 (by decide) ?_
  refine g_cVr C (As := [.int (nI 200)]) iX9_repair (c_X9_repair l G g u69 L70.1 L70.2.1.choose_spec (hT) (nI 200)) wd_640 ob_0 rfl ⟨Nat.le_of_ble_eq_true rfl, Nat.le_of_ble_eq_true rfl⟩ ⟨rfl, rfl⟩ rfl (Nat.le_of_ble_eq_true rfl) dL_fails_322 (fun r75 u72 hq => ?_)
  obtain ⟨e74, L73⟩ := ax_no L70 hq (fun q => absurd q.1.2 (by decide))
  have e74 : r75 = kBad := e74.trans (if_neg (fun q => absurd q.2 (by decide)))
  subst e74
  refine g_ldc C wd_621 dL_fails_325 ?_
  refine g_icmp_ne_f C 405 (rfl) dL_fails_327 (by decide) ?_
  refine g_aload_n C 2 dL_fails_330 rfl ?_
  refine g_iconst C (nI 0) dL_fails_331 (by decide) ?_
  refine g_iload_n C 3 dL_fails_332 rfl ?_
  refine g_iconst C (nI 0) dL_fails_333 (by decide) ?_
  refine g_cVf C (As := [.int (nI 0), .int (nI (vN V)), .int (nI 0)]) (v := .int (lookR V (nI 0) (nI (vN V)) (nI 0))) iX9_look (c_X9_look l G g u72 L73.1 (nI 0) (nI (vN V)) (nI 0)) wd_644 ob_0 rfl ⟨Nat.le_of_ble_eq_true rfl, Nat.le_of_ble_eq_true rfl⟩ ⟨rfl, rfl⟩ rfl (Nat.le_of_ble_eq_true rfl) dL_fails_334 (fun u76 hq => ?_)
  have L77 := ls_fr L73 hq
  refine g_top (y := kBad) (if_neg (fun q => nmem V q.1.2)) ?_
  refine g_ldc C wd_621 dL_fails_337 ?_
  refine g_icmp_ne_f C 405 (rfl) dL_fails_339 (by decide) ?_
  refine g_aload_n C 2 dL_fails_342 rfl ?_
  refine g_iconst C (nI 0) dL_fails_343 (by decide) ?_
  refine g_iconst C (nI 0) dL_fails_344 (by decide) ?_
  refine g_iconst C (nI 3) dL_fails_345 (by decide) ?_
  refine g_cVf C (As := [.int (nI 0), .int (nI 0), .int (nI 3)]) (v := .int (lookR V (nI 0) (nI 0) (nI 3))) iX9_look (c_X9_look l G g u76 L77.1 (nI 0) (nI 0) (nI 3)) wd_644 ob_0 rfl ⟨Nat.le_of_ble_eq_true rfl, Nat.le_of_ble_eq_true rfl⟩ ⟨rfl, rfl⟩ rfl (Nat.le_of_ble_eq_true rfl) dL_fails_346 (fun u78 hq => ?_)
  have L79 := ls_fr L77 hq
  refine g_top (y := kBad) (if_neg (fun q => absurd q.2.2 (by decide))) ?_
  refine g_ldc C wd_621 dL_fails_349 ?_
  refine g_icmp_ne_f C 405 (rfl) dL_fails_351 (by decide) ?_
  refine g_aload_n C 2 dL_fails_354 rfl ?_
  refine g_iconst C (((-1) : Int32)) dL_fails_355 (by decide) ?_
  refine g_iconst C (nI 0) dL_fails_356 (by decide) ?_
  refine g_cV1 C (As := [.int ((-1) : Int32), .int (nI 0)]) (w := .int kBad) (mem3 := u78) iX9_past (c_X9_past l G g u78 L79.1 hT ((-1) : Int32) (nI 0)) wd_652 ob_0 rfl ⟨Nat.le_of_ble_eq_true rfl, Nat.le_of_ble_eq_true rfl⟩ ⟨rfl, rfl⟩ rfl (Nat.le_of_ble_eq_true rfl) dL_fails_357 (congrArg Value.int (if_neg (fun q => absurd q.1 (by decide)))) (rfl) ?_
  refine g_ldc C wd_621 dL_fails_360 ?_
  refine g_icmp_ne_f C 405 (rfl) dL_fails_362 (by decide) ?_
  refine g_aload_n C 2 dL_fails_365 rfl ?_
  refine g_iconst C (nI 0) dL_fails_366 (by decide) ?_
  refine g_bipush C (nI 7) dL_fails_367 (by decide) ?_
  refine g_cV1 C (As := [.int (nI 0), .int (nI 7)]) (w := .int kBad) (mem3 := u78) iX9_past (c_X9_past l G g u78 L79.1 hT (nI 0) (nI 7)) wd_652 ob_0 rfl ⟨Nat.le_of_ble_eq_true rfl, Nat.le_of_ble_eq_true rfl⟩ ⟨rfl, rfl⟩ rfl (Nat.le_of_ble_eq_true rfl) dL_fails_369 (congrArg Value.int (if_neg (fun q => absurd q.2.2 (by decide)))) (rfl) ?_
  refine g_ldc C wd_621 dL_fails_372 ?_
  refine g_icmp_ne_f C 405 (rfl) dL_fails_374 (by decide) ?_
  refine g_aload_n C 2 dL_fails_377 rfl ?_
  refine g_bipush C (nI 20) dL_fails_378 (by decide) ?_
  refine g_iconst C (nI 0) dL_fails_380 (by decide) ?_
  refine g_cV1 C (As := [.int (nI 20), .int (nI 0)]) (w := .int kNone) (mem3 := u78) iX9_past (c_X9_past l G g u78 L79.1 hT (nI 20) (nI 0)) wd_652 ob_0 rfl ⟨Nat.le_of_ble_eq_true rfl, Nat.le_of_ble_eq_true rfl⟩ ⟨rfl, rfl⟩ rfl (Nat.le_of_ble_eq_true rfl) dL_fails_381 (congrArg Value.int ((past_n (i := 20) (k := 0) (by decide) (by decide)).trans (if_neg (by omega)))) (rfl) ?_
  refine g_ldc C wd_626 dL_fails_384 ?_
  refine g_icmp_ne_f C 405 (rfl) dL_fails_386 (by decide) ?_
  refine g_aload_n C 2 dL_fails_389 rfl ?_
  refine g_sipush C (nI 200) dL_fails_390 (by decide) ?_
  refine g_cVf C (As := [.int (nI 200)]) (v := .int (whyR V (nI 200))) iX9_why (c_X9_why l G g u78 L79.1 (nI 200)) wd_553 ob_0 rfl ⟨Nat.le_of_ble_eq_true rfl, Nat.le_of_ble_eq_true rfl⟩ ⟨rfl, rfl⟩ rfl (Nat.le_of_ble_eq_true rfl) dL_fails_393 (fun u80 hq => ?_)
  have L81 := ls_fr L79 hq
  refine g_top (y := kBad) (if_neg (fun q => absurd q.2 (by decide))) ?_
  refine g_ldc C wd_621 dL_fails_396 ?_
  refine g_icmp_ne_f C 405 (rfl) dL_fails_398 (by decide) ?_
  refine g_iconst C (nI 1) dL_fails_401 (by decide) ?_
  refine g_goto C 406 dL_fails_402 (by decide) ?_
  refine g_istore C (L2 := [(4, .int (nI 1)), (2, .long (fpR V)), (0, .ref (gad G 0)), (1, .int (nI (vN V)))]) dL_fails_406 (by decide) rfl ?_
  refine g_iload C 0 dL_fails_408 rfl ?_
  refine g_if_eq_f C 426 (by decide) dL_fails_410 (by decide) ?_
  refine g_aload_n C 2 dL_fails_413 rfl ?_
  refine g_cV1 C (As := []) (w := .long (fpR V)) (mem3 := u80) iX9_fingerprint (c_X9_fingerprint l G g u80 L81.1 hT) wd_580 ob_0 rfl ⟨Nat.le_of_ble_eq_true rfl, Nat.le_of_ble_eq_true rfl⟩ ⟨rfl, rfl⟩ rfl (Nat.le_of_ble_eq_true rfl) dL_fails_414 (rfl) (rfl) ?_
  refine g_lload_n C 1 dL_fails_417 rfl ?_
  refine g_lcmp C dL_fails_418 ?_
  refine g_if_ne_f C 426 (lg_self _) dL_fails_419 (by decide) ?_
  refine g_iconst C (nI 1) dL_fails_422 (by decide) ?_
  refine g_goto C 427 dL_fails_423 (by decide) ?_
  refine g_zret C hQ rfl (Or.inr rfl) dL_fails_427 ?_
  exact ⟨rfl, L81⟩
