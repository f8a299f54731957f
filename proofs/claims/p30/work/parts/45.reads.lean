def rm_X9_member : Room := { frames := 2, cells := 0, slots := 0, locals := 44 }
theorem iX9_member : gIv yX9_member cX9_member 3 (some .int) 2 := ⟨⟨wd_367, wd_4, by decide +kernel, by decide +kernel, by decide +kernel⟩, wd_365, wd_366⟩
set_option maxRecDepth 100000 in
set_option maxHeartbeats 4000000 in
theorem c_X9_member (l : Launch) (G : gG) {T : Nat} {V : Nat → Int32} (g : Good T V) (mem : gM) (r : Rel V mem) (x y : Int32) : gMet l yX9_member cX9_member 3 (some .int) rm_X9_member G [.ref (gad G 0), .int x, .int y] mem (fun a u => a = some (.int (memberR V x y)) ∧ u = mem) := by
  refine g_of (own := RX9) (L0 := [(0, .ref (gad G 0)), (1, .int x), (2, .int y)]) (by decide +kernel) rfl (Nat.le_of_ble_eq_true rfl) rfl ?_
  intro p e s m args below meth c C Q hQ
  have hn10 := gd_n10 g
  refine g_aload_n C 0 dX9_member_0 rfl ?_
  refine g_iload_n C 1 dX9_member_1 rfl ?_
  refine g_cV1 C (As := [.int x]) (w := .int (b2i (memP V x))) (mem3 := mem) iX9_isMember (c_X9_isMember l G g mem r x) wd_353 ob_0 rfl ⟨Nat.le_of_ble_eq_true rfl, Nat.le_of_ble_eq_true rfl⟩ ⟨rfl, rfl⟩ rfl (Nat.le_of_ble_eq_true rfl) dX9_member_2 (rfl) (rfl) ?_
  refine g_ifb_ne C 11 dX9_member_5 (by decide) (fun c_5 => ?_) (fun c_5 => ?_)
  · obtain ⟨j, hj, rfl⟩ := memP_ex g c_5
    have ej : toN (nI j) = j := toN_nI (by omega)
    refine g_iload_n C 2 dX9_member_11 rfl ?_
    rcases tsw_cases (y) 9 (by decide) with hsw | ⟨jsw, hsw, esw⟩
    · refine g_tswOut C 195 dX9_member_12 (tsw_out hsw (by decide)) (by decide) ?_
      have hy : ¬ (memP V (nI j) ∧ (0 ≤ y ∧ y < nI 9)) := fun q => by
        have q1 := Int32.le_iff_toInt_le.mp q.2.1
        have q2 := Int32.lt_iff_toInt_lt.mp q.2.2
        rw [nI_toInt (by decide)] at q2
        rw [Int32.toInt_zero] at q1
        omega
      refine g_ldc C wd_305 dX9_member_195 ?_
      refine g_iret C hQ rfl dX9_member_197 ?_
      exact ⟨by rw [memberR, if_neg hy], rfl⟩
    · match jsw, hsw, esw with
      | 0, _, esw =>
        refine g_tswIn C (off := 52) 64 dX9_member_12 (by rw [esw]; decide) (by rw [esw]; decide) (by rw [esw]; decide) (by decide) ?_
        have hy : memP V (nI j) ∧ (0 ≤ y ∧ y < nI 9) := ⟨c_5, by rw [esw]; decide⟩
        have ey : toN y = 0 := by rw [esw]; decide
        refine g_aload_n C 0 dX9_member_64 rfl ?_
        refine g_get_r C ob_0 0 (by decide) rfl wd_279 dX9_member_65 ?_
        refine g_get_r C ob_1 1 (by decide) rfl wd_161 dX9_member_68 ?_
        refine g_get_r C ob_4 2 (by decide) rfl wd_59 dX9_member_71 ?_
        refine g_iload_n C 1 dX9_member_74 rfl ?_
        refine g_cV1 C (As := [.int (nI j)]) (w := .int (mem 6 j)) (mem3 := mem) iX6_at (c_X6_at l G mem ob_5 ar_6 (by decide) (by omega)) wd_368 ob_5 rfl ⟨Nat.le_of_ble_eq_true rfl, Nat.le_of_ble_eq_true rfl⟩ ⟨rfl, rfl⟩ rfl (Nat.le_of_ble_eq_true rfl) dX9_member_75 (rfl) (rfl) ?_
        refine g_top (y := V (30 + 12 * j)) (r_w r hj) ?_
        refine g_iret C hQ rfl dX9_member_78 ?_
        exact ⟨by rw [memberR, if_pos hy, ej, ey]; rfl, rfl⟩
      | 1, _, esw =>
        refine g_tswIn C (off := 67) 79 dX9_member_12 (by rw [esw]; decide) (by rw [esw]; decide) (by rw [esw]; decide) (by decide) ?_
        have hy : memP V (nI j) ∧ (0 ≤ y ∧ y < nI 9) := ⟨c_5, by rw [esw]; decide⟩
        have ey : toN y = 1 := by rw [esw]; decide
        refine g_aload_n C 0 dX9_member_79 rfl ?_
        refine g_get_r C ob_0 0 (by decide) rfl wd_279 dX9_member_80 ?_
        refine g_get_r C ob_1 1 (by decide) rfl wd_161 dX9_member_83 ?_
        refine g_get_r C ob_4 3 (by decide) rfl wd_62 dX9_member_86 ?_
        refine g_iload_n C 1 dX9_member_89 rfl ?_
        refine g_cV1 C (As := [.int (nI j)]) (w := .int (mem 8 j)) (mem3 := mem) iX6_at (c_X6_at l G mem ob_7 ar_8 (by decide) (by omega)) wd_368 ob_7 rfl ⟨Nat.le_of_ble_eq_true rfl, Nat.le_of_ble_eq_true rfl⟩ ⟨rfl, rfl⟩ rfl (Nat.le_of_ble_eq_true rfl) dX9_member_90 (rfl) (rfl) ?_
        refine g_top (y := V (31 + 12 * j)) (r_p r hj) ?_
        refine g_iret C hQ rfl dX9_member_93 ?_
        exact ⟨by rw [memberR, if_pos hy, ej, ey, mbR, if_neg (by decide), show 30 + 12 * j + 1 = 31 + 12 * j by omega], rfl⟩
      | 2, _, esw =>
        refine g_tswIn C (off := 82) 94 dX9_member_12 (by rw [esw]; decide) (by rw [esw]; decide) (by rw [esw]; decide) (by decide) ?_
        have hy : memP V (nI j) ∧ (0 ≤ y ∧ y < nI 9) := ⟨c_5, by rw [esw]; decide⟩
        have ey : toN y = 2 := by rw [esw]; decide
        refine g_aload_n C 0 dX9_member_94 rfl ?_
        refine g_get_r C ob_0 0 (by decide) rfl wd_279 dX9_member_95 ?_
        refine g_get_r C ob_1 1 (by decide) rfl wd_161 dX9_member_98 ?_
        refine g_iload_n C 1 dX9_member_101 rfl ?_
        refine g_cV1 C (As := [.int (nI j)]) (w := .int (b2i (vLv V j = true))) (mem3 := mem) iX3_lives (c_X3_lives l G g mem r (hj)) wd_357 ob_4 rfl ⟨Nat.le_of_ble_eq_true rfl, Nat.le_of_ble_eq_true rfl⟩ ⟨rfl, rfl⟩ rfl (Nat.le_of_ble_eq_true rfl) dX9_member_102 (rfl) (rfl) ?_
        refine g_ifb_eq C 112 dX9_member_105 (by decide) (fun c_105 => ?_) (fun c_105 => ?_)
        · have hv : V (32 + 12 * j) = nI 0 := (gd_lv g hj).elim id (fun q => absurd (decide_eq_true q) c_105)
          refine g_iconst C (nI 0) dX9_member_112 (by decide) ?_
          refine g_iret C hQ rfl dX9_member_113 ?_
          exact ⟨by rw [memberR, if_pos hy, ej, ey, mbR, if_neg (by decide), show 30 + 12 * j + 2 = 32 + 12 * j by omega, hv], rfl⟩
        · have hv : V (32 + 12 * j) = nI 1 := of_decide_eq_true c_105
          refine g_iconst C (nI 1) dX9_member_108 (by decide) ?_
          refine g_goto C 113 dX9_member_109 (by decide) ?_
          refine g_iret C hQ rfl dX9_member_113 ?_
          exact ⟨by rw [memberR, if_pos hy, ej, ey, mbR, if_neg (by decide), show 30 + 12 * j + 2 = 32 + 12 * j by omega, hv], rfl⟩
      | 3, _, esw =>
        refine g_tswIn C (off := 102) 114 dX9_member_12 (by rw [esw]; decide) (by rw [esw]; decide) (by rw [esw]; decide) (by decide) ?_
        have hy : memP V (nI j) ∧ (0 ≤ y ∧ y < nI 9) := ⟨c_5, by rw [esw]; decide⟩
        have ey : toN y = 3 := by rw [esw]; decide
        refine g_aload_n C 0 dX9_member_114 rfl ?_
        refine g_get_r C ob_0 0 (by decide) rfl wd_279 dX9_member_115 ?_
        refine g_get_r C ob_1 1 (by decide) rfl wd_161 dX9_member_118 ?_
        refine g_get_r C ob_4 4 (by decide) rfl wd_65 dX9_member_121 ?_
        refine g_iload_n C 1 dX9_member_124 rfl ?_
        refine g_cV1 C (As := [.int (nI j)]) (w := .int (mem 10 j)) (mem3 := mem) iX6_at (c_X6_at l G mem ob_9 ar_10 (by decide) (by omega)) wd_368 ob_9 rfl ⟨Nat.le_of_ble_eq_true rfl, Nat.le_of_ble_eq_true rfl⟩ ⟨rfl, rfl⟩ rfl (Nat.le_of_ble_eq_true rfl) dX9_member_125 (rfl) (rfl) ?_
        refine g_top (y := V (33 + 12 * j)) (r_cr r hj) ?_
        refine g_iret C hQ rfl dX9_member_128 ?_
        exact ⟨by rw [memberR, if_pos hy, ej, ey, mbR, if_neg (by decide), show 30 + 12 * j + 3 = 33 + 12 * j by omega], rfl⟩
      | 4, _, esw =>
        refine g_tswIn C (off := 117) 129 dX9_member_12 (by rw [esw]; decide) (by rw [esw]; decide) (by rw [esw]; decide) (by decide) ?_
        have hy : memP V (nI j) ∧ (0 ≤ y ∧ y < nI 9) := ⟨c_5, by rw [esw]; decide⟩
        have ey : toN y = 4 := by rw [esw]; decide
        refine g_aload_n C 0 dX9_member_129 rfl ?_
        refine g_get_r C ob_0 0 (by decide) rfl wd_279 dX9_member_130 ?_
        refine g_get_r C ob_1 2 (by decide) rfl wd_164 dX9_member_133 ?_
        refine g_iload_n C 1 dX9_member_136 rfl ?_
        refine g_cV1 C (As := [.int (nI j)]) (w := .int (V (34 + 12 * j))) (mem3 := mem) iX0_rankOf (c_X0_rankOf l G g mem r (hj)) wd_372 ob_21 rfl ⟨Nat.le_of_ble_eq_true rfl, Nat.le_of_ble_eq_true rfl⟩ ⟨rfl, rfl⟩ rfl (Nat.le_of_ble_eq_true rfl) dX9_member_137 (rfl) (rfl) ?_
        refine g_iret C hQ rfl dX9_member_140 ?_
        exact ⟨by rw [memberR, if_pos hy, ej, ey, mbR, if_neg (by decide), show 30 + 12 * j + 4 = 34 + 12 * j by omega], rfl⟩
      | 5, _, esw =>
        refine g_tswIn C (off := 129) 141 dX9_member_12 (by rw [esw]; decide) (by rw [esw]; decide) (by rw [esw]; decide) (by decide) ?_
        have hy : memP V (nI j) ∧ (0 ≤ y ∧ y < nI 9) := ⟨c_5, by rw [esw]; decide⟩
        have ey : toN y = 5 := by rw [esw]; decide
        refine g_aload_n C 0 dX9_member_141 rfl ?_
        refine g_get_r C ob_0 0 (by decide) rfl wd_279 dX9_member_142 ?_
        refine g_iload_n C 1 dX9_member_145 rfl ?_
        refine g_cV1 C (As := [.int (nI j)]) (w := .int (nI (fa_cnt (fun b => vLo V b j) 200))) (mem3 := mem) iX7_blocksLostBy (c_X7_blocksLostBy l G g mem r (hj)) wd_378 ob_1 rfl ⟨Nat.le_of_ble_eq_true rfl, Nat.le_of_ble_eq_true rfl⟩ ⟨rfl, rfl⟩ rfl (Nat.le_of_ble_eq_true rfl) dX9_member_146 (rfl) (rfl) ?_
        refine g_iret C hQ rfl dX9_member_149 ?_
        exact ⟨by rw [memberR, if_pos hy, ej, ey, mbR, if_pos rfl], rfl⟩
      | 6, _, esw =>
        refine g_tswIn C (off := 138) 150 dX9_member_12 (by rw [esw]; decide) (by rw [esw]; decide) (by rw [esw]; decide) (by decide) ?_
        have hy : memP V (nI j) ∧ (0 ≤ y ∧ y < nI 9) := ⟨c_5, by rw [esw]; decide⟩
        have ey : toN y = 6 := by rw [esw]; decide
        refine g_aload_n C 0 dX9_member_150 rfl ?_
        refine g_get_r C ob_0 0 (by decide) rfl wd_279 dX9_member_151 ?_
        refine g_get_r C ob_1 1 (by decide) rfl wd_161 dX9_member_154 ?_
        refine g_get_r C ob_4 5 (by decide) rfl wd_68 dX9_member_157 ?_
        refine g_iload_n C 1 dX9_member_160 rfl ?_
        refine g_cV1 C (As := [.int (nI j)]) (w := .int (mem 12 j)) (mem3 := mem) iX6_at (c_X6_at l G mem ob_11 ar_12 (by decide) (by omega)) wd_368 ob_11 rfl ⟨Nat.le_of_ble_eq_true rfl, Nat.le_of_ble_eq_true rfl⟩ ⟨rfl, rfl⟩ rfl (Nat.le_of_ble_eq_true rfl) dX9_member_161 (rfl) (rfl) ?_
        refine g_top (y := V (36 + 12 * j)) (r_mk r hj) ?_
        refine g_iret C hQ rfl dX9_member_164 ?_
        exact ⟨by rw [memberR, if_pos hy, ej, ey, mbR, if_neg (by decide), show 30 + 12 * j + 6 = 36 + 12 * j by omega], rfl⟩
      | 7, _, esw =>
        refine g_tswIn C (off := 153) 165 dX9_member_12 (by rw [esw]; decide) (by rw [esw]; decide) (by rw [esw]; decide) (by decide) ?_
        have hy : memP V (nI j) ∧ (0 ≤ y ∧ y < nI 9) := ⟨c_5, by rw [esw]; decide⟩
        have ey : toN y = 7 := by rw [esw]; decide
        refine g_aload_n C 0 dX9_member_165 rfl ?_
        refine g_get_r C ob_0 0 (by decide) rfl wd_279 dX9_member_166 ?_
        refine g_get_r C ob_1 1 (by decide) rfl wd_161 dX9_member_169 ?_
        refine g_get_r C ob_4 6 (by decide) rfl wd_71 dX9_member_172 ?_
        refine g_iload_n C 1 dX9_member_175 rfl ?_
        refine g_cV1 C (As := [.int (nI j)]) (w := .int (mem 14 j)) (mem3 := mem) iX6_at (c_X6_at l G mem ob_13 ar_14 (by decide) (by omega)) wd_368 ob_13 rfl ⟨Nat.le_of_ble_eq_true rfl, Nat.le_of_ble_eq_true rfl⟩ ⟨rfl, rfl⟩ rfl (Nat.le_of_ble_eq_true rfl) dX9_member_176 (rfl) (rfl) ?_
        refine g_top (y := V (37 + 12 * j)) (r_mi r hj) ?_
        refine g_iret C hQ rfl dX9_member_179 ?_
        exact ⟨by rw [memberR, if_pos hy, ej, ey, mbR, if_neg (by decide), show 30 + 12 * j + 7 = 37 + 12 * j by omega], rfl⟩
      | 8, _, esw =>
        refine g_tswIn C (off := 168) 180 dX9_member_12 (by rw [esw]; decide) (by rw [esw]; decide) (by rw [esw]; decide) (by decide) ?_
        have hy : memP V (nI j) ∧ (0 ≤ y ∧ y < nI 9) := ⟨c_5, by rw [esw]; decide⟩
        have ey : toN y = 8 := by rw [esw]; decide
        refine g_aload_n C 0 dX9_member_180 rfl ?_
        refine g_get_r C ob_0 0 (by decide) rfl wd_279 dX9_member_181 ?_
        refine g_get_r C ob_1 1 (by decide) rfl wd_161 dX9_member_184 ?_
        refine g_get_r C ob_4 7 (by decide) rfl wd_73 dX9_member_187 ?_
        refine g_iload_n C 1 dX9_member_190 rfl ?_
        refine g_cV1 C (As := [.int (nI j)]) (w := .int (mem 16 j)) (mem3 := mem) iX6_at (c_X6_at l G mem ob_15 ar_16 (by decide) (by omega)) wd_368 ob_15 rfl ⟨Nat.le_of_ble_eq_true rfl, Nat.le_of_ble_eq_true rfl⟩ ⟨rfl, rfl⟩ rfl (Nat.le_of_ble_eq_true rfl) dX9_member_191 (rfl) (rfl) ?_
        refine g_top (y := V (38 + 12 * j)) (r_st r hj) ?_
        refine g_iret C hQ rfl dX9_member_194 ?_
        exact ⟨by rw [memberR, if_pos hy, ej, ey, mbR, if_neg (by decide), show 30 + 12 * j + 8 = 38 + 12 * j by omega], rfl⟩
      | jsw + 9, hsw, _ => exact absurd hsw (by omega)
  · refine g_ldc C wd_305 dX9_member_8 ?_
    refine g_iret C hQ rfl dX9_member_10 ?_
    exact ⟨by rw [memberR, if_neg (fun q => c_5 q.1)], rfl⟩

def rm_X9_about : Room := { frames := 1, cells := 0, slots := 0, locals := 21 }
theorem iX9_about : gIv yX9_about cX9_about 2 (some .int) 1 := ⟨⟨wd_404, wd_4, by decide +kernel, by decide +kernel, by decide +kernel⟩, wd_402, wd_403⟩
set_option maxRecDepth 100000 in
set_option maxHeartbeats 4000000 in
theorem c_X9_about (l : Launch) (G : gG) {T : Nat} {V : Nat → Int32} (g : Good T V) (mem : gM) (r : Rel V mem) (x : Int32) : gMet l yX9_about cX9_about 2 (some .int) rm_X9_about G [.ref (gad G 0), .int x] mem (fun a u => a = some (.int (aboutR V x)) ∧ u = mem) := by
  refine g_of (own := RX9) (L0 := [(0, .ref (gad G 0)), (1, .int x)]) (by decide +kernel) rfl (Nat.le_of_ble_eq_true rfl) rfl ?_
  intro p e s m args below meth c C Q hQ
  have hn10 := gd_n10 g
  refine g_iload_n C 1 dX9_about_0 rfl ?_
  refine g_if_lt C 21 dX9_about_1 (by decide) (fun c_1 => ?_) (fun c_1 => ?_)
  · refine g_iload_n C 1 dX9_about_21 rfl ?_
    rcases tsw_casesL (x) 5 5 (by decide) with hsw | ⟨jsw, hsw, esw⟩
    · refine g_tswOut C 111 dX9_about_22 (tsw_outL hsw (by decide)) (by decide) ?_
      have hy : ¬ (0 ≤ x ∧ x < nI 10) := fun q => by
        have q1 := Int32.le_iff_toInt_le.mp q.1
        have q2 := Int32.lt_iff_toInt_lt.mp q.2
        rw [nI_toInt (by decide)] at q2
        rw [Int32.toInt_zero] at q1
        first
          | (have q3 := Int32.lt_iff_toInt_lt.mp c_1; rw [Int32.toInt_zero] at q3; omega)
          | (have q3 := Int32.le_iff_toInt_le.mp c_6; rw [nI_toInt (by decide)] at q3; omega)
      refine g_ldc C wd_305 dX9_about_111 ?_
      refine g_iret C hQ rfl dX9_about_113 ?_
      exact ⟨by rw [aboutR, if_neg hy], rfl⟩
    · match jsw, hsw, esw with
      | 0, _, esw =>
        refine g_tswIn C (off := 34) 56 dX9_about_22 (by rw [esw]; decide) (by rw [esw]; decide) (by rw [esw]; decide) (by decide) ?_
        have hy : 0 ≤ x ∧ x < nI 10 := by rw [esw]; decide
        have ey : toN x = 5 := by rw [esw]; decide
        refine g_aload_n C 0 dX9_about_56 rfl ?_
        refine g_get_r C ob_0 0 (by decide) rfl wd_279 dX9_about_57 ?_
        refine g_get_r C ob_1 1 (by decide) rfl wd_161 dX9_about_60 ?_
        refine g_get_i C ob_4 0 (by decide) rfl wd_52 dX9_about_63 ?_
        refine g_top (y := V 5) (r.2.1.1) ?_
        refine g_iret C hQ rfl dX9_about_66 ?_
        exact ⟨by rw [aboutR, if_pos hy, ey], rfl⟩
      | 1, _, esw =>
        refine g_tswIn C (off := 45) 67 dX9_about_22 (by rw [esw]; decide) (by rw [esw]; decide) (by rw [esw]; decide) (by decide) ?_
        have hy : 0 ≤ x ∧ x < nI 10 := by rw [esw]; decide
        have ey : toN x = 6 := by rw [esw]; decide
        refine g_aload_n C 0 dX9_about_67 rfl ?_
        refine g_get_r C ob_0 0 (by decide) rfl wd_279 dX9_about_68 ?_
        refine g_get_r C ob_1 2 (by decide) rfl wd_164 dX9_about_71 ?_
        refine g_get_i C ob_21 0 (by decide) rfl wd_111 dX9_about_74 ?_
        refine g_top (y := V 6) (r_rd r) ?_
        refine g_iret C hQ rfl dX9_about_77 ?_
        exact ⟨by rw [aboutR, if_pos hy, ey], rfl⟩
      | 2, _, esw =>
        refine g_tswIn C (off := 56) 78 dX9_about_22 (by rw [esw]; decide) (by rw [esw]; decide) (by rw [esw]; decide) (by decide) ?_
        have hy : 0 ≤ x ∧ x < nI 10 := by rw [esw]; decide
        have ey : toN x = 7 := by rw [esw]; decide
        refine g_aload_n C 0 dX9_about_78 rfl ?_
        refine g_get_r C ob_0 0 (by decide) rfl wd_279 dX9_about_79 ?_
        refine g_get_r C ob_1 4 (by decide) rfl wd_169 dX9_about_82 ?_
        refine g_get_i C ob_26 0 (by decide) rfl wd_137 dX9_about_85 ?_
        refine g_top (y := V 7) ((r_made r g).trans (gd_made g).1.symm) ?_
        refine g_iret C hQ rfl dX9_about_88 ?_
        exact ⟨by rw [aboutR, if_pos hy, ey], rfl⟩
      | 3, _, esw =>
        refine g_tswIn C (off := 67) 89 dX9_about_22 (by rw [esw]; decide) (by rw [esw]; decide) (by rw [esw]; decide) (by decide) ?_
        have hy : 0 ≤ x ∧ x < nI 10 := by rw [esw]; decide
        have ey : toN x = 8 := by rw [esw]; decide
        refine g_aload_n C 0 dX9_about_89 rfl ?_
        refine g_get_r C ob_0 0 (by decide) rfl wd_279 dX9_about_90 ?_
        refine g_get_r C ob_1 4 (by decide) rfl wd_169 dX9_about_93 ?_
        refine g_get_i C ob_26 1 (by decide) rfl wd_139 dX9_about_96 ?_
        refine g_top (y := V 8) ((r_ask r g).trans (gd_asks g).1.symm) ?_
        refine g_iret C hQ rfl dX9_about_99 ?_
        exact ⟨by rw [aboutR, if_pos hy, ey], rfl⟩
      | 4, _, esw =>
        refine g_tswIn C (off := 78) 100 dX9_about_22 (by rw [esw]; decide) (by rw [esw]; decide) (by rw [esw]; decide) (by decide) ?_
        have hy : 0 ≤ x ∧ x < nI 10 := by rw [esw]; decide
        have ey : toN x = 9 := by rw [esw]; decide
        refine g_aload_n C 0 dX9_about_100 rfl ?_
        refine g_get_r C ob_0 0 (by decide) rfl wd_279 dX9_about_101 ?_
        refine g_get_r C ob_1 4 (by decide) rfl wd_169 dX9_about_104 ?_
        refine g_get_i C ob_26 2 (by decide) rfl wd_141 dX9_about_107 ?_
        refine g_top (y := V 9) ((r_sil r g).trans (gd_asks g).2.1.symm) ?_
        refine g_iret C hQ rfl dX9_about_110 ?_
        exact ⟨by rw [aboutR, if_pos hy, ey], rfl⟩
      | jsw + 5, hsw, _ => exact absurd hsw (by omega)
  · refine g_iload_n C 1 dX9_about_4 rfl ?_
    refine g_iconst C (nI 5) dX9_about_5 (by decide) ?_
    refine g_icmp_ge C 21 dX9_about_6 (by decide) (fun c_6 => ?_) (fun c_6 => ?_)
    · refine g_iload_n C 1 dX9_about_21 rfl ?_
      rcases tsw_casesL (x) 5 5 (by decide) with hsw | ⟨jsw, hsw, esw⟩
      · refine g_tswOut C 111 dX9_about_22 (tsw_outL hsw (by decide)) (by decide) ?_
        have hy : ¬ (0 ≤ x ∧ x < nI 10) := fun q => by
          have q1 := Int32.le_iff_toInt_le.mp q.1
          have q2 := Int32.lt_iff_toInt_lt.mp q.2
          rw [nI_toInt (by decide)] at q2
          rw [Int32.toInt_zero] at q1
          first
            | (have q3 := Int32.lt_iff_toInt_lt.mp c_1; rw [Int32.toInt_zero] at q3; omega)
            | (have q3 := Int32.le_iff_toInt_le.mp c_6; rw [nI_toInt (by decide)] at q3; omega)
        refine g_ldc C wd_305 dX9_about_111 ?_
        refine g_iret C hQ rfl dX9_about_113 ?_
        exact ⟨by rw [aboutR, if_neg hy], rfl⟩
      · match jsw, hsw, esw with
        | 0, _, esw =>
          refine g_tswIn C (off := 34) 56 dX9_about_22 (by rw [esw]; decide) (by rw [esw]; decide) (by rw [esw]; decide) (by decide) ?_
          have hy : 0 ≤ x ∧ x < nI 10 := by rw [esw]; decide
          have ey : toN x = 5 := by rw [esw]; decide
          refine g_aload_n C 0 dX9_about_56 rfl ?_
          refine g_get_r C ob_0 0 (by decide) rfl wd_279 dX9_about_57 ?_
          refine g_get_r C ob_1 1 (by decide) rfl wd_161 dX9_about_60 ?_
          refine g_get_i C ob_4 0 (by decide) rfl wd_52 dX9_about_63 ?_
          refine g_top (y := V 5) (r.2.1.1) ?_
          refine g_iret C hQ rfl dX9_about_66 ?_
          exact ⟨by rw [aboutR, if_pos hy, ey], rfl⟩
        | 1, _, esw =>
          refine g_tswIn C (off := 45) 67 dX9_about_22 (by rw [esw]; decide) (by rw [esw]; decide) (by rw [esw]; decide) (by decide) ?_
          have hy : 0 ≤ x ∧ x < nI 10 := by rw [esw]; decide
          have ey : toN x = 6 := by rw [esw]; decide
          refine g_aload_n C 0 dX9_about_67 rfl ?_
          refine g_get_r C ob_0 0 (by decide) rfl wd_279 dX9_about_68 ?_
          refine g_get_r C ob_1 2 (by decide) rfl wd_164 dX9_about_71 ?_
          refine g_get_i C ob_21 0 (by decide) rfl wd_111 dX9_about_74 ?_
          refine g_top (y := V 6) (r_rd r) ?_
          refine g_iret C hQ rfl dX9_about_77 ?_
          exact ⟨by rw [aboutR, if_pos hy, ey], rfl⟩
        | 2, _, esw =>
          refine g_tswIn C (off := 56) 78 dX9_about_22 (by rw [esw]; decide) (by rw [esw]; decide) (by rw [esw]; decide) (by decide) ?_
          have hy : 0 ≤ x ∧ x < nI 10 := by rw [esw]; decide
          have ey : toN x = 7 := by rw [esw]; decide
          refine g_aload_n C 0 dX9_about_78 rfl ?_
          refine g_get_r C ob_0 0 (by decide) rfl wd_279 dX9_about_79 ?_
          refine g_get_r C ob_1 4 (by decide) rfl wd_169 dX9_about_82 ?_
          refine g_get_i C ob_26 0 (by decide) rfl wd_137 dX9_about_85 ?_
          refine g_top (y := V 7) ((r_made r g).trans (gd_made g).1.symm) ?_
          refine g_iret C hQ rfl dX9_about_88 ?_
          exact ⟨by rw [aboutR, if_pos hy, ey], rfl⟩
        | 3, _, esw =>
          refine g_tswIn C (off := 67) 89 dX9_about_22 (by rw [esw]; decide) (by rw [esw]; decide) (by rw [esw]; decide) (by decide) ?_
          have hy : 0 ≤ x ∧ x < nI 10 := by rw [esw]; decide
          have ey : toN x = 8 := by rw [esw]; decide
          refine g_aload_n C 0 dX9_about_89 rfl ?_
          refine g_get_r C ob_0 0 (by decide) rfl wd_279 dX9_about_90 ?_
          refine g_get_r C ob_1 4 (by decide) rfl wd_169 dX9_about_93 ?_
          refine g_get_i C ob_26 1 (by decide) rfl wd_139 dX9_about_96 ?_
          refine g_top (y := V 8) ((r_ask r g).trans (gd_asks g).1.symm) ?_
          refine g_iret C hQ rfl dX9_about_99 ?_
          exact ⟨by rw [aboutR, if_pos hy, ey], rfl⟩
        | 4, _, esw =>
          refine g_tswIn C (off := 78) 100 dX9_about_22 (by rw [esw]; decide) (by rw [esw]; decide) (by rw [esw]; decide) (by decide) ?_
          have hy : 0 ≤ x ∧ x < nI 10 := by rw [esw]; decide
          have ey : toN x = 9 := by rw [esw]; decide
          refine g_aload_n C 0 dX9_about_100 rfl ?_
          refine g_get_r C ob_0 0 (by decide) rfl wd_279 dX9_about_101 ?_
          refine g_get_r C ob_1 4 (by decide) rfl wd_169 dX9_about_104 ?_
          refine g_get_i C ob_26 2 (by decide) rfl wd_141 dX9_about_107 ?_
          refine g_top (y := V 9) ((r_sil r g).trans (gd_asks g).2.1.symm) ?_
          refine g_iret C hQ rfl dX9_about_110 ?_
          exact ⟨by rw [aboutR, if_pos hy, ey], rfl⟩
        | jsw + 5, hsw, _ => exact absurd hsw (by omega)
    · obtain ⟨j, hj, rfl⟩ := lt_ex (by decide) ⟨Int32.not_lt.mp c_1, Int32.not_le.mp c_6⟩
      have ej : toN (nI j) = j := toN_nI (by omega)
      refine g_aload_n C 0 dX9_about_9 rfl ?_
      refine g_get_r C ob_0 0 (by decide) rfl wd_279 dX9_about_10 ?_
      refine g_get_r C ob_1 0 (by decide) rfl wd_158 dX9_about_13 ?_
      refine g_iload_n C 1 dX9_about_16 rfl ?_
      refine g_cV1 C (As := [.int (nI j)]) (w := .int (mem 3 j)) (mem3 := mem) iX6_at (c_X6_at l G mem ob_2 ar_3 (by decide) (by omega)) wd_368 ob_2 rfl ⟨Nat.le_of_ble_eq_true rfl, Nat.le_of_ble_eq_true rfl⟩ ⟨rfl, rfl⟩ rfl (Nat.le_of_ble_eq_true rfl) dX9_about_17 (rfl) (rfl) ?_
      refine g_top (y := V j) (r_set r hj) ?_
      refine g_iret C hQ rfl dX9_about_20 ?_
      exact ⟨by rw [aboutR, if_pos ⟨nI_pos' (by omega), nI_lt (by omega) (by decide)⟩, ej], rfl⟩

def rm_X9_mix : Room := { frames := 1, cells := 0, slots := 0, locals := 21 }
theorem iX9_mix : gIv yX9_mix cX9_mix 2 (some .int) 1 := ⟨⟨wd_408, wd_4, by decide +kernel, by decide +kernel, by decide +kernel⟩, wd_406, wd_407⟩
set_option maxRecDepth 100000 in
set_option maxHeartbeats 4000000 in
theorem c_X9_mix (l : Launch) (G : gG) (mem : gM) (x : Int32) : gMet l yX9_mix cX9_mix 2 (some .int) rm_X9_mix G [.ref (gad G 0), .int x] mem (fun a u => a = some (.int (mixI x)) ∧ u = mem) := by
  refine g_of (own := RX9) (L0 := [(0, .ref (gad G 0)), (1, .int x)]) (by decide +kernel) rfl (Nat.le_of_ble_eq_true rfl) rfl ?_
  intro p e s m args below meth c C Q hQ
  refine g_iload_n C 1 dX9_mix_0 rfl ?_
  refine g_cS1 C (As := [.int x]) (w := .int (mixI x)) (mem3 := mem) iX4_mixed (c_X4_mixed l G mem x) wd_409 rfl ⟨Nat.le_of_ble_eq_true rfl, Nat.le_of_ble_eq_true rfl⟩ ⟨rfl, rfl⟩ rfl (Nat.le_of_ble_eq_true rfl) dX9_mix_1 (rfl) (rfl) ?_
  refine g_iret C hQ rfl dX9_mix_4 ?_
  exact ⟨rfl, rfl⟩

def rm_X9_seed : Room := { frames := 0, cells := 0, slots := 0, locals := 0 }
theorem iX9_seed : gIv yX9_seed cX9_seed 1 (some .long) 0 := ⟨⟨wd_591, wd_4, by decide +kernel, by decide +kernel, by decide +kernel⟩, wd_589, wd_590⟩
set_option maxRecDepth 100000 in
set_option maxHeartbeats 4000000 in
theorem c_X9_seed (l : Launch) (G : gG) {T : Nat} {V : Nat → Int32} (g : Good T V) (mem : gM) (r : Rel V mem) : gMet l yX9_seed cX9_seed 1 (some .long) rm_X9_seed G [.ref (gad G 0)] mem (fun a u => a = some (.long (seedR V)) ∧ u = mem) := by
  refine g_of (own := RX9) (L0 := [(0, .ref (gad G 0))]) (by decide +kernel) rfl (Nat.le_of_ble_eq_true rfl) rfl ?_
  intro p e s m args below meth c C Q hQ
  refine g_aload_n C 0 dX9_seed_0 rfl ?_
  refine g_get_r C ob_0 0 (by decide) rfl wd_279 dX9_seed_1 ?_
  refine g_get_r C ob_1 2 (by decide) rfl wd_164 dX9_seed_4 ?_
  refine g_get_i C ob_21 0 (by decide) rfl wd_111 dX9_seed_7 ?_
  refine g_top (y := V 6) (r_rd r) ?_
  refine g_if_ne C 19 dX9_seed_10 (by decide) (fun c_10 => ?_) (fun c_10 => ?_)
  · refine g_aload_n C 0 dX9_seed_19 rfl ?_
    refine g_get_r C ob_0 0 (by decide) rfl wd_279 dX9_seed_20 ?_
    refine g_get_r C ob_1 2 (by decide) rfl wd_164 dX9_seed_23 ?_
    refine g_get_i C ob_21 1 (by decide) rfl wd_114 dX9_seed_26 ?_
    refine g_top (y := V 10) (r_sd r) ?_
    refine g_i2l C dX9_seed_29 ?_
    refine g_lret C hQ rfl dX9_seed_30 ?_
    first
      | exact ⟨by rw [seedR, if_neg c_10], rfl⟩
      | exact ⟨by rw [seedR, if_pos c_10], rfl⟩
  · refine g_ldc2 C wd_592 dX9_seed_13 ?_
    refine g_goto C 30 dX9_seed_16 (by decide) ?_
    refine g_lret C hQ rfl dX9_seed_30 ?_
    first
      | exact ⟨by rw [seedR, if_neg c_10], rfl⟩
      | exact ⟨by rw [seedR, if_pos c_10], rfl⟩

def rm_X9_duty : Room := { frames := 2, cells := 0, slots := 0, locals := 42 }
theorem iX9_duty : gIv yX9_duty cX9_duty 2 (some .int) 1 := ⟨⟨wd_474, wd_4, by decide +kernel, by decide +kernel, by decide +kernel⟩, wd_472, wd_473⟩
set_option maxRecDepth 100000 in
set_option maxHeartbeats 4000000 in
theorem c_X9_duty (l : Launch) (G : gG) {T : Nat} {V : Nat → Int32} (g : Good T V) (mem : gM) (r : Rel V mem) (x : Int32) : gMet l yX9_duty cX9_duty 2 (some .int) rm_X9_duty G [.ref (gad G 0), .int x] mem (fun a u => a = some (.int (dutyR V x)) ∧ u = mem) := by
  refine g_of (own := RX9) (L0 := [(0, .ref (gad G 0)), (1, .int x)]) (by decide +kernel) rfl (Nat.le_of_ble_eq_true rfl) rfl ?_
  intro p e s m args below meth c C Q hQ
  have hn10 := gd_n10 g
  have hzn := (gd_z g).2
  refine g_iload_n C 1 dX9_duty_0 rfl ?_
  refine g_if_ge C 9 dX9_duty_1 (by decide) (fun c_1 => ?_) (fun c_1 => ?_)
  · refine g_aload_n C 0 dX9_duty_9 rfl ?_
    refine g_get_r C ob_0 0 (by decide) rfl wd_279 dX9_duty_10 ?_
    refine g_get_r C ob_1 2 (by decide) rfl wd_164 dX9_duty_13 ?_
    refine g_iload_n C 1 dX9_duty_16 rfl ?_
    refine g_cV1 C (As := [.int x]) (w := .int (atI (mem 23) (vZ V) x)) (mem3 := mem) iX0_memberAt (c_X0_memberAt_21 l G mem (r_z r g) (by omega) x) wd_475 ob_21 rfl ⟨Nat.le_of_ble_eq_true rfl, Nat.le_of_ble_eq_true rfl⟩ ⟨rfl, rfl⟩ rfl (Nat.le_of_ble_eq_true rfl) dX9_duty_17 (rfl) (rfl) ?_
    refine g_iret C hQ rfl dX9_duty_20 ?_
    refine ⟨?_, rfl⟩
    rw [dutyR, if_neg (Int32.not_lt.mpr c_1), atI]
    by_cases q : x < nI (vZ V)
    · rw [if_pos ⟨c_1, q⟩, if_pos q]
      obtain ⟨j, hj, rfl⟩ := lt_ex (by omega) ⟨c_1, q⟩
      have hR := r.2.2.2.2.2.1 j hj
      rw [toN_nI (by omega)]
      exact congrArg (fun z => some (Value.int z)) hR
    · rw [if_neg (fun z => q z.2), if_neg q]
  · refine g_ldc C wd_305 dX9_duty_4 ?_
    refine g_goto C 20 dX9_duty_6 (by decide) ?_
    refine g_iret C hQ rfl dX9_duty_20 ?_
    exact ⟨by rw [dutyR, if_pos (Int32.not_le.mp c_1)], rfl⟩

def rm_X9_lost : Room := { frames := 1, cells := 0, slots := 0, locals := 21 }
theorem iX9_lost : gIv yX9_lost cX9_lost 3 (some .int) 2 := ⟨⟨wd_489, wd_4, by decide +kernel, by decide +kernel, by decide +kernel⟩, wd_487, wd_488⟩
set_option maxRecDepth 100000 in
set_option maxHeartbeats 4000000 in
theorem c_X9_lost (l : Launch) (G : gG) {T : Nat} {V : Nat → Int32} (g : Good T V) (mem : gM) (r : Rel V mem) (x y : Int32) : gMet l yX9_lost cX9_lost 3 (some .int) rm_X9_lost G [.ref (gad G 0), .int x, .int y] mem (fun a u => a = some (.int (lostR V x y)) ∧ u = mem) := by
  refine g_of (own := RX9) (L0 := [(0, .ref (gad G 0)), (1, .int x), (2, .int y)]) (by decide +kernel) rfl (Nat.le_of_ble_eq_true rfl) rfl ?_
  intro p e s m args below meth c C Q hQ
  have hn10 := gd_n10 g
  refine g_aload_n C 0 dX9_lost_0 rfl ?_
  refine g_iload_n C 1 dX9_lost_1 rfl ?_
  refine g_cV1 C (As := [.int x]) (w := .int (b2i (memP V x))) (mem3 := mem) iX9_isMember (c_X9_isMember l G g mem r x) wd_353 ob_0 rfl ⟨Nat.le_of_ble_eq_true rfl, Nat.le_of_ble_eq_true rfl⟩ ⟨rfl, rfl⟩ rfl (Nat.le_of_ble_eq_true rfl) dX9_lost_2 (rfl) (rfl) ?_
  refine g_ifb_eq C 15 dX9_lost_5 (by decide) (fun c_5 => ?_) (fun c_5 => ?_)
  · refine g_ldc C wd_305 dX9_lost_15 ?_
    refine g_iret C hQ rfl dX9_lost_17 ?_
    first
      | exact ⟨by rw [lostR, if_neg (fun q => c_5 q.1)], rfl⟩
      | exact ⟨by rw [lostR, if_neg (fun q => c_12 q.2)], rfl⟩
  · obtain ⟨j, hj, rfl⟩ := memP_ex g c_5
    have ej : toN (nI j) = j := toN_nI (by omega)
    refine g_iload_n C 2 dX9_lost_8 rfl ?_
    refine g_cS1 C (As := [.int y]) (w := .int (b2i (blkP y))) (mem3 := mem) iX9_isBlock (c_X9_isBlock l G mem y) wd_483 rfl ⟨Nat.le_of_ble_eq_true rfl, Nat.le_of_ble_eq_true rfl⟩ ⟨rfl, rfl⟩ rfl (Nat.le_of_ble_eq_true rfl) dX9_lost_9 (rfl) (rfl) ?_
    refine g_ifb_ne C 18 dX9_lost_12 (by decide) (fun c_12 => ?_) (fun c_12 => ?_)
    · obtain ⟨b, hb, rfl⟩ := blkP_ex c_12
      have eb : toN (nI b) = b := toN_nI (by omega)
      refine g_aload_n C 0 dX9_lost_18 rfl ?_
      refine g_get_r C ob_0 0 (by decide) rfl wd_279 dX9_lost_19 ?_
      refine g_get_r C ob_1 3 (by decide) rfl wd_167 dX9_lost_22 ?_
      refine g_iload_n C 2 dX9_lost_25 rfl ?_
      refine g_cV1 C (As := [.int (nI b)]) (w := .int (mem 25 b)) (mem3 := mem) iX6_at (c_X6_at l G mem ob_24 ar_25 (by decide) (by omega)) wd_368 ob_24 rfl ⟨Nat.le_of_ble_eq_true rfl, Nat.le_of_ble_eq_true rfl⟩ ⟨rfl, rfl⟩ rfl (Nat.le_of_ble_eq_true rfl) dX9_lost_26 (rfl) (rfl) ?_
      refine g_top (y := V (150 + b)) (r_lo r hb) ?_
      refine g_iload_n C 1 dX9_lost_29 rfl ?_
      refine g_cS1 C (As := [.int (V (150 + b)), .int (nI j)]) (w := .int (b2i (hs (V (150 + b)) j))) (mem3 := mem) iX4_has (c_X4_has l G mem (V (150 + b)) j) wd_490 rfl ⟨Nat.le_of_ble_eq_true rfl, Nat.le_of_ble_eq_true rfl⟩ ⟨rfl, rfl⟩ rfl (Nat.le_of_ble_eq_true rfl) dX9_lost_30 (rfl) (rfl) ?_
      refine g_ifb_eq C 40 dX9_lost_33 (by decide) (fun c_33 => ?_) (fun c_33 => ?_)
      · refine g_iconst C (nI 0) dX9_lost_40 (by decide) ?_
        refine g_iret C hQ rfl dX9_lost_41 ?_
        first
          | exact ⟨by rw [lostR, if_pos ⟨c_5, c_12⟩, ej, eb, if_pos (show vLo V b j = true from (hs_bt (by omega)).mp c_33)], rfl⟩
          | exact ⟨by rw [lostR, if_pos ⟨c_5, c_12⟩, ej, eb, if_neg (show ¬ vLo V b j = true from mt (hs_bt (by omega)).mpr c_33)], rfl⟩
      · refine g_iconst C (nI 1) dX9_lost_36 (by decide) ?_
        refine g_goto C 41 dX9_lost_37 (by decide) ?_
        refine g_iret C hQ rfl dX9_lost_41 ?_
        first
          | exact ⟨by rw [lostR, if_pos ⟨c_5, c_12⟩, ej, eb, if_pos (show vLo V b j = true from (hs_bt (by omega)).mp c_33)], rfl⟩
          | exact ⟨by rw [lostR, if_pos ⟨c_5, c_12⟩, ej, eb, if_neg (show ¬ vLo V b j = true from mt (hs_bt (by omega)).mpr c_33)], rfl⟩
    · refine g_ldc C wd_305 dX9_lost_15 ?_
      refine g_iret C hQ rfl dX9_lost_17 ?_
      first
        | exact ⟨by rw [lostR, if_neg (fun q => c_5 q.1)], rfl⟩
        | exact ⟨by rw [lostR, if_neg (fun q => c_12 q.2)], rfl⟩

def rm_X9_past : Room := { frames := 3, cells := 0, slots := 0, locals := 65 }
theorem iX9_past : gIv yX9_past cX9_past 3 (some .int) 2 := ⟨⟨wd_602, wd_4, by decide +kernel, by decide +kernel, by decide +kernel⟩, wd_600, wd_601⟩
set_option maxRecDepth 100000 in
set_option maxHeartbeats 4000000 in
theorem c_X9_past (l : Launch) (G : gG) {T : Nat} {V : Nat → Int32} (g : Good T V) (mem : gM) (r : Rel V mem) (hT : T < 2 ^ 20) (x y : Int32) : gMet l yX9_past cX9_past 3 (some .int) rm_X9_past G [.ref (gad G 0), .int x, .int y] mem (fun a u => a = some (.int (pastR V x y)) ∧ u = mem) := by
  refine g_of (own := RX9) (L0 := [(0, .ref (gad G 0)), (1, .int x), (2, .int y)]) (by decide +kernel) rfl (Nat.le_of_ble_eq_true rfl) rfl ?_
  intro p e s m args below meth c C Q hQ
  have hgm := (gd_made g).2
  refine g_iload_n C 1 dX9_past_0 rfl ?_
  refine g_if_lt C 14 dX9_past_1 (by decide) (fun c_1 => ?_) (fun c_1 => ?_)
  · refine g_ldc C wd_305 dX9_past_14 ?_
    refine g_iret C hQ rfl dX9_past_16 ?_
    first
      | exact ⟨by rw [pastR, if_neg (fun q => absurd c_1 (Int32.not_lt.mpr q.1))], rfl⟩
      | exact ⟨by rw [pastR, if_neg (fun q => absurd c_5 (Int32.not_lt.mpr q.2.1))], rfl⟩
      | exact ⟨by rw [pastR, if_neg (fun q => c_11 q.2.2)], rfl⟩
  · obtain ⟨i0, hi0, rfl⟩ := nI_of c_1
    have ei : toN (nI i0) = i0 := toN_nI hi0
    refine g_iload_n C 2 dX9_past_4 rfl ?_
    refine g_if_lt C 14 dX9_past_5 (by decide) (fun c_5 => ?_) (fun c_5 => ?_)
    · refine g_ldc C wd_305 dX9_past_14 ?_
      refine g_iret C hQ rfl dX9_past_16 ?_
      first
        | exact ⟨by rw [pastR, if_neg (fun q => absurd c_1 (Int32.not_lt.mpr q.1))], rfl⟩
        | exact ⟨by rw [pastR, if_neg (fun q => absurd c_5 (Int32.not_lt.mpr q.2.1))], rfl⟩
        | exact ⟨by rw [pastR, if_neg (fun q => c_11 q.2.2)], rfl⟩
    · refine g_iload_n C 2 dX9_past_8 rfl ?_
      refine g_bipush C (nI 7) dX9_past_9 (by decide) ?_
      refine g_icmp_lt C 17 dX9_past_11 (by decide) (fun c_11 => ?_) (fun c_11 => ?_)
      · obtain ⟨w0, hw0, rfl⟩ := lt_ex (n := 7) (by decide) ⟨Int32.not_lt.mp c_5, c_11⟩
        have ew : toN (nI w0) = w0 := toN_nI (by omega)
        refine g_aload_n C 0 dX9_past_17 rfl ?_
        refine g_get_r C ob_0 0 (by decide) rfl wd_279 dX9_past_18 ?_
        refine g_get_r C ob_1 4 (by decide) rfl wd_169 dX9_past_21 ?_
        refine g_iload_n C 1 dX9_past_24 rfl ?_
        refine g_iload_n C 2 dX9_past_25 rfl ?_
        refine g_cV1 C (As := [.int (nI i0), .int (nI w0)]) (w := .int (if i0 < min (toN (V 7)) 20 then mem 28 (((toN (V 7)) - 1 - i0) % 20 * 7 + w0) else kNone)) (mem3 := mem) iX2_number (c_X2_number l G mem (r_made r g) (by omega) (i0 := i0) (hi0) (hw0)) wd_603 ob_26 rfl ⟨Nat.le_of_ble_eq_true rfl, Nat.le_of_ble_eq_true rfl⟩ ⟨rfl, rfl⟩ rfl (Nat.le_of_ble_eq_true rfl) dX9_past_26 (rfl) (rfl) ?_
        refine g_iret C hQ rfl dX9_past_29 ?_
        refine ⟨?_, rfl⟩
        have hR : pastR V (nI i0) (nI w0) = pastN V i0 w0 := by rw [pastR, if_pos ⟨nI_pos' hi0, nI_pos' (by omega), c_11⟩, ei, ew]
        rw [hR, pastN]
        by_cases q : i0 < min (toN (V 7)) 20
        · rw [if_pos q, if_pos q, r_num r (by have := Nat.mod_lt (toN (V 7) - 1 - i0) (by decide : 0 < 20); omega)]
        · rw [if_neg q, if_neg q]
      · refine g_ldc C wd_305 dX9_past_14 ?_
        refine g_iret C hQ rfl dX9_past_16 ?_
        first
          | exact ⟨by rw [pastR, if_neg (fun q => absurd c_1 (Int32.not_lt.mpr q.1))], rfl⟩
          | exact ⟨by rw [pastR, if_neg (fun q => absurd c_5 (Int32.not_lt.mpr q.2.1))], rfl⟩
          | exact ⟨by rw [pastR, if_neg (fun q => c_11 q.2.2)], rfl⟩

def rm_X9_why : Room := { frames := 5, cells := 0, slots := 0, locals := 116 }
theorem iX9_why : gIv yX9_why cX9_why 2 (some .int) 1 := ⟨⟨wd_556, wd_4, by decide +kernel, by decide +kernel, by decide +kernel⟩, wd_554, wd_555⟩
set_option maxRecDepth 100000 in
set_option maxHeartbeats 4000000 in
theorem c_X9_why (l : Launch) (G : gG) {T : Nat} {V : Nat → Int32} (g : Good T V) (mem : gM) (r : Rel V mem) (x : Int32) : gMet l yX9_why cX9_why 2 (some .int) rm_X9_why G [.ref (gad G 0), .int x] mem (fun a u => a = some (.int (whyR V x)) ∧ (∀ k, (k < 146 ∨ 154 ≤ k) → u k = mem k)) := by
  refine g_of (own := RX9) (L0 := [(0, .ref (gad G 0)), (1, .int x)]) (by decide +kernel) rfl (Nat.le_of_ble_eq_true rfl) rfl ?_
  intro p e s m args below meth c C Q hQ
  have hn10 := gd_n10 g
  refine g_iload_n C 1 dX9_why_0 rfl ?_
  refine g_cS1 C (As := [.int x]) (w := .int (b2i (blkP x))) (mem3 := mem) iX9_isBlock (c_X9_isBlock l G mem x) wd_483 rfl ⟨Nat.le_of_ble_eq_true rfl, Nat.le_of_ble_eq_true rfl⟩ ⟨rfl, rfl⟩ rfl (Nat.le_of_ble_eq_true rfl) dX9_why_1 (rfl) (rfl) ?_
  refine g_ifb_ne C 10 dX9_why_4 (by decide) (fun c_4 => ?_) (fun c_4 => ?_)
  · obtain ⟨b, hb, rfl⟩ := blkP_ex c_4
    have eb : toN (nI b) = b := toN_nI (by omega)
    refine g_aload_n C 0 dX9_why_10 rfl ?_
    refine g_get_r C ob_0 3 (by decide) rfl wd_282 dX9_why_11 ?_
    refine g_aload_n C 0 dX9_why_14 rfl ?_
    refine g_get_r C ob_0 0 (by decide) rfl wd_279 dX9_why_15 ?_
    refine g_iload_n C 1 dX9_why_18 rfl ?_
    refine g_aload_n C 0 dX9_why_19 rfl ?_
    refine g_get_r C ob_0 0 (by decide) rfl wd_279 dX9_why_20 ?_
    refine g_get_r C ob_1 0 (by decide) rfl wd_158 dX9_why_23 ?_
    refine g_iconst C (nI 0) dX9_why_26 (by decide) ?_
    refine g_cV1 C (As := [.int (nI 0)]) (w := .int (mem 3 0)) (mem3 := mem) iX6_at (c_X6_at l G mem ob_2 ar_3 (by decide) (by omega)) wd_368 ob_2 rfl ⟨Nat.le_of_ble_eq_true rfl, Nat.le_of_ble_eq_true rfl⟩ ⟨rfl, rfl⟩ rfl (Nat.le_of_ble_eq_true rfl) dX9_why_27 (rfl) (rfl) ?_
    refine g_top (y := nI (toN (V 0))) ((r_set r (by decide)).trans (gd_wait g).1) ?_
    refine g_cVq C (As := [.ref (gad G 1), .int (nI b), .int (nI (toN (V 0)))]) iX5_reckon (c_X5_reckon l G g mem r (b := b) (wa := (toN (V 0))) (hb) ((gd_wait g).2.1) ((gd_wait g).2.2)) wd_495 ob_146 rfl ⟨Nat.le_of_ble_eq_true rfl, Nat.le_of_ble_eq_true rfl⟩ ⟨rfl, rfl⟩ rfl (Nat.le_of_ble_eq_true rfl) dX9_why_30 (fun u0 hq => ?_)
    obtain ⟨p0, w0, a0, rfl, hk0_0, hk1_0, hk_0⟩ := hq
    refine g_aload_n C 0 dX9_why_33 rfl ?_
    refine g_get_r C ob_0 3 (by decide) rfl wd_282 dX9_why_34 ?_
    refine g_get_i C ob_146 1 (by decide) rfl wd_229 dX9_why_37 ?_
    refine g_top (y := p0 1) (rfl) ?_
    refine g_top (y := nI (hcd V b)) (hk1_0) ?_
    refine g_iret C hQ rfl dX9_why_40 ?_
    exact ⟨by rw [whyR, if_pos c_4, eb], fun k hk => by rw [gr_n (by omega), gr_n (by omega), gr_n (by omega)]⟩
  · refine g_ldc C wd_305 dX9_why_7 ?_
    refine g_iret C hQ rfl dX9_why_9 ?_
    exact ⟨by rw [whyR, if_neg c_4], fun _ _ => rfl⟩

def rm_X9_ifLeft : Room := { frames := 4, cells := 0, slots := 0, locals := 95 }
theorem iX9_ifLeft : gIv yX9_ifLeft cX9_ifLeft 4 (some .int) 2 := ⟨⟨wd_630, wd_4, by decide +kernel, by decide +kernel, by decide +kernel⟩, wd_628, wd_629⟩
set_option maxRecDepth 100000 in
set_option maxHeartbeats 4000000 in
theorem c_X9_ifLeft (l : Launch) (G : gG) {T : Nat} {V : Nat → Int32} (g : Good T V) (mem : gM) (r : Rel V mem) (x y : Int32) : gMet l yX9_ifLeft cX9_ifLeft 4 (some .int) rm_X9_ifLeft G [.ref (gad G 0), .int x, .int y] mem (fun a u => a = some (.int (leftR V x y)) ∧ (∀ k, (k < 146 ∨ 154 ≤ k) → u k = mem k)) := by
  refine g_of (own := RX9) (L0 := [(0, .ref (gad G 0)), (1, .int x), (2, .int y)]) (by decide +kernel) rfl (Nat.le_of_ble_eq_true rfl) rfl ?_
  intro p e s m args below meth c C Q hQ
  have hn10 := gd_n10 g
  refine g_iload_n C 1 dX9_ifLeft_0 rfl ?_
  refine g_if_lt C 15 dX9_ifLeft_1 (by decide) (fun c_1 => ?_) (fun c_1 => ?_)
  · refine g_ldc C wd_305 dX9_ifLeft_15 ?_
    refine g_iret C hQ rfl dX9_ifLeft_17 ?_
    first
      | exact ⟨by rw [leftR, if_neg (fun q => absurd c_1 (Int32.not_lt.mpr q.1.1))], fun _ _ => rfl⟩
      | exact ⟨by rw [leftR, if_neg (fun q => absurd c_8 (Int32.not_lt.mpr q.1.2))], fun _ _ => rfl⟩
      | exact ⟨by rw [leftR, if_neg (fun q => c_12 q.2)], fun _ _ => rfl⟩
  · refine g_iload_n C 1 dX9_ifLeft_4 rfl ?_
    refine g_sipush C (nI 1023) dX9_ifLeft_5 (by decide) ?_
    refine g_icmp_gt C 15 dX9_ifLeft_8 (by decide) (fun c_8 => ?_) (fun c_8 => ?_)
    · refine g_ldc C wd_305 dX9_ifLeft_15 ?_
      refine g_iret C hQ rfl dX9_ifLeft_17 ?_
      first
        | exact ⟨by rw [leftR, if_neg (fun q => absurd c_1 (Int32.not_lt.mpr q.1.1))], fun _ _ => rfl⟩
        | exact ⟨by rw [leftR, if_neg (fun q => absurd c_8 (Int32.not_lt.mpr q.1.2))], fun _ _ => rfl⟩
        | exact ⟨by rw [leftR, if_neg (fun q => c_12 q.2)], fun _ _ => rfl⟩
    · refine g_iload_n C 2 dX9_ifLeft_11 rfl ?_
      refine g_if_ge C 18 dX9_ifLeft_12 (by decide) (fun c_12 => ?_) (fun c_12 => ?_)
      · refine g_aload_n C 0 dX9_ifLeft_18 rfl ?_
        refine g_get_r C ob_0 0 (by decide) rfl wd_279 dX9_ifLeft_19 ?_
        refine g_get_r C ob_1 1 (by decide) rfl wd_161 dX9_ifLeft_22 ?_
        refine g_cV1 C (As := []) (w := .int (mk (vRR V) (vN V))) (mem3 := mem) iX3_rightReveals (c_X3_rightReveals l G g mem r) wd_427 ob_4 rfl ⟨Nat.le_of_ble_eq_true rfl, Nat.le_of_ble_eq_true rfl⟩ ⟨rfl, rfl⟩ rfl (Nat.le_of_ble_eq_true rfl) dX9_ifLeft_25 (rfl) (rfl) ?_
        refine g_iload_n C 1 dX9_ifLeft_28 rfl ?_
        refine g_iconst C (((-1) : Int32)) dX9_ifLeft_29 (by decide) ?_
        refine g_ixor C dX9_ifLeft_30 ?_
        refine g_iand C dX9_ifLeft_31 ?_
        refine g_top (y := mk (lfP V x) (vN V)) (mk_left g x) ?_
        refine g_istore_n C (L2 := [(3, .int (mk (lfP V x) (vN V))), (0, .ref (gad G 0)), (1, .int x), (2, .int y)]) dX9_ifLeft_32 (by decide) rfl ?_
        refine g_aload_n C 1 dX9_ifLeft_33 rfl ?_
        refine g_iload_n C 0 dX9_ifLeft_34 rfl ?_
        refine g_cV1 C (As := [.int (mk (lfP V x) (vN V))]) (w := .int (b2i (toN (V 2) ≤ fa_cnt (lfP V x) (vN V)))) (mem3 := mem) iX9_areEnough (c_X9_areEnough l G g mem r (lfP V x)) wd_432 ob_0 rfl ⟨Nat.le_of_ble_eq_true rfl, Nat.le_of_ble_eq_true rfl⟩ ⟨rfl, rfl⟩ rfl (Nat.le_of_ble_eq_true rfl) dX9_ifLeft_35 (rfl) (rfl) ?_
        refine g_ifb_ne C 44 dX9_ifLeft_38 (by decide) (fun c_38 => ?_) (fun c_38 => ?_)
        · refine g_aload_n C 1 dX9_ifLeft_44 rfl ?_
          refine g_get_r C ob_0 4 (by decide) rfl wd_283 dX9_ifLeft_45 ?_
          refine g_aload_n C 1 dX9_ifLeft_48 rfl ?_
          refine g_get_r C ob_0 0 (by decide) rfl wd_279 dX9_ifLeft_49 ?_
          refine g_get_r C ob_1 2 (by decide) rfl wd_164 dX9_ifLeft_52 ?_
          refine g_get_i C ob_21 0 (by decide) rfl wd_111 dX9_ifLeft_55 ?_
          refine g_top (y := V 6) (r_rd r) ?_
          refine g_aload_n C 1 dX9_ifLeft_58 rfl ?_
          refine g_get_r C ob_0 0 (by decide) rfl wd_279 dX9_ifLeft_59 ?_
          refine g_get_r C ob_1 1 (by decide) rfl wd_161 dX9_ifLeft_62 ?_
          refine g_iload_n C 0 dX9_ifLeft_65 rfl ?_
          refine g_cV0 C (As := [.int (V 6), .ref (gad G 4), .int (mk (lfP V x) (vN V))]) (mem3 := gr (gr mem 151 (upd (upd (upd (mem 151) 0 ((V 6) + nI 1)) 1 (sdF (mk (lfP V x) (vN V)) (mem 20) ((V 6) + nI 1) (vN V))) 2 (nI (vN V)))) 153 (cpy (vN V) (fun k => nI (dM (vW V) (vN V) (sdF (mk (lfP V x) (vN V)) (mem 20) ((V 6) + nI 1) (vN V)) k)) (mem 153))) iX0_drawNext (c_X0_drawNext_151 l G mem (r_n r g) (gd_n10 g) (fun m hm => (r_w r hm).trans (gd_w g hm).1) (fun m hm => ⟨(gd_w g hm).2.1, (gd_w g hm).2.2⟩) (V 6) (mk (lfP V x) (vN V))) wd_442 ob_151 rfl ⟨Nat.le_of_ble_eq_true rfl, Nat.le_of_ble_eq_true rfl⟩ ⟨rfl, rfl⟩ rfl (Nat.le_of_ble_eq_true rfl) dX9_ifLeft_66 (rfl) ?_
          refine g_aload_n C 1 dX9_ifLeft_69 rfl ?_
          refine g_get_r C ob_0 4 (by decide) rfl wd_283 dX9_ifLeft_70 ?_
          refine g_iload_n C 3 dX9_ifLeft_73 rfl ?_
          refine g_cV1 C (As := [.int y]) (w := .int (atI (cpy (vN V) (fun k => nI (dM (vW V) (vN V) (sdF (mk (lfP V x) (vN V)) (mem 20) ((V 6) + nI 1) (vN V)) k)) (mem 153)) (vN V) y)) (mem3 := gr (gr mem 151 (upd (upd (upd (mem 151) 0 ((V 6) + nI 1)) 1 (sdF (mk (lfP V x) (vN V)) (mem 20) ((V 6) + nI 1) (vN V))) 2 (nI (vN V)))) 153 (cpy (vN V) (fun k => nI (dM (vW V) (vN V) (sdF (mk (lfP V x) (vN V)) (mem 20) ((V 6) + nI 1) (vN V)) k)) (mem 153))) iX0_memberAt (c_X0_memberAt_151 l G (gr (gr mem 151 (upd (upd (upd (mem 151) 0 ((V 6) + nI 1)) 1 (sdF (mk (lfP V x) (vN V)) (mem 20) ((V 6) + nI 1) (vN V))) 2 (nI (vN V)))) 153 (cpy (vN V) (fun k => nI (dM (vW V) (vN V) (sdF (mk (lfP V x) (vN V)) (mem 20) ((V 6) + nI 1) (vN V)) k)) (mem 153))) (rfl) (hn10) y) wd_475 ob_151 rfl ⟨Nat.le_of_ble_eq_true rfl, Nat.le_of_ble_eq_true rfl⟩ ⟨rfl, rfl⟩ rfl (Nat.le_of_ble_eq_true rfl) dX9_ifLeft_74 (rfl) (rfl) ?_
          refine g_iret C hQ rfl dX9_ifLeft_77 ?_
          refine ⟨?_, fun k hk => by rw [gr_n (by omega), gr_n (by omega)]⟩
          rw [leftR, if_pos ⟨⟨Int32.not_lt.mp c_1, Int32.not_lt.mp c_8⟩, c_12⟩, if_pos c_38]
          rw [sd_cong (f2 := fun m => V (40 + 12 * m)) (fun m hm => r_se r hm), atI]
          by_cases q : y < nI (vN V)
          · rw [if_pos ⟨c_12, q⟩, if_pos q]
            obtain ⟨j, hj, rfl⟩ := lt_ex (by omega) ⟨c_12, q⟩
            rw [cpy_in (by rw [toN_nI (by omega)]; exact hj)]
            rfl
          · rw [if_neg (fun z => q z.2), if_neg q]
        · refine g_ldc C wd_417 dX9_ifLeft_41 ?_
          refine g_iret C hQ rfl dX9_ifLeft_43 ?_
          exact ⟨by rw [leftR, if_pos ⟨⟨Int32.not_lt.mp c_1, Int32.not_lt.mp c_8⟩, c_12⟩, if_neg c_38], fun _ _ => rfl⟩
      · refine g_ldc C wd_305 dX9_ifLeft_15 ?_
        refine g_iret C hQ rfl dX9_ifLeft_17 ?_
        first
          | exact ⟨by rw [leftR, if_neg (fun q => absurd c_1 (Int32.not_lt.mpr q.1.1))], fun _ _ => rfl⟩
          | exact ⟨by rw [leftR, if_neg (fun q => absurd c_8 (Int32.not_lt.mpr q.1.2))], fun _ _ => rfl⟩
          | exact ⟨by rw [leftR, if_neg (fun q => c_12 q.2)], fun _ _ => rfl⟩

def rm_X9_look : Room := { frames := 5, cells := 0, slots := 0, locals := 116 }
theorem iX9_look : gIv yX9_look cX9_look 4 (some .int) 3 := ⟨⟨wd_647, wd_4, by decide +kernel, by decide +kernel, by decide +kernel⟩, wd_645, wd_646⟩
set_option maxRecDepth 100000 in
set_option maxHeartbeats 4000000 in
theorem c_X9_look (l : Launch) (G : gG) {T : Nat} {V : Nat → Int32} (g : Good T V) (mem : gM) (r : Rel V mem) (x y z : Int32) : gMet l yX9_look cX9_look 4 (some .int) rm_X9_look G [.ref (gad G 0), .int x, .int y, .int z] mem (fun a u => a = some (.int (lookR V x y z)) ∧ (∀ k, (k < 146 ∨ 154 ≤ k) → u k = mem k)) := by
  refine g_of (own := RX9) (L0 := [(0, .ref (gad G 0)), (1, .int x), (2, .int y), (3, .int z)]) (by decide +kernel) rfl (Nat.le_of_ble_eq_true rfl) rfl ?_
  intro p e s m args below meth c C Q hQ
  have hn10 := gd_n10 g
  refine g_iload_n C 1 dX9_look_0 rfl ?_
  refine g_cS1 C (As := [.int x]) (w := .int (b2i (blkP x))) (mem3 := mem) iX9_isBlock (c_X9_isBlock l G mem x) wd_483 rfl ⟨Nat.le_of_ble_eq_true rfl, Nat.le_of_ble_eq_true rfl⟩ ⟨rfl, rfl⟩ rfl (Nat.le_of_ble_eq_true rfl) dX9_look_1 (rfl) (rfl) ?_
  refine g_ifb_eq C 24 dX9_look_4 (by decide) (fun c_4 => ?_) (fun c_4 => ?_)
  · refine g_ldc C wd_305 dX9_look_24 ?_
    refine g_iret C hQ rfl dX9_look_26 ?_
    first
      | exact ⟨by rw [lookR, if_neg (fun q => c_4 q.1.1)], fun _ _ => rfl⟩
      | exact ⟨by rw [lookR, if_neg (fun q => c_12 q.1.2)], fun _ _ => rfl⟩
      | exact ⟨by rw [lookR, if_neg (fun q => absurd c_16 (Int32.not_lt.mpr q.2.1))], fun _ _ => rfl⟩
      | exact ⟨by rw [lookR, if_neg (fun q => c_21 q.2.2)], fun _ _ => rfl⟩
  · obtain ⟨b, hb, rfl⟩ := blkP_ex c_4
    have eb : toN (nI b) = b := toN_nI (by omega)
    refine g_aload_n C 0 dX9_look_7 rfl ?_
    refine g_iload_n C 2 dX9_look_8 rfl ?_
    refine g_cV1 C (As := [.int y]) (w := .int (b2i (memP V y))) (mem3 := mem) iX9_isMember (c_X9_isMember l G g mem r y) wd_353 ob_0 rfl ⟨Nat.le_of_ble_eq_true rfl, Nat.le_of_ble_eq_true rfl⟩ ⟨rfl, rfl⟩ rfl (Nat.le_of_ble_eq_true rfl) dX9_look_9 (rfl) (rfl) ?_
    refine g_ifb_eq C 24 dX9_look_12 (by decide) (fun c_12 => ?_) (fun c_12 => ?_)
    · refine g_ldc C wd_305 dX9_look_24 ?_
      refine g_iret C hQ rfl dX9_look_26 ?_
      first
        | exact ⟨by rw [lookR, if_neg (fun q => c_4 q.1.1)], fun _ _ => rfl⟩
        | exact ⟨by rw [lookR, if_neg (fun q => c_12 q.1.2)], fun _ _ => rfl⟩
        | exact ⟨by rw [lookR, if_neg (fun q => absurd c_16 (Int32.not_lt.mpr q.2.1))], fun _ _ => rfl⟩
        | exact ⟨by rw [lookR, if_neg (fun q => c_21 q.2.2)], fun _ _ => rfl⟩
    · obtain ⟨j, hj, rfl⟩ := memP_ex g c_12
      have ej : toN (nI j) = j := toN_nI (by omega)
      refine g_iload_n C 3 dX9_look_15 rfl ?_
      refine g_if_lt C 24 dX9_look_16 (by decide) (fun c_16 => ?_) (fun c_16 => ?_)
      · refine g_ldc C wd_305 dX9_look_24 ?_
        refine g_iret C hQ rfl dX9_look_26 ?_
        first
          | exact ⟨by rw [lookR, if_neg (fun q => c_4 q.1.1)], fun _ _ => rfl⟩
          | exact ⟨by rw [lookR, if_neg (fun q => c_12 q.1.2)], fun _ _ => rfl⟩
          | exact ⟨by rw [lookR, if_neg (fun q => absurd c_16 (Int32.not_lt.mpr q.2.1))], fun _ _ => rfl⟩
          | exact ⟨by rw [lookR, if_neg (fun q => c_21 q.2.2)], fun _ _ => rfl⟩
      · refine g_iload_n C 3 dX9_look_19 rfl ?_
        refine g_iconst C (nI 2) dX9_look_20 (by decide) ?_
        refine g_icmp_le C 27 dX9_look_21 (by decide) (fun c_21 => ?_) (fun c_21 => ?_)
        · have hok : (blkP (nI b) ∧ memP V (nI j)) ∧ (0 ≤ z ∧ z ≤ nI 2) := ⟨⟨c_4, c_12⟩, Int32.not_lt.mp c_16, c_21⟩
          refine g_aload_n C 0 dX9_look_27 rfl ?_
          refine g_get_r C ob_0 3 (by decide) rfl wd_282 dX9_look_28 ?_
          refine g_aload_n C 0 dX9_look_31 rfl ?_
          refine g_get_r C ob_0 0 (by decide) rfl wd_279 dX9_look_32 ?_
          refine g_iload_n C 1 dX9_look_35 rfl ?_
          refine g_aload_n C 0 dX9_look_36 rfl ?_
          refine g_get_r C ob_0 0 (by decide) rfl wd_279 dX9_look_37 ?_
          refine g_get_r C ob_1 0 (by decide) rfl wd_158 dX9_look_40 ?_
          refine g_iconst C (nI 0) dX9_look_43 (by decide) ?_
          refine g_cV1 C (As := [.int (nI 0)]) (w := .int (mem 3 0)) (mem3 := mem) iX6_at (c_X6_at l G mem ob_2 ar_3 (by decide) (by omega)) wd_368 ob_2 rfl ⟨Nat.le_of_ble_eq_true rfl, Nat.le_of_ble_eq_true rfl⟩ ⟨rfl, rfl⟩ rfl (Nat.le_of_ble_eq_true rfl) dX9_look_44 (rfl) (rfl) ?_
          refine g_top (y := nI (toN (V 0))) ((r_set r (by decide)).trans (gd_wait g).1) ?_
          refine g_cVq C (As := [.ref (gad G 1), .int (nI b), .int (nI (toN (V 0)))]) iX5_reckon (c_X5_reckon l G g mem r (b := b) (wa := (toN (V 0))) (hb) ((gd_wait g).2.1) ((gd_wait g).2.2)) wd_495 ob_146 rfl ⟨Nat.le_of_ble_eq_true rfl, Nat.le_of_ble_eq_true rfl⟩ ⟨rfl, rfl⟩ rfl (Nat.le_of_ble_eq_true rfl) dX9_look_47 (fun u0 hq => ?_)
          obtain ⟨p0, w0, a0, rfl, hk0_0, hk1_0, hk_0⟩ := hq
          refine g_aload_n C 0 dX9_look_50 rfl ?_
          refine g_get_r C ob_0 3 (by decide) rfl wd_282 dX9_look_51 ?_
          refine g_get_i C ob_146 1 (by decide) rfl wd_229 dX9_look_54 ?_
          refine g_top (y := p0 1) (rfl) ?_
          refine g_top (y := nI (hcd V b)) (hk1_0) ?_
          refine g_if_eq C 63 dX9_look_57 (by decide) (fun c_57 => ?_) (fun c_57 => ?_)
          · have hh := hcd_0 c_57
            obtain ⟨f, hPK⟩ := hk_0 hh
            have hrk := (hc_0 hh).2.2
            have hfF := fF_eq hPK.1
            obtain ⟨-, k2, -, -, -, -, -, -, -, kw⟩ := id hPK
            refine g_iload_n C 3 dX9_look_63 rfl ?_
            refine g_if_ne C 76 dX9_look_64 (by decide) (fun c_64 => ?_) (fun c_64 => ?_)
            · have hz0 : ¬ toN z = 0 := fun q => c_64 (by have := nI_range (a := 0) (b := 2) (by decide) (by decide) hok.2.1 hok.2.2; rw [this.1, q]; rfl)
              refine g_aload_n C 0 dX9_look_76 rfl ?_
              refine g_get_r C ob_0 3 (by decide) rfl wd_282 dX9_look_77 ?_
              refine g_get_i C ob_146 2 (by decide) rfl wd_232 dX9_look_80 ?_
              refine g_top (y := p0 2) (rfl) ?_
              refine g_top (y := mk (los V b) (vN V)) (k2) ?_
              refine g_iload_n C 2 dX9_look_83 rfl ?_
              refine g_cS1 C (As := [.int (mk (los V b) (vN V)), .int (nI j)]) (w := .int (b2i (hs (mk (los V b) (vN V)) j))) (mem3 := gr (gr (gr mem 146 p0) 148 w0) 150 a0) iX4_has (c_X4_has l G (gr (gr (gr mem 146 p0) 148 w0) 150 a0) (mk (los V b) (vN V)) j) wd_490 rfl ⟨Nat.le_of_ble_eq_true rfl, Nat.le_of_ble_eq_true rfl⟩ ⟨rfl, rfl⟩ rfl (Nat.le_of_ble_eq_true rfl) dX9_look_84 (rfl) (rfl) ?_
              refine g_ifb_ne C 93 dX9_look_87 (by decide) (fun c_87 => ?_) (fun c_87 => ?_)
              · have hlo := (mk_hs (by omega) hj).mp c_87
                refine g_iload_n C 3 dX9_look_93 rfl ?_
                refine g_iconst C (nI 1) dX9_look_94 (by decide) ?_
                refine g_icmp_ne C 112 dX9_look_95 (by decide) (fun c_95 => ?_) (fun c_95 => ?_)
                · have hz1 : ¬ toN z = 1 := fun q => c_95 (by have := nI_range (a := 0) (b := 2) (by decide) (by decide) hok.2.1 hok.2.2; rw [this.1, q])
                  refine g_aload_n C 0 dX9_look_112 rfl ?_
                  refine g_get_r C ob_0 3 (by decide) rfl wd_282 dX9_look_113 ?_
                  refine g_get_r C ob_146 11 (by decide) rfl wd_251 dX9_look_116 ?_
                  refine g_iload_n C 2 dX9_look_119 rfl ?_
                  refine g_cV1 C (As := [.int (nI j)]) (w := .int (a0 j)) (mem3 := gr (gr (gr mem 146 p0) 148 w0) 150 a0) iX6_at (c_X6_at l G (gr (gr (gr mem 146 p0) 148 w0) 150 a0) ob_149 ar_150 (by decide) (by omega)) wd_368 ob_149 rfl ⟨Nat.le_of_ble_eq_true rfl, Nat.le_of_ble_eq_true rfl⟩ ⟨rfl, rfl⟩ rfl (Nat.le_of_ble_eq_true rfl) dX9_look_120 (rfl) (rfl) ?_
                  refine g_top (y := nI (sent V b (toN (V 0)) f + dR V b j)) ((kw j hj hlo).2) ?_
                  refine g_iret C hQ rfl dX9_look_123 ?_
                  refine ⟨?_, fun k hk => by rw [gr_n (by omega), gr_n (by omega), gr_n (by omega)]⟩
                  rw [lookR, if_pos hok, eb, ej, if_pos hh, lookN, if_neg hz0, if_pos hlo, hfF]
                  first | (rw [if_pos hz1]; done) | (rw [if_neg hz1]; done)
                · have hz1 : toN z = 1 := by rw [c_95]; rfl
                  refine g_aload_n C 0 dX9_look_98 rfl ?_
                  refine g_get_r C ob_0 3 (by decide) rfl wd_282 dX9_look_99 ?_
                  refine g_get_r C ob_146 10 (by decide) rfl wd_249 dX9_look_102 ?_
                  refine g_iload_n C 2 dX9_look_105 rfl ?_
                  refine g_cV1 C (As := [.int (nI j)]) (w := .int (w0 j)) (mem3 := gr (gr (gr mem 146 p0) 148 w0) 150 a0) iX6_at (c_X6_at l G (gr (gr (gr mem 146 p0) 148 w0) 150 a0) ob_147 ar_148 (by decide) (by omega)) wd_368 ob_147 rfl ⟨Nat.le_of_ble_eq_true rfl, Nat.le_of_ble_eq_true rfl⟩ ⟨rfl, rfl⟩ rfl (Nat.le_of_ble_eq_true rfl) dX9_look_106 (rfl) (rfl) ?_
                  refine g_top (y := nI (wt V b (toN (V 0)) j)) ((kw j hj hlo).1) ?_
                  refine g_goto C 123 dX9_look_109 (by decide) ?_
                  refine g_iret C hQ rfl dX9_look_123 ?_
                  refine ⟨?_, fun k hk => by rw [gr_n (by omega), gr_n (by omega), gr_n (by omega)]⟩
                  rw [lookR, if_pos hok, eb, ej, if_pos hh, lookN, if_neg hz0, if_pos hlo, hfF]
                  first | (rw [if_pos hz1]; done) | (rw [if_neg hz1]; done)
              · have hlo := mt (mk_hs (by omega) hj).mpr c_87
                refine g_ldc C wd_565 dX9_look_90 ?_
                refine g_iret C hQ rfl dX9_look_92 ?_
                exact ⟨by rw [lookR, if_pos hok, eb, ej, if_pos hh, lookN, if_neg hz0, if_neg hlo], fun k hk => by rw [gr_n (by omega), gr_n (by omega), gr_n (by omega)]⟩
            · refine g_aload_n C 0 dX9_look_67 rfl ?_
              refine g_get_r C ob_0 3 (by decide) rfl wd_282 dX9_look_68 ?_
              refine g_iload_n C 2 dX9_look_71 rfl ?_
              refine g_cV1 C (As := [.int (nI j)]) (w := .int (nI (role V b (toN (V 0)) f j))) (mem3 := gr (gr (gr mem 146 p0) 148 w0) 150 a0) iX5_partOf (c_X5_partOf l G g (gr (gr (gr mem 146 p0) 148 w0) 150 a0) (r_gr (by decide) (r_gr (by decide) (r_gr (by decide) r))) (w := w0) (a := a0) hPK hrk hj) wd_648 ob_146 rfl ⟨Nat.le_of_ble_eq_true rfl, Nat.le_of_ble_eq_true rfl⟩ ⟨rfl, rfl⟩ rfl (Nat.le_of_ble_eq_true rfl) dX9_look_72 (rfl) (rfl) ?_
              refine g_iret C hQ rfl dX9_look_75 ?_
              exact ⟨by rw [lookR, if_pos hok, eb, ej, if_pos hh, c_64, lookN, if_pos (by rfl), hfF], fun k hk => by rw [gr_n (by omega), gr_n (by omega), gr_n (by omega)]⟩
          · have hh : ¬ hcd V b = 0 := fun q => c_57 (by rw [q]; rfl)
            refine g_ldc C wd_417 dX9_look_60 ?_
            refine g_iret C hQ rfl dX9_look_62 ?_
            exact ⟨by rw [lookR, if_pos hok, eb, if_neg hh], fun k hk => by rw [gr_n (by omega), gr_n (by omega), gr_n (by omega)]⟩
        · refine g_ldc C wd_305 dX9_look_24 ?_
          refine g_iret C hQ rfl dX9_look_26 ?_
          first
            | exact ⟨by rw [lookR, if_neg (fun q => c_4 q.1.1)], fun _ _ => rfl⟩
            | exact ⟨by rw [lookR, if_neg (fun q => c_12 q.1.2)], fun _ _ => rfl⟩
            | exact ⟨by rw [lookR, if_neg (fun q => absurd c_16 (Int32.not_lt.mpr q.2.1))], fun _ _ => rfl⟩
            | exact ⟨by rw [lookR, if_neg (fun q => c_21 q.2.2)], fun _ _ => rfl⟩
