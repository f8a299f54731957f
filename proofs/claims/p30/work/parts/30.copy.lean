/-- state b copied upon state a -/
def CopyS (a b : Nat) (mem u : gM) : Prop :=
  (∀ k, (k < a ∨ a + 28 ≤ k) → u k = mem k) ∧ u (a + 2) = cpy 5 (mem (b + 2)) (mem (a + 2)) ∧ (u (a + 3) 0 = mem (b + 3) 0 ∧ u (a + 3) 1 = mem (b + 3) 1) ∧
  (u (a + 5) = cpy 10 (mem (b + 5)) (mem (a + 5)) ∧ u (a + 7) = cpy 10 (mem (b + 7)) (mem (a + 7)) ∧ u (a + 9) = cpy 10 (mem (b + 9)) (mem (a + 9)) ∧ u (a + 11) = cpy 10 (mem (b + 11)) (mem (a + 11)) ∧ u (a + 13) = cpy 10 (mem (b + 13)) (mem (a + 13)) ∧ u (a + 15) = cpy 10 (mem (b + 15)) (mem (a + 15)) ∧ u (a + 17) = cpy 10 (mem (b + 17)) (mem (a + 17)) ∧ u (a + 19) = cpy 10 (mem (b + 19)) (mem (a + 19))) ∧
  (u (a + 20) 0 = mem (b + 20) 0 ∧ u (a + 20) 1 = mem (b + 20) 1 ∧ u (a + 20) 2 = mem (b + 20) 2) ∧ u (a + 22) = cpy 10 (mem (b + 22)) (mem (a + 22)) ∧ u (a + 24) = cpy 200 (mem (b + 24)) (mem (a + 24)) ∧
  (u (a + 25) 0 = mem (b + 25) 0 ∧ u (a + 25) 1 = mem (b + 25) 1 ∧ u (a + 25) 2 = mem (b + 25) 2) ∧ u (a + 27) = cpy 140 (mem (b + 27)) (mem (a + 27))
theorem CopyS.rel {T a b : Nat} {mem u : gM} {V : Nat → Int32} (h : CopyS a b mem u) (g : Good T V) (r : RelS b V mem) : RelS a V u := by
  obtain ⟨-, h2, ⟨h3, h4⟩, ⟨h5, h6, h7, h8, h9, h10, h11, h12⟩, ⟨h13, h14, h15⟩, h16, h17, ⟨h18, h19, h20⟩, h21⟩ := h
  obtain ⟨r1, r2, r3, r4, r5, r6, r7, r8, r9⟩ := r
  have n10 := gd_n10 g
  have nz := (gd_z g).2
  refine ⟨fun k hk => by rw [h2, cpy_in hk]; exact r1 k hk, ⟨h3.trans r2.1, h4.trans r2.2⟩, fun m hm => ?_, fun m h1 hm => ?_, ⟨h13.trans r5.1, h14.trans r5.2.1, h15.trans r5.2.2⟩, fun q hq => by rw [h16, cpy_in (by omega)]; exact r6 q hq, fun q hq => by rw [h17, cpy_in hq]; exact r7 q hq, ⟨h18.trans r8.1, h19.trans r8.2.1, h20.trans r8.2.2⟩, fun j hj => by rw [h21, cpy_in hj]; exact r9 j hj⟩
  · rw [h5, h6, h7, h8, h9, h10, h11, h12]
    rw [cpy_in (by omega), cpy_in (by omega), cpy_in (by omega), cpy_in (by omega), cpy_in (by omega), cpy_in (by omega), cpy_in (by omega), cpy_in (by omega)]
    exact r3 m hm
  · rw [h7, h8, h9, h10, h11, h12]
    rw [cpy_in hm, cpy_in hm, cpy_in hm, cpy_in hm, cpy_in hm, cpy_in hm]
    exact r4 m h1 hm

def rm_X3_copy : Room := { frames := 2, cells := 0, slots := 0, locals := 62 }
theorem iX3_copy : gIv yX3_copy cX3_copy 2 none 1 := ⟨⟨wd_332, wd_7, by decide +kernel, by decide +kernel, by decide +kernel⟩, wd_330, wd_331⟩
set_option maxRecDepth 100000 in
set_option maxHeartbeats 4000000 in
theorem c_X3_copy_1_31 (l : Launch) (G : gG) (mem : gM) : gMet l yX3_copy cX3_copy 2 none rm_X3_copy G [.ref (gad G 4), .ref (gad G 34)] mem (fun a u => a = none ∧ u = gr (gr (gr (gr (gr (gr (gr (gr (gr mem 4 (upd (upd (mem 4) 0 (mem 34 0)) 1 (mem 34 1))) 6 (cpy 10 (mem 36) (mem 6))) 8 (cpy 10 (mem 38) (mem 8))) 10 (cpy 10 (mem 40) (mem 10))) 12 (cpy 10 (mem 42) (mem 12))) 14 (cpy 10 (mem 44) (mem 14))) 16 (cpy 10 (mem 46) (mem 16))) 18 (cpy 10 (mem 48) (mem 18))) 20 (cpy 10 (mem 50) (mem 20))) := by
  refine g_of (own := RX3) (L0 := [(0, .ref (gad G 4)), (1, .ref (gad G 34))]) (by decide +kernel) rfl (Nat.le_of_ble_eq_true rfl) rfl ?_
  intro p e s m args below meth c C Q hQ
  refine g_aload_n C 0 dX3_copy_0 rfl ?_
  refine g_aload_n C 1 dX3_copy_1 rfl ?_
  refine g_get_i C ob_34 0 (by decide) rfl wd_50 dX3_copy_2 ?_
  refine g_put_i C ob_4 0 (by decide) rfl wd_50 rfl rfl dX3_copy_5 ?_
  refine g_aload_n C 0 dX3_copy_8 rfl ?_
  refine g_aload_n C 1 dX3_copy_9 rfl ?_
  refine g_get_i C ob_34 1 (by decide) rfl wd_56 dX3_copy_10 ?_
  refine g_top (y := mem 34 1) (rfl) ?_
  refine g_put_i C ob_4 1 (by decide) rfl wd_56 rfl rfl dX3_copy_13 ?_
  refine g_mem (mem2 := gr mem 4 (upd (upd (mem 4) 0 (mem 34 0)) 1 (mem 34 1))) (gr_gr _ _ _ _) ?_
  refine g_aload_n C 0 dX3_copy_16 rfl ?_
  refine g_get_r C ob_4 2 (by decide) rfl wd_58 dX3_copy_17 ?_
  refine g_aload_n C 1 dX3_copy_20 rfl ?_
  refine g_get_r C ob_34 2 (by decide) rfl wd_58 dX3_copy_21 ?_
  refine g_cV0 C (As := [.ref (gad G 35)]) (mem3 := gr (gr mem 4 (upd (upd (mem 4) 0 (mem 34 0)) 1 (mem 34 1))) 6 (cpy 10 (mem 36) (mem 6))) iX6_copy (c_X6_copy l G (gr mem 4 (upd (upd (mem 4) 0 (mem 34 0)) 1 (mem 34 1))) ob_5 ar_6 ob_35 ar_36 (by decide)) wd_333 ob_5 rfl ⟨Nat.le_of_ble_eq_true rfl, Nat.le_of_ble_eq_true rfl⟩ ⟨rfl, rfl⟩ rfl (Nat.le_of_ble_eq_true rfl) dX3_copy_24 (rfl) ?_
  refine g_aload_n C 0 dX3_copy_27 rfl ?_
  refine g_get_r C ob_4 3 (by decide) rfl wd_61 dX3_copy_28 ?_
  refine g_aload_n C 1 dX3_copy_31 rfl ?_
  refine g_get_r C ob_34 3 (by decide) rfl wd_61 dX3_copy_32 ?_
  refine g_cV0 C (As := [.ref (gad G 37)]) (mem3 := gr (gr (gr mem 4 (upd (upd (mem 4) 0 (mem 34 0)) 1 (mem 34 1))) 6 (cpy 10 (mem 36) (mem 6))) 8 (cpy 10 (mem 38) (mem 8))) iX6_copy (c_X6_copy l G (gr (gr mem 4 (upd (upd (mem 4) 0 (mem 34 0)) 1 (mem 34 1))) 6 (cpy 10 (mem 36) (mem 6))) ob_7 ar_8 ob_37 ar_38 (by decide)) wd_333 ob_7 rfl ⟨Nat.le_of_ble_eq_true rfl, Nat.le_of_ble_eq_true rfl⟩ ⟨rfl, rfl⟩ rfl (Nat.le_of_ble_eq_true rfl) dX3_copy_35 (rfl) ?_
  refine g_aload_n C 0 dX3_copy_38 rfl ?_
  refine g_get_r C ob_4 4 (by decide) rfl wd_63 dX3_copy_39 ?_
  refine g_aload_n C 1 dX3_copy_42 rfl ?_
  refine g_get_r C ob_34 4 (by decide) rfl wd_63 dX3_copy_43 ?_
  refine g_cV0 C (As := [.ref (gad G 39)]) (mem3 := gr (gr (gr (gr mem 4 (upd (upd (mem 4) 0 (mem 34 0)) 1 (mem 34 1))) 6 (cpy 10 (mem 36) (mem 6))) 8 (cpy 10 (mem 38) (mem 8))) 10 (cpy 10 (mem 40) (mem 10))) iX6_copy (c_X6_copy l G (gr (gr (gr mem 4 (upd (upd (mem 4) 0 (mem 34 0)) 1 (mem 34 1))) 6 (cpy 10 (mem 36) (mem 6))) 8 (cpy 10 (mem 38) (mem 8))) ob_9 ar_10 ob_39 ar_40 (by decide)) wd_333 ob_9 rfl ⟨Nat.le_of_ble_eq_true rfl, Nat.le_of_ble_eq_true rfl⟩ ⟨rfl, rfl⟩ rfl (Nat.le_of_ble_eq_true rfl) dX3_copy_46 (rfl) ?_
  refine g_aload_n C 0 dX3_copy_49 rfl ?_
  refine g_get_r C ob_4 5 (by decide) rfl wd_66 dX3_copy_50 ?_
  refine g_aload_n C 1 dX3_copy_53 rfl ?_
  refine g_get_r C ob_34 5 (by decide) rfl wd_66 dX3_copy_54 ?_
  refine g_cV0 C (As := [.ref (gad G 41)]) (mem3 := gr (gr (gr (gr (gr mem 4 (upd (upd (mem 4) 0 (mem 34 0)) 1 (mem 34 1))) 6 (cpy 10 (mem 36) (mem 6))) 8 (cpy 10 (mem 38) (mem 8))) 10 (cpy 10 (mem 40) (mem 10))) 12 (cpy 10 (mem 42) (mem 12))) iX6_copy (c_X6_copy l G (gr (gr (gr (gr mem 4 (upd (upd (mem 4) 0 (mem 34 0)) 1 (mem 34 1))) 6 (cpy 10 (mem 36) (mem 6))) 8 (cpy 10 (mem 38) (mem 8))) 10 (cpy 10 (mem 40) (mem 10))) ob_11 ar_12 ob_41 ar_42 (by decide)) wd_333 ob_11 rfl ⟨Nat.le_of_ble_eq_true rfl, Nat.le_of_ble_eq_true rfl⟩ ⟨rfl, rfl⟩ rfl (Nat.le_of_ble_eq_true rfl) dX3_copy_57 (rfl) ?_
  refine g_aload_n C 0 dX3_copy_60 rfl ?_
  refine g_get_r C ob_4 6 (by decide) rfl wd_69 dX3_copy_61 ?_
  refine g_aload_n C 1 dX3_copy_64 rfl ?_
  refine g_get_r C ob_34 6 (by decide) rfl wd_69 dX3_copy_65 ?_
  refine g_cV0 C (As := [.ref (gad G 43)]) (mem3 := gr (gr (gr (gr (gr (gr mem 4 (upd (upd (mem 4) 0 (mem 34 0)) 1 (mem 34 1))) 6 (cpy 10 (mem 36) (mem 6))) 8 (cpy 10 (mem 38) (mem 8))) 10 (cpy 10 (mem 40) (mem 10))) 12 (cpy 10 (mem 42) (mem 12))) 14 (cpy 10 (mem 44) (mem 14))) iX6_copy (c_X6_copy l G (gr (gr (gr (gr (gr mem 4 (upd (upd (mem 4) 0 (mem 34 0)) 1 (mem 34 1))) 6 (cpy 10 (mem 36) (mem 6))) 8 (cpy 10 (mem 38) (mem 8))) 10 (cpy 10 (mem 40) (mem 10))) 12 (cpy 10 (mem 42) (mem 12))) ob_13 ar_14 ob_43 ar_44 (by decide)) wd_333 ob_13 rfl ⟨Nat.le_of_ble_eq_true rfl, Nat.le_of_ble_eq_true rfl⟩ ⟨rfl, rfl⟩ rfl (Nat.le_of_ble_eq_true rfl) dX3_copy_68 (rfl) ?_
  refine g_aload_n C 0 dX3_copy_71 rfl ?_
  refine g_get_r C ob_4 7 (by decide) rfl wd_72 dX3_copy_72 ?_
  refine g_aload_n C 1 dX3_copy_75 rfl ?_
  refine g_get_r C ob_34 7 (by decide) rfl wd_72 dX3_copy_76 ?_
  refine g_cV0 C (As := [.ref (gad G 45)]) (mem3 := gr (gr (gr (gr (gr (gr (gr mem 4 (upd (upd (mem 4) 0 (mem 34 0)) 1 (mem 34 1))) 6 (cpy 10 (mem 36) (mem 6))) 8 (cpy 10 (mem 38) (mem 8))) 10 (cpy 10 (mem 40) (mem 10))) 12 (cpy 10 (mem 42) (mem 12))) 14 (cpy 10 (mem 44) (mem 14))) 16 (cpy 10 (mem 46) (mem 16))) iX6_copy (c_X6_copy l G (gr (gr (gr (gr (gr (gr mem 4 (upd (upd (mem 4) 0 (mem 34 0)) 1 (mem 34 1))) 6 (cpy 10 (mem 36) (mem 6))) 8 (cpy 10 (mem 38) (mem 8))) 10 (cpy 10 (mem 40) (mem 10))) 12 (cpy 10 (mem 42) (mem 12))) 14 (cpy 10 (mem 44) (mem 14))) ob_15 ar_16 ob_45 ar_46 (by decide)) wd_333 ob_15 rfl ⟨Nat.le_of_ble_eq_true rfl, Nat.le_of_ble_eq_true rfl⟩ ⟨rfl, rfl⟩ rfl (Nat.le_of_ble_eq_true rfl) dX3_copy_79 (rfl) ?_
  refine g_aload_n C 0 dX3_copy_82 rfl ?_
  refine g_get_r C ob_4 8 (by decide) rfl wd_74 dX3_copy_83 ?_
  refine g_aload_n C 1 dX3_copy_86 rfl ?_
  refine g_get_r C ob_34 8 (by decide) rfl wd_74 dX3_copy_87 ?_
  refine g_cV0 C (As := [.ref (gad G 47)]) (mem3 := gr (gr (gr (gr (gr (gr (gr (gr mem 4 (upd (upd (mem 4) 0 (mem 34 0)) 1 (mem 34 1))) 6 (cpy 10 (mem 36) (mem 6))) 8 (cpy 10 (mem 38) (mem 8))) 10 (cpy 10 (mem 40) (mem 10))) 12 (cpy 10 (mem 42) (mem 12))) 14 (cpy 10 (mem 44) (mem 14))) 16 (cpy 10 (mem 46) (mem 16))) 18 (cpy 10 (mem 48) (mem 18))) iX6_copy (c_X6_copy l G (gr (gr (gr (gr (gr (gr (gr mem 4 (upd (upd (mem 4) 0 (mem 34 0)) 1 (mem 34 1))) 6 (cpy 10 (mem 36) (mem 6))) 8 (cpy 10 (mem 38) (mem 8))) 10 (cpy 10 (mem 40) (mem 10))) 12 (cpy 10 (mem 42) (mem 12))) 14 (cpy 10 (mem 44) (mem 14))) 16 (cpy 10 (mem 46) (mem 16))) ob_17 ar_18 ob_47 ar_48 (by decide)) wd_333 ob_17 rfl ⟨Nat.le_of_ble_eq_true rfl, Nat.le_of_ble_eq_true rfl⟩ ⟨rfl, rfl⟩ rfl (Nat.le_of_ble_eq_true rfl) dX3_copy_90 (rfl) ?_
  refine g_aload_n C 0 dX3_copy_93 rfl ?_
  refine g_get_r C ob_4 9 (by decide) rfl wd_76 dX3_copy_94 ?_
  refine g_aload_n C 1 dX3_copy_97 rfl ?_
  refine g_get_r C ob_34 9 (by decide) rfl wd_76 dX3_copy_98 ?_
  refine g_cV0 C (As := [.ref (gad G 49)]) (mem3 := gr (gr (gr (gr (gr (gr (gr (gr (gr mem 4 (upd (upd (mem 4) 0 (mem 34 0)) 1 (mem 34 1))) 6 (cpy 10 (mem 36) (mem 6))) 8 (cpy 10 (mem 38) (mem 8))) 10 (cpy 10 (mem 40) (mem 10))) 12 (cpy 10 (mem 42) (mem 12))) 14 (cpy 10 (mem 44) (mem 14))) 16 (cpy 10 (mem 46) (mem 16))) 18 (cpy 10 (mem 48) (mem 18))) 20 (cpy 10 (mem 50) (mem 20))) iX6_copy (c_X6_copy l G (gr (gr (gr (gr (gr (gr (gr (gr mem 4 (upd (upd (mem 4) 0 (mem 34 0)) 1 (mem 34 1))) 6 (cpy 10 (mem 36) (mem 6))) 8 (cpy 10 (mem 38) (mem 8))) 10 (cpy 10 (mem 40) (mem 10))) 12 (cpy 10 (mem 42) (mem 12))) 14 (cpy 10 (mem 44) (mem 14))) 16 (cpy 10 (mem 46) (mem 16))) 18 (cpy 10 (mem 48) (mem 18))) ob_19 ar_20 ob_49 ar_50 (by decide)) wd_333 ob_19 rfl ⟨Nat.le_of_ble_eq_true rfl, Nat.le_of_ble_eq_true rfl⟩ ⟨rfl, rfl⟩ rfl (Nat.le_of_ble_eq_true rfl) dX3_copy_101 (rfl) ?_
  refine g_vret C hQ rfl dX3_copy_104 ?_
  exact ⟨rfl, rfl⟩

def rm_X0_copy : Room := { frames := 2, cells := 0, slots := 0, locals := 62 }
theorem iX0_copy : gIv yX0_copy cX0_copy 2 none 1 := ⟨⟨wd_337, wd_8, by decide +kernel, by decide +kernel, by decide +kernel⟩, wd_335, wd_336⟩
set_option maxRecDepth 100000 in
set_option maxHeartbeats 4000000 in
theorem c_X0_copy_1_31 (l : Launch) (G : gG) (mem : gM) : gMet l yX0_copy cX0_copy 2 none rm_X0_copy G [.ref (gad G 21), .ref (gad G 51)] mem (fun a u => a = none ∧ u = gr (gr mem 21 (upd (upd (upd (mem 21) 0 (mem 51 0)) 1 (mem 51 1)) 2 (mem 51 2))) 23 (cpy 10 (mem 53) (mem 23))) := by
  refine g_of (own := RX0) (L0 := [(0, .ref (gad G 21)), (1, .ref (gad G 51))]) (by decide +kernel) rfl (Nat.le_of_ble_eq_true rfl) rfl ?_
  intro p e s m args below meth c C Q hQ
  refine g_aload_n C 0 dX0_copy_0 rfl ?_
  refine g_aload_n C 1 dX0_copy_1 rfl ?_
  refine g_get_i C ob_51 0 (by decide) rfl wd_108 dX0_copy_2 ?_
  refine g_put_i C ob_21 0 (by decide) rfl wd_108 rfl rfl dX0_copy_5 ?_
  refine g_aload_n C 0 dX0_copy_8 rfl ?_
  refine g_aload_n C 1 dX0_copy_9 rfl ?_
  refine g_get_i C ob_51 1 (by decide) rfl wd_112 dX0_copy_10 ?_
  refine g_top (y := mem 51 1) (rfl) ?_
  refine g_put_i C ob_21 1 (by decide) rfl wd_112 rfl rfl dX0_copy_13 ?_
  refine g_mem (mem2 := gr mem 21 (upd (upd (mem 21) 0 (mem 51 0)) 1 (mem 51 1))) (gr_gr _ _ _ _) ?_
  refine g_aload_n C 0 dX0_copy_16 rfl ?_
  refine g_aload_n C 1 dX0_copy_17 rfl ?_
  refine g_get_i C ob_51 2 (by decide) rfl wd_115 dX0_copy_18 ?_
  refine g_top (y := mem 51 2) (rfl) ?_
  refine g_put_i C ob_21 2 (by decide) rfl wd_115 rfl rfl dX0_copy_21 ?_
  refine g_mem (mem2 := gr mem 21 (upd (upd (upd (mem 21) 0 (mem 51 0)) 1 (mem 51 1)) 2 (mem 51 2))) (gr_gr _ _ _ _) ?_
  refine g_aload_n C 0 dX0_copy_24 rfl ?_
  refine g_get_r C ob_21 3 (by decide) rfl wd_118 dX0_copy_25 ?_
  refine g_aload_n C 1 dX0_copy_28 rfl ?_
  refine g_get_r C ob_51 3 (by decide) rfl wd_118 dX0_copy_29 ?_
  refine g_cV0 C (As := [.ref (gad G 52)]) (mem3 := gr (gr mem 21 (upd (upd (upd (mem 21) 0 (mem 51 0)) 1 (mem 51 1)) 2 (mem 51 2))) 23 (cpy 10 (mem 53) (mem 23))) iX6_copy (c_X6_copy l G (gr mem 21 (upd (upd (upd (mem 21) 0 (mem 51 0)) 1 (mem 51 1)) 2 (mem 51 2))) ob_22 ar_23 ob_52 ar_53 (by decide)) wd_338 ob_22 rfl ⟨Nat.le_of_ble_eq_true rfl, Nat.le_of_ble_eq_true rfl⟩ ⟨rfl, rfl⟩ rfl (Nat.le_of_ble_eq_true rfl) dX0_copy_32 (rfl) ?_
  refine g_vret C hQ rfl dX0_copy_35 ?_
  exact ⟨rfl, rfl⟩

def rm_X2_copy : Room := { frames := 2, cells := 0, slots := 0, locals := 62 }
theorem iX2_copy : gIv yX2_copy cX2_copy 2 none 1 := ⟨⟨wd_342, wd_9, by decide +kernel, by decide +kernel, by decide +kernel⟩, wd_340, wd_341⟩
set_option maxRecDepth 100000 in
set_option maxHeartbeats 4000000 in
theorem c_X2_copy_1_31 (l : Launch) (G : gG) (mem : gM) : gMet l yX2_copy cX2_copy 2 none rm_X2_copy G [.ref (gad G 26), .ref (gad G 56)] mem (fun a u => a = none ∧ u = gr (gr mem 26 (upd (upd (upd (mem 26) 0 (mem 56 0)) 1 (mem 56 1)) 2 (mem 56 2))) 28 (cpy 140 (mem 58) (mem 28))) := by
  refine g_of (own := RX2) (L0 := [(0, .ref (gad G 26)), (1, .ref (gad G 56))]) (by decide +kernel) rfl (Nat.le_of_ble_eq_true rfl) rfl ?_
  intro p e s m args below meth c C Q hQ
  refine g_aload_n C 0 dX2_copy_0 rfl ?_
  refine g_aload_n C 1 dX2_copy_1 rfl ?_
  refine g_get_i C ob_56 0 (by decide) rfl wd_136 dX2_copy_2 ?_
  refine g_put_i C ob_26 0 (by decide) rfl wd_136 rfl rfl dX2_copy_5 ?_
  refine g_aload_n C 0 dX2_copy_8 rfl ?_
  refine g_aload_n C 1 dX2_copy_9 rfl ?_
  refine g_get_i C ob_56 1 (by decide) rfl wd_138 dX2_copy_10 ?_
  refine g_top (y := mem 56 1) (rfl) ?_
  refine g_put_i C ob_26 1 (by decide) rfl wd_138 rfl rfl dX2_copy_13 ?_
  refine g_mem (mem2 := gr mem 26 (upd (upd (mem 26) 0 (mem 56 0)) 1 (mem 56 1))) (gr_gr _ _ _ _) ?_
  refine g_aload_n C 0 dX2_copy_16 rfl ?_
  refine g_aload_n C 1 dX2_copy_17 rfl ?_
  refine g_get_i C ob_56 2 (by decide) rfl wd_140 dX2_copy_18 ?_
  refine g_top (y := mem 56 2) (rfl) ?_
  refine g_put_i C ob_26 2 (by decide) rfl wd_140 rfl rfl dX2_copy_21 ?_
  refine g_mem (mem2 := gr mem 26 (upd (upd (upd (mem 26) 0 (mem 56 0)) 1 (mem 56 1)) 2 (mem 56 2))) (gr_gr _ _ _ _) ?_
  refine g_aload_n C 0 dX2_copy_24 rfl ?_
  refine g_get_r C ob_26 3 (by decide) rfl wd_142 dX2_copy_25 ?_
  refine g_aload_n C 1 dX2_copy_28 rfl ?_
  refine g_get_r C ob_56 3 (by decide) rfl wd_142 dX2_copy_29 ?_
  refine g_cV0 C (As := [.ref (gad G 57)]) (mem3 := gr (gr mem 26 (upd (upd (upd (mem 26) 0 (mem 56 0)) 1 (mem 56 1)) 2 (mem 56 2))) 28 (cpy 140 (mem 58) (mem 28))) iX6_copy (c_X6_copy l G (gr mem 26 (upd (upd (upd (mem 26) 0 (mem 56 0)) 1 (mem 56 1)) 2 (mem 56 2))) ob_27 ar_28 ob_57 ar_58 (by decide)) wd_343 ob_27 rfl ⟨Nat.le_of_ble_eq_true rfl, Nat.le_of_ble_eq_true rfl⟩ ⟨rfl, rfl⟩ rfl (Nat.le_of_ble_eq_true rfl) dX2_copy_32 (rfl) ?_
  refine g_vret C hQ rfl dX2_copy_35 ?_
  exact ⟨rfl, rfl⟩

def rm_X7_copy : Room := { frames := 3, cells := 0, slots := 0, locals := 83 }
theorem iX7_copy : gIv yX7_copy cX7_copy 2 none 1 := ⟨⟨wd_318, wd_5, by decide +kernel, by decide +kernel, by decide +kernel⟩, wd_316, wd_317⟩
set_option maxRecDepth 100000 in
set_option maxHeartbeats 4000000 in
theorem c_X7_copy_1_31 (l : Launch) (G : gG) (mem : gM) : gMet l yX7_copy cX7_copy 2 none rm_X7_copy G [.ref (gad G 1), .ref (gad G 31)] mem (fun x u => x = none ∧ CopyS 1 31 mem u) := by
  refine g_of (own := RX7) (L0 := [(0, .ref (gad G 1)), (1, .ref (gad G 31))]) (by decide +kernel) rfl (Nat.le_of_ble_eq_true rfl) rfl ?_
  intro p e s m args below meth c C Q hQ
  refine g_aload_n C 0 dX7_copy_0 rfl ?_
  refine g_get_r C ob_1 0 (by decide) rfl wd_156 dX7_copy_1 ?_
  refine g_aload_n C 1 dX7_copy_4 rfl ?_
  refine g_get_r C ob_31 0 (by decide) rfl wd_156 dX7_copy_5 ?_
  refine g_cV0 C (As := [.ref (gad G 32)]) (mem3 := gr mem 3 (cpy 5 (mem 33) (mem 3))) iX6_copy (c_X6_copy l G mem ob_2 ar_3 ob_32 ar_33 (by decide)) wd_319 ob_2 rfl ⟨Nat.le_of_ble_eq_true rfl, Nat.le_of_ble_eq_true rfl⟩ ⟨rfl, rfl⟩ rfl (Nat.le_of_ble_eq_true rfl) dX7_copy_8 (rfl) ?_
  refine g_aload_n C 0 dX7_copy_11 rfl ?_
  refine g_get_r C ob_1 1 (by decide) rfl wd_159 dX7_copy_12 ?_
  refine g_aload_n C 1 dX7_copy_15 rfl ?_
  refine g_get_r C ob_31 1 (by decide) rfl wd_159 dX7_copy_16 ?_
  refine g_cV0 C (As := [.ref (gad G 34)]) (mem3 := gr (gr (gr (gr (gr (gr (gr (gr (gr (gr mem 3 (cpy 5 (mem 33) (mem 3))) 4 (upd (upd (mem 4) 0 (mem 34 0)) 1 (mem 34 1))) 6 (cpy 10 (mem 36) (mem 6))) 8 (cpy 10 (mem 38) (mem 8))) 10 (cpy 10 (mem 40) (mem 10))) 12 (cpy 10 (mem 42) (mem 12))) 14 (cpy 10 (mem 44) (mem 14))) 16 (cpy 10 (mem 46) (mem 16))) 18 (cpy 10 (mem 48) (mem 18))) 20 (cpy 10 (mem 50) (mem 20))) iX3_copy (c_X3_copy_1_31 l G (gr mem 3 (cpy 5 (mem 33) (mem 3)))) wd_329 ob_4 rfl ⟨Nat.le_of_ble_eq_true rfl, Nat.le_of_ble_eq_true rfl⟩ ⟨rfl, rfl⟩ rfl (Nat.le_of_ble_eq_true rfl) dX7_copy_19 (rfl) ?_
  refine g_aload_n C 0 dX7_copy_22 rfl ?_
  refine g_get_r C ob_1 2 (by decide) rfl wd_162 dX7_copy_23 ?_
  refine g_aload_n C 1 dX7_copy_26 rfl ?_
  refine g_get_r C ob_31 2 (by decide) rfl wd_162 dX7_copy_27 ?_
  refine g_cV0 C (As := [.ref (gad G 51)]) (mem3 := gr (gr (gr (gr (gr (gr (gr (gr (gr (gr (gr (gr mem 3 (cpy 5 (mem 33) (mem 3))) 4 (upd (upd (mem 4) 0 (mem 34 0)) 1 (mem 34 1))) 6 (cpy 10 (mem 36) (mem 6))) 8 (cpy 10 (mem 38) (mem 8))) 10 (cpy 10 (mem 40) (mem 10))) 12 (cpy 10 (mem 42) (mem 12))) 14 (cpy 10 (mem 44) (mem 14))) 16 (cpy 10 (mem 46) (mem 16))) 18 (cpy 10 (mem 48) (mem 18))) 20 (cpy 10 (mem 50) (mem 20))) 21 (upd (upd (upd (mem 21) 0 (mem 51 0)) 1 (mem 51 1)) 2 (mem 51 2))) 23 (cpy 10 (mem 53) (mem 23))) iX0_copy (c_X0_copy_1_31 l G (gr (gr (gr (gr (gr (gr (gr (gr (gr (gr mem 3 (cpy 5 (mem 33) (mem 3))) 4 (upd (upd (mem 4) 0 (mem 34 0)) 1 (mem 34 1))) 6 (cpy 10 (mem 36) (mem 6))) 8 (cpy 10 (mem 38) (mem 8))) 10 (cpy 10 (mem 40) (mem 10))) 12 (cpy 10 (mem 42) (mem 12))) 14 (cpy 10 (mem 44) (mem 14))) 16 (cpy 10 (mem 46) (mem 16))) 18 (cpy 10 (mem 48) (mem 18))) 20 (cpy 10 (mem 50) (mem 20)))) wd_334 ob_21 rfl ⟨Nat.le_of_ble_eq_true rfl, Nat.le_of_ble_eq_true rfl⟩ ⟨rfl, rfl⟩ rfl (Nat.le_of_ble_eq_true rfl) dX7_copy_30 (rfl) ?_
  refine g_aload_n C 0 dX7_copy_33 rfl ?_
  refine g_get_r C ob_1 3 (by decide) rfl wd_165 dX7_copy_34 ?_
  refine g_aload_n C 1 dX7_copy_37 rfl ?_
  refine g_get_r C ob_31 3 (by decide) rfl wd_165 dX7_copy_38 ?_
  refine g_cV0 C (As := [.ref (gad G 54)]) (mem3 := gr (gr (gr (gr (gr (gr (gr (gr (gr (gr (gr (gr (gr mem 3 (cpy 5 (mem 33) (mem 3))) 4 (upd (upd (mem 4) 0 (mem 34 0)) 1 (mem 34 1))) 6 (cpy 10 (mem 36) (mem 6))) 8 (cpy 10 (mem 38) (mem 8))) 10 (cpy 10 (mem 40) (mem 10))) 12 (cpy 10 (mem 42) (mem 12))) 14 (cpy 10 (mem 44) (mem 14))) 16 (cpy 10 (mem 46) (mem 16))) 18 (cpy 10 (mem 48) (mem 18))) 20 (cpy 10 (mem 50) (mem 20))) 21 (upd (upd (upd (mem 21) 0 (mem 51 0)) 1 (mem 51 1)) 2 (mem 51 2))) 23 (cpy 10 (mem 53) (mem 23))) 25 (cpy 200 (mem 55) (mem 25))) iX6_copy (c_X6_copy l G (gr (gr (gr (gr (gr (gr (gr (gr (gr (gr (gr (gr mem 3 (cpy 5 (mem 33) (mem 3))) 4 (upd (upd (mem 4) 0 (mem 34 0)) 1 (mem 34 1))) 6 (cpy 10 (mem 36) (mem 6))) 8 (cpy 10 (mem 38) (mem 8))) 10 (cpy 10 (mem 40) (mem 10))) 12 (cpy 10 (mem 42) (mem 12))) 14 (cpy 10 (mem 44) (mem 14))) 16 (cpy 10 (mem 46) (mem 16))) 18 (cpy 10 (mem 48) (mem 18))) 20 (cpy 10 (mem 50) (mem 20))) 21 (upd (upd (upd (mem 21) 0 (mem 51 0)) 1 (mem 51 1)) 2 (mem 51 2))) 23 (cpy 10 (mem 53) (mem 23))) ob_24 ar_25 ob_54 ar_55 (by decide)) wd_319 ob_24 rfl ⟨Nat.le_of_ble_eq_true rfl, Nat.le_of_ble_eq_true rfl⟩ ⟨rfl, rfl⟩ rfl (Nat.le_of_ble_eq_true rfl) dX7_copy_41 (rfl) ?_
  refine g_aload_n C 0 dX7_copy_44 rfl ?_
  refine g_get_r C ob_1 4 (by decide) rfl wd_168 dX7_copy_45 ?_
  refine g_aload_n C 1 dX7_copy_48 rfl ?_
  refine g_get_r C ob_31 4 (by decide) rfl wd_168 dX7_copy_49 ?_
  refine g_cV0 C (As := [.ref (gad G 56)]) (mem3 := gr (gr (gr (gr (gr (gr (gr (gr (gr (gr (gr (gr (gr (gr (gr mem 3 (cpy 5 (mem 33) (mem 3))) 4 (upd (upd (mem 4) 0 (mem 34 0)) 1 (mem 34 1))) 6 (cpy 10 (mem 36) (mem 6))) 8 (cpy 10 (mem 38) (mem 8))) 10 (cpy 10 (mem 40) (mem 10))) 12 (cpy 10 (mem 42) (mem 12))) 14 (cpy 10 (mem 44) (mem 14))) 16 (cpy 10 (mem 46) (mem 16))) 18 (cpy 10 (mem 48) (mem 18))) 20 (cpy 10 (mem 50) (mem 20))) 21 (upd (upd (upd (mem 21) 0 (mem 51 0)) 1 (mem 51 1)) 2 (mem 51 2))) 23 (cpy 10 (mem 53) (mem 23))) 25 (cpy 200 (mem 55) (mem 25))) 26 (upd (upd (upd (mem 26) 0 (mem 56 0)) 1 (mem 56 1)) 2 (mem 56 2))) 28 (cpy 140 (mem 58) (mem 28))) iX2_copy (c_X2_copy_1_31 l G (gr (gr (gr (gr (gr (gr (gr (gr (gr (gr (gr (gr (gr mem 3 (cpy 5 (mem 33) (mem 3))) 4 (upd (upd (mem 4) 0 (mem 34 0)) 1 (mem 34 1))) 6 (cpy 10 (mem 36) (mem 6))) 8 (cpy 10 (mem 38) (mem 8))) 10 (cpy 10 (mem 40) (mem 10))) 12 (cpy 10 (mem 42) (mem 12))) 14 (cpy 10 (mem 44) (mem 14))) 16 (cpy 10 (mem 46) (mem 16))) 18 (cpy 10 (mem 48) (mem 18))) 20 (cpy 10 (mem 50) (mem 20))) 21 (upd (upd (upd (mem 21) 0 (mem 51 0)) 1 (mem 51 1)) 2 (mem 51 2))) 23 (cpy 10 (mem 53) (mem 23))) 25 (cpy 200 (mem 55) (mem 25)))) wd_339 ob_26 rfl ⟨Nat.le_of_ble_eq_true rfl, Nat.le_of_ble_eq_true rfl⟩ ⟨rfl, rfl⟩ rfl (Nat.le_of_ble_eq_true rfl) dX7_copy_52 (rfl) ?_
  refine g_vret C hQ rfl dX7_copy_55 ?_
  refine ⟨rfl, fun k hk => ?_, rfl, ⟨rfl, rfl⟩, ⟨rfl, rfl, rfl, rfl, rfl, rfl, rfl, rfl⟩, ⟨rfl, rfl, rfl⟩, rfl, rfl, ⟨rfl, rfl, rfl⟩, rfl⟩
  rw [gr_n (by omega), gr_n (by omega), gr_n (by omega), gr_n (by omega), gr_n (by omega), gr_n (by omega), gr_n (by omega), gr_n (by omega), gr_n (by omega), gr_n (by omega), gr_n (by omega), gr_n (by omega), gr_n (by omega), gr_n (by omega), gr_n (by omega)]

set_option maxRecDepth 100000 in
set_option maxHeartbeats 4000000 in
theorem c_X3_copy_1_59 (l : Launch) (G : gG) (mem : gM) : gMet l yX3_copy cX3_copy 2 none rm_X3_copy G [.ref (gad G 4), .ref (gad G 62)] mem (fun a u => a = none ∧ u = gr (gr (gr (gr (gr (gr (gr (gr (gr mem 4 (upd (upd (mem 4) 0 (mem 62 0)) 1 (mem 62 1))) 6 (cpy 10 (mem 64) (mem 6))) 8 (cpy 10 (mem 66) (mem 8))) 10 (cpy 10 (mem 68) (mem 10))) 12 (cpy 10 (mem 70) (mem 12))) 14 (cpy 10 (mem 72) (mem 14))) 16 (cpy 10 (mem 74) (mem 16))) 18 (cpy 10 (mem 76) (mem 18))) 20 (cpy 10 (mem 78) (mem 20))) := by
  refine g_of (own := RX3) (L0 := [(0, .ref (gad G 4)), (1, .ref (gad G 62))]) (by decide +kernel) rfl (Nat.le_of_ble_eq_true rfl) rfl ?_
  intro p e s m args below meth c C Q hQ
  refine g_aload_n C 0 dX3_copy_0 rfl ?_
  refine g_aload_n C 1 dX3_copy_1 rfl ?_
  refine g_get_i C ob_62 0 (by decide) rfl wd_50 dX3_copy_2 ?_
  refine g_put_i C ob_4 0 (by decide) rfl wd_50 rfl rfl dX3_copy_5 ?_
  refine g_aload_n C 0 dX3_copy_8 rfl ?_
  refine g_aload_n C 1 dX3_copy_9 rfl ?_
  refine g_get_i C ob_62 1 (by decide) rfl wd_56 dX3_copy_10 ?_
  refine g_top (y := mem 62 1) (rfl) ?_
  refine g_put_i C ob_4 1 (by decide) rfl wd_56 rfl rfl dX3_copy_13 ?_
  refine g_mem (mem2 := gr mem 4 (upd (upd (mem 4) 0 (mem 62 0)) 1 (mem 62 1))) (gr_gr _ _ _ _) ?_
  refine g_aload_n C 0 dX3_copy_16 rfl ?_
  refine g_get_r C ob_4 2 (by decide) rfl wd_58 dX3_copy_17 ?_
  refine g_aload_n C 1 dX3_copy_20 rfl ?_
  refine g_get_r C ob_62 2 (by decide) rfl wd_58 dX3_copy_21 ?_
  refine g_cV0 C (As := [.ref (gad G 63)]) (mem3 := gr (gr mem 4 (upd (upd (mem 4) 0 (mem 62 0)) 1 (mem 62 1))) 6 (cpy 10 (mem 64) (mem 6))) iX6_copy (c_X6_copy l G (gr mem 4 (upd (upd (mem 4) 0 (mem 62 0)) 1 (mem 62 1))) ob_5 ar_6 ob_63 ar_64 (by decide)) wd_333 ob_5 rfl ⟨Nat.le_of_ble_eq_true rfl, Nat.le_of_ble_eq_true rfl⟩ ⟨rfl, rfl⟩ rfl (Nat.le_of_ble_eq_true rfl) dX3_copy_24 (rfl) ?_
  refine g_aload_n C 0 dX3_copy_27 rfl ?_
  refine g_get_r C ob_4 3 (by decide) rfl wd_61 dX3_copy_28 ?_
  refine g_aload_n C 1 dX3_copy_31 rfl ?_
  refine g_get_r C ob_62 3 (by decide) rfl wd_61 dX3_copy_32 ?_
  refine g_cV0 C (As := [.ref (gad G 65)]) (mem3 := gr (gr (gr mem 4 (upd (upd (mem 4) 0 (mem 62 0)) 1 (mem 62 1))) 6 (cpy 10 (mem 64) (mem 6))) 8 (cpy 10 (mem 66) (mem 8))) iX6_copy (c_X6_copy l G (gr (gr mem 4 (upd (upd (mem 4) 0 (mem 62 0)) 1 (mem 62 1))) 6 (cpy 10 (mem 64) (mem 6))) ob_7 ar_8 ob_65 ar_66 (by decide)) wd_333 ob_7 rfl ⟨Nat.le_of_ble_eq_true rfl, Nat.le_of_ble_eq_true rfl⟩ ⟨rfl, rfl⟩ rfl (Nat.le_of_ble_eq_true rfl) dX3_copy_35 (rfl) ?_
  refine g_aload_n C 0 dX3_copy_38 rfl ?_
  refine g_get_r C ob_4 4 (by decide) rfl wd_63 dX3_copy_39 ?_
  refine g_aload_n C 1 dX3_copy_42 rfl ?_
  refine g_get_r C ob_62 4 (by decide) rfl wd_63 dX3_copy_43 ?_
  refine g_cV0 C (As := [.ref (gad G 67)]) (mem3 := gr (gr (gr (gr mem 4 (upd (upd (mem 4) 0 (mem 62 0)) 1 (mem 62 1))) 6 (cpy 10 (mem 64) (mem 6))) 8 (cpy 10 (mem 66) (mem 8))) 10 (cpy 10 (mem 68) (mem 10))) iX6_copy (c_X6_copy l G (gr (gr (gr mem 4 (upd (upd (mem 4) 0 (mem 62 0)) 1 (mem 62 1))) 6 (cpy 10 (mem 64) (mem 6))) 8 (cpy 10 (mem 66) (mem 8))) ob_9 ar_10 ob_67 ar_68 (by decide)) wd_333 ob_9 rfl ⟨Nat.le_of_ble_eq_true rfl, Nat.le_of_ble_eq_true rfl⟩ ⟨rfl, rfl⟩ rfl (Nat.le_of_ble_eq_true rfl) dX3_copy_46 (rfl) ?_
  refine g_aload_n C 0 dX3_copy_49 rfl ?_
  refine g_get_r C ob_4 5 (by decide) rfl wd_66 dX3_copy_50 ?_
  refine g_aload_n C 1 dX3_copy_53 rfl ?_
  refine g_get_r C ob_62 5 (by decide) rfl wd_66 dX3_copy_54 ?_
  refine g_cV0 C (As := [.ref (gad G 69)]) (mem3 := gr (gr (gr (gr (gr mem 4 (upd (upd (mem 4) 0 (mem 62 0)) 1 (mem 62 1))) 6 (cpy 10 (mem 64) (mem 6))) 8 (cpy 10 (mem 66) (mem 8))) 10 (cpy 10 (mem 68) (mem 10))) 12 (cpy 10 (mem 70) (mem 12))) iX6_copy (c_X6_copy l G (gr (gr (gr (gr mem 4 (upd (upd (mem 4) 0 (mem 62 0)) 1 (mem 62 1))) 6 (cpy 10 (mem 64) (mem 6))) 8 (cpy 10 (mem 66) (mem 8))) 10 (cpy 10 (mem 68) (mem 10))) ob_11 ar_12 ob_69 ar_70 (by decide)) wd_333 ob_11 rfl ⟨Nat.le_of_ble_eq_true rfl, Nat.le_of_ble_eq_true rfl⟩ ⟨rfl, rfl⟩ rfl (Nat.le_of_ble_eq_true rfl) dX3_copy_57 (rfl) ?_
  refine g_aload_n C 0 dX3_copy_60 rfl ?_
  refine g_get_r C ob_4 6 (by decide) rfl wd_69 dX3_copy_61 ?_
  refine g_aload_n C 1 dX3_copy_64 rfl ?_
  refine g_get_r C ob_62 6 (by decide) rfl wd_69 dX3_copy_65 ?_
  refine g_cV0 C (As := [.ref (gad G 71)]) (mem3 := gr (gr (gr (gr (gr (gr mem 4 (upd (upd (mem 4) 0 (mem 62 0)) 1 (mem 62 1))) 6 (cpy 10 (mem 64) (mem 6))) 8 (cpy 10 (mem 66) (mem 8))) 10 (cpy 10 (mem 68) (mem 10))) 12 (cpy 10 (mem 70) (mem 12))) 14 (cpy 10 (mem 72) (mem 14))) iX6_copy (c_X6_copy l G (gr (gr (gr (gr (gr mem 4 (upd (upd (mem 4) 0 (mem 62 0)) 1 (mem 62 1))) 6 (cpy 10 (mem 64) (mem 6))) 8 (cpy 10 (mem 66) (mem 8))) 10 (cpy 10 (mem 68) (mem 10))) 12 (cpy 10 (mem 70) (mem 12))) ob_13 ar_14 ob_71 ar_72 (by decide)) wd_333 ob_13 rfl ⟨Nat.le_of_ble_eq_true rfl, Nat.le_of_ble_eq_true rfl⟩ ⟨rfl, rfl⟩ rfl (Nat.le_of_ble_eq_true rfl) dX3_copy_68 (rfl) ?_
  refine g_aload_n C 0 dX3_copy_71 rfl ?_
  refine g_get_r C ob_4 7 (by decide) rfl wd_72 dX3_copy_72 ?_
  refine g_aload_n C 1 dX3_copy_75 rfl ?_
  refine g_get_r C ob_62 7 (by decide) rfl wd_72 dX3_copy_76 ?_
  refine g_cV0 C (As := [.ref (gad G 73)]) (mem3 := gr (gr (gr (gr (gr (gr (gr mem 4 (upd (upd (mem 4) 0 (mem 62 0)) 1 (mem 62 1))) 6 (cpy 10 (mem 64) (mem 6))) 8 (cpy 10 (mem 66) (mem 8))) 10 (cpy 10 (mem 68) (mem 10))) 12 (cpy 10 (mem 70) (mem 12))) 14 (cpy 10 (mem 72) (mem 14))) 16 (cpy 10 (mem 74) (mem 16))) iX6_copy (c_X6_copy l G (gr (gr (gr (gr (gr (gr mem 4 (upd (upd (mem 4) 0 (mem 62 0)) 1 (mem 62 1))) 6 (cpy 10 (mem 64) (mem 6))) 8 (cpy 10 (mem 66) (mem 8))) 10 (cpy 10 (mem 68) (mem 10))) 12 (cpy 10 (mem 70) (mem 12))) 14 (cpy 10 (mem 72) (mem 14))) ob_15 ar_16 ob_73 ar_74 (by decide)) wd_333 ob_15 rfl ⟨Nat.le_of_ble_eq_true rfl, Nat.le_of_ble_eq_true rfl⟩ ⟨rfl, rfl⟩ rfl (Nat.le_of_ble_eq_true rfl) dX3_copy_79 (rfl) ?_
  refine g_aload_n C 0 dX3_copy_82 rfl ?_
  refine g_get_r C ob_4 8 (by decide) rfl wd_74 dX3_copy_83 ?_
  refine g_aload_n C 1 dX3_copy_86 rfl ?_
  refine g_get_r C ob_62 8 (by decide) rfl wd_74 dX3_copy_87 ?_
  refine g_cV0 C (As := [.ref (gad G 75)]) (mem3 := gr (gr (gr (gr (gr (gr (gr (gr mem 4 (upd (upd (mem 4) 0 (mem 62 0)) 1 (mem 62 1))) 6 (cpy 10 (mem 64) (mem 6))) 8 (cpy 10 (mem 66) (mem 8))) 10 (cpy 10 (mem 68) (mem 10))) 12 (cpy 10 (mem 70) (mem 12))) 14 (cpy 10 (mem 72) (mem 14))) 16 (cpy 10 (mem 74) (mem 16))) 18 (cpy 10 (mem 76) (mem 18))) iX6_copy (c_X6_copy l G (gr (gr (gr (gr (gr (gr (gr mem 4 (upd (upd (mem 4) 0 (mem 62 0)) 1 (mem 62 1))) 6 (cpy 10 (mem 64) (mem 6))) 8 (cpy 10 (mem 66) (mem 8))) 10 (cpy 10 (mem 68) (mem 10))) 12 (cpy 10 (mem 70) (mem 12))) 14 (cpy 10 (mem 72) (mem 14))) 16 (cpy 10 (mem 74) (mem 16))) ob_17 ar_18 ob_75 ar_76 (by decide)) wd_333 ob_17 rfl ⟨Nat.le_of_ble_eq_true rfl, Nat.le_of_ble_eq_true rfl⟩ ⟨rfl, rfl⟩ rfl (Nat.le_of_ble_eq_true rfl) dX3_copy_90 (rfl) ?_
  refine g_aload_n C 0 dX3_copy_93 rfl ?_
  refine g_get_r C ob_4 9 (by decide) rfl wd_76 dX3_copy_94 ?_
  refine g_aload_n C 1 dX3_copy_97 rfl ?_
  refine g_get_r C ob_62 9 (by decide) rfl wd_76 dX3_copy_98 ?_
  refine g_cV0 C (As := [.ref (gad G 77)]) (mem3 := gr (gr (gr (gr (gr (gr (gr (gr (gr mem 4 (upd (upd (mem 4) 0 (mem 62 0)) 1 (mem 62 1))) 6 (cpy 10 (mem 64) (mem 6))) 8 (cpy 10 (mem 66) (mem 8))) 10 (cpy 10 (mem 68) (mem 10))) 12 (cpy 10 (mem 70) (mem 12))) 14 (cpy 10 (mem 72) (mem 14))) 16 (cpy 10 (mem 74) (mem 16))) 18 (cpy 10 (mem 76) (mem 18))) 20 (cpy 10 (mem 78) (mem 20))) iX6_copy (c_X6_copy l G (gr (gr (gr (gr (gr (gr (gr (gr mem 4 (upd (upd (mem 4) 0 (mem 62 0)) 1 (mem 62 1))) 6 (cpy 10 (mem 64) (mem 6))) 8 (cpy 10 (mem 66) (mem 8))) 10 (cpy 10 (mem 68) (mem 10))) 12 (cpy 10 (mem 70) (mem 12))) 14 (cpy 10 (mem 72) (mem 14))) 16 (cpy 10 (mem 74) (mem 16))) 18 (cpy 10 (mem 76) (mem 18))) ob_19 ar_20 ob_77 ar_78 (by decide)) wd_333 ob_19 rfl ⟨Nat.le_of_ble_eq_true rfl, Nat.le_of_ble_eq_true rfl⟩ ⟨rfl, rfl⟩ rfl (Nat.le_of_ble_eq_true rfl) dX3_copy_101 (rfl) ?_
  refine g_vret C hQ rfl dX3_copy_104 ?_
  exact ⟨rfl, rfl⟩

set_option maxRecDepth 100000 in
set_option maxHeartbeats 4000000 in
theorem c_X0_copy_1_59 (l : Launch) (G : gG) (mem : gM) : gMet l yX0_copy cX0_copy 2 none rm_X0_copy G [.ref (gad G 21), .ref (gad G 79)] mem (fun a u => a = none ∧ u = gr (gr mem 21 (upd (upd (upd (mem 21) 0 (mem 79 0)) 1 (mem 79 1)) 2 (mem 79 2))) 23 (cpy 10 (mem 81) (mem 23))) := by
  refine g_of (own := RX0) (L0 := [(0, .ref (gad G 21)), (1, .ref (gad G 79))]) (by decide +kernel) rfl (Nat.le_of_ble_eq_true rfl) rfl ?_
  intro p e s m args below meth c C Q hQ
  refine g_aload_n C 0 dX0_copy_0 rfl ?_
  refine g_aload_n C 1 dX0_copy_1 rfl ?_
  refine g_get_i C ob_79 0 (by decide) rfl wd_108 dX0_copy_2 ?_
  refine g_put_i C ob_21 0 (by decide) rfl wd_108 rfl rfl dX0_copy_5 ?_
  refine g_aload_n C 0 dX0_copy_8 rfl ?_
  refine g_aload_n C 1 dX0_copy_9 rfl ?_
  refine g_get_i C ob_79 1 (by decide) rfl wd_112 dX0_copy_10 ?_
  refine g_top (y := mem 79 1) (rfl) ?_
  refine g_put_i C ob_21 1 (by decide) rfl wd_112 rfl rfl dX0_copy_13 ?_
  refine g_mem (mem2 := gr mem 21 (upd (upd (mem 21) 0 (mem 79 0)) 1 (mem 79 1))) (gr_gr _ _ _ _) ?_
  refine g_aload_n C 0 dX0_copy_16 rfl ?_
  refine g_aload_n C 1 dX0_copy_17 rfl ?_
  refine g_get_i C ob_79 2 (by decide) rfl wd_115 dX0_copy_18 ?_
  refine g_top (y := mem 79 2) (rfl) ?_
  refine g_put_i C ob_21 2 (by decide) rfl wd_115 rfl rfl dX0_copy_21 ?_
  refine g_mem (mem2 := gr mem 21 (upd (upd (upd (mem 21) 0 (mem 79 0)) 1 (mem 79 1)) 2 (mem 79 2))) (gr_gr _ _ _ _) ?_
  refine g_aload_n C 0 dX0_copy_24 rfl ?_
  refine g_get_r C ob_21 3 (by decide) rfl wd_118 dX0_copy_25 ?_
  refine g_aload_n C 1 dX0_copy_28 rfl ?_
  refine g_get_r C ob_79 3 (by decide) rfl wd_118 dX0_copy_29 ?_
  refine g_cV0 C (As := [.ref (gad G 80)]) (mem3 := gr (gr mem 21 (upd (upd (upd (mem 21) 0 (mem 79 0)) 1 (mem 79 1)) 2 (mem 79 2))) 23 (cpy 10 (mem 81) (mem 23))) iX6_copy (c_X6_copy l G (gr mem 21 (upd (upd (upd (mem 21) 0 (mem 79 0)) 1 (mem 79 1)) 2 (mem 79 2))) ob_22 ar_23 ob_80 ar_81 (by decide)) wd_338 ob_22 rfl ⟨Nat.le_of_ble_eq_true rfl, Nat.le_of_ble_eq_true rfl⟩ ⟨rfl, rfl⟩ rfl (Nat.le_of_ble_eq_true rfl) dX0_copy_32 (rfl) ?_
  refine g_vret C hQ rfl dX0_copy_35 ?_
  exact ⟨rfl, rfl⟩

set_option maxRecDepth 100000 in
set_option maxHeartbeats 4000000 in
theorem c_X2_copy_1_59 (l : Launch) (G : gG) (mem : gM) : gMet l yX2_copy cX2_copy 2 none rm_X2_copy G [.ref (gad G 26), .ref (gad G 84)] mem (fun a u => a = none ∧ u = gr (gr mem 26 (upd (upd (upd (mem 26) 0 (mem 84 0)) 1 (mem 84 1)) 2 (mem 84 2))) 28 (cpy 140 (mem 86) (mem 28))) := by
  refine g_of (own := RX2) (L0 := [(0, .ref (gad G 26)), (1, .ref (gad G 84))]) (by decide +kernel) rfl (Nat.le_of_ble_eq_true rfl) rfl ?_
  intro p e s m args below meth c C Q hQ
  refine g_aload_n C 0 dX2_copy_0 rfl ?_
  refine g_aload_n C 1 dX2_copy_1 rfl ?_
  refine g_get_i C ob_84 0 (by decide) rfl wd_136 dX2_copy_2 ?_
  refine g_put_i C ob_26 0 (by decide) rfl wd_136 rfl rfl dX2_copy_5 ?_
  refine g_aload_n C 0 dX2_copy_8 rfl ?_
  refine g_aload_n C 1 dX2_copy_9 rfl ?_
  refine g_get_i C ob_84 1 (by decide) rfl wd_138 dX2_copy_10 ?_
  refine g_top (y := mem 84 1) (rfl) ?_
  refine g_put_i C ob_26 1 (by decide) rfl wd_138 rfl rfl dX2_copy_13 ?_
  refine g_mem (mem2 := gr mem 26 (upd (upd (mem 26) 0 (mem 84 0)) 1 (mem 84 1))) (gr_gr _ _ _ _) ?_
  refine g_aload_n C 0 dX2_copy_16 rfl ?_
  refine g_aload_n C 1 dX2_copy_17 rfl ?_
  refine g_get_i C ob_84 2 (by decide) rfl wd_140 dX2_copy_18 ?_
  refine g_top (y := mem 84 2) (rfl) ?_
  refine g_put_i C ob_26 2 (by decide) rfl wd_140 rfl rfl dX2_copy_21 ?_
  refine g_mem (mem2 := gr mem 26 (upd (upd (upd (mem 26) 0 (mem 84 0)) 1 (mem 84 1)) 2 (mem 84 2))) (gr_gr _ _ _ _) ?_
  refine g_aload_n C 0 dX2_copy_24 rfl ?_
  refine g_get_r C ob_26 3 (by decide) rfl wd_142 dX2_copy_25 ?_
  refine g_aload_n C 1 dX2_copy_28 rfl ?_
  refine g_get_r C ob_84 3 (by decide) rfl wd_142 dX2_copy_29 ?_
  refine g_cV0 C (As := [.ref (gad G 85)]) (mem3 := gr (gr mem 26 (upd (upd (upd (mem 26) 0 (mem 84 0)) 1 (mem 84 1)) 2 (mem 84 2))) 28 (cpy 140 (mem 86) (mem 28))) iX6_copy (c_X6_copy l G (gr mem 26 (upd (upd (upd (mem 26) 0 (mem 84 0)) 1 (mem 84 1)) 2 (mem 84 2))) ob_27 ar_28 ob_85 ar_86 (by decide)) wd_343 ob_27 rfl ⟨Nat.le_of_ble_eq_true rfl, Nat.le_of_ble_eq_true rfl⟩ ⟨rfl, rfl⟩ rfl (Nat.le_of_ble_eq_true rfl) dX2_copy_32 (rfl) ?_
  refine g_vret C hQ rfl dX2_copy_35 ?_
  exact ⟨rfl, rfl⟩

set_option maxRecDepth 100000 in
set_option maxHeartbeats 4000000 in
theorem c_X7_copy_1_59 (l : Launch) (G : gG) (mem : gM) : gMet l yX7_copy cX7_copy 2 none rm_X7_copy G [.ref (gad G 1), .ref (gad G 59)] mem (fun x u => x = none ∧ CopyS 1 59 mem u) := by
  refine g_of (own := RX7) (L0 := [(0, .ref (gad G 1)), (1, .ref (gad G 59))]) (by decide +kernel) rfl (Nat.le_of_ble_eq_true rfl) rfl ?_
  intro p e s m args below meth c C Q hQ
  refine g_aload_n C 0 dX7_copy_0 rfl ?_
  refine g_get_r C ob_1 0 (by decide) rfl wd_156 dX7_copy_1 ?_
  refine g_aload_n C 1 dX7_copy_4 rfl ?_
  refine g_get_r C ob_59 0 (by decide) rfl wd_156 dX7_copy_5 ?_
  refine g_cV0 C (As := [.ref (gad G 60)]) (mem3 := gr mem 3 (cpy 5 (mem 61) (mem 3))) iX6_copy (c_X6_copy l G mem ob_2 ar_3 ob_60 ar_61 (by decide)) wd_319 ob_2 rfl ⟨Nat.le_of_ble_eq_true rfl, Nat.le_of_ble_eq_true rfl⟩ ⟨rfl, rfl⟩ rfl (Nat.le_of_ble_eq_true rfl) dX7_copy_8 (rfl) ?_
  refine g_aload_n C 0 dX7_copy_11 rfl ?_
  refine g_get_r C ob_1 1 (by decide) rfl wd_159 dX7_copy_12 ?_
  refine g_aload_n C 1 dX7_copy_15 rfl ?_
  refine g_get_r C ob_59 1 (by decide) rfl wd_159 dX7_copy_16 ?_
  refine g_cV0 C (As := [.ref (gad G 62)]) (mem3 := gr (gr (gr (gr (gr (gr (gr (gr (gr (gr mem 3 (cpy 5 (mem 61) (mem 3))) 4 (upd (upd (mem 4) 0 (mem 62 0)) 1 (mem 62 1))) 6 (cpy 10 (mem 64) (mem 6))) 8 (cpy 10 (mem 66) (mem 8))) 10 (cpy 10 (mem 68) (mem 10))) 12 (cpy 10 (mem 70) (mem 12))) 14 (cpy 10 (mem 72) (mem 14))) 16 (cpy 10 (mem 74) (mem 16))) 18 (cpy 10 (mem 76) (mem 18))) 20 (cpy 10 (mem 78) (mem 20))) iX3_copy (c_X3_copy_1_59 l G (gr mem 3 (cpy 5 (mem 61) (mem 3)))) wd_329 ob_4 rfl ⟨Nat.le_of_ble_eq_true rfl, Nat.le_of_ble_eq_true rfl⟩ ⟨rfl, rfl⟩ rfl (Nat.le_of_ble_eq_true rfl) dX7_copy_19 (rfl) ?_
  refine g_aload_n C 0 dX7_copy_22 rfl ?_
  refine g_get_r C ob_1 2 (by decide) rfl wd_162 dX7_copy_23 ?_
  refine g_aload_n C 1 dX7_copy_26 rfl ?_
  refine g_get_r C ob_59 2 (by decide) rfl wd_162 dX7_copy_27 ?_
  refine g_cV0 C (As := [.ref (gad G 79)]) (mem3 := gr (gr (gr (gr (gr (gr (gr (gr (gr (gr (gr (gr mem 3 (cpy 5 (mem 61) (mem 3))) 4 (upd (upd (mem 4) 0 (mem 62 0)) 1 (mem 62 1))) 6 (cpy 10 (mem 64) (mem 6))) 8 (cpy 10 (mem 66) (mem 8))) 10 (cpy 10 (mem 68) (mem 10))) 12 (cpy 10 (mem 70) (mem 12))) 14 (cpy 10 (mem 72) (mem 14))) 16 (cpy 10 (mem 74) (mem 16))) 18 (cpy 10 (mem 76) (mem 18))) 20 (cpy 10 (mem 78) (mem 20))) 21 (upd (upd (upd (mem 21) 0 (mem 79 0)) 1 (mem 79 1)) 2 (mem 79 2))) 23 (cpy 10 (mem 81) (mem 23))) iX0_copy (c_X0_copy_1_59 l G (gr (gr (gr (gr (gr (gr (gr (gr (gr (gr mem 3 (cpy 5 (mem 61) (mem 3))) 4 (upd (upd (mem 4) 0 (mem 62 0)) 1 (mem 62 1))) 6 (cpy 10 (mem 64) (mem 6))) 8 (cpy 10 (mem 66) (mem 8))) 10 (cpy 10 (mem 68) (mem 10))) 12 (cpy 10 (mem 70) (mem 12))) 14 (cpy 10 (mem 72) (mem 14))) 16 (cpy 10 (mem 74) (mem 16))) 18 (cpy 10 (mem 76) (mem 18))) 20 (cpy 10 (mem 78) (mem 20)))) wd_334 ob_21 rfl ⟨Nat.le_of_ble_eq_true rfl, Nat.le_of_ble_eq_true rfl⟩ ⟨rfl, rfl⟩ rfl (Nat.le_of_ble_eq_true rfl) dX7_copy_30 (rfl) ?_
  refine g_aload_n C 0 dX7_copy_33 rfl ?_
  refine g_get_r C ob_1 3 (by decide) rfl wd_165 dX7_copy_34 ?_
  refine g_aload_n C 1 dX7_copy_37 rfl ?_
  refine g_get_r C ob_59 3 (by decide) rfl wd_165 dX7_copy_38 ?_
  refine g_cV0 C (As := [.ref (gad G 82)]) (mem3 := gr (gr (gr (gr (gr (gr (gr (gr (gr (gr (gr (gr (gr mem 3 (cpy 5 (mem 61) (mem 3))) 4 (upd (upd (mem 4) 0 (mem 62 0)) 1 (mem 62 1))) 6 (cpy 10 (mem 64) (mem 6))) 8 (cpy 10 (mem 66) (mem 8))) 10 (cpy 10 (mem 68) (mem 10))) 12 (cpy 10 (mem 70) (mem 12))) 14 (cpy 10 (mem 72) (mem 14))) 16 (cpy 10 (mem 74) (mem 16))) 18 (cpy 10 (mem 76) (mem 18))) 20 (cpy 10 (mem 78) (mem 20))) 21 (upd (upd (upd (mem 21) 0 (mem 79 0)) 1 (mem 79 1)) 2 (mem 79 2))) 23 (cpy 10 (mem 81) (mem 23))) 25 (cpy 200 (mem 83) (mem 25))) iX6_copy (c_X6_copy l G (gr (gr (gr (gr (gr (gr (gr (gr (gr (gr (gr (gr mem 3 (cpy 5 (mem 61) (mem 3))) 4 (upd (upd (mem 4) 0 (mem 62 0)) 1 (mem 62 1))) 6 (cpy 10 (mem 64) (mem 6))) 8 (cpy 10 (mem 66) (mem 8))) 10 (cpy 10 (mem 68) (mem 10))) 12 (cpy 10 (mem 70) (mem 12))) 14 (cpy 10 (mem 72) (mem 14))) 16 (cpy 10 (mem 74) (mem 16))) 18 (cpy 10 (mem 76) (mem 18))) 20 (cpy 10 (mem 78) (mem 20))) 21 (upd (upd (upd (mem 21) 0 (mem 79 0)) 1 (mem 79 1)) 2 (mem 79 2))) 23 (cpy 10 (mem 81) (mem 23))) ob_24 ar_25 ob_82 ar_83 (by decide)) wd_319 ob_24 rfl ⟨Nat.le_of_ble_eq_true rfl, Nat.le_of_ble_eq_true rfl⟩ ⟨rfl, rfl⟩ rfl (Nat.le_of_ble_eq_true rfl) dX7_copy_41 (rfl) ?_
  refine g_aload_n C 0 dX7_copy_44 rfl ?_
  refine g_get_r C ob_1 4 (by decide) rfl wd_168 dX7_copy_45 ?_
  refine g_aload_n C 1 dX7_copy_48 rfl ?_
  refine g_get_r C ob_59 4 (by decide) rfl wd_168 dX7_copy_49 ?_
  refine g_cV0 C (As := [.ref (gad G 84)]) (mem3 := gr (gr (gr (gr (gr (gr (gr (gr (gr (gr (gr (gr (gr (gr (gr mem 3 (cpy 5 (mem 61) (mem 3))) 4 (upd (upd (mem 4) 0 (mem 62 0)) 1 (mem 62 1))) 6 (cpy 10 (mem 64) (mem 6))) 8 (cpy 10 (mem 66) (mem 8))) 10 (cpy 10 (mem 68) (mem 10))) 12 (cpy 10 (mem 70) (mem 12))) 14 (cpy 10 (mem 72) (mem 14))) 16 (cpy 10 (mem 74) (mem 16))) 18 (cpy 10 (mem 76) (mem 18))) 20 (cpy 10 (mem 78) (mem 20))) 21 (upd (upd (upd (mem 21) 0 (mem 79 0)) 1 (mem 79 1)) 2 (mem 79 2))) 23 (cpy 10 (mem 81) (mem 23))) 25 (cpy 200 (mem 83) (mem 25))) 26 (upd (upd (upd (mem 26) 0 (mem 84 0)) 1 (mem 84 1)) 2 (mem 84 2))) 28 (cpy 140 (mem 86) (mem 28))) iX2_copy (c_X2_copy_1_59 l G (gr (gr (gr (gr (gr (gr (gr (gr (gr (gr (gr (gr (gr mem 3 (cpy 5 (mem 61) (mem 3))) 4 (upd (upd (mem 4) 0 (mem 62 0)) 1 (mem 62 1))) 6 (cpy 10 (mem 64) (mem 6))) 8 (cpy 10 (mem 66) (mem 8))) 10 (cpy 10 (mem 68) (mem 10))) 12 (cpy 10 (mem 70) (mem 12))) 14 (cpy 10 (mem 72) (mem 14))) 16 (cpy 10 (mem 74) (mem 16))) 18 (cpy 10 (mem 76) (mem 18))) 20 (cpy 10 (mem 78) (mem 20))) 21 (upd (upd (upd (mem 21) 0 (mem 79 0)) 1 (mem 79 1)) 2 (mem 79 2))) 23 (cpy 10 (mem 81) (mem 23))) 25 (cpy 200 (mem 83) (mem 25)))) wd_339 ob_26 rfl ⟨Nat.le_of_ble_eq_true rfl, Nat.le_of_ble_eq_true rfl⟩ ⟨rfl, rfl⟩ rfl (Nat.le_of_ble_eq_true rfl) dX7_copy_52 (rfl) ?_
  refine g_vret C hQ rfl dX7_copy_55 ?_
  refine ⟨rfl, fun k hk => ?_, rfl, ⟨rfl, rfl⟩, ⟨rfl, rfl, rfl, rfl, rfl, rfl, rfl, rfl⟩, ⟨rfl, rfl, rfl⟩, rfl, rfl, ⟨rfl, rfl, rfl⟩, rfl⟩
  rw [gr_n (by omega), gr_n (by omega), gr_n (by omega), gr_n (by omega), gr_n (by omega), gr_n (by omega), gr_n (by omega), gr_n (by omega), gr_n (by omega), gr_n (by omega), gr_n (by omega), gr_n (by omega), gr_n (by omega), gr_n (by omega), gr_n (by omega)]

set_option maxRecDepth 100000 in
set_option maxHeartbeats 4000000 in
theorem c_X3_copy_1_87 (l : Launch) (G : gG) (mem : gM) : gMet l yX3_copy cX3_copy 2 none rm_X3_copy G [.ref (gad G 4), .ref (gad G 90)] mem (fun a u => a = none ∧ u = gr (gr (gr (gr (gr (gr (gr (gr (gr mem 4 (upd (upd (mem 4) 0 (mem 90 0)) 1 (mem 90 1))) 6 (cpy 10 (mem 92) (mem 6))) 8 (cpy 10 (mem 94) (mem 8))) 10 (cpy 10 (mem 96) (mem 10))) 12 (cpy 10 (mem 98) (mem 12))) 14 (cpy 10 (mem 100) (mem 14))) 16 (cpy 10 (mem 102) (mem 16))) 18 (cpy 10 (mem 104) (mem 18))) 20 (cpy 10 (mem 106) (mem 20))) := by
  refine g_of (own := RX3) (L0 := [(0, .ref (gad G 4)), (1, .ref (gad G 90))]) (by decide +kernel) rfl (Nat.le_of_ble_eq_true rfl) rfl ?_
  intro p e s m args below meth c C Q hQ
  refine g_aload_n C 0 dX3_copy_0 rfl ?_
  refine g_aload_n C 1 dX3_copy_1 rfl ?_
  refine g_get_i C ob_90 0 (by decide) rfl wd_50 dX3_copy_2 ?_
  refine g_put_i C ob_4 0 (by decide) rfl wd_50 rfl rfl dX3_copy_5 ?_
  refine g_aload_n C 0 dX3_copy_8 rfl ?_
  refine g_aload_n C 1 dX3_copy_9 rfl ?_
  refine g_get_i C ob_90 1 (by decide) rfl wd_56 dX3_copy_10 ?_
  refine g_top (y := mem 90 1) (rfl) ?_
  refine g_put_i C ob_4 1 (by decide) rfl wd_56 rfl rfl dX3_copy_13 ?_
  refine g_mem (mem2 := gr mem 4 (upd (upd (mem 4) 0 (mem 90 0)) 1 (mem 90 1))) (gr_gr _ _ _ _) ?_
  refine g_aload_n C 0 dX3_copy_16 rfl ?_
  refine g_get_r C ob_4 2 (by decide) rfl wd_58 dX3_copy_17 ?_
  refine g_aload_n C 1 dX3_copy_20 rfl ?_
  refine g_get_r C ob_90 2 (by decide) rfl wd_58 dX3_copy_21 ?_
  refine g_cV0 C (As := [.ref (gad G 91)]) (mem3 := gr (gr mem 4 (upd (upd (mem 4) 0 (mem 90 0)) 1 (mem 90 1))) 6 (cpy 10 (mem 92) (mem 6))) iX6_copy (c_X6_copy l G (gr mem 4 (upd (upd (mem 4) 0 (mem 90 0)) 1 (mem 90 1))) ob_5 ar_6 ob_91 ar_92 (by decide)) wd_333 ob_5 rfl ⟨Nat.le_of_ble_eq_true rfl, Nat.le_of_ble_eq_true rfl⟩ ⟨rfl, rfl⟩ rfl (Nat.le_of_ble_eq_true rfl) dX3_copy_24 (rfl) ?_
  refine g_aload_n C 0 dX3_copy_27 rfl ?_
  refine g_get_r C ob_4 3 (by decide) rfl wd_61 dX3_copy_28 ?_
  refine g_aload_n C 1 dX3_copy_31 rfl ?_
  refine g_get_r C ob_90 3 (by decide) rfl wd_61 dX3_copy_32 ?_
  refine g_cV0 C (As := [.ref (gad G 93)]) (mem3 := gr (gr (gr mem 4 (upd (upd (mem 4) 0 (mem 90 0)) 1 (mem 90 1))) 6 (cpy 10 (mem 92) (mem 6))) 8 (cpy 10 (mem 94) (mem 8))) iX6_copy (c_X6_copy l G (gr (gr mem 4 (upd (upd (mem 4) 0 (mem 90 0)) 1 (mem 90 1))) 6 (cpy 10 (mem 92) (mem 6))) ob_7 ar_8 ob_93 ar_94 (by decide)) wd_333 ob_7 rfl ⟨Nat.le_of_ble_eq_true rfl, Nat.le_of_ble_eq_true rfl⟩ ⟨rfl, rfl⟩ rfl (Nat.le_of_ble_eq_true rfl) dX3_copy_35 (rfl) ?_
  refine g_aload_n C 0 dX3_copy_38 rfl ?_
  refine g_get_r C ob_4 4 (by decide) rfl wd_63 dX3_copy_39 ?_
  refine g_aload_n C 1 dX3_copy_42 rfl ?_
  refine g_get_r C ob_90 4 (by decide) rfl wd_63 dX3_copy_43 ?_
  refine g_cV0 C (As := [.ref (gad G 95)]) (mem3 := gr (gr (gr (gr mem 4 (upd (upd (mem 4) 0 (mem 90 0)) 1 (mem 90 1))) 6 (cpy 10 (mem 92) (mem 6))) 8 (cpy 10 (mem 94) (mem 8))) 10 (cpy 10 (mem 96) (mem 10))) iX6_copy (c_X6_copy l G (gr (gr (gr mem 4 (upd (upd (mem 4) 0 (mem 90 0)) 1 (mem 90 1))) 6 (cpy 10 (mem 92) (mem 6))) 8 (cpy 10 (mem 94) (mem 8))) ob_9 ar_10 ob_95 ar_96 (by decide)) wd_333 ob_9 rfl ⟨Nat.le_of_ble_eq_true rfl, Nat.le_of_ble_eq_true rfl⟩ ⟨rfl, rfl⟩ rfl (Nat.le_of_ble_eq_true rfl) dX3_copy_46 (rfl) ?_
  refine g_aload_n C 0 dX3_copy_49 rfl ?_
  refine g_get_r C ob_4 5 (by decide) rfl wd_66 dX3_copy_50 ?_
  refine g_aload_n C 1 dX3_copy_53 rfl ?_
  refine g_get_r C ob_90 5 (by decide) rfl wd_66 dX3_copy_54 ?_
  refine g_cV0 C (As := [.ref (gad G 97)]) (mem3 := gr (gr (gr (gr (gr mem 4 (upd (upd (mem 4) 0 (mem 90 0)) 1 (mem 90 1))) 6 (cpy 10 (mem 92) (mem 6))) 8 (cpy 10 (mem 94) (mem 8))) 10 (cpy 10 (mem 96) (mem 10))) 12 (cpy 10 (mem 98) (mem 12))) iX6_copy (c_X6_copy l G (gr (gr (gr (gr mem 4 (upd (upd (mem 4) 0 (mem 90 0)) 1 (mem 90 1))) 6 (cpy 10 (mem 92) (mem 6))) 8 (cpy 10 (mem 94) (mem 8))) 10 (cpy 10 (mem 96) (mem 10))) ob_11 ar_12 ob_97 ar_98 (by decide)) wd_333 ob_11 rfl ⟨Nat.le_of_ble_eq_true rfl, Nat.le_of_ble_eq_true rfl⟩ ⟨rfl, rfl⟩ rfl (Nat.le_of_ble_eq_true rfl) dX3_copy_57 (rfl) ?_
  refine g_aload_n C 0 dX3_copy_60 rfl ?_
  refine g_get_r C ob_4 6 (by decide) rfl wd_69 dX3_copy_61 ?_
  refine g_aload_n C 1 dX3_copy_64 rfl ?_
  refine g_get_r C ob_90 6 (by decide) rfl wd_69 dX3_copy_65 ?_
  refine g_cV0 C (As := [.ref (gad G 99)]) (mem3 := gr (gr (gr (gr (gr (gr mem 4 (upd (upd (mem 4) 0 (mem 90 0)) 1 (mem 90 1))) 6 (cpy 10 (mem 92) (mem 6))) 8 (cpy 10 (mem 94) (mem 8))) 10 (cpy 10 (mem 96) (mem 10))) 12 (cpy 10 (mem 98) (mem 12))) 14 (cpy 10 (mem 100) (mem 14))) iX6_copy (c_X6_copy l G (gr (gr (gr (gr (gr mem 4 (upd (upd (mem 4) 0 (mem 90 0)) 1 (mem 90 1))) 6 (cpy 10 (mem 92) (mem 6))) 8 (cpy 10 (mem 94) (mem 8))) 10 (cpy 10 (mem 96) (mem 10))) 12 (cpy 10 (mem 98) (mem 12))) ob_13 ar_14 ob_99 ar_100 (by decide)) wd_333 ob_13 rfl ⟨Nat.le_of_ble_eq_true rfl, Nat.le_of_ble_eq_true rfl⟩ ⟨rfl, rfl⟩ rfl (Nat.le_of_ble_eq_true rfl) dX3_copy_68 (rfl) ?_
  refine g_aload_n C 0 dX3_copy_71 rfl ?_
  refine g_get_r C ob_4 7 (by decide) rfl wd_72 dX3_copy_72 ?_
  refine g_aload_n C 1 dX3_copy_75 rfl ?_
  refine g_get_r C ob_90 7 (by decide) rfl wd_72 dX3_copy_76 ?_
  refine g_cV0 C (As := [.ref (gad G 101)]) (mem3 := gr (gr (gr (gr (gr (gr (gr mem 4 (upd (upd (mem 4) 0 (mem 90 0)) 1 (mem 90 1))) 6 (cpy 10 (mem 92) (mem 6))) 8 (cpy 10 (mem 94) (mem 8))) 10 (cpy 10 (mem 96) (mem 10))) 12 (cpy 10 (mem 98) (mem 12))) 14 (cpy 10 (mem 100) (mem 14))) 16 (cpy 10 (mem 102) (mem 16))) iX6_copy (c_X6_copy l G (gr (gr (gr (gr (gr (gr mem 4 (upd (upd (mem 4) 0 (mem 90 0)) 1 (mem 90 1))) 6 (cpy 10 (mem 92) (mem 6))) 8 (cpy 10 (mem 94) (mem 8))) 10 (cpy 10 (mem 96) (mem 10))) 12 (cpy 10 (mem 98) (mem 12))) 14 (cpy 10 (mem 100) (mem 14))) ob_15 ar_16 ob_101 ar_102 (by decide)) wd_333 ob_15 rfl ⟨Nat.le_of_ble_eq_true rfl, Nat.le_of_ble_eq_true rfl⟩ ⟨rfl, rfl⟩ rfl (Nat.le_of_ble_eq_true rfl) dX3_copy_79 (rfl) ?_
  refine g_aload_n C 0 dX3_copy_82 rfl ?_
  refine g_get_r C ob_4 8 (by decide) rfl wd_74 dX3_copy_83 ?_
  refine g_aload_n C 1 dX3_copy_86 rfl ?_
  refine g_get_r C ob_90 8 (by decide) rfl wd_74 dX3_copy_87 ?_
  refine g_cV0 C (As := [.ref (gad G 103)]) (mem3 := gr (gr (gr (gr (gr (gr (gr (gr mem 4 (upd (upd (mem 4) 0 (mem 90 0)) 1 (mem 90 1))) 6 (cpy 10 (mem 92) (mem 6))) 8 (cpy 10 (mem 94) (mem 8))) 10 (cpy 10 (mem 96) (mem 10))) 12 (cpy 10 (mem 98) (mem 12))) 14 (cpy 10 (mem 100) (mem 14))) 16 (cpy 10 (mem 102) (mem 16))) 18 (cpy 10 (mem 104) (mem 18))) iX6_copy (c_X6_copy l G (gr (gr (gr (gr (gr (gr (gr mem 4 (upd (upd (mem 4) 0 (mem 90 0)) 1 (mem 90 1))) 6 (cpy 10 (mem 92) (mem 6))) 8 (cpy 10 (mem 94) (mem 8))) 10 (cpy 10 (mem 96) (mem 10))) 12 (cpy 10 (mem 98) (mem 12))) 14 (cpy 10 (mem 100) (mem 14))) 16 (cpy 10 (mem 102) (mem 16))) ob_17 ar_18 ob_103 ar_104 (by decide)) wd_333 ob_17 rfl ⟨Nat.le_of_ble_eq_true rfl, Nat.le_of_ble_eq_true rfl⟩ ⟨rfl, rfl⟩ rfl (Nat.le_of_ble_eq_true rfl) dX3_copy_90 (rfl) ?_
  refine g_aload_n C 0 dX3_copy_93 rfl ?_
  refine g_get_r C ob_4 9 (by decide) rfl wd_76 dX3_copy_94 ?_
  refine g_aload_n C 1 dX3_copy_97 rfl ?_
  refine g_get_r C ob_90 9 (by decide) rfl wd_76 dX3_copy_98 ?_
  refine g_cV0 C (As := [.ref (gad G 105)]) (mem3 := gr (gr (gr (gr (gr (gr (gr (gr (gr mem 4 (upd (upd (mem 4) 0 (mem 90 0)) 1 (mem 90 1))) 6 (cpy 10 (mem 92) (mem 6))) 8 (cpy 10 (mem 94) (mem 8))) 10 (cpy 10 (mem 96) (mem 10))) 12 (cpy 10 (mem 98) (mem 12))) 14 (cpy 10 (mem 100) (mem 14))) 16 (cpy 10 (mem 102) (mem 16))) 18 (cpy 10 (mem 104) (mem 18))) 20 (cpy 10 (mem 106) (mem 20))) iX6_copy (c_X6_copy l G (gr (gr (gr (gr (gr (gr (gr (gr mem 4 (upd (upd (mem 4) 0 (mem 90 0)) 1 (mem 90 1))) 6 (cpy 10 (mem 92) (mem 6))) 8 (cpy 10 (mem 94) (mem 8))) 10 (cpy 10 (mem 96) (mem 10))) 12 (cpy 10 (mem 98) (mem 12))) 14 (cpy 10 (mem 100) (mem 14))) 16 (cpy 10 (mem 102) (mem 16))) 18 (cpy 10 (mem 104) (mem 18))) ob_19 ar_20 ob_105 ar_106 (by decide)) wd_333 ob_19 rfl ⟨Nat.le_of_ble_eq_true rfl, Nat.le_of_ble_eq_true rfl⟩ ⟨rfl, rfl⟩ rfl (Nat.le_of_ble_eq_true rfl) dX3_copy_101 (rfl) ?_
  refine g_vret C hQ rfl dX3_copy_104 ?_
  exact ⟨rfl, rfl⟩

set_option maxRecDepth 100000 in
set_option maxHeartbeats 4000000 in
theorem c_X0_copy_1_87 (l : Launch) (G : gG) (mem : gM) : gMet l yX0_copy cX0_copy 2 none rm_X0_copy G [.ref (gad G 21), .ref (gad G 107)] mem (fun a u => a = none ∧ u = gr (gr mem 21 (upd (upd (upd (mem 21) 0 (mem 107 0)) 1 (mem 107 1)) 2 (mem 107 2))) 23 (cpy 10 (mem 109) (mem 23))) := by
  refine g_of (own := RX0) (L0 := [(0, .ref (gad G 21)), (1, .ref (gad G 107))]) (by decide +kernel) rfl (Nat.le_of_ble_eq_true rfl) rfl ?_
  intro p e s m args below meth c C Q hQ
  refine g_aload_n C 0 dX0_copy_0 rfl ?_
  refine g_aload_n C 1 dX0_copy_1 rfl ?_
  refine g_get_i C ob_107 0 (by decide) rfl wd_108 dX0_copy_2 ?_
  refine g_put_i C ob_21 0 (by decide) rfl wd_108 rfl rfl dX0_copy_5 ?_
  refine g_aload_n C 0 dX0_copy_8 rfl ?_
  refine g_aload_n C 1 dX0_copy_9 rfl ?_
  refine g_get_i C ob_107 1 (by decide) rfl wd_112 dX0_copy_10 ?_
  refine g_top (y := mem 107 1) (rfl) ?_
  refine g_put_i C ob_21 1 (by decide) rfl wd_112 rfl rfl dX0_copy_13 ?_
  refine g_mem (mem2 := gr mem 21 (upd (upd (mem 21) 0 (mem 107 0)) 1 (mem 107 1))) (gr_gr _ _ _ _) ?_
  refine g_aload_n C 0 dX0_copy_16 rfl ?_
  refine g_aload_n C 1 dX0_copy_17 rfl ?_
  refine g_get_i C ob_107 2 (by decide) rfl wd_115 dX0_copy_18 ?_
  refine g_top (y := mem 107 2) (rfl) ?_
  refine g_put_i C ob_21 2 (by decide) rfl wd_115 rfl rfl dX0_copy_21 ?_
  refine g_mem (mem2 := gr mem 21 (upd (upd (upd (mem 21) 0 (mem 107 0)) 1 (mem 107 1)) 2 (mem 107 2))) (gr_gr _ _ _ _) ?_
  refine g_aload_n C 0 dX0_copy_24 rfl ?_
  refine g_get_r C ob_21 3 (by decide) rfl wd_118 dX0_copy_25 ?_
  refine g_aload_n C 1 dX0_copy_28 rfl ?_
  refine g_get_r C ob_107 3 (by decide) rfl wd_118 dX0_copy_29 ?_
  refine g_cV0 C (As := [.ref (gad G 108)]) (mem3 := gr (gr mem 21 (upd (upd (upd (mem 21) 0 (mem 107 0)) 1 (mem 107 1)) 2 (mem 107 2))) 23 (cpy 10 (mem 109) (mem 23))) iX6_copy (c_X6_copy l G (gr mem 21 (upd (upd (upd (mem 21) 0 (mem 107 0)) 1 (mem 107 1)) 2 (mem 107 2))) ob_22 ar_23 ob_108 ar_109 (by decide)) wd_338 ob_22 rfl ⟨Nat.le_of_ble_eq_true rfl, Nat.le_of_ble_eq_true rfl⟩ ⟨rfl, rfl⟩ rfl (Nat.le_of_ble_eq_true rfl) dX0_copy_32 (rfl) ?_
  refine g_vret C hQ rfl dX0_copy_35 ?_
  exact ⟨rfl, rfl⟩

set_option maxRecDepth 100000 in
set_option maxHeartbeats 4000000 in
theorem c_X2_copy_1_87 (l : Launch) (G : gG) (mem : gM) : gMet l yX2_copy cX2_copy 2 none rm_X2_copy G [.ref (gad G 26), .ref (gad G 112)] mem (fun a u => a = none ∧ u = gr (gr mem 26 (upd (upd (upd (mem 26) 0 (mem 112 0)) 1 (mem 112 1)) 2 (mem 112 2))) 28 (cpy 140 (mem 114) (mem 28))) := by
  refine g_of (own := RX2) (L0 := [(0, .ref (gad G 26)), (1, .ref (gad G 112))]) (by decide +kernel) rfl (Nat.le_of_ble_eq_true rfl) rfl ?_
  intro p e s m args below meth c C Q hQ
  refine g_aload_n C 0 dX2_copy_0 rfl ?_
  refine g_aload_n C 1 dX2_copy_1 rfl ?_
  refine g_get_i C ob_112 0 (by decide) rfl wd_136 dX2_copy_2 ?_
  refine g_put_i C ob_26 0 (by decide) rfl wd_136 rfl rfl dX2_copy_5 ?_
  refine g_aload_n C 0 dX2_copy_8 rfl ?_
  refine g_aload_n C 1 dX2_copy_9 rfl ?_
  refine g_get_i C ob_112 1 (by decide) rfl wd_138 dX2_copy_10 ?_
  refine g_top (y := mem 112 1) (rfl) ?_
  refine g_put_i C ob_26 1 (by decide) rfl wd_138 rfl rfl dX2_copy_13 ?_
  refine g_mem (mem2 := gr mem 26 (upd (upd (mem 26) 0 (mem 112 0)) 1 (mem 112 1))) (gr_gr _ _ _ _) ?_
  refine g_aload_n C 0 dX2_copy_16 rfl ?_
  refine g_aload_n C 1 dX2_copy_17 rfl ?_
  refine g_get_i C ob_112 2 (by decide) rfl wd_140 dX2_copy_18 ?_
  refine g_top (y := mem 112 2) (rfl) ?_
  refine g_put_i C ob_26 2 (by decide) rfl wd_140 rfl rfl dX2_copy_21 ?_
  refine g_mem (mem2 := gr mem 26 (upd (upd (upd (mem 26) 0 (mem 112 0)) 1 (mem 112 1)) 2 (mem 112 2))) (gr_gr _ _ _ _) ?_
  refine g_aload_n C 0 dX2_copy_24 rfl ?_
  refine g_get_r C ob_26 3 (by decide) rfl wd_142 dX2_copy_25 ?_
  refine g_aload_n C 1 dX2_copy_28 rfl ?_
  refine g_get_r C ob_112 3 (by decide) rfl wd_142 dX2_copy_29 ?_
  refine g_cV0 C (As := [.ref (gad G 113)]) (mem3 := gr (gr mem 26 (upd (upd (upd (mem 26) 0 (mem 112 0)) 1 (mem 112 1)) 2 (mem 112 2))) 28 (cpy 140 (mem 114) (mem 28))) iX6_copy (c_X6_copy l G (gr mem 26 (upd (upd (upd (mem 26) 0 (mem 112 0)) 1 (mem 112 1)) 2 (mem 112 2))) ob_27 ar_28 ob_113 ar_114 (by decide)) wd_343 ob_27 rfl ⟨Nat.le_of_ble_eq_true rfl, Nat.le_of_ble_eq_true rfl⟩ ⟨rfl, rfl⟩ rfl (Nat.le_of_ble_eq_true rfl) dX2_copy_32 (rfl) ?_
  refine g_vret C hQ rfl dX2_copy_35 ?_
  exact ⟨rfl, rfl⟩

set_option maxRecDepth 100000 in
set_option maxHeartbeats 4000000 in
theorem c_X7_copy_1_87 (l : Launch) (G : gG) (mem : gM) : gMet l yX7_copy cX7_copy 2 none rm_X7_copy G [.ref (gad G 1), .ref (gad G 87)] mem (fun x u => x = none ∧ CopyS 1 87 mem u) := by
  refine g_of (own := RX7) (L0 := [(0, .ref (gad G 1)), (1, .ref (gad G 87))]) (by decide +kernel) rfl (Nat.le_of_ble_eq_true rfl) rfl ?_
  intro p e s m args below meth c C Q hQ
  refine g_aload_n C 0 dX7_copy_0 rfl ?_
  refine g_get_r C ob_1 0 (by decide) rfl wd_156 dX7_copy_1 ?_
  refine g_aload_n C 1 dX7_copy_4 rfl ?_
  refine g_get_r C ob_87 0 (by decide) rfl wd_156 dX7_copy_5 ?_
  refine g_cV0 C (As := [.ref (gad G 88)]) (mem3 := gr mem 3 (cpy 5 (mem 89) (mem 3))) iX6_copy (c_X6_copy l G mem ob_2 ar_3 ob_88 ar_89 (by decide)) wd_319 ob_2 rfl ⟨Nat.le_of_ble_eq_true rfl, Nat.le_of_ble_eq_true rfl⟩ ⟨rfl, rfl⟩ rfl (Nat.le_of_ble_eq_true rfl) dX7_copy_8 (rfl) ?_
  refine g_aload_n C 0 dX7_copy_11 rfl ?_
  refine g_get_r C ob_1 1 (by decide) rfl wd_159 dX7_copy_12 ?_
  refine g_aload_n C 1 dX7_copy_15 rfl ?_
  refine g_get_r C ob_87 1 (by decide) rfl wd_159 dX7_copy_16 ?_
  refine g_cV0 C (As := [.ref (gad G 90)]) (mem3 := gr (gr (gr (gr (gr (gr (gr (gr (gr (gr mem 3 (cpy 5 (mem 89) (mem 3))) 4 (upd (upd (mem 4) 0 (mem 90 0)) 1 (mem 90 1))) 6 (cpy 10 (mem 92) (mem 6))) 8 (cpy 10 (mem 94) (mem 8))) 10 (cpy 10 (mem 96) (mem 10))) 12 (cpy 10 (mem 98) (mem 12))) 14 (cpy 10 (mem 100) (mem 14))) 16 (cpy 10 (mem 102) (mem 16))) 18 (cpy 10 (mem 104) (mem 18))) 20 (cpy 10 (mem 106) (mem 20))) iX3_copy (c_X3_copy_1_87 l G (gr mem 3 (cpy 5 (mem 89) (mem 3)))) wd_329 ob_4 rfl ⟨Nat.le_of_ble_eq_true rfl, Nat.le_of_ble_eq_true rfl⟩ ⟨rfl, rfl⟩ rfl (Nat.le_of_ble_eq_true rfl) dX7_copy_19 (rfl) ?_
  refine g_aload_n C 0 dX7_copy_22 rfl ?_
  refine g_get_r C ob_1 2 (by decide) rfl wd_162 dX7_copy_23 ?_
  refine g_aload_n C 1 dX7_copy_26 rfl ?_
  refine g_get_r C ob_87 2 (by decide) rfl wd_162 dX7_copy_27 ?_
  refine g_cV0 C (As := [.ref (gad G 107)]) (mem3 := gr (gr (gr (gr (gr (gr (gr (gr (gr (gr (gr (gr mem 3 (cpy 5 (mem 89) (mem 3))) 4 (upd (upd (mem 4) 0 (mem 90 0)) 1 (mem 90 1))) 6 (cpy 10 (mem 92) (mem 6))) 8 (cpy 10 (mem 94) (mem 8))) 10 (cpy 10 (mem 96) (mem 10))) 12 (cpy 10 (mem 98) (mem 12))) 14 (cpy 10 (mem 100) (mem 14))) 16 (cpy 10 (mem 102) (mem 16))) 18 (cpy 10 (mem 104) (mem 18))) 20 (cpy 10 (mem 106) (mem 20))) 21 (upd (upd (upd (mem 21) 0 (mem 107 0)) 1 (mem 107 1)) 2 (mem 107 2))) 23 (cpy 10 (mem 109) (mem 23))) iX0_copy (c_X0_copy_1_87 l G (gr (gr (gr (gr (gr (gr (gr (gr (gr (gr mem 3 (cpy 5 (mem 89) (mem 3))) 4 (upd (upd (mem 4) 0 (mem 90 0)) 1 (mem 90 1))) 6 (cpy 10 (mem 92) (mem 6))) 8 (cpy 10 (mem 94) (mem 8))) 10 (cpy 10 (mem 96) (mem 10))) 12 (cpy 10 (mem 98) (mem 12))) 14 (cpy 10 (mem 100) (mem 14))) 16 (cpy 10 (mem 102) (mem 16))) 18 (cpy 10 (mem 104) (mem 18))) 20 (cpy 10 (mem 106) (mem 20)))) wd_334 ob_21 rfl ⟨Nat.le_of_ble_eq_true rfl, Nat.le_of_ble_eq_true rfl⟩ ⟨rfl, rfl⟩ rfl (Nat.le_of_ble_eq_true rfl) dX7_copy_30 (rfl) ?_
  refine g_aload_n C 0 dX7_copy_33 rfl ?_
  refine g_get_r C ob_1 3 (by decide) rfl wd_165 dX7_copy_34 ?_
  refine g_aload_n C 1 dX7_copy_37 rfl ?_
  refine g_get_r C ob_87 3 (by decide) rfl wd_165 dX7_copy_38 ?_
  refine g_cV0 C (As := [.ref (gad G 110)]) (mem3 := gr (gr (gr (gr (gr (gr (gr (gr (gr (gr (gr (gr (gr mem 3 (cpy 5 (mem 89) (mem 3))) 4 (upd (upd (mem 4) 0 (mem 90 0)) 1 (mem 90 1))) 6 (cpy 10 (mem 92) (mem 6))) 8 (cpy 10 (mem 94) (mem 8))) 10 (cpy 10 (mem 96) (mem 10))) 12 (cpy 10 (mem 98) (mem 12))) 14 (cpy 10 (mem 100) (mem 14))) 16 (cpy 10 (mem 102) (mem 16))) 18 (cpy 10 (mem 104) (mem 18))) 20 (cpy 10 (mem 106) (mem 20))) 21 (upd (upd (upd (mem 21) 0 (mem 107 0)) 1 (mem 107 1)) 2 (mem 107 2))) 23 (cpy 10 (mem 109) (mem 23))) 25 (cpy 200 (mem 111) (mem 25))) iX6_copy (c_X6_copy l G (gr (gr (gr (gr (gr (gr (gr (gr (gr (gr (gr (gr mem 3 (cpy 5 (mem 89) (mem 3))) 4 (upd (upd (mem 4) 0 (mem 90 0)) 1 (mem 90 1))) 6 (cpy 10 (mem 92) (mem 6))) 8 (cpy 10 (mem 94) (mem 8))) 10 (cpy 10 (mem 96) (mem 10))) 12 (cpy 10 (mem 98) (mem 12))) 14 (cpy 10 (mem 100) (mem 14))) 16 (cpy 10 (mem 102) (mem 16))) 18 (cpy 10 (mem 104) (mem 18))) 20 (cpy 10 (mem 106) (mem 20))) 21 (upd (upd (upd (mem 21) 0 (mem 107 0)) 1 (mem 107 1)) 2 (mem 107 2))) 23 (cpy 10 (mem 109) (mem 23))) ob_24 ar_25 ob_110 ar_111 (by decide)) wd_319 ob_24 rfl ⟨Nat.le_of_ble_eq_true rfl, Nat.le_of_ble_eq_true rfl⟩ ⟨rfl, rfl⟩ rfl (Nat.le_of_ble_eq_true rfl) dX7_copy_41 (rfl) ?_
  refine g_aload_n C 0 dX7_copy_44 rfl ?_
  refine g_get_r C ob_1 4 (by decide) rfl wd_168 dX7_copy_45 ?_
  refine g_aload_n C 1 dX7_copy_48 rfl ?_
  refine g_get_r C ob_87 4 (by decide) rfl wd_168 dX7_copy_49 ?_
  refine g_cV0 C (As := [.ref (gad G 112)]) (mem3 := gr (gr (gr (gr (gr (gr (gr (gr (gr (gr (gr (gr (gr (gr (gr mem 3 (cpy 5 (mem 89) (mem 3))) 4 (upd (upd (mem 4) 0 (mem 90 0)) 1 (mem 90 1))) 6 (cpy 10 (mem 92) (mem 6))) 8 (cpy 10 (mem 94) (mem 8))) 10 (cpy 10 (mem 96) (mem 10))) 12 (cpy 10 (mem 98) (mem 12))) 14 (cpy 10 (mem 100) (mem 14))) 16 (cpy 10 (mem 102) (mem 16))) 18 (cpy 10 (mem 104) (mem 18))) 20 (cpy 10 (mem 106) (mem 20))) 21 (upd (upd (upd (mem 21) 0 (mem 107 0)) 1 (mem 107 1)) 2 (mem 107 2))) 23 (cpy 10 (mem 109) (mem 23))) 25 (cpy 200 (mem 111) (mem 25))) 26 (upd (upd (upd (mem 26) 0 (mem 112 0)) 1 (mem 112 1)) 2 (mem 112 2))) 28 (cpy 140 (mem 114) (mem 28))) iX2_copy (c_X2_copy_1_87 l G (gr (gr (gr (gr (gr (gr (gr (gr (gr (gr (gr (gr (gr mem 3 (cpy 5 (mem 89) (mem 3))) 4 (upd (upd (mem 4) 0 (mem 90 0)) 1 (mem 90 1))) 6 (cpy 10 (mem 92) (mem 6))) 8 (cpy 10 (mem 94) (mem 8))) 10 (cpy 10 (mem 96) (mem 10))) 12 (cpy 10 (mem 98) (mem 12))) 14 (cpy 10 (mem 100) (mem 14))) 16 (cpy 10 (mem 102) (mem 16))) 18 (cpy 10 (mem 104) (mem 18))) 20 (cpy 10 (mem 106) (mem 20))) 21 (upd (upd (upd (mem 21) 0 (mem 107 0)) 1 (mem 107 1)) 2 (mem 107 2))) 23 (cpy 10 (mem 109) (mem 23))) 25 (cpy 200 (mem 111) (mem 25)))) wd_339 ob_26 rfl ⟨Nat.le_of_ble_eq_true rfl, Nat.le_of_ble_eq_true rfl⟩ ⟨rfl, rfl⟩ rfl (Nat.le_of_ble_eq_true rfl) dX7_copy_52 (rfl) ?_
  refine g_vret C hQ rfl dX7_copy_55 ?_
  refine ⟨rfl, fun k hk => ?_, rfl, ⟨rfl, rfl⟩, ⟨rfl, rfl, rfl, rfl, rfl, rfl, rfl, rfl⟩, ⟨rfl, rfl, rfl⟩, rfl, rfl, ⟨rfl, rfl, rfl⟩, rfl⟩
  rw [gr_n (by omega), gr_n (by omega), gr_n (by omega), gr_n (by omega), gr_n (by omega), gr_n (by omega), gr_n (by omega), gr_n (by omega), gr_n (by omega), gr_n (by omega), gr_n (by omega), gr_n (by omega), gr_n (by omega), gr_n (by omega), gr_n (by omega)]

set_option maxRecDepth 100000 in
set_option maxHeartbeats 4000000 in
theorem c_X3_copy_1_115 (l : Launch) (G : gG) (mem : gM) : gMet l yX3_copy cX3_copy 2 none rm_X3_copy G [.ref (gad G 4), .ref (gad G 118)] mem (fun a u => a = none ∧ u = gr (gr (gr (gr (gr (gr (gr (gr (gr mem 4 (upd (upd (mem 4) 0 (mem 118 0)) 1 (mem 118 1))) 6 (cpy 10 (mem 120) (mem 6))) 8 (cpy 10 (mem 122) (mem 8))) 10 (cpy 10 (mem 124) (mem 10))) 12 (cpy 10 (mem 126) (mem 12))) 14 (cpy 10 (mem 128) (mem 14))) 16 (cpy 10 (mem 130) (mem 16))) 18 (cpy 10 (mem 132) (mem 18))) 20 (cpy 10 (mem 134) (mem 20))) := by
  refine g_of (own := RX3) (L0 := [(0, .ref (gad G 4)), (1, .ref (gad G 118))]) (by decide +kernel) rfl (Nat.le_of_ble_eq_true rfl) rfl ?_
  intro p e s m args below meth c C Q hQ
  refine g_aload_n C 0 dX3_copy_0 rfl ?_
  refine g_aload_n C 1 dX3_copy_1 rfl ?_
  refine g_get_i C ob_118 0 (by decide) rfl wd_50 dX3_copy_2 ?_
  refine g_put_i C ob_4 0 (by decide) rfl wd_50 rfl rfl dX3_copy_5 ?_
  refine g_aload_n C 0 dX3_copy_8 rfl ?_
  refine g_aload_n C 1 dX3_copy_9 rfl ?_
  refine g_get_i C ob_118 1 (by decide) rfl wd_56 dX3_copy_10 ?_
  refine g_top (y := mem 118 1) (rfl) ?_
  refine g_put_i C ob_4 1 (by decide) rfl wd_56 rfl rfl dX3_copy_13 ?_
  refine g_mem (mem2 := gr mem 4 (upd (upd (mem 4) 0 (mem 118 0)) 1 (mem 118 1))) (gr_gr _ _ _ _) ?_
  refine g_aload_n C 0 dX3_copy_16 rfl ?_
  refine g_get_r C ob_4 2 (by decide) rfl wd_58 dX3_copy_17 ?_
  refine g_aload_n C 1 dX3_copy_20 rfl ?_
  refine g_get_r C ob_118 2 (by decide) rfl wd_58 dX3_copy_21 ?_
  refine g_cV0 C (As := [.ref (gad G 119)]) (mem3 := gr (gr mem 4 (upd (upd (mem 4) 0 (mem 118 0)) 1 (mem 118 1))) 6 (cpy 10 (mem 120) (mem 6))) iX6_copy (c_X6_copy l G (gr mem 4 (upd (upd (mem 4) 0 (mem 118 0)) 1 (mem 118 1))) ob_5 ar_6 ob_119 ar_120 (by decide)) wd_333 ob_5 rfl ⟨Nat.le_of_ble_eq_true rfl, Nat.le_of_ble_eq_true rfl⟩ ⟨rfl, rfl⟩ rfl (Nat.le_of_ble_eq_true rfl) dX3_copy_24 (rfl) ?_
  refine g_aload_n C 0 dX3_copy_27 rfl ?_
  refine g_get_r C ob_4 3 (by decide) rfl wd_61 dX3_copy_28 ?_
  refine g_aload_n C 1 dX3_copy_31 rfl ?_
  refine g_get_r C ob_118 3 (by decide) rfl wd_61 dX3_copy_32 ?_
  refine g_cV0 C (As := [.ref (gad G 121)]) (mem3 := gr (gr (gr mem 4 (upd (upd (mem 4) 0 (mem 118 0)) 1 (mem 118 1))) 6 (cpy 10 (mem 120) (mem 6))) 8 (cpy 10 (mem 122) (mem 8))) iX6_copy (c_X6_copy l G (gr (gr mem 4 (upd (upd (mem 4) 0 (mem 118 0)) 1 (mem 118 1))) 6 (cpy 10 (mem 120) (mem 6))) ob_7 ar_8 ob_121 ar_122 (by decide)) wd_333 ob_7 rfl ⟨Nat.le_of_ble_eq_true rfl, Nat.le_of_ble_eq_true rfl⟩ ⟨rfl, rfl⟩ rfl (Nat.le_of_ble_eq_true rfl) dX3_copy_35 (rfl) ?_
  refine g_aload_n C 0 dX3_copy_38 rfl ?_
  refine g_get_r C ob_4 4 (by decide) rfl wd_63 dX3_copy_39 ?_
  refine g_aload_n C 1 dX3_copy_42 rfl ?_
  refine g_get_r C ob_118 4 (by decide) rfl wd_63 dX3_copy_43 ?_
  refine g_cV0 C (As := [.ref (gad G 123)]) (mem3 := gr (gr (gr (gr mem 4 (upd (upd (mem 4) 0 (mem 118 0)) 1 (mem 118 1))) 6 (cpy 10 (mem 120) (mem 6))) 8 (cpy 10 (mem 122) (mem 8))) 10 (cpy 10 (mem 124) (mem 10))) iX6_copy (c_X6_copy l G (gr (gr (gr mem 4 (upd (upd (mem 4) 0 (mem 118 0)) 1 (mem 118 1))) 6 (cpy 10 (mem 120) (mem 6))) 8 (cpy 10 (mem 122) (mem 8))) ob_9 ar_10 ob_123 ar_124 (by decide)) wd_333 ob_9 rfl ⟨Nat.le_of_ble_eq_true rfl, Nat.le_of_ble_eq_true rfl⟩ ⟨rfl, rfl⟩ rfl (Nat.le_of_ble_eq_true rfl) dX3_copy_46 (rfl) ?_
  refine g_aload_n C 0 dX3_copy_49 rfl ?_
  refine g_get_r C ob_4 5 (by decide) rfl wd_66 dX3_copy_50 ?_
  refine g_aload_n C 1 dX3_copy_53 rfl ?_
  refine g_get_r C ob_118 5 (by decide) rfl wd_66 dX3_copy_54 ?_
  refine g_cV0 C (As := [.ref (gad G 125)]) (mem3 := gr (gr (gr (gr (gr mem 4 (upd (upd (mem 4) 0 (mem 118 0)) 1 (mem 118 1))) 6 (cpy 10 (mem 120) (mem 6))) 8 (cpy 10 (mem 122) (mem 8))) 10 (cpy 10 (mem 124) (mem 10))) 12 (cpy 10 (mem 126) (mem 12))) iX6_copy (c_X6_copy l G (gr (gr (gr (gr mem 4 (upd (upd (mem 4) 0 (mem 118 0)) 1 (mem 118 1))) 6 (cpy 10 (mem 120) (mem 6))) 8 (cpy 10 (mem 122) (mem 8))) 10 (cpy 10 (mem 124) (mem 10))) ob_11 ar_12 ob_125 ar_126 (by decide)) wd_333 ob_11 rfl ⟨Nat.le_of_ble_eq_true rfl, Nat.le_of_ble_eq_true rfl⟩ ⟨rfl, rfl⟩ rfl (Nat.le_of_ble_eq_true rfl) dX3_copy_57 (rfl) ?_
  refine g_aload_n C 0 dX3_copy_60 rfl ?_
  refine g_get_r C ob_4 6 (by decide) rfl wd_69 dX3_copy_61 ?_
  refine g_aload_n C 1 dX3_copy_64 rfl ?_
  refine g_get_r C ob_118 6 (by decide) rfl wd_69 dX3_copy_65 ?_
  refine g_cV0 C (As := [.ref (gad G 127)]) (mem3 := gr (gr (gr (gr (gr (gr mem 4 (upd (upd (mem 4) 0 (mem 118 0)) 1 (mem 118 1))) 6 (cpy 10 (mem 120) (mem 6))) 8 (cpy 10 (mem 122) (mem 8))) 10 (cpy 10 (mem 124) (mem 10))) 12 (cpy 10 (mem 126) (mem 12))) 14 (cpy 10 (mem 128) (mem 14))) iX6_copy (c_X6_copy l G (gr (gr (gr (gr (gr mem 4 (upd (upd (mem 4) 0 (mem 118 0)) 1 (mem 118 1))) 6 (cpy 10 (mem 120) (mem 6))) 8 (cpy 10 (mem 122) (mem 8))) 10 (cpy 10 (mem 124) (mem 10))) 12 (cpy 10 (mem 126) (mem 12))) ob_13 ar_14 ob_127 ar_128 (by decide)) wd_333 ob_13 rfl ⟨Nat.le_of_ble_eq_true rfl, Nat.le_of_ble_eq_true rfl⟩ ⟨rfl, rfl⟩ rfl (Nat.le_of_ble_eq_true rfl) dX3_copy_68 (rfl) ?_
  refine g_aload_n C 0 dX3_copy_71 rfl ?_
  refine g_get_r C ob_4 7 (by decide) rfl wd_72 dX3_copy_72 ?_
  refine g_aload_n C 1 dX3_copy_75 rfl ?_
  refine g_get_r C ob_118 7 (by decide) rfl wd_72 dX3_copy_76 ?_
  refine g_cV0 C (As := [.ref (gad G 129)]) (mem3 := gr (gr (gr (gr (gr (gr (gr mem 4 (upd (upd (mem 4) 0 (mem 118 0)) 1 (mem 118 1))) 6 (cpy 10 (mem 120) (mem 6))) 8 (cpy 10 (mem 122) (mem 8))) 10 (cpy 10 (mem 124) (mem 10))) 12 (cpy 10 (mem 126) (mem 12))) 14 (cpy 10 (mem 128) (mem 14))) 16 (cpy 10 (mem 130) (mem 16))) iX6_copy (c_X6_copy l G (gr (gr (gr (gr (gr (gr mem 4 (upd (upd (mem 4) 0 (mem 118 0)) 1 (mem 118 1))) 6 (cpy 10 (mem 120) (mem 6))) 8 (cpy 10 (mem 122) (mem 8))) 10 (cpy 10 (mem 124) (mem 10))) 12 (cpy 10 (mem 126) (mem 12))) 14 (cpy 10 (mem 128) (mem 14))) ob_15 ar_16 ob_129 ar_130 (by decide)) wd_333 ob_15 rfl ⟨Nat.le_of_ble_eq_true rfl, Nat.le_of_ble_eq_true rfl⟩ ⟨rfl, rfl⟩ rfl (Nat.le_of_ble_eq_true rfl) dX3_copy_79 (rfl) ?_
  refine g_aload_n C 0 dX3_copy_82 rfl ?_
  refine g_get_r C ob_4 8 (by decide) rfl wd_74 dX3_copy_83 ?_
  refine g_aload_n C 1 dX3_copy_86 rfl ?_
  refine g_get_r C ob_118 8 (by decide) rfl wd_74 dX3_copy_87 ?_
  refine g_cV0 C (As := [.ref (gad G 131)]) (mem3 := gr (gr (gr (gr (gr (gr (gr (gr mem 4 (upd (upd (mem 4) 0 (mem 118 0)) 1 (mem 118 1))) 6 (cpy 10 (mem 120) (mem 6))) 8 (cpy 10 (mem 122) (mem 8))) 10 (cpy 10 (mem 124) (mem 10))) 12 (cpy 10 (mem 126) (mem 12))) 14 (cpy 10 (mem 128) (mem 14))) 16 (cpy 10 (mem 130) (mem 16))) 18 (cpy 10 (mem 132) (mem 18))) iX6_copy (c_X6_copy l G (gr (gr (gr (gr (gr (gr (gr mem 4 (upd (upd (mem 4) 0 (mem 118 0)) 1 (mem 118 1))) 6 (cpy 10 (mem 120) (mem 6))) 8 (cpy 10 (mem 122) (mem 8))) 10 (cpy 10 (mem 124) (mem 10))) 12 (cpy 10 (mem 126) (mem 12))) 14 (cpy 10 (mem 128) (mem 14))) 16 (cpy 10 (mem 130) (mem 16))) ob_17 ar_18 ob_131 ar_132 (by decide)) wd_333 ob_17 rfl ⟨Nat.le_of_ble_eq_true rfl, Nat.le_of_ble_eq_true rfl⟩ ⟨rfl, rfl⟩ rfl (Nat.le_of_ble_eq_true rfl) dX3_copy_90 (rfl) ?_
  refine g_aload_n C 0 dX3_copy_93 rfl ?_
  refine g_get_r C ob_4 9 (by decide) rfl wd_76 dX3_copy_94 ?_
  refine g_aload_n C 1 dX3_copy_97 rfl ?_
  refine g_get_r C ob_118 9 (by decide) rfl wd_76 dX3_copy_98 ?_
  refine g_cV0 C (As := [.ref (gad G 133)]) (mem3 := gr (gr (gr (gr (gr (gr (gr (gr (gr mem 4 (upd (upd (mem 4) 0 (mem 118 0)) 1 (mem 118 1))) 6 (cpy 10 (mem 120) (mem 6))) 8 (cpy 10 (mem 122) (mem 8))) 10 (cpy 10 (mem 124) (mem 10))) 12 (cpy 10 (mem 126) (mem 12))) 14 (cpy 10 (mem 128) (mem 14))) 16 (cpy 10 (mem 130) (mem 16))) 18 (cpy 10 (mem 132) (mem 18))) 20 (cpy 10 (mem 134) (mem 20))) iX6_copy (c_X6_copy l G (gr (gr (gr (gr (gr (gr (gr (gr mem 4 (upd (upd (mem 4) 0 (mem 118 0)) 1 (mem 118 1))) 6 (cpy 10 (mem 120) (mem 6))) 8 (cpy 10 (mem 122) (mem 8))) 10 (cpy 10 (mem 124) (mem 10))) 12 (cpy 10 (mem 126) (mem 12))) 14 (cpy 10 (mem 128) (mem 14))) 16 (cpy 10 (mem 130) (mem 16))) 18 (cpy 10 (mem 132) (mem 18))) ob_19 ar_20 ob_133 ar_134 (by decide)) wd_333 ob_19 rfl ⟨Nat.le_of_ble_eq_true rfl, Nat.le_of_ble_eq_true rfl⟩ ⟨rfl, rfl⟩ rfl (Nat.le_of_ble_eq_true rfl) dX3_copy_101 (rfl) ?_
  refine g_vret C hQ rfl dX3_copy_104 ?_
  exact ⟨rfl, rfl⟩

set_option maxRecDepth 100000 in
set_option maxHeartbeats 4000000 in
theorem c_X0_copy_1_115 (l : Launch) (G : gG) (mem : gM) : gMet l yX0_copy cX0_copy 2 none rm_X0_copy G [.ref (gad G 21), .ref (gad G 135)] mem (fun a u => a = none ∧ u = gr (gr mem 21 (upd (upd (upd (mem 21) 0 (mem 135 0)) 1 (mem 135 1)) 2 (mem 135 2))) 23 (cpy 10 (mem 137) (mem 23))) := by
  refine g_of (own := RX0) (L0 := [(0, .ref (gad G 21)), (1, .ref (gad G 135))]) (by decide +kernel) rfl (Nat.le_of_ble_eq_true rfl) rfl ?_
  intro p e s m args below meth c C Q hQ
  refine g_aload_n C 0 dX0_copy_0 rfl ?_
  refine g_aload_n C 1 dX0_copy_1 rfl ?_
  refine g_get_i C ob_135 0 (by decide) rfl wd_108 dX0_copy_2 ?_
  refine g_put_i C ob_21 0 (by decide) rfl wd_108 rfl rfl dX0_copy_5 ?_
  refine g_aload_n C 0 dX0_copy_8 rfl ?_
  refine g_aload_n C 1 dX0_copy_9 rfl ?_
  refine g_get_i C ob_135 1 (by decide) rfl wd_112 dX0_copy_10 ?_
  refine g_top (y := mem 135 1) (rfl) ?_
  refine g_put_i C ob_21 1 (by decide) rfl wd_112 rfl rfl dX0_copy_13 ?_
  refine g_mem (mem2 := gr mem 21 (upd (upd (mem 21) 0 (mem 135 0)) 1 (mem 135 1))) (gr_gr _ _ _ _) ?_
  refine g_aload_n C 0 dX0_copy_16 rfl ?_
  refine g_aload_n C 1 dX0_copy_17 rfl ?_
  refine g_get_i C ob_135 2 (by decide) rfl wd_115 dX0_copy_18 ?_
  refine g_top (y := mem 135 2) (rfl) ?_
  refine g_put_i C ob_21 2 (by decide) rfl wd_115 rfl rfl dX0_copy_21 ?_
  refine g_mem (mem2 := gr mem 21 (upd (upd (upd (mem 21) 0 (mem 135 0)) 1 (mem 135 1)) 2 (mem 135 2))) (gr_gr _ _ _ _) ?_
  refine g_aload_n C 0 dX0_copy_24 rfl ?_
  refine g_get_r C ob_21 3 (by decide) rfl wd_118 dX0_copy_25 ?_
  refine g_aload_n C 1 dX0_copy_28 rfl ?_
  refine g_get_r C ob_135 3 (by decide) rfl wd_118 dX0_copy_29 ?_
  refine g_cV0 C (As := [.ref (gad G 136)]) (mem3 := gr (gr mem 21 (upd (upd (upd (mem 21) 0 (mem 135 0)) 1 (mem 135 1)) 2 (mem 135 2))) 23 (cpy 10 (mem 137) (mem 23))) iX6_copy (c_X6_copy l G (gr mem 21 (upd (upd (upd (mem 21) 0 (mem 135 0)) 1 (mem 135 1)) 2 (mem 135 2))) ob_22 ar_23 ob_136 ar_137 (by decide)) wd_338 ob_22 rfl ⟨Nat.le_of_ble_eq_true rfl, Nat.le_of_ble_eq_true rfl⟩ ⟨rfl, rfl⟩ rfl (Nat.le_of_ble_eq_true rfl) dX0_copy_32 (rfl) ?_
  refine g_vret C hQ rfl dX0_copy_35 ?_
  exact ⟨rfl, rfl⟩

set_option maxRecDepth 100000 in
set_option maxHeartbeats 4000000 in
theorem c_X2_copy_1_115 (l : Launch) (G : gG) (mem : gM) : gMet l yX2_copy cX2_copy 2 none rm_X2_copy G [.ref (gad G 26), .ref (gad G 140)] mem (fun a u => a = none ∧ u = gr (gr mem 26 (upd (upd (upd (mem 26) 0 (mem 140 0)) 1 (mem 140 1)) 2 (mem 140 2))) 28 (cpy 140 (mem 142) (mem 28))) := by
  refine g_of (own := RX2) (L0 := [(0, .ref (gad G 26)), (1, .ref (gad G 140))]) (by decide +kernel) rfl (Nat.le_of_ble_eq_true rfl) rfl ?_
  intro p e s m args below meth c C Q hQ
  refine g_aload_n C 0 dX2_copy_0 rfl ?_
  refine g_aload_n C 1 dX2_copy_1 rfl ?_
  refine g_get_i C ob_140 0 (by decide) rfl wd_136 dX2_copy_2 ?_
  refine g_put_i C ob_26 0 (by decide) rfl wd_136 rfl rfl dX2_copy_5 ?_
  refine g_aload_n C 0 dX2_copy_8 rfl ?_
  refine g_aload_n C 1 dX2_copy_9 rfl ?_
  refine g_get_i C ob_140 1 (by decide) rfl wd_138 dX2_copy_10 ?_
  refine g_top (y := mem 140 1) (rfl) ?_
  refine g_put_i C ob_26 1 (by decide) rfl wd_138 rfl rfl dX2_copy_13 ?_
  refine g_mem (mem2 := gr mem 26 (upd (upd (mem 26) 0 (mem 140 0)) 1 (mem 140 1))) (gr_gr _ _ _ _) ?_
  refine g_aload_n C 0 dX2_copy_16 rfl ?_
  refine g_aload_n C 1 dX2_copy_17 rfl ?_
  refine g_get_i C ob_140 2 (by decide) rfl wd_140 dX2_copy_18 ?_
  refine g_top (y := mem 140 2) (rfl) ?_
  refine g_put_i C ob_26 2 (by decide) rfl wd_140 rfl rfl dX2_copy_21 ?_
  refine g_mem (mem2 := gr mem 26 (upd (upd (upd (mem 26) 0 (mem 140 0)) 1 (mem 140 1)) 2 (mem 140 2))) (gr_gr _ _ _ _) ?_
  refine g_aload_n C 0 dX2_copy_24 rfl ?_
  refine g_get_r C ob_26 3 (by decide) rfl wd_142 dX2_copy_25 ?_
  refine g_aload_n C 1 dX2_copy_28 rfl ?_
  refine g_get_r C ob_140 3 (by decide) rfl wd_142 dX2_copy_29 ?_
  refine g_cV0 C (As := [.ref (gad G 141)]) (mem3 := gr (gr mem 26 (upd (upd (upd (mem 26) 0 (mem 140 0)) 1 (mem 140 1)) 2 (mem 140 2))) 28 (cpy 140 (mem 142) (mem 28))) iX6_copy (c_X6_copy l G (gr mem 26 (upd (upd (upd (mem 26) 0 (mem 140 0)) 1 (mem 140 1)) 2 (mem 140 2))) ob_27 ar_28 ob_141 ar_142 (by decide)) wd_343 ob_27 rfl ⟨Nat.le_of_ble_eq_true rfl, Nat.le_of_ble_eq_true rfl⟩ ⟨rfl, rfl⟩ rfl (Nat.le_of_ble_eq_true rfl) dX2_copy_32 (rfl) ?_
  refine g_vret C hQ rfl dX2_copy_35 ?_
  exact ⟨rfl, rfl⟩

set_option maxRecDepth 100000 in
set_option maxHeartbeats 4000000 in
theorem c_X7_copy_1_115 (l : Launch) (G : gG) (mem : gM) : gMet l yX7_copy cX7_copy 2 none rm_X7_copy G [.ref (gad G 1), .ref (gad G 115)] mem (fun x u => x = none ∧ CopyS 1 115 mem u) := by
  refine g_of (own := RX7) (L0 := [(0, .ref (gad G 1)), (1, .ref (gad G 115))]) (by decide +kernel) rfl (Nat.le_of_ble_eq_true rfl) rfl ?_
  intro p e s m args below meth c C Q hQ
  refine g_aload_n C 0 dX7_copy_0 rfl ?_
  refine g_get_r C ob_1 0 (by decide) rfl wd_156 dX7_copy_1 ?_
  refine g_aload_n C 1 dX7_copy_4 rfl ?_
  refine g_get_r C ob_115 0 (by decide) rfl wd_156 dX7_copy_5 ?_
  refine g_cV0 C (As := [.ref (gad G 116)]) (mem3 := gr mem 3 (cpy 5 (mem 117) (mem 3))) iX6_copy (c_X6_copy l G mem ob_2 ar_3 ob_116 ar_117 (by decide)) wd_319 ob_2 rfl ⟨Nat.le_of_ble_eq_true rfl, Nat.le_of_ble_eq_true rfl⟩ ⟨rfl, rfl⟩ rfl (Nat.le_of_ble_eq_true rfl) dX7_copy_8 (rfl) ?_
  refine g_aload_n C 0 dX7_copy_11 rfl ?_
  refine g_get_r C ob_1 1 (by decide) rfl wd_159 dX7_copy_12 ?_
  refine g_aload_n C 1 dX7_copy_15 rfl ?_
  refine g_get_r C ob_115 1 (by decide) rfl wd_159 dX7_copy_16 ?_
  refine g_cV0 C (As := [.ref (gad G 118)]) (mem3 := gr (gr (gr (gr (gr (gr (gr (gr (gr (gr mem 3 (cpy 5 (mem 117) (mem 3))) 4 (upd (upd (mem 4) 0 (mem 118 0)) 1 (mem 118 1))) 6 (cpy 10 (mem 120) (mem 6))) 8 (cpy 10 (mem 122) (mem 8))) 10 (cpy 10 (mem 124) (mem 10))) 12 (cpy 10 (mem 126) (mem 12))) 14 (cpy 10 (mem 128) (mem 14))) 16 (cpy 10 (mem 130) (mem 16))) 18 (cpy 10 (mem 132) (mem 18))) 20 (cpy 10 (mem 134) (mem 20))) iX3_copy (c_X3_copy_1_115 l G (gr mem 3 (cpy 5 (mem 117) (mem 3)))) wd_329 ob_4 rfl ⟨Nat.le_of_ble_eq_true rfl, Nat.le_of_ble_eq_true rfl⟩ ⟨rfl, rfl⟩ rfl (Nat.le_of_ble_eq_true rfl) dX7_copy_19 (rfl) ?_
  refine g_aload_n C 0 dX7_copy_22 rfl ?_
  refine g_get_r C ob_1 2 (by decide) rfl wd_162 dX7_copy_23 ?_
  refine g_aload_n C 1 dX7_copy_26 rfl ?_
  refine g_get_r C ob_115 2 (by decide) rfl wd_162 dX7_copy_27 ?_
  refine g_cV0 C (As := [.ref (gad G 135)]) (mem3 := gr (gr (gr (gr (gr (gr (gr (gr (gr (gr (gr (gr mem 3 (cpy 5 (mem 117) (mem 3))) 4 (upd (upd (mem 4) 0 (mem 118 0)) 1 (mem 118 1))) 6 (cpy 10 (mem 120) (mem 6))) 8 (cpy 10 (mem 122) (mem 8))) 10 (cpy 10 (mem 124) (mem 10))) 12 (cpy 10 (mem 126) (mem 12))) 14 (cpy 10 (mem 128) (mem 14))) 16 (cpy 10 (mem 130) (mem 16))) 18 (cpy 10 (mem 132) (mem 18))) 20 (cpy 10 (mem 134) (mem 20))) 21 (upd (upd (upd (mem 21) 0 (mem 135 0)) 1 (mem 135 1)) 2 (mem 135 2))) 23 (cpy 10 (mem 137) (mem 23))) iX0_copy (c_X0_copy_1_115 l G (gr (gr (gr (gr (gr (gr (gr (gr (gr (gr mem 3 (cpy 5 (mem 117) (mem 3))) 4 (upd (upd (mem 4) 0 (mem 118 0)) 1 (mem 118 1))) 6 (cpy 10 (mem 120) (mem 6))) 8 (cpy 10 (mem 122) (mem 8))) 10 (cpy 10 (mem 124) (mem 10))) 12 (cpy 10 (mem 126) (mem 12))) 14 (cpy 10 (mem 128) (mem 14))) 16 (cpy 10 (mem 130) (mem 16))) 18 (cpy 10 (mem 132) (mem 18))) 20 (cpy 10 (mem 134) (mem 20)))) wd_334 ob_21 rfl ⟨Nat.le_of_ble_eq_true rfl, Nat.le_of_ble_eq_true rfl⟩ ⟨rfl, rfl⟩ rfl (Nat.le_of_ble_eq_true rfl) dX7_copy_30 (rfl) ?_
  refine g_aload_n C 0 dX7_copy_33 rfl ?_
  refine g_get_r C ob_1 3 (by decide) rfl wd_165 dX7_copy_34 ?_
  refine g_aload_n C 1 dX7_copy_37 rfl ?_
  refine g_get_r C ob_115 3 (by decide) rfl wd_165 dX7_copy_38 ?_
  refine g_cV0 C (As := [.ref (gad G 138)]) (mem3 := gr (gr (gr (gr (gr (gr (gr (gr (gr (gr (gr (gr (gr mem 3 (cpy 5 (mem 117) (mem 3))) 4 (upd (upd (mem 4) 0 (mem 118 0)) 1 (mem 118 1))) 6 (cpy 10 (mem 120) (mem 6))) 8 (cpy 10 (mem 122) (mem 8))) 10 (cpy 10 (mem 124) (mem 10))) 12 (cpy 10 (mem 126) (mem 12))) 14 (cpy 10 (mem 128) (mem 14))) 16 (cpy 10 (mem 130) (mem 16))) 18 (cpy 10 (mem 132) (mem 18))) 20 (cpy 10 (mem 134) (mem 20))) 21 (upd (upd (upd (mem 21) 0 (mem 135 0)) 1 (mem 135 1)) 2 (mem 135 2))) 23 (cpy 10 (mem 137) (mem 23))) 25 (cpy 200 (mem 139) (mem 25))) iX6_copy (c_X6_copy l G (gr (gr (gr (gr (gr (gr (gr (gr (gr (gr (gr (gr mem 3 (cpy 5 (mem 117) (mem 3))) 4 (upd (upd (mem 4) 0 (mem 118 0)) 1 (mem 118 1))) 6 (cpy 10 (mem 120) (mem 6))) 8 (cpy 10 (mem 122) (mem 8))) 10 (cpy 10 (mem 124) (mem 10))) 12 (cpy 10 (mem 126) (mem 12))) 14 (cpy 10 (mem 128) (mem 14))) 16 (cpy 10 (mem 130) (mem 16))) 18 (cpy 10 (mem 132) (mem 18))) 20 (cpy 10 (mem 134) (mem 20))) 21 (upd (upd (upd (mem 21) 0 (mem 135 0)) 1 (mem 135 1)) 2 (mem 135 2))) 23 (cpy 10 (mem 137) (mem 23))) ob_24 ar_25 ob_138 ar_139 (by decide)) wd_319 ob_24 rfl ⟨Nat.le_of_ble_eq_true rfl, Nat.le_of_ble_eq_true rfl⟩ ⟨rfl, rfl⟩ rfl (Nat.le_of_ble_eq_true rfl) dX7_copy_41 (rfl) ?_
  refine g_aload_n C 0 dX7_copy_44 rfl ?_
  refine g_get_r C ob_1 4 (by decide) rfl wd_168 dX7_copy_45 ?_
  refine g_aload_n C 1 dX7_copy_48 rfl ?_
  refine g_get_r C ob_115 4 (by decide) rfl wd_168 dX7_copy_49 ?_
  refine g_cV0 C (As := [.ref (gad G 140)]) (mem3 := gr (gr (gr (gr (gr (gr (gr (gr (gr (gr (gr (gr (gr (gr (gr mem 3 (cpy 5 (mem 117) (mem 3))) 4 (upd (upd (mem 4) 0 (mem 118 0)) 1 (mem 118 1))) 6 (cpy 10 (mem 120) (mem 6))) 8 (cpy 10 (mem 122) (mem 8))) 10 (cpy 10 (mem 124) (mem 10))) 12 (cpy 10 (mem 126) (mem 12))) 14 (cpy 10 (mem 128) (mem 14))) 16 (cpy 10 (mem 130) (mem 16))) 18 (cpy 10 (mem 132) (mem 18))) 20 (cpy 10 (mem 134) (mem 20))) 21 (upd (upd (upd (mem 21) 0 (mem 135 0)) 1 (mem 135 1)) 2 (mem 135 2))) 23 (cpy 10 (mem 137) (mem 23))) 25 (cpy 200 (mem 139) (mem 25))) 26 (upd (upd (upd (mem 26) 0 (mem 140 0)) 1 (mem 140 1)) 2 (mem 140 2))) 28 (cpy 140 (mem 142) (mem 28))) iX2_copy (c_X2_copy_1_115 l G (gr (gr (gr (gr (gr (gr (gr (gr (gr (gr (gr (gr (gr mem 3 (cpy 5 (mem 117) (mem 3))) 4 (upd (upd (mem 4) 0 (mem 118 0)) 1 (mem 118 1))) 6 (cpy 10 (mem 120) (mem 6))) 8 (cpy 10 (mem 122) (mem 8))) 10 (cpy 10 (mem 124) (mem 10))) 12 (cpy 10 (mem 126) (mem 12))) 14 (cpy 10 (mem 128) (mem 14))) 16 (cpy 10 (mem 130) (mem 16))) 18 (cpy 10 (mem 132) (mem 18))) 20 (cpy 10 (mem 134) (mem 20))) 21 (upd (upd (upd (mem 21) 0 (mem 135 0)) 1 (mem 135 1)) 2 (mem 135 2))) 23 (cpy 10 (mem 137) (mem 23))) 25 (cpy 200 (mem 139) (mem 25)))) wd_339 ob_26 rfl ⟨Nat.le_of_ble_eq_true rfl, Nat.le_of_ble_eq_true rfl⟩ ⟨rfl, rfl⟩ rfl (Nat.le_of_ble_eq_true rfl) dX7_copy_52 (rfl) ?_
  refine g_vret C hQ rfl dX7_copy_55 ?_
  refine ⟨rfl, fun k hk => ?_, rfl, ⟨rfl, rfl⟩, ⟨rfl, rfl, rfl, rfl, rfl, rfl, rfl, rfl⟩, ⟨rfl, rfl, rfl⟩, rfl, rfl, ⟨rfl, rfl, rfl⟩, rfl⟩
  rw [gr_n (by omega), gr_n (by omega), gr_n (by omega), gr_n (by omega), gr_n (by omega), gr_n (by omega), gr_n (by omega), gr_n (by omega), gr_n (by omega), gr_n (by omega), gr_n (by omega), gr_n (by omega), gr_n (by omega), gr_n (by omega), gr_n (by omega)]

set_option maxRecDepth 100000 in
set_option maxHeartbeats 4000000 in
theorem c_X3_copy_31_1 (l : Launch) (G : gG) (mem : gM) : gMet l yX3_copy cX3_copy 2 none rm_X3_copy G [.ref (gad G 34), .ref (gad G 4)] mem (fun a u => a = none ∧ u = gr (gr (gr (gr (gr (gr (gr (gr (gr mem 34 (upd (upd (mem 34) 0 (mem 4 0)) 1 (mem 4 1))) 36 (cpy 10 (mem 6) (mem 36))) 38 (cpy 10 (mem 8) (mem 38))) 40 (cpy 10 (mem 10) (mem 40))) 42 (cpy 10 (mem 12) (mem 42))) 44 (cpy 10 (mem 14) (mem 44))) 46 (cpy 10 (mem 16) (mem 46))) 48 (cpy 10 (mem 18) (mem 48))) 50 (cpy 10 (mem 20) (mem 50))) := by
  refine g_of (own := RX3) (L0 := [(0, .ref (gad G 34)), (1, .ref (gad G 4))]) (by decide +kernel) rfl (Nat.le_of_ble_eq_true rfl) rfl ?_
  intro p e s m args below meth c C Q hQ
  refine g_aload_n C 0 dX3_copy_0 rfl ?_
  refine g_aload_n C 1 dX3_copy_1 rfl ?_
  refine g_get_i C ob_4 0 (by decide) rfl wd_50 dX3_copy_2 ?_
  refine g_put_i C ob_34 0 (by decide) rfl wd_50 rfl rfl dX3_copy_5 ?_
  refine g_aload_n C 0 dX3_copy_8 rfl ?_
  refine g_aload_n C 1 dX3_copy_9 rfl ?_
  refine g_get_i C ob_4 1 (by decide) rfl wd_56 dX3_copy_10 ?_
  refine g_top (y := mem 4 1) (rfl) ?_
  refine g_put_i C ob_34 1 (by decide) rfl wd_56 rfl rfl dX3_copy_13 ?_
  refine g_mem (mem2 := gr mem 34 (upd (upd (mem 34) 0 (mem 4 0)) 1 (mem 4 1))) (gr_gr _ _ _ _) ?_
  refine g_aload_n C 0 dX3_copy_16 rfl ?_
  refine g_get_r C ob_34 2 (by decide) rfl wd_58 dX3_copy_17 ?_
  refine g_aload_n C 1 dX3_copy_20 rfl ?_
  refine g_get_r C ob_4 2 (by decide) rfl wd_58 dX3_copy_21 ?_
  refine g_cV0 C (As := [.ref (gad G 5)]) (mem3 := gr (gr mem 34 (upd (upd (mem 34) 0 (mem 4 0)) 1 (mem 4 1))) 36 (cpy 10 (mem 6) (mem 36))) iX6_copy (c_X6_copy l G (gr mem 34 (upd (upd (mem 34) 0 (mem 4 0)) 1 (mem 4 1))) ob_35 ar_36 ob_5 ar_6 (by decide)) wd_333 ob_35 rfl ⟨Nat.le_of_ble_eq_true rfl, Nat.le_of_ble_eq_true rfl⟩ ⟨rfl, rfl⟩ rfl (Nat.le_of_ble_eq_true rfl) dX3_copy_24 (rfl) ?_
  refine g_aload_n C 0 dX3_copy_27 rfl ?_
  refine g_get_r C ob_34 3 (by decide) rfl wd_61 dX3_copy_28 ?_
  refine g_aload_n C 1 dX3_copy_31 rfl ?_
  refine g_get_r C ob_4 3 (by decide) rfl wd_61 dX3_copy_32 ?_
  refine g_cV0 C (As := [.ref (gad G 7)]) (mem3 := gr (gr (gr mem 34 (upd (upd (mem 34) 0 (mem 4 0)) 1 (mem 4 1))) 36 (cpy 10 (mem 6) (mem 36))) 38 (cpy 10 (mem 8) (mem 38))) iX6_copy (c_X6_copy l G (gr (gr mem 34 (upd (upd (mem 34) 0 (mem 4 0)) 1 (mem 4 1))) 36 (cpy 10 (mem 6) (mem 36))) ob_37 ar_38 ob_7 ar_8 (by decide)) wd_333 ob_37 rfl ⟨Nat.le_of_ble_eq_true rfl, Nat.le_of_ble_eq_true rfl⟩ ⟨rfl, rfl⟩ rfl (Nat.le_of_ble_eq_true rfl) dX3_copy_35 (rfl) ?_
  refine g_aload_n C 0 dX3_copy_38 rfl ?_
  refine g_get_r C ob_34 4 (by decide) rfl wd_63 dX3_copy_39 ?_
  refine g_aload_n C 1 dX3_copy_42 rfl ?_
  refine g_get_r C ob_4 4 (by decide) rfl wd_63 dX3_copy_43 ?_
  refine g_cV0 C (As := [.ref (gad G 9)]) (mem3 := gr (gr (gr (gr mem 34 (upd (upd (mem 34) 0 (mem 4 0)) 1 (mem 4 1))) 36 (cpy 10 (mem 6) (mem 36))) 38 (cpy 10 (mem 8) (mem 38))) 40 (cpy 10 (mem 10) (mem 40))) iX6_copy (c_X6_copy l G (gr (gr (gr mem 34 (upd (upd (mem 34) 0 (mem 4 0)) 1 (mem 4 1))) 36 (cpy 10 (mem 6) (mem 36))) 38 (cpy 10 (mem 8) (mem 38))) ob_39 ar_40 ob_9 ar_10 (by decide)) wd_333 ob_39 rfl ⟨Nat.le_of_ble_eq_true rfl, Nat.le_of_ble_eq_true rfl⟩ ⟨rfl, rfl⟩ rfl (Nat.le_of_ble_eq_true rfl) dX3_copy_46 (rfl) ?_
  refine g_aload_n C 0 dX3_copy_49 rfl ?_
  refine g_get_r C ob_34 5 (by decide) rfl wd_66 dX3_copy_50 ?_
  refine g_aload_n C 1 dX3_copy_53 rfl ?_
  refine g_get_r C ob_4 5 (by decide) rfl wd_66 dX3_copy_54 ?_
  refine g_cV0 C (As := [.ref (gad G 11)]) (mem3 := gr (gr (gr (gr (gr mem 34 (upd (upd (mem 34) 0 (mem 4 0)) 1 (mem 4 1))) 36 (cpy 10 (mem 6) (mem 36))) 38 (cpy 10 (mem 8) (mem 38))) 40 (cpy 10 (mem 10) (mem 40))) 42 (cpy 10 (mem 12) (mem 42))) iX6_copy (c_X6_copy l G (gr (gr (gr (gr mem 34 (upd (upd (mem 34) 0 (mem 4 0)) 1 (mem 4 1))) 36 (cpy 10 (mem 6) (mem 36))) 38 (cpy 10 (mem 8) (mem 38))) 40 (cpy 10 (mem 10) (mem 40))) ob_41 ar_42 ob_11 ar_12 (by decide)) wd_333 ob_41 rfl ⟨Nat.le_of_ble_eq_true rfl, Nat.le_of_ble_eq_true rfl⟩ ⟨rfl, rfl⟩ rfl (Nat.le_of_ble_eq_true rfl) dX3_copy_57 (rfl) ?_
  refine g_aload_n C 0 dX3_copy_60 rfl ?_
  refine g_get_r C ob_34 6 (by decide) rfl wd_69 dX3_copy_61 ?_
  refine g_aload_n C 1 dX3_copy_64 rfl ?_
  refine g_get_r C ob_4 6 (by decide) rfl wd_69 dX3_copy_65 ?_
  refine g_cV0 C (As := [.ref (gad G 13)]) (mem3 := gr (gr (gr (gr (gr (gr mem 34 (upd (upd (mem 34) 0 (mem 4 0)) 1 (mem 4 1))) 36 (cpy 10 (mem 6) (mem 36))) 38 (cpy 10 (mem 8) (mem 38))) 40 (cpy 10 (mem 10) (mem 40))) 42 (cpy 10 (mem 12) (mem 42))) 44 (cpy 10 (mem 14) (mem 44))) iX6_copy (c_X6_copy l G (gr (gr (gr (gr (gr mem 34 (upd (upd (mem 34) 0 (mem 4 0)) 1 (mem 4 1))) 36 (cpy 10 (mem 6) (mem 36))) 38 (cpy 10 (mem 8) (mem 38))) 40 (cpy 10 (mem 10) (mem 40))) 42 (cpy 10 (mem 12) (mem 42))) ob_43 ar_44 ob_13 ar_14 (by decide)) wd_333 ob_43 rfl ⟨Nat.le_of_ble_eq_true rfl, Nat.le_of_ble_eq_true rfl⟩ ⟨rfl, rfl⟩ rfl (Nat.le_of_ble_eq_true rfl) dX3_copy_68 (rfl) ?_
  refine g_aload_n C 0 dX3_copy_71 rfl ?_
  refine g_get_r C ob_34 7 (by decide) rfl wd_72 dX3_copy_72 ?_
  refine g_aload_n C 1 dX3_copy_75 rfl ?_
  refine g_get_r C ob_4 7 (by decide) rfl wd_72 dX3_copy_76 ?_
  refine g_cV0 C (As := [.ref (gad G 15)]) (mem3 := gr (gr (gr (gr (gr (gr (gr mem 34 (upd (upd (mem 34) 0 (mem 4 0)) 1 (mem 4 1))) 36 (cpy 10 (mem 6) (mem 36))) 38 (cpy 10 (mem 8) (mem 38))) 40 (cpy 10 (mem 10) (mem 40))) 42 (cpy 10 (mem 12) (mem 42))) 44 (cpy 10 (mem 14) (mem 44))) 46 (cpy 10 (mem 16) (mem 46))) iX6_copy (c_X6_copy l G (gr (gr (gr (gr (gr (gr mem 34 (upd (upd (mem 34) 0 (mem 4 0)) 1 (mem 4 1))) 36 (cpy 10 (mem 6) (mem 36))) 38 (cpy 10 (mem 8) (mem 38))) 40 (cpy 10 (mem 10) (mem 40))) 42 (cpy 10 (mem 12) (mem 42))) 44 (cpy 10 (mem 14) (mem 44))) ob_45 ar_46 ob_15 ar_16 (by decide)) wd_333 ob_45 rfl ⟨Nat.le_of_ble_eq_true rfl, Nat.le_of_ble_eq_true rfl⟩ ⟨rfl, rfl⟩ rfl (Nat.le_of_ble_eq_true rfl) dX3_copy_79 (rfl) ?_
  refine g_aload_n C 0 dX3_copy_82 rfl ?_
  refine g_get_r C ob_34 8 (by decide) rfl wd_74 dX3_copy_83 ?_
  refine g_aload_n C 1 dX3_copy_86 rfl ?_
  refine g_get_r C ob_4 8 (by decide) rfl wd_74 dX3_copy_87 ?_
  refine g_cV0 C (As := [.ref (gad G 17)]) (mem3 := gr (gr (gr (gr (gr (gr (gr (gr mem 34 (upd (upd (mem 34) 0 (mem 4 0)) 1 (mem 4 1))) 36 (cpy 10 (mem 6) (mem 36))) 38 (cpy 10 (mem 8) (mem 38))) 40 (cpy 10 (mem 10) (mem 40))) 42 (cpy 10 (mem 12) (mem 42))) 44 (cpy 10 (mem 14) (mem 44))) 46 (cpy 10 (mem 16) (mem 46))) 48 (cpy 10 (mem 18) (mem 48))) iX6_copy (c_X6_copy l G (gr (gr (gr (gr (gr (gr (gr mem 34 (upd (upd (mem 34) 0 (mem 4 0)) 1 (mem 4 1))) 36 (cpy 10 (mem 6) (mem 36))) 38 (cpy 10 (mem 8) (mem 38))) 40 (cpy 10 (mem 10) (mem 40))) 42 (cpy 10 (mem 12) (mem 42))) 44 (cpy 10 (mem 14) (mem 44))) 46 (cpy 10 (mem 16) (mem 46))) ob_47 ar_48 ob_17 ar_18 (by decide)) wd_333 ob_47 rfl ⟨Nat.le_of_ble_eq_true rfl, Nat.le_of_ble_eq_true rfl⟩ ⟨rfl, rfl⟩ rfl (Nat.le_of_ble_eq_true rfl) dX3_copy_90 (rfl) ?_
  refine g_aload_n C 0 dX3_copy_93 rfl ?_
  refine g_get_r C ob_34 9 (by decide) rfl wd_76 dX3_copy_94 ?_
  refine g_aload_n C 1 dX3_copy_97 rfl ?_
  refine g_get_r C ob_4 9 (by decide) rfl wd_76 dX3_copy_98 ?_
  refine g_cV0 C (As := [.ref (gad G 19)]) (mem3 := gr (gr (gr (gr (gr (gr (gr (gr (gr mem 34 (upd (upd (mem 34) 0 (mem 4 0)) 1 (mem 4 1))) 36 (cpy 10 (mem 6) (mem 36))) 38 (cpy 10 (mem 8) (mem 38))) 40 (cpy 10 (mem 10) (mem 40))) 42 (cpy 10 (mem 12) (mem 42))) 44 (cpy 10 (mem 14) (mem 44))) 46 (cpy 10 (mem 16) (mem 46))) 48 (cpy 10 (mem 18) (mem 48))) 50 (cpy 10 (mem 20) (mem 50))) iX6_copy (c_X6_copy l G (gr (gr (gr (gr (gr (gr (gr (gr mem 34 (upd (upd (mem 34) 0 (mem 4 0)) 1 (mem 4 1))) 36 (cpy 10 (mem 6) (mem 36))) 38 (cpy 10 (mem 8) (mem 38))) 40 (cpy 10 (mem 10) (mem 40))) 42 (cpy 10 (mem 12) (mem 42))) 44 (cpy 10 (mem 14) (mem 44))) 46 (cpy 10 (mem 16) (mem 46))) 48 (cpy 10 (mem 18) (mem 48))) ob_49 ar_50 ob_19 ar_20 (by decide)) wd_333 ob_49 rfl ⟨Nat.le_of_ble_eq_true rfl, Nat.le_of_ble_eq_true rfl⟩ ⟨rfl, rfl⟩ rfl (Nat.le_of_ble_eq_true rfl) dX3_copy_101 (rfl) ?_
  refine g_vret C hQ rfl dX3_copy_104 ?_
  exact ⟨rfl, rfl⟩

set_option maxRecDepth 100000 in
set_option maxHeartbeats 4000000 in
theorem c_X0_copy_31_1 (l : Launch) (G : gG) (mem : gM) : gMet l yX0_copy cX0_copy 2 none rm_X0_copy G [.ref (gad G 51), .ref (gad G 21)] mem (fun a u => a = none ∧ u = gr (gr mem 51 (upd (upd (upd (mem 51) 0 (mem 21 0)) 1 (mem 21 1)) 2 (mem 21 2))) 53 (cpy 10 (mem 23) (mem 53))) := by
  refine g_of (own := RX0) (L0 := [(0, .ref (gad G 51)), (1, .ref (gad G 21))]) (by decide +kernel) rfl (Nat.le_of_ble_eq_true rfl) rfl ?_
  intro p e s m args below meth c C Q hQ
  refine g_aload_n C 0 dX0_copy_0 rfl ?_
  refine g_aload_n C 1 dX0_copy_1 rfl ?_
  refine g_get_i C ob_21 0 (by decide) rfl wd_108 dX0_copy_2 ?_
  refine g_put_i C ob_51 0 (by decide) rfl wd_108 rfl rfl dX0_copy_5 ?_
  refine g_aload_n C 0 dX0_copy_8 rfl ?_
  refine g_aload_n C 1 dX0_copy_9 rfl ?_
  refine g_get_i C ob_21 1 (by decide) rfl wd_112 dX0_copy_10 ?_
  refine g_top (y := mem 21 1) (rfl) ?_
  refine g_put_i C ob_51 1 (by decide) rfl wd_112 rfl rfl dX0_copy_13 ?_
  refine g_mem (mem2 := gr mem 51 (upd (upd (mem 51) 0 (mem 21 0)) 1 (mem 21 1))) (gr_gr _ _ _ _) ?_
  refine g_aload_n C 0 dX0_copy_16 rfl ?_
  refine g_aload_n C 1 dX0_copy_17 rfl ?_
  refine g_get_i C ob_21 2 (by decide) rfl wd_115 dX0_copy_18 ?_
  refine g_top (y := mem 21 2) (rfl) ?_
  refine g_put_i C ob_51 2 (by decide) rfl wd_115 rfl rfl dX0_copy_21 ?_
  refine g_mem (mem2 := gr mem 51 (upd (upd (upd (mem 51) 0 (mem 21 0)) 1 (mem 21 1)) 2 (mem 21 2))) (gr_gr _ _ _ _) ?_
  refine g_aload_n C 0 dX0_copy_24 rfl ?_
  refine g_get_r C ob_51 3 (by decide) rfl wd_118 dX0_copy_25 ?_
  refine g_aload_n C 1 dX0_copy_28 rfl ?_
  refine g_get_r C ob_21 3 (by decide) rfl wd_118 dX0_copy_29 ?_
  refine g_cV0 C (As := [.ref (gad G 22)]) (mem3 := gr (gr mem 51 (upd (upd (upd (mem 51) 0 (mem 21 0)) 1 (mem 21 1)) 2 (mem 21 2))) 53 (cpy 10 (mem 23) (mem 53))) iX6_copy (c_X6_copy l G (gr mem 51 (upd (upd (upd (mem 51) 0 (mem 21 0)) 1 (mem 21 1)) 2 (mem 21 2))) ob_52 ar_53 ob_22 ar_23 (by decide)) wd_338 ob_52 rfl ⟨Nat.le_of_ble_eq_true rfl, Nat.le_of_ble_eq_true rfl⟩ ⟨rfl, rfl⟩ rfl (Nat.le_of_ble_eq_true rfl) dX0_copy_32 (rfl) ?_
  refine g_vret C hQ rfl dX0_copy_35 ?_
  exact ⟨rfl, rfl⟩

set_option maxRecDepth 100000 in
set_option maxHeartbeats 4000000 in
theorem c_X2_copy_31_1 (l : Launch) (G : gG) (mem : gM) : gMet l yX2_copy cX2_copy 2 none rm_X2_copy G [.ref (gad G 56), .ref (gad G 26)] mem (fun a u => a = none ∧ u = gr (gr mem 56 (upd (upd (upd (mem 56) 0 (mem 26 0)) 1 (mem 26 1)) 2 (mem 26 2))) 58 (cpy 140 (mem 28) (mem 58))) := by
  refine g_of (own := RX2) (L0 := [(0, .ref (gad G 56)), (1, .ref (gad G 26))]) (by decide +kernel) rfl (Nat.le_of_ble_eq_true rfl) rfl ?_
  intro p e s m args below meth c C Q hQ
  refine g_aload_n C 0 dX2_copy_0 rfl ?_
  refine g_aload_n C 1 dX2_copy_1 rfl ?_
  refine g_get_i C ob_26 0 (by decide) rfl wd_136 dX2_copy_2 ?_
  refine g_put_i C ob_56 0 (by decide) rfl wd_136 rfl rfl dX2_copy_5 ?_
  refine g_aload_n C 0 dX2_copy_8 rfl ?_
  refine g_aload_n C 1 dX2_copy_9 rfl ?_
  refine g_get_i C ob_26 1 (by decide) rfl wd_138 dX2_copy_10 ?_
  refine g_top (y := mem 26 1) (rfl) ?_
  refine g_put_i C ob_56 1 (by decide) rfl wd_138 rfl rfl dX2_copy_13 ?_
  refine g_mem (mem2 := gr mem 56 (upd (upd (mem 56) 0 (mem 26 0)) 1 (mem 26 1))) (gr_gr _ _ _ _) ?_
  refine g_aload_n C 0 dX2_copy_16 rfl ?_
  refine g_aload_n C 1 dX2_copy_17 rfl ?_
  refine g_get_i C ob_26 2 (by decide) rfl wd_140 dX2_copy_18 ?_
  refine g_top (y := mem 26 2) (rfl) ?_
  refine g_put_i C ob_56 2 (by decide) rfl wd_140 rfl rfl dX2_copy_21 ?_
  refine g_mem (mem2 := gr mem 56 (upd (upd (upd (mem 56) 0 (mem 26 0)) 1 (mem 26 1)) 2 (mem 26 2))) (gr_gr _ _ _ _) ?_
  refine g_aload_n C 0 dX2_copy_24 rfl ?_
  refine g_get_r C ob_56 3 (by decide) rfl wd_142 dX2_copy_25 ?_
  refine g_aload_n C 1 dX2_copy_28 rfl ?_
  refine g_get_r C ob_26 3 (by decide) rfl wd_142 dX2_copy_29 ?_
  refine g_cV0 C (As := [.ref (gad G 27)]) (mem3 := gr (gr mem 56 (upd (upd (upd (mem 56) 0 (mem 26 0)) 1 (mem 26 1)) 2 (mem 26 2))) 58 (cpy 140 (mem 28) (mem 58))) iX6_copy (c_X6_copy l G (gr mem 56 (upd (upd (upd (mem 56) 0 (mem 26 0)) 1 (mem 26 1)) 2 (mem 26 2))) ob_57 ar_58 ob_27 ar_28 (by decide)) wd_343 ob_57 rfl ⟨Nat.le_of_ble_eq_true rfl, Nat.le_of_ble_eq_true rfl⟩ ⟨rfl, rfl⟩ rfl (Nat.le_of_ble_eq_true rfl) dX2_copy_32 (rfl) ?_
  refine g_vret C hQ rfl dX2_copy_35 ?_
  exact ⟨rfl, rfl⟩

set_option maxRecDepth 100000 in
set_option maxHeartbeats 4000000 in
theorem c_X7_copy_31_1 (l : Launch) (G : gG) (mem : gM) : gMet l yX7_copy cX7_copy 2 none rm_X7_copy G [.ref (gad G 31), .ref (gad G 1)] mem (fun x u => x = none ∧ CopyS 31 1 mem u) := by
  refine g_of (own := RX7) (L0 := [(0, .ref (gad G 31)), (1, .ref (gad G 1))]) (by decide +kernel) rfl (Nat.le_of_ble_eq_true rfl) rfl ?_
  intro p e s m args below meth c C Q hQ
  refine g_aload_n C 0 dX7_copy_0 rfl ?_
  refine g_get_r C ob_31 0 (by decide) rfl wd_156 dX7_copy_1 ?_
  refine g_aload_n C 1 dX7_copy_4 rfl ?_
  refine g_get_r C ob_1 0 (by decide) rfl wd_156 dX7_copy_5 ?_
  refine g_cV0 C (As := [.ref (gad G 2)]) (mem3 := gr mem 33 (cpy 5 (mem 3) (mem 33))) iX6_copy (c_X6_copy l G mem ob_32 ar_33 ob_2 ar_3 (by decide)) wd_319 ob_32 rfl ⟨Nat.le_of_ble_eq_true rfl, Nat.le_of_ble_eq_true rfl⟩ ⟨rfl, rfl⟩ rfl (Nat.le_of_ble_eq_true rfl) dX7_copy_8 (rfl) ?_
  refine g_aload_n C 0 dX7_copy_11 rfl ?_
  refine g_get_r C ob_31 1 (by decide) rfl wd_159 dX7_copy_12 ?_
  refine g_aload_n C 1 dX7_copy_15 rfl ?_
  refine g_get_r C ob_1 1 (by decide) rfl wd_159 dX7_copy_16 ?_
  refine g_cV0 C (As := [.ref (gad G 4)]) (mem3 := gr (gr (gr (gr (gr (gr (gr (gr (gr (gr mem 33 (cpy 5 (mem 3) (mem 33))) 34 (upd (upd (mem 34) 0 (mem 4 0)) 1 (mem 4 1))) 36 (cpy 10 (mem 6) (mem 36))) 38 (cpy 10 (mem 8) (mem 38))) 40 (cpy 10 (mem 10) (mem 40))) 42 (cpy 10 (mem 12) (mem 42))) 44 (cpy 10 (mem 14) (mem 44))) 46 (cpy 10 (mem 16) (mem 46))) 48 (cpy 10 (mem 18) (mem 48))) 50 (cpy 10 (mem 20) (mem 50))) iX3_copy (c_X3_copy_31_1 l G (gr mem 33 (cpy 5 (mem 3) (mem 33)))) wd_329 ob_34 rfl ⟨Nat.le_of_ble_eq_true rfl, Nat.le_of_ble_eq_true rfl⟩ ⟨rfl, rfl⟩ rfl (Nat.le_of_ble_eq_true rfl) dX7_copy_19 (rfl) ?_
  refine g_aload_n C 0 dX7_copy_22 rfl ?_
  refine g_get_r C ob_31 2 (by decide) rfl wd_162 dX7_copy_23 ?_
  refine g_aload_n C 1 dX7_copy_26 rfl ?_
  refine g_get_r C ob_1 2 (by decide) rfl wd_162 dX7_copy_27 ?_
  refine g_cV0 C (As := [.ref (gad G 21)]) (mem3 := gr (gr (gr (gr (gr (gr (gr (gr (gr (gr (gr (gr mem 33 (cpy 5 (mem 3) (mem 33))) 34 (upd (upd (mem 34) 0 (mem 4 0)) 1 (mem 4 1))) 36 (cpy 10 (mem 6) (mem 36))) 38 (cpy 10 (mem 8) (mem 38))) 40 (cpy 10 (mem 10) (mem 40))) 42 (cpy 10 (mem 12) (mem 42))) 44 (cpy 10 (mem 14) (mem 44))) 46 (cpy 10 (mem 16) (mem 46))) 48 (cpy 10 (mem 18) (mem 48))) 50 (cpy 10 (mem 20) (mem 50))) 51 (upd (upd (upd (mem 51) 0 (mem 21 0)) 1 (mem 21 1)) 2 (mem 21 2))) 53 (cpy 10 (mem 23) (mem 53))) iX0_copy (c_X0_copy_31_1 l G (gr (gr (gr (gr (gr (gr (gr (gr (gr (gr mem 33 (cpy 5 (mem 3) (mem 33))) 34 (upd (upd (mem 34) 0 (mem 4 0)) 1 (mem 4 1))) 36 (cpy 10 (mem 6) (mem 36))) 38 (cpy 10 (mem 8) (mem 38))) 40 (cpy 10 (mem 10) (mem 40))) 42 (cpy 10 (mem 12) (mem 42))) 44 (cpy 10 (mem 14) (mem 44))) 46 (cpy 10 (mem 16) (mem 46))) 48 (cpy 10 (mem 18) (mem 48))) 50 (cpy 10 (mem 20) (mem 50)))) wd_334 ob_51 rfl ⟨Nat.le_of_ble_eq_true rfl, Nat.le_of_ble_eq_true rfl⟩ ⟨rfl, rfl⟩ rfl (Nat.le_of_ble_eq_true rfl) dX7_copy_30 (rfl) ?_
  refine g_aload_n C 0 dX7_copy_33 rfl ?_
  refine g_get_r C ob_31 3 (by decide) rfl wd_165 dX7_copy_34 ?_
  refine g_aload_n C 1 dX7_copy_37 rfl ?_
  refine g_get_r C ob_1 3 (by decide) rfl wd_165 dX7_copy_38 ?_
  refine g_cV0 C (As := [.ref (gad G 24)]) (mem3 := gr (gr (gr (gr (gr (gr (gr (gr (gr (gr (gr (gr (gr mem 33 (cpy 5 (mem 3) (mem 33))) 34 (upd (upd (mem 34) 0 (mem 4 0)) 1 (mem 4 1))) 36 (cpy 10 (mem 6) (mem 36))) 38 (cpy 10 (mem 8) (mem 38))) 40 (cpy 10 (mem 10) (mem 40))) 42 (cpy 10 (mem 12) (mem 42))) 44 (cpy 10 (mem 14) (mem 44))) 46 (cpy 10 (mem 16) (mem 46))) 48 (cpy 10 (mem 18) (mem 48))) 50 (cpy 10 (mem 20) (mem 50))) 51 (upd (upd (upd (mem 51) 0 (mem 21 0)) 1 (mem 21 1)) 2 (mem 21 2))) 53 (cpy 10 (mem 23) (mem 53))) 55 (cpy 200 (mem 25) (mem 55))) iX6_copy (c_X6_copy l G (gr (gr (gr (gr (gr (gr (gr (gr (gr (gr (gr (gr mem 33 (cpy 5 (mem 3) (mem 33))) 34 (upd (upd (mem 34) 0 (mem 4 0)) 1 (mem 4 1))) 36 (cpy 10 (mem 6) (mem 36))) 38 (cpy 10 (mem 8) (mem 38))) 40 (cpy 10 (mem 10) (mem 40))) 42 (cpy 10 (mem 12) (mem 42))) 44 (cpy 10 (mem 14) (mem 44))) 46 (cpy 10 (mem 16) (mem 46))) 48 (cpy 10 (mem 18) (mem 48))) 50 (cpy 10 (mem 20) (mem 50))) 51 (upd (upd (upd (mem 51) 0 (mem 21 0)) 1 (mem 21 1)) 2 (mem 21 2))) 53 (cpy 10 (mem 23) (mem 53))) ob_54 ar_55 ob_24 ar_25 (by decide)) wd_319 ob_54 rfl ⟨Nat.le_of_ble_eq_true rfl, Nat.le_of_ble_eq_true rfl⟩ ⟨rfl, rfl⟩ rfl (Nat.le_of_ble_eq_true rfl) dX7_copy_41 (rfl) ?_
  refine g_aload_n C 0 dX7_copy_44 rfl ?_
  refine g_get_r C ob_31 4 (by decide) rfl wd_168 dX7_copy_45 ?_
  refine g_aload_n C 1 dX7_copy_48 rfl ?_
  refine g_get_r C ob_1 4 (by decide) rfl wd_168 dX7_copy_49 ?_
  refine g_cV0 C (As := [.ref (gad G 26)]) (mem3 := gr (gr (gr (gr (gr (gr (gr (gr (gr (gr (gr (gr (gr (gr (gr mem 33 (cpy 5 (mem 3) (mem 33))) 34 (upd (upd (mem 34) 0 (mem 4 0)) 1 (mem 4 1))) 36 (cpy 10 (mem 6) (mem 36))) 38 (cpy 10 (mem 8) (mem 38))) 40 (cpy 10 (mem 10) (mem 40))) 42 (cpy 10 (mem 12) (mem 42))) 44 (cpy 10 (mem 14) (mem 44))) 46 (cpy 10 (mem 16) (mem 46))) 48 (cpy 10 (mem 18) (mem 48))) 50 (cpy 10 (mem 20) (mem 50))) 51 (upd (upd (upd (mem 51) 0 (mem 21 0)) 1 (mem 21 1)) 2 (mem 21 2))) 53 (cpy 10 (mem 23) (mem 53))) 55 (cpy 200 (mem 25) (mem 55))) 56 (upd (upd (upd (mem 56) 0 (mem 26 0)) 1 (mem 26 1)) 2 (mem 26 2))) 58 (cpy 140 (mem 28) (mem 58))) iX2_copy (c_X2_copy_31_1 l G (gr (gr (gr (gr (gr (gr (gr (gr (gr (gr (gr (gr (gr mem 33 (cpy 5 (mem 3) (mem 33))) 34 (upd (upd (mem 34) 0 (mem 4 0)) 1 (mem 4 1))) 36 (cpy 10 (mem 6) (mem 36))) 38 (cpy 10 (mem 8) (mem 38))) 40 (cpy 10 (mem 10) (mem 40))) 42 (cpy 10 (mem 12) (mem 42))) 44 (cpy 10 (mem 14) (mem 44))) 46 (cpy 10 (mem 16) (mem 46))) 48 (cpy 10 (mem 18) (mem 48))) 50 (cpy 10 (mem 20) (mem 50))) 51 (upd (upd (upd (mem 51) 0 (mem 21 0)) 1 (mem 21 1)) 2 (mem 21 2))) 53 (cpy 10 (mem 23) (mem 53))) 55 (cpy 200 (mem 25) (mem 55)))) wd_339 ob_56 rfl ⟨Nat.le_of_ble_eq_true rfl, Nat.le_of_ble_eq_true rfl⟩ ⟨rfl, rfl⟩ rfl (Nat.le_of_ble_eq_true rfl) dX7_copy_52 (rfl) ?_
  refine g_vret C hQ rfl dX7_copy_55 ?_
  refine ⟨rfl, fun k hk => ?_, rfl, ⟨rfl, rfl⟩, ⟨rfl, rfl, rfl, rfl, rfl, rfl, rfl, rfl⟩, ⟨rfl, rfl, rfl⟩, rfl, rfl, ⟨rfl, rfl, rfl⟩, rfl⟩
  rw [gr_n (by omega), gr_n (by omega), gr_n (by omega), gr_n (by omega), gr_n (by omega), gr_n (by omega), gr_n (by omega), gr_n (by omega), gr_n (by omega), gr_n (by omega), gr_n (by omega), gr_n (by omega), gr_n (by omega), gr_n (by omega), gr_n (by omega)]

set_option maxRecDepth 100000 in
set_option maxHeartbeats 4000000 in
theorem c_X3_copy_59_1 (l : Launch) (G : gG) (mem : gM) : gMet l yX3_copy cX3_copy 2 none rm_X3_copy G [.ref (gad G 62), .ref (gad G 4)] mem (fun a u => a = none ∧ u = gr (gr (gr (gr (gr (gr (gr (gr (gr mem 62 (upd (upd (mem 62) 0 (mem 4 0)) 1 (mem 4 1))) 64 (cpy 10 (mem 6) (mem 64))) 66 (cpy 10 (mem 8) (mem 66))) 68 (cpy 10 (mem 10) (mem 68))) 70 (cpy 10 (mem 12) (mem 70))) 72 (cpy 10 (mem 14) (mem 72))) 74 (cpy 10 (mem 16) (mem 74))) 76 (cpy 10 (mem 18) (mem 76))) 78 (cpy 10 (mem 20) (mem 78))) := by
  refine g_of (own := RX3) (L0 := [(0, .ref (gad G 62)), (1, .ref (gad G 4))]) (by decide +kernel) rfl (Nat.le_of_ble_eq_true rfl) rfl ?_
  intro p e s m args below meth c C Q hQ
  refine g_aload_n C 0 dX3_copy_0 rfl ?_
  refine g_aload_n C 1 dX3_copy_1 rfl ?_
  refine g_get_i C ob_4 0 (by decide) rfl wd_50 dX3_copy_2 ?_
  refine g_put_i C ob_62 0 (by decide) rfl wd_50 rfl rfl dX3_copy_5 ?_
  refine g_aload_n C 0 dX3_copy_8 rfl ?_
  refine g_aload_n C 1 dX3_copy_9 rfl ?_
  refine g_get_i C ob_4 1 (by decide) rfl wd_56 dX3_copy_10 ?_
  refine g_top (y := mem 4 1) (rfl) ?_
  refine g_put_i C ob_62 1 (by decide) rfl wd_56 rfl rfl dX3_copy_13 ?_
  refine g_mem (mem2 := gr mem 62 (upd (upd (mem 62) 0 (mem 4 0)) 1 (mem 4 1))) (gr_gr _ _ _ _) ?_
  refine g_aload_n C 0 dX3_copy_16 rfl ?_
  refine g_get_r C ob_62 2 (by decide) rfl wd_58 dX3_copy_17 ?_
  refine g_aload_n C 1 dX3_copy_20 rfl ?_
  refine g_get_r C ob_4 2 (by decide) rfl wd_58 dX3_copy_21 ?_
  refine g_cV0 C (As := [.ref (gad G 5)]) (mem3 := gr (gr mem 62 (upd (upd (mem 62) 0 (mem 4 0)) 1 (mem 4 1))) 64 (cpy 10 (mem 6) (mem 64))) iX6_copy (c_X6_copy l G (gr mem 62 (upd (upd (mem 62) 0 (mem 4 0)) 1 (mem 4 1))) ob_63 ar_64 ob_5 ar_6 (by decide)) wd_333 ob_63 rfl ⟨Nat.le_of_ble_eq_true rfl, Nat.le_of_ble_eq_true rfl⟩ ⟨rfl, rfl⟩ rfl (Nat.le_of_ble_eq_true rfl) dX3_copy_24 (rfl) ?_
  refine g_aload_n C 0 dX3_copy_27 rfl ?_
  refine g_get_r C ob_62 3 (by decide) rfl wd_61 dX3_copy_28 ?_
  refine g_aload_n C 1 dX3_copy_31 rfl ?_
  refine g_get_r C ob_4 3 (by decide) rfl wd_61 dX3_copy_32 ?_
  refine g_cV0 C (As := [.ref (gad G 7)]) (mem3 := gr (gr (gr mem 62 (upd (upd (mem 62) 0 (mem 4 0)) 1 (mem 4 1))) 64 (cpy 10 (mem 6) (mem 64))) 66 (cpy 10 (mem 8) (mem 66))) iX6_copy (c_X6_copy l G (gr (gr mem 62 (upd (upd (mem 62) 0 (mem 4 0)) 1 (mem 4 1))) 64 (cpy 10 (mem 6) (mem 64))) ob_65 ar_66 ob_7 ar_8 (by decide)) wd_333 ob_65 rfl ⟨Nat.le_of_ble_eq_true rfl, Nat.le_of_ble_eq_true rfl⟩ ⟨rfl, rfl⟩ rfl (Nat.le_of_ble_eq_true rfl) dX3_copy_35 (rfl) ?_
  refine g_aload_n C 0 dX3_copy_38 rfl ?_
  refine g_get_r C ob_62 4 (by decide) rfl wd_63 dX3_copy_39 ?_
  refine g_aload_n C 1 dX3_copy_42 rfl ?_
  refine g_get_r C ob_4 4 (by decide) rfl wd_63 dX3_copy_43 ?_
  refine g_cV0 C (As := [.ref (gad G 9)]) (mem3 := gr (gr (gr (gr mem 62 (upd (upd (mem 62) 0 (mem 4 0)) 1 (mem 4 1))) 64 (cpy 10 (mem 6) (mem 64))) 66 (cpy 10 (mem 8) (mem 66))) 68 (cpy 10 (mem 10) (mem 68))) iX6_copy (c_X6_copy l G (gr (gr (gr mem 62 (upd (upd (mem 62) 0 (mem 4 0)) 1 (mem 4 1))) 64 (cpy 10 (mem 6) (mem 64))) 66 (cpy 10 (mem 8) (mem 66))) ob_67 ar_68 ob_9 ar_10 (by decide)) wd_333 ob_67 rfl ⟨Nat.le_of_ble_eq_true rfl, Nat.le_of_ble_eq_true rfl⟩ ⟨rfl, rfl⟩ rfl (Nat.le_of_ble_eq_true rfl) dX3_copy_46 (rfl) ?_
  refine g_aload_n C 0 dX3_copy_49 rfl ?_
  refine g_get_r C ob_62 5 (by decide) rfl wd_66 dX3_copy_50 ?_
  refine g_aload_n C 1 dX3_copy_53 rfl ?_
  refine g_get_r C ob_4 5 (by decide) rfl wd_66 dX3_copy_54 ?_
  refine g_cV0 C (As := [.ref (gad G 11)]) (mem3 := gr (gr (gr (gr (gr mem 62 (upd (upd (mem 62) 0 (mem 4 0)) 1 (mem 4 1))) 64 (cpy 10 (mem 6) (mem 64))) 66 (cpy 10 (mem 8) (mem 66))) 68 (cpy 10 (mem 10) (mem 68))) 70 (cpy 10 (mem 12) (mem 70))) iX6_copy (c_X6_copy l G (gr (gr (gr (gr mem 62 (upd (upd (mem 62) 0 (mem 4 0)) 1 (mem 4 1))) 64 (cpy 10 (mem 6) (mem 64))) 66 (cpy 10 (mem 8) (mem 66))) 68 (cpy 10 (mem 10) (mem 68))) ob_69 ar_70 ob_11 ar_12 (by decide)) wd_333 ob_69 rfl ⟨Nat.le_of_ble_eq_true rfl, Nat.le_of_ble_eq_true rfl⟩ ⟨rfl, rfl⟩ rfl (Nat.le_of_ble_eq_true rfl) dX3_copy_57 (rfl) ?_
  refine g_aload_n C 0 dX3_copy_60 rfl ?_
  refine g_get_r C ob_62 6 (by decide) rfl wd_69 dX3_copy_61 ?_
  refine g_aload_n C 1 dX3_copy_64 rfl ?_
  refine g_get_r C ob_4 6 (by decide) rfl wd_69 dX3_copy_65 ?_
  refine g_cV0 C (As := [.ref (gad G 13)]) (mem3 := gr (gr (gr (gr (gr (gr mem 62 (upd (upd (mem 62) 0 (mem 4 0)) 1 (mem 4 1))) 64 (cpy 10 (mem 6) (mem 64))) 66 (cpy 10 (mem 8) (mem 66))) 68 (cpy 10 (mem 10) (mem 68))) 70 (cpy 10 (mem 12) (mem 70))) 72 (cpy 10 (mem 14) (mem 72))) iX6_copy (c_X6_copy l G (gr (gr (gr (gr (gr mem 62 (upd (upd (mem 62) 0 (mem 4 0)) 1 (mem 4 1))) 64 (cpy 10 (mem 6) (mem 64))) 66 (cpy 10 (mem 8) (mem 66))) 68 (cpy 10 (mem 10) (mem 68))) 70 (cpy 10 (mem 12) (mem 70))) ob_71 ar_72 ob_13 ar_14 (by decide)) wd_333 ob_71 rfl ⟨Nat.le_of_ble_eq_true rfl, Nat.le_of_ble_eq_true rfl⟩ ⟨rfl, rfl⟩ rfl (Nat.le_of_ble_eq_true rfl) dX3_copy_68 (rfl) ?_
  refine g_aload_n C 0 dX3_copy_71 rfl ?_
  refine g_get_r C ob_62 7 (by decide) rfl wd_72 dX3_copy_72 ?_
  refine g_aload_n C 1 dX3_copy_75 rfl ?_
  refine g_get_r C ob_4 7 (by decide) rfl wd_72 dX3_copy_76 ?_
  refine g_cV0 C (As := [.ref (gad G 15)]) (mem3 := gr (gr (gr (gr (gr (gr (gr mem 62 (upd (upd (mem 62) 0 (mem 4 0)) 1 (mem 4 1))) 64 (cpy 10 (mem 6) (mem 64))) 66 (cpy 10 (mem 8) (mem 66))) 68 (cpy 10 (mem 10) (mem 68))) 70 (cpy 10 (mem 12) (mem 70))) 72 (cpy 10 (mem 14) (mem 72))) 74 (cpy 10 (mem 16) (mem 74))) iX6_copy (c_X6_copy l G (gr (gr (gr (gr (gr (gr mem 62 (upd (upd (mem 62) 0 (mem 4 0)) 1 (mem 4 1))) 64 (cpy 10 (mem 6) (mem 64))) 66 (cpy 10 (mem 8) (mem 66))) 68 (cpy 10 (mem 10) (mem 68))) 70 (cpy 10 (mem 12) (mem 70))) 72 (cpy 10 (mem 14) (mem 72))) ob_73 ar_74 ob_15 ar_16 (by decide)) wd_333 ob_73 rfl ⟨Nat.le_of_ble_eq_true rfl, Nat.le_of_ble_eq_true rfl⟩ ⟨rfl, rfl⟩ rfl (Nat.le_of_ble_eq_true rfl) dX3_copy_79 (rfl) ?_
  refine g_aload_n C 0 dX3_copy_82 rfl ?_
  refine g_get_r C ob_62 8 (by decide) rfl wd_74 dX3_copy_83 ?_
  refine g_aload_n C 1 dX3_copy_86 rfl ?_
  refine g_get_r C ob_4 8 (by decide) rfl wd_74 dX3_copy_87 ?_
  refine g_cV0 C (As := [.ref (gad G 17)]) (mem3 := gr (gr (gr (gr (gr (gr (gr (gr mem 62 (upd (upd (mem 62) 0 (mem 4 0)) 1 (mem 4 1))) 64 (cpy 10 (mem 6) (mem 64))) 66 (cpy 10 (mem 8) (mem 66))) 68 (cpy 10 (mem 10) (mem 68))) 70 (cpy 10 (mem 12) (mem 70))) 72 (cpy 10 (mem 14) (mem 72))) 74 (cpy 10 (mem 16) (mem 74))) 76 (cpy 10 (mem 18) (mem 76))) iX6_copy (c_X6_copy l G (gr (gr (gr (gr (gr (gr (gr mem 62 (upd (upd (mem 62) 0 (mem 4 0)) 1 (mem 4 1))) 64 (cpy 10 (mem 6) (mem 64))) 66 (cpy 10 (mem 8) (mem 66))) 68 (cpy 10 (mem 10) (mem 68))) 70 (cpy 10 (mem 12) (mem 70))) 72 (cpy 10 (mem 14) (mem 72))) 74 (cpy 10 (mem 16) (mem 74))) ob_75 ar_76 ob_17 ar_18 (by decide)) wd_333 ob_75 rfl ⟨Nat.le_of_ble_eq_true rfl, Nat.le_of_ble_eq_true rfl⟩ ⟨rfl, rfl⟩ rfl (Nat.le_of_ble_eq_true rfl) dX3_copy_90 (rfl) ?_
  refine g_aload_n C 0 dX3_copy_93 rfl ?_
  refine g_get_r C ob_62 9 (by decide) rfl wd_76 dX3_copy_94 ?_
  refine g_aload_n C 1 dX3_copy_97 rfl ?_
  refine g_get_r C ob_4 9 (by decide) rfl wd_76 dX3_copy_98 ?_
  refine g_cV0 C (As := [.ref (gad G 19)]) (mem3 := gr (gr (gr (gr (gr (gr (gr (gr (gr mem 62 (upd (upd (mem 62) 0 (mem 4 0)) 1 (mem 4 1))) 64 (cpy 10 (mem 6) (mem 64))) 66 (cpy 10 (mem 8) (mem 66))) 68 (cpy 10 (mem 10) (mem 68))) 70 (cpy 10 (mem 12) (mem 70))) 72 (cpy 10 (mem 14) (mem 72))) 74 (cpy 10 (mem 16) (mem 74))) 76 (cpy 10 (mem 18) (mem 76))) 78 (cpy 10 (mem 20) (mem 78))) iX6_copy (c_X6_copy l G (gr (gr (gr (gr (gr (gr (gr (gr mem 62 (upd (upd (mem 62) 0 (mem 4 0)) 1 (mem 4 1))) 64 (cpy 10 (mem 6) (mem 64))) 66 (cpy 10 (mem 8) (mem 66))) 68 (cpy 10 (mem 10) (mem 68))) 70 (cpy 10 (mem 12) (mem 70))) 72 (cpy 10 (mem 14) (mem 72))) 74 (cpy 10 (mem 16) (mem 74))) 76 (cpy 10 (mem 18) (mem 76))) ob_77 ar_78 ob_19 ar_20 (by decide)) wd_333 ob_77 rfl ⟨Nat.le_of_ble_eq_true rfl, Nat.le_of_ble_eq_true rfl⟩ ⟨rfl, rfl⟩ rfl (Nat.le_of_ble_eq_true rfl) dX3_copy_101 (rfl) ?_
  refine g_vret C hQ rfl dX3_copy_104 ?_
  exact ⟨rfl, rfl⟩

set_option maxRecDepth 100000 in
set_option maxHeartbeats 4000000 in
theorem c_X0_copy_59_1 (l : Launch) (G : gG) (mem : gM) : gMet l yX0_copy cX0_copy 2 none rm_X0_copy G [.ref (gad G 79), .ref (gad G 21)] mem (fun a u => a = none ∧ u = gr (gr mem 79 (upd (upd (upd (mem 79) 0 (mem 21 0)) 1 (mem 21 1)) 2 (mem 21 2))) 81 (cpy 10 (mem 23) (mem 81))) := by
  refine g_of (own := RX0) (L0 := [(0, .ref (gad G 79)), (1, .ref (gad G 21))]) (by decide +kernel) rfl (Nat.le_of_ble_eq_true rfl) rfl ?_
  intro p e s m args below meth c C Q hQ
  refine g_aload_n C 0 dX0_copy_0 rfl ?_
  refine g_aload_n C 1 dX0_copy_1 rfl ?_
  refine g_get_i C ob_21 0 (by decide) rfl wd_108 dX0_copy_2 ?_
  refine g_put_i C ob_79 0 (by decide) rfl wd_108 rfl rfl dX0_copy_5 ?_
  refine g_aload_n C 0 dX0_copy_8 rfl ?_
  refine g_aload_n C 1 dX0_copy_9 rfl ?_
  refine g_get_i C ob_21 1 (by decide) rfl wd_112 dX0_copy_10 ?_
  refine g_top (y := mem 21 1) (rfl) ?_
  refine g_put_i C ob_79 1 (by decide) rfl wd_112 rfl rfl dX0_copy_13 ?_
  refine g_mem (mem2 := gr mem 79 (upd (upd (mem 79) 0 (mem 21 0)) 1 (mem 21 1))) (gr_gr _ _ _ _) ?_
  refine g_aload_n C 0 dX0_copy_16 rfl ?_
  refine g_aload_n C 1 dX0_copy_17 rfl ?_
  refine g_get_i C ob_21 2 (by decide) rfl wd_115 dX0_copy_18 ?_
  refine g_top (y := mem 21 2) (rfl) ?_
  refine g_put_i C ob_79 2 (by decide) rfl wd_115 rfl rfl dX0_copy_21 ?_
  refine g_mem (mem2 := gr mem 79 (upd (upd (upd (mem 79) 0 (mem 21 0)) 1 (mem 21 1)) 2 (mem 21 2))) (gr_gr _ _ _ _) ?_
  refine g_aload_n C 0 dX0_copy_24 rfl ?_
  refine g_get_r C ob_79 3 (by decide) rfl wd_118 dX0_copy_25 ?_
  refine g_aload_n C 1 dX0_copy_28 rfl ?_
  refine g_get_r C ob_21 3 (by decide) rfl wd_118 dX0_copy_29 ?_
  refine g_cV0 C (As := [.ref (gad G 22)]) (mem3 := gr (gr mem 79 (upd (upd (upd (mem 79) 0 (mem 21 0)) 1 (mem 21 1)) 2 (mem 21 2))) 81 (cpy 10 (mem 23) (mem 81))) iX6_copy (c_X6_copy l G (gr mem 79 (upd (upd (upd (mem 79) 0 (mem 21 0)) 1 (mem 21 1)) 2 (mem 21 2))) ob_80 ar_81 ob_22 ar_23 (by decide)) wd_338 ob_80 rfl ⟨Nat.le_of_ble_eq_true rfl, Nat.le_of_ble_eq_true rfl⟩ ⟨rfl, rfl⟩ rfl (Nat.le_of_ble_eq_true rfl) dX0_copy_32 (rfl) ?_
  refine g_vret C hQ rfl dX0_copy_35 ?_
  exact ⟨rfl, rfl⟩

set_option maxRecDepth 100000 in
set_option maxHeartbeats 4000000 in
theorem c_X2_copy_59_1 (l : Launch) (G : gG) (mem : gM) : gMet l yX2_copy cX2_copy 2 none rm_X2_copy G [.ref (gad G 84), .ref (gad G 26)] mem (fun a u => a = none ∧ u = gr (gr mem 84 (upd (upd (upd (mem 84) 0 (mem 26 0)) 1 (mem 26 1)) 2 (mem 26 2))) 86 (cpy 140 (mem 28) (mem 86))) := by
  refine g_of (own := RX2) (L0 := [(0, .ref (gad G 84)), (1, .ref (gad G 26))]) (by decide +kernel) rfl (Nat.le_of_ble_eq_true rfl) rfl ?_
  intro p e s m args below meth c C Q hQ
  refine g_aload_n C 0 dX2_copy_0 rfl ?_
  refine g_aload_n C 1 dX2_copy_1 rfl ?_
  refine g_get_i C ob_26 0 (by decide) rfl wd_136 dX2_copy_2 ?_
  refine g_put_i C ob_84 0 (by decide) rfl wd_136 rfl rfl dX2_copy_5 ?_
  refine g_aload_n C 0 dX2_copy_8 rfl ?_
  refine g_aload_n C 1 dX2_copy_9 rfl ?_
  refine g_get_i C ob_26 1 (by decide) rfl wd_138 dX2_copy_10 ?_
  refine g_top (y := mem 26 1) (rfl) ?_
  refine g_put_i C ob_84 1 (by decide) rfl wd_138 rfl rfl dX2_copy_13 ?_
  refine g_mem (mem2 := gr mem 84 (upd (upd (mem 84) 0 (mem 26 0)) 1 (mem 26 1))) (gr_gr _ _ _ _) ?_
  refine g_aload_n C 0 dX2_copy_16 rfl ?_
  refine g_aload_n C 1 dX2_copy_17 rfl ?_
  refine g_get_i C ob_26 2 (by decide) rfl wd_140 dX2_copy_18 ?_
  refine g_top (y := mem 26 2) (rfl) ?_
  refine g_put_i C ob_84 2 (by decide) rfl wd_140 rfl rfl dX2_copy_21 ?_
  refine g_mem (mem2 := gr mem 84 (upd (upd (upd (mem 84) 0 (mem 26 0)) 1 (mem 26 1)) 2 (mem 26 2))) (gr_gr _ _ _ _) ?_
  refine g_aload_n C 0 dX2_copy_24 rfl ?_
  refine g_get_r C ob_84 3 (by decide) rfl wd_142 dX2_copy_25 ?_
  refine g_aload_n C 1 dX2_copy_28 rfl ?_
  refine g_get_r C ob_26 3 (by decide) rfl wd_142 dX2_copy_29 ?_
  refine g_cV0 C (As := [.ref (gad G 27)]) (mem3 := gr (gr mem 84 (upd (upd (upd (mem 84) 0 (mem 26 0)) 1 (mem 26 1)) 2 (mem 26 2))) 86 (cpy 140 (mem 28) (mem 86))) iX6_copy (c_X6_copy l G (gr mem 84 (upd (upd (upd (mem 84) 0 (mem 26 0)) 1 (mem 26 1)) 2 (mem 26 2))) ob_85 ar_86 ob_27 ar_28 (by decide)) wd_343 ob_85 rfl ⟨Nat.le_of_ble_eq_true rfl, Nat.le_of_ble_eq_true rfl⟩ ⟨rfl, rfl⟩ rfl (Nat.le_of_ble_eq_true rfl) dX2_copy_32 (rfl) ?_
  refine g_vret C hQ rfl dX2_copy_35 ?_
  exact ⟨rfl, rfl⟩

set_option maxRecDepth 100000 in
set_option maxHeartbeats 4000000 in
theorem c_X7_copy_59_1 (l : Launch) (G : gG) (mem : gM) : gMet l yX7_copy cX7_copy 2 none rm_X7_copy G [.ref (gad G 59), .ref (gad G 1)] mem (fun x u => x = none ∧ CopyS 59 1 mem u) := by
  refine g_of (own := RX7) (L0 := [(0, .ref (gad G 59)), (1, .ref (gad G 1))]) (by decide +kernel) rfl (Nat.le_of_ble_eq_true rfl) rfl ?_
  intro p e s m args below meth c C Q hQ
  refine g_aload_n C 0 dX7_copy_0 rfl ?_
  refine g_get_r C ob_59 0 (by decide) rfl wd_156 dX7_copy_1 ?_
  refine g_aload_n C 1 dX7_copy_4 rfl ?_
  refine g_get_r C ob_1 0 (by decide) rfl wd_156 dX7_copy_5 ?_
  refine g_cV0 C (As := [.ref (gad G 2)]) (mem3 := gr mem 61 (cpy 5 (mem 3) (mem 61))) iX6_copy (c_X6_copy l G mem ob_60 ar_61 ob_2 ar_3 (by decide)) wd_319 ob_60 rfl ⟨Nat.le_of_ble_eq_true rfl, Nat.le_of_ble_eq_true rfl⟩ ⟨rfl, rfl⟩ rfl (Nat.le_of_ble_eq_true rfl) dX7_copy_8 (rfl) ?_
  refine g_aload_n C 0 dX7_copy_11 rfl ?_
  refine g_get_r C ob_59 1 (by decide) rfl wd_159 dX7_copy_12 ?_
  refine g_aload_n C 1 dX7_copy_15 rfl ?_
  refine g_get_r C ob_1 1 (by decide) rfl wd_159 dX7_copy_16 ?_
  refine g_cV0 C (As := [.ref (gad G 4)]) (mem3 := gr (gr (gr (gr (gr (gr (gr (gr (gr (gr mem 61 (cpy 5 (mem 3) (mem 61))) 62 (upd (upd (mem 62) 0 (mem 4 0)) 1 (mem 4 1))) 64 (cpy 10 (mem 6) (mem 64))) 66 (cpy 10 (mem 8) (mem 66))) 68 (cpy 10 (mem 10) (mem 68))) 70 (cpy 10 (mem 12) (mem 70))) 72 (cpy 10 (mem 14) (mem 72))) 74 (cpy 10 (mem 16) (mem 74))) 76 (cpy 10 (mem 18) (mem 76))) 78 (cpy 10 (mem 20) (mem 78))) iX3_copy (c_X3_copy_59_1 l G (gr mem 61 (cpy 5 (mem 3) (mem 61)))) wd_329 ob_62 rfl ⟨Nat.le_of_ble_eq_true rfl, Nat.le_of_ble_eq_true rfl⟩ ⟨rfl, rfl⟩ rfl (Nat.le_of_ble_eq_true rfl) dX7_copy_19 (rfl) ?_
  refine g_aload_n C 0 dX7_copy_22 rfl ?_
  refine g_get_r C ob_59 2 (by decide) rfl wd_162 dX7_copy_23 ?_
  refine g_aload_n C 1 dX7_copy_26 rfl ?_
  refine g_get_r C ob_1 2 (by decide) rfl wd_162 dX7_copy_27 ?_
  refine g_cV0 C (As := [.ref (gad G 21)]) (mem3 := gr (gr (gr (gr (gr (gr (gr (gr (gr (gr (gr (gr mem 61 (cpy 5 (mem 3) (mem 61))) 62 (upd (upd (mem 62) 0 (mem 4 0)) 1 (mem 4 1))) 64 (cpy 10 (mem 6) (mem 64))) 66 (cpy 10 (mem 8) (mem 66))) 68 (cpy 10 (mem 10) (mem 68))) 70 (cpy 10 (mem 12) (mem 70))) 72 (cpy 10 (mem 14) (mem 72))) 74 (cpy 10 (mem 16) (mem 74))) 76 (cpy 10 (mem 18) (mem 76))) 78 (cpy 10 (mem 20) (mem 78))) 79 (upd (upd (upd (mem 79) 0 (mem 21 0)) 1 (mem 21 1)) 2 (mem 21 2))) 81 (cpy 10 (mem 23) (mem 81))) iX0_copy (c_X0_copy_59_1 l G (gr (gr (gr (gr (gr (gr (gr (gr (gr (gr mem 61 (cpy 5 (mem 3) (mem 61))) 62 (upd (upd (mem 62) 0 (mem 4 0)) 1 (mem 4 1))) 64 (cpy 10 (mem 6) (mem 64))) 66 (cpy 10 (mem 8) (mem 66))) 68 (cpy 10 (mem 10) (mem 68))) 70 (cpy 10 (mem 12) (mem 70))) 72 (cpy 10 (mem 14) (mem 72))) 74 (cpy 10 (mem 16) (mem 74))) 76 (cpy 10 (mem 18) (mem 76))) 78 (cpy 10 (mem 20) (mem 78)))) wd_334 ob_79 rfl ⟨Nat.le_of_ble_eq_true rfl, Nat.le_of_ble_eq_true rfl⟩ ⟨rfl, rfl⟩ rfl (Nat.le_of_ble_eq_true rfl) dX7_copy_30 (rfl) ?_
  refine g_aload_n C 0 dX7_copy_33 rfl ?_
  refine g_get_r C ob_59 3 (by decide) rfl wd_165 dX7_copy_34 ?_
  refine g_aload_n C 1 dX7_copy_37 rfl ?_
  refine g_get_r C ob_1 3 (by decide) rfl wd_165 dX7_copy_38 ?_
  refine g_cV0 C (As := [.ref (gad G 24)]) (mem3 := gr (gr (gr (gr (gr (gr (gr (gr (gr (gr (gr (gr (gr mem 61 (cpy 5 (mem 3) (mem 61))) 62 (upd (upd (mem 62) 0 (mem 4 0)) 1 (mem 4 1))) 64 (cpy 10 (mem 6) (mem 64))) 66 (cpy 10 (mem 8) (mem 66))) 68 (cpy 10 (mem 10) (mem 68))) 70 (cpy 10 (mem 12) (mem 70))) 72 (cpy 10 (mem 14) (mem 72))) 74 (cpy 10 (mem 16) (mem 74))) 76 (cpy 10 (mem 18) (mem 76))) 78 (cpy 10 (mem 20) (mem 78))) 79 (upd (upd (upd (mem 79) 0 (mem 21 0)) 1 (mem 21 1)) 2 (mem 21 2))) 81 (cpy 10 (mem 23) (mem 81))) 83 (cpy 200 (mem 25) (mem 83))) iX6_copy (c_X6_copy l G (gr (gr (gr (gr (gr (gr (gr (gr (gr (gr (gr (gr mem 61 (cpy 5 (mem 3) (mem 61))) 62 (upd (upd (mem 62) 0 (mem 4 0)) 1 (mem 4 1))) 64 (cpy 10 (mem 6) (mem 64))) 66 (cpy 10 (mem 8) (mem 66))) 68 (cpy 10 (mem 10) (mem 68))) 70 (cpy 10 (mem 12) (mem 70))) 72 (cpy 10 (mem 14) (mem 72))) 74 (cpy 10 (mem 16) (mem 74))) 76 (cpy 10 (mem 18) (mem 76))) 78 (cpy 10 (mem 20) (mem 78))) 79 (upd (upd (upd (mem 79) 0 (mem 21 0)) 1 (mem 21 1)) 2 (mem 21 2))) 81 (cpy 10 (mem 23) (mem 81))) ob_82 ar_83 ob_24 ar_25 (by decide)) wd_319 ob_82 rfl ⟨Nat.le_of_ble_eq_true rfl, Nat.le_of_ble_eq_true rfl⟩ ⟨rfl, rfl⟩ rfl (Nat.le_of_ble_eq_true rfl) dX7_copy_41 (rfl) ?_
  refine g_aload_n C 0 dX7_copy_44 rfl ?_
  refine g_get_r C ob_59 4 (by decide) rfl wd_168 dX7_copy_45 ?_
  refine g_aload_n C 1 dX7_copy_48 rfl ?_
  refine g_get_r C ob_1 4 (by decide) rfl wd_168 dX7_copy_49 ?_
  refine g_cV0 C (As := [.ref (gad G 26)]) (mem3 := gr (gr (gr (gr (gr (gr (gr (gr (gr (gr (gr (gr (gr (gr (gr mem 61 (cpy 5 (mem 3) (mem 61))) 62 (upd (upd (mem 62) 0 (mem 4 0)) 1 (mem 4 1))) 64 (cpy 10 (mem 6) (mem 64))) 66 (cpy 10 (mem 8) (mem 66))) 68 (cpy 10 (mem 10) (mem 68))) 70 (cpy 10 (mem 12) (mem 70))) 72 (cpy 10 (mem 14) (mem 72))) 74 (cpy 10 (mem 16) (mem 74))) 76 (cpy 10 (mem 18) (mem 76))) 78 (cpy 10 (mem 20) (mem 78))) 79 (upd (upd (upd (mem 79) 0 (mem 21 0)) 1 (mem 21 1)) 2 (mem 21 2))) 81 (cpy 10 (mem 23) (mem 81))) 83 (cpy 200 (mem 25) (mem 83))) 84 (upd (upd (upd (mem 84) 0 (mem 26 0)) 1 (mem 26 1)) 2 (mem 26 2))) 86 (cpy 140 (mem 28) (mem 86))) iX2_copy (c_X2_copy_59_1 l G (gr (gr (gr (gr (gr (gr (gr (gr (gr (gr (gr (gr (gr mem 61 (cpy 5 (mem 3) (mem 61))) 62 (upd (upd (mem 62) 0 (mem 4 0)) 1 (mem 4 1))) 64 (cpy 10 (mem 6) (mem 64))) 66 (cpy 10 (mem 8) (mem 66))) 68 (cpy 10 (mem 10) (mem 68))) 70 (cpy 10 (mem 12) (mem 70))) 72 (cpy 10 (mem 14) (mem 72))) 74 (cpy 10 (mem 16) (mem 74))) 76 (cpy 10 (mem 18) (mem 76))) 78 (cpy 10 (mem 20) (mem 78))) 79 (upd (upd (upd (mem 79) 0 (mem 21 0)) 1 (mem 21 1)) 2 (mem 21 2))) 81 (cpy 10 (mem 23) (mem 81))) 83 (cpy 200 (mem 25) (mem 83)))) wd_339 ob_84 rfl ⟨Nat.le_of_ble_eq_true rfl, Nat.le_of_ble_eq_true rfl⟩ ⟨rfl, rfl⟩ rfl (Nat.le_of_ble_eq_true rfl) dX7_copy_52 (rfl) ?_
  refine g_vret C hQ rfl dX7_copy_55 ?_
  refine ⟨rfl, fun k hk => ?_, rfl, ⟨rfl, rfl⟩, ⟨rfl, rfl, rfl, rfl, rfl, rfl, rfl, rfl⟩, ⟨rfl, rfl, rfl⟩, rfl, rfl, ⟨rfl, rfl, rfl⟩, rfl⟩
  rw [gr_n (by omega), gr_n (by omega), gr_n (by omega), gr_n (by omega), gr_n (by omega), gr_n (by omega), gr_n (by omega), gr_n (by omega), gr_n (by omega), gr_n (by omega), gr_n (by omega), gr_n (by omega), gr_n (by omega), gr_n (by omega), gr_n (by omega)]

set_option maxRecDepth 100000 in
set_option maxHeartbeats 4000000 in
theorem c_X3_copy_87_1 (l : Launch) (G : gG) (mem : gM) : gMet l yX3_copy cX3_copy 2 none rm_X3_copy G [.ref (gad G 90), .ref (gad G 4)] mem (fun a u => a = none ∧ u = gr (gr (gr (gr (gr (gr (gr (gr (gr mem 90 (upd (upd (mem 90) 0 (mem 4 0)) 1 (mem 4 1))) 92 (cpy 10 (mem 6) (mem 92))) 94 (cpy 10 (mem 8) (mem 94))) 96 (cpy 10 (mem 10) (mem 96))) 98 (cpy 10 (mem 12) (mem 98))) 100 (cpy 10 (mem 14) (mem 100))) 102 (cpy 10 (mem 16) (mem 102))) 104 (cpy 10 (mem 18) (mem 104))) 106 (cpy 10 (mem 20) (mem 106))) := by
  refine g_of (own := RX3) (L0 := [(0, .ref (gad G 90)), (1, .ref (gad G 4))]) (by decide +kernel) rfl (Nat.le_of_ble_eq_true rfl) rfl ?_
  intro p e s m args below meth c C Q hQ
  refine g_aload_n C 0 dX3_copy_0 rfl ?_
  refine g_aload_n C 1 dX3_copy_1 rfl ?_
  refine g_get_i C ob_4 0 (by decide) rfl wd_50 dX3_copy_2 ?_
  refine g_put_i C ob_90 0 (by decide) rfl wd_50 rfl rfl dX3_copy_5 ?_
  refine g_aload_n C 0 dX3_copy_8 rfl ?_
  refine g_aload_n C 1 dX3_copy_9 rfl ?_
  refine g_get_i C ob_4 1 (by decide) rfl wd_56 dX3_copy_10 ?_
  refine g_top (y := mem 4 1) (rfl) ?_
  refine g_put_i C ob_90 1 (by decide) rfl wd_56 rfl rfl dX3_copy_13 ?_
  refine g_mem (mem2 := gr mem 90 (upd (upd (mem 90) 0 (mem 4 0)) 1 (mem 4 1))) (gr_gr _ _ _ _) ?_
  refine g_aload_n C 0 dX3_copy_16 rfl ?_
  refine g_get_r C ob_90 2 (by decide) rfl wd_58 dX3_copy_17 ?_
  refine g_aload_n C 1 dX3_copy_20 rfl ?_
  refine g_get_r C ob_4 2 (by decide) rfl wd_58 dX3_copy_21 ?_
  refine g_cV0 C (As := [.ref (gad G 5)]) (mem3 := gr (gr mem 90 (upd (upd (mem 90) 0 (mem 4 0)) 1 (mem 4 1))) 92 (cpy 10 (mem 6) (mem 92))) iX6_copy (c_X6_copy l G (gr mem 90 (upd (upd (mem 90) 0 (mem 4 0)) 1 (mem 4 1))) ob_91 ar_92 ob_5 ar_6 (by decide)) wd_333 ob_91 rfl ⟨Nat.le_of_ble_eq_true rfl, Nat.le_of_ble_eq_true rfl⟩ ⟨rfl, rfl⟩ rfl (Nat.le_of_ble_eq_true rfl) dX3_copy_24 (rfl) ?_
  refine g_aload_n C 0 dX3_copy_27 rfl ?_
  refine g_get_r C ob_90 3 (by decide) rfl wd_61 dX3_copy_28 ?_
  refine g_aload_n C 1 dX3_copy_31 rfl ?_
  refine g_get_r C ob_4 3 (by decide) rfl wd_61 dX3_copy_32 ?_
  refine g_cV0 C (As := [.ref (gad G 7)]) (mem3 := gr (gr (gr mem 90 (upd (upd (mem 90) 0 (mem 4 0)) 1 (mem 4 1))) 92 (cpy 10 (mem 6) (mem 92))) 94 (cpy 10 (mem 8) (mem 94))) iX6_copy (c_X6_copy l G (gr (gr mem 90 (upd (upd (mem 90) 0 (mem 4 0)) 1 (mem 4 1))) 92 (cpy 10 (mem 6) (mem 92))) ob_93 ar_94 ob_7 ar_8 (by decide)) wd_333 ob_93 rfl ⟨Nat.le_of_ble_eq_true rfl, Nat.le_of_ble_eq_true rfl⟩ ⟨rfl, rfl⟩ rfl (Nat.le_of_ble_eq_true rfl) dX3_copy_35 (rfl) ?_
  refine g_aload_n C 0 dX3_copy_38 rfl ?_
  refine g_get_r C ob_90 4 (by decide) rfl wd_63 dX3_copy_39 ?_
  refine g_aload_n C 1 dX3_copy_42 rfl ?_
  refine g_get_r C ob_4 4 (by decide) rfl wd_63 dX3_copy_43 ?_
  refine g_cV0 C (As := [.ref (gad G 9)]) (mem3 := gr (gr (gr (gr mem 90 (upd (upd (mem 90) 0 (mem 4 0)) 1 (mem 4 1))) 92 (cpy 10 (mem 6) (mem 92))) 94 (cpy 10 (mem 8) (mem 94))) 96 (cpy 10 (mem 10) (mem 96))) iX6_copy (c_X6_copy l G (gr (gr (gr mem 90 (upd (upd (mem 90) 0 (mem 4 0)) 1 (mem 4 1))) 92 (cpy 10 (mem 6) (mem 92))) 94 (cpy 10 (mem 8) (mem 94))) ob_95 ar_96 ob_9 ar_10 (by decide)) wd_333 ob_95 rfl ⟨Nat.le_of_ble_eq_true rfl, Nat.le_of_ble_eq_true rfl⟩ ⟨rfl, rfl⟩ rfl (Nat.le_of_ble_eq_true rfl) dX3_copy_46 (rfl) ?_
  refine g_aload_n C 0 dX3_copy_49 rfl ?_
  refine g_get_r C ob_90 5 (by decide) rfl wd_66 dX3_copy_50 ?_
  refine g_aload_n C 1 dX3_copy_53 rfl ?_
  refine g_get_r C ob_4 5 (by decide) rfl wd_66 dX3_copy_54 ?_
  refine g_cV0 C (As := [.ref (gad G 11)]) (mem3 := gr (gr (gr (gr (gr mem 90 (upd (upd (mem 90) 0 (mem 4 0)) 1 (mem 4 1))) 92 (cpy 10 (mem 6) (mem 92))) 94 (cpy 10 (mem 8) (mem 94))) 96 (cpy 10 (mem 10) (mem 96))) 98 (cpy 10 (mem 12) (mem 98))) iX6_copy (c_X6_copy l G (gr (gr (gr (gr mem 90 (upd (upd (mem 90) 0 (mem 4 0)) 1 (mem 4 1))) 92 (cpy 10 (mem 6) (mem 92))) 94 (cpy 10 (mem 8) (mem 94))) 96 (cpy 10 (mem 10) (mem 96))) ob_97 ar_98 ob_11 ar_12 (by decide)) wd_333 ob_97 rfl ⟨Nat.le_of_ble_eq_true rfl, Nat.le_of_ble_eq_true rfl⟩ ⟨rfl, rfl⟩ rfl (Nat.le_of_ble_eq_true rfl) dX3_copy_57 (rfl) ?_
  refine g_aload_n C 0 dX3_copy_60 rfl ?_
  refine g_get_r C ob_90 6 (by decide) rfl wd_69 dX3_copy_61 ?_
  refine g_aload_n C 1 dX3_copy_64 rfl ?_
  refine g_get_r C ob_4 6 (by decide) rfl wd_69 dX3_copy_65 ?_
  refine g_cV0 C (As := [.ref (gad G 13)]) (mem3 := gr (gr (gr (gr (gr (gr mem 90 (upd (upd (mem 90) 0 (mem 4 0)) 1 (mem 4 1))) 92 (cpy 10 (mem 6) (mem 92))) 94 (cpy 10 (mem 8) (mem 94))) 96 (cpy 10 (mem 10) (mem 96))) 98 (cpy 10 (mem 12) (mem 98))) 100 (cpy 10 (mem 14) (mem 100))) iX6_copy (c_X6_copy l G (gr (gr (gr (gr (gr mem 90 (upd (upd (mem 90) 0 (mem 4 0)) 1 (mem 4 1))) 92 (cpy 10 (mem 6) (mem 92))) 94 (cpy 10 (mem 8) (mem 94))) 96 (cpy 10 (mem 10) (mem 96))) 98 (cpy 10 (mem 12) (mem 98))) ob_99 ar_100 ob_13 ar_14 (by decide)) wd_333 ob_99 rfl ⟨Nat.le_of_ble_eq_true rfl, Nat.le_of_ble_eq_true rfl⟩ ⟨rfl, rfl⟩ rfl (Nat.le_of_ble_eq_true rfl) dX3_copy_68 (rfl) ?_
  refine g_aload_n C 0 dX3_copy_71 rfl ?_
  refine g_get_r C ob_90 7 (by decide) rfl wd_72 dX3_copy_72 ?_
  refine g_aload_n C 1 dX3_copy_75 rfl ?_
  refine g_get_r C ob_4 7 (by decide) rfl wd_72 dX3_copy_76 ?_
  refine g_cV0 C (As := [.ref (gad G 15)]) (mem3 := gr (gr (gr (gr (gr (gr (gr mem 90 (upd (upd (mem 90) 0 (mem 4 0)) 1 (mem 4 1))) 92 (cpy 10 (mem 6) (mem 92))) 94 (cpy 10 (mem 8) (mem 94))) 96 (cpy 10 (mem 10) (mem 96))) 98 (cpy 10 (mem 12) (mem 98))) 100 (cpy 10 (mem 14) (mem 100))) 102 (cpy 10 (mem 16) (mem 102))) iX6_copy (c_X6_copy l G (gr (gr (gr (gr (gr (gr mem 90 (upd (upd (mem 90) 0 (mem 4 0)) 1 (mem 4 1))) 92 (cpy 10 (mem 6) (mem 92))) 94 (cpy 10 (mem 8) (mem 94))) 96 (cpy 10 (mem 10) (mem 96))) 98 (cpy 10 (mem 12) (mem 98))) 100 (cpy 10 (mem 14) (mem 100))) ob_101 ar_102 ob_15 ar_16 (by decide)) wd_333 ob_101 rfl ⟨Nat.le_of_ble_eq_true rfl, Nat.le_of_ble_eq_true rfl⟩ ⟨rfl, rfl⟩ rfl (Nat.le_of_ble_eq_true rfl) dX3_copy_79 (rfl) ?_
  refine g_aload_n C 0 dX3_copy_82 rfl ?_
  refine g_get_r C ob_90 8 (by decide) rfl wd_74 dX3_copy_83 ?_
  refine g_aload_n C 1 dX3_copy_86 rfl ?_
  refine g_get_r C ob_4 8 (by decide) rfl wd_74 dX3_copy_87 ?_
  refine g_cV0 C (As := [.ref (gad G 17)]) (mem3 := gr (gr (gr (gr (gr (gr (gr (gr mem 90 (upd (upd (mem 90) 0 (mem 4 0)) 1 (mem 4 1))) 92 (cpy 10 (mem 6) (mem 92))) 94 (cpy 10 (mem 8) (mem 94))) 96 (cpy 10 (mem 10) (mem 96))) 98 (cpy 10 (mem 12) (mem 98))) 100 (cpy 10 (mem 14) (mem 100))) 102 (cpy 10 (mem 16) (mem 102))) 104 (cpy 10 (mem 18) (mem 104))) iX6_copy (c_X6_copy l G (gr (gr (gr (gr (gr (gr (gr mem 90 (upd (upd (mem 90) 0 (mem 4 0)) 1 (mem 4 1))) 92 (cpy 10 (mem 6) (mem 92))) 94 (cpy 10 (mem 8) (mem 94))) 96 (cpy 10 (mem 10) (mem 96))) 98 (cpy 10 (mem 12) (mem 98))) 100 (cpy 10 (mem 14) (mem 100))) 102 (cpy 10 (mem 16) (mem 102))) ob_103 ar_104 ob_17 ar_18 (by decide)) wd_333 ob_103 rfl ⟨Nat.le_of_ble_eq_true rfl, Nat.le_of_ble_eq_true rfl⟩ ⟨rfl, rfl⟩ rfl (Nat.le_of_ble_eq_true rfl) dX3_copy_90 (rfl) ?_
  refine g_aload_n C 0 dX3_copy_93 rfl ?_
  refine g_get_r C ob_90 9 (by decide) rfl wd_76 dX3_copy_94 ?_
  refine g_aload_n C 1 dX3_copy_97 rfl ?_
  refine g_get_r C ob_4 9 (by decide) rfl wd_76 dX3_copy_98 ?_
  refine g_cV0 C (As := [.ref (gad G 19)]) (mem3 := gr (gr (gr (gr (gr (gr (gr (gr (gr mem 90 (upd (upd (mem 90) 0 (mem 4 0)) 1 (mem 4 1))) 92 (cpy 10 (mem 6) (mem 92))) 94 (cpy 10 (mem 8) (mem 94))) 96 (cpy 10 (mem 10) (mem 96))) 98 (cpy 10 (mem 12) (mem 98))) 100 (cpy 10 (mem 14) (mem 100))) 102 (cpy 10 (mem 16) (mem 102))) 104 (cpy 10 (mem 18) (mem 104))) 106 (cpy 10 (mem 20) (mem 106))) iX6_copy (c_X6_copy l G (gr (gr (gr (gr (gr (gr (gr (gr mem 90 (upd (upd (mem 90) 0 (mem 4 0)) 1 (mem 4 1))) 92 (cpy 10 (mem 6) (mem 92))) 94 (cpy 10 (mem 8) (mem 94))) 96 (cpy 10 (mem 10) (mem 96))) 98 (cpy 10 (mem 12) (mem 98))) 100 (cpy 10 (mem 14) (mem 100))) 102 (cpy 10 (mem 16) (mem 102))) 104 (cpy 10 (mem 18) (mem 104))) ob_105 ar_106 ob_19 ar_20 (by decide)) wd_333 ob_105 rfl ⟨Nat.le_of_ble_eq_true rfl, Nat.le_of_ble_eq_true rfl⟩ ⟨rfl, rfl⟩ rfl (Nat.le_of_ble_eq_true rfl) dX3_copy_101 (rfl) ?_
  refine g_vret C hQ rfl dX3_copy_104 ?_
  exact ⟨rfl, rfl⟩

set_option maxRecDepth 100000 in
set_option maxHeartbeats 4000000 in
theorem c_X0_copy_87_1 (l : Launch) (G : gG) (mem : gM) : gMet l yX0_copy cX0_copy 2 none rm_X0_copy G [.ref (gad G 107), .ref (gad G 21)] mem (fun a u => a = none ∧ u = gr (gr mem 107 (upd (upd (upd (mem 107) 0 (mem 21 0)) 1 (mem 21 1)) 2 (mem 21 2))) 109 (cpy 10 (mem 23) (mem 109))) := by
  refine g_of (own := RX0) (L0 := [(0, .ref (gad G 107)), (1, .ref (gad G 21))]) (by decide +kernel) rfl (Nat.le_of_ble_eq_true rfl) rfl ?_
  intro p e s m args below meth c C Q hQ
  refine g_aload_n C 0 dX0_copy_0 rfl ?_
  refine g_aload_n C 1 dX0_copy_1 rfl ?_
  refine g_get_i C ob_21 0 (by decide) rfl wd_108 dX0_copy_2 ?_
  refine g_put_i C ob_107 0 (by decide) rfl wd_108 rfl rfl dX0_copy_5 ?_
  refine g_aload_n C 0 dX0_copy_8 rfl ?_
  refine g_aload_n C 1 dX0_copy_9 rfl ?_
  refine g_get_i C ob_21 1 (by decide) rfl wd_112 dX0_copy_10 ?_
  refine g_top (y := mem 21 1) (rfl) ?_
  refine g_put_i C ob_107 1 (by decide) rfl wd_112 rfl rfl dX0_copy_13 ?_
  refine g_mem (mem2 := gr mem 107 (upd (upd (mem 107) 0 (mem 21 0)) 1 (mem 21 1))) (gr_gr _ _ _ _) ?_
  refine g_aload_n C 0 dX0_copy_16 rfl ?_
  refine g_aload_n C 1 dX0_copy_17 rfl ?_
  refine g_get_i C ob_21 2 (by decide) rfl wd_115 dX0_copy_18 ?_
  refine g_top (y := mem 21 2) (rfl) ?_
  refine g_put_i C ob_107 2 (by decide) rfl wd_115 rfl rfl dX0_copy_21 ?_
  refine g_mem (mem2 := gr mem 107 (upd (upd (upd (mem 107) 0 (mem 21 0)) 1 (mem 21 1)) 2 (mem 21 2))) (gr_gr _ _ _ _) ?_
  refine g_aload_n C 0 dX0_copy_24 rfl ?_
  refine g_get_r C ob_107 3 (by decide) rfl wd_118 dX0_copy_25 ?_
  refine g_aload_n C 1 dX0_copy_28 rfl ?_
  refine g_get_r C ob_21 3 (by decide) rfl wd_118 dX0_copy_29 ?_
  refine g_cV0 C (As := [.ref (gad G 22)]) (mem3 := gr (gr mem 107 (upd (upd (upd (mem 107) 0 (mem 21 0)) 1 (mem 21 1)) 2 (mem 21 2))) 109 (cpy 10 (mem 23) (mem 109))) iX6_copy (c_X6_copy l G (gr mem 107 (upd (upd (upd (mem 107) 0 (mem 21 0)) 1 (mem 21 1)) 2 (mem 21 2))) ob_108 ar_109 ob_22 ar_23 (by decide)) wd_338 ob_108 rfl ⟨Nat.le_of_ble_eq_true rfl, Nat.le_of_ble_eq_true rfl⟩ ⟨rfl, rfl⟩ rfl (Nat.le_of_ble_eq_true rfl) dX0_copy_32 (rfl) ?_
  refine g_vret C hQ rfl dX0_copy_35 ?_
  exact ⟨rfl, rfl⟩

set_option maxRecDepth 100000 in
set_option maxHeartbeats 4000000 in
theorem c_X2_copy_87_1 (l : Launch) (G : gG) (mem : gM) : gMet l yX2_copy cX2_copy 2 none rm_X2_copy G [.ref (gad G 112), .ref (gad G 26)] mem (fun a u => a = none ∧ u = gr (gr mem 112 (upd (upd (upd (mem 112) 0 (mem 26 0)) 1 (mem 26 1)) 2 (mem 26 2))) 114 (cpy 140 (mem 28) (mem 114))) := by
  refine g_of (own := RX2) (L0 := [(0, .ref (gad G 112)), (1, .ref (gad G 26))]) (by decide +kernel) rfl (Nat.le_of_ble_eq_true rfl) rfl ?_
  intro p e s m args below meth c C Q hQ
  refine g_aload_n C 0 dX2_copy_0 rfl ?_
  refine g_aload_n C 1 dX2_copy_1 rfl ?_
  refine g_get_i C ob_26 0 (by decide) rfl wd_136 dX2_copy_2 ?_
  refine g_put_i C ob_112 0 (by decide) rfl wd_136 rfl rfl dX2_copy_5 ?_
  refine g_aload_n C 0 dX2_copy_8 rfl ?_
  refine g_aload_n C 1 dX2_copy_9 rfl ?_
  refine g_get_i C ob_26 1 (by decide) rfl wd_138 dX2_copy_10 ?_
  refine g_top (y := mem 26 1) (rfl) ?_
  refine g_put_i C ob_112 1 (by decide) rfl wd_138 rfl rfl dX2_copy_13 ?_
  refine g_mem (mem2 := gr mem 112 (upd (upd (mem 112) 0 (mem 26 0)) 1 (mem 26 1))) (gr_gr _ _ _ _) ?_
  refine g_aload_n C 0 dX2_copy_16 rfl ?_
  refine g_aload_n C 1 dX2_copy_17 rfl ?_
  refine g_get_i C ob_26 2 (by decide) rfl wd_140 dX2_copy_18 ?_
  refine g_top (y := mem 26 2) (rfl) ?_
  refine g_put_i C ob_112 2 (by decide) rfl wd_140 rfl rfl dX2_copy_21 ?_
  refine g_mem (mem2 := gr mem 112 (upd (upd (upd (mem 112) 0 (mem 26 0)) 1 (mem 26 1)) 2 (mem 26 2))) (gr_gr _ _ _ _) ?_
  refine g_aload_n C 0 dX2_copy_24 rfl ?_
  refine g_get_r C ob_112 3 (by decide) rfl wd_142 dX2_copy_25 ?_
  refine g_aload_n C 1 dX2_copy_28 rfl ?_
  refine g_get_r C ob_26 3 (by decide) rfl wd_142 dX2_copy_29 ?_
  refine g_cV0 C (As := [.ref (gad G 27)]) (mem3 := gr (gr mem 112 (upd (upd (upd (mem 112) 0 (mem 26 0)) 1 (mem 26 1)) 2 (mem 26 2))) 114 (cpy 140 (mem 28) (mem 114))) iX6_copy (c_X6_copy l G (gr mem 112 (upd (upd (upd (mem 112) 0 (mem 26 0)) 1 (mem 26 1)) 2 (mem 26 2))) ob_113 ar_114 ob_27 ar_28 (by decide)) wd_343 ob_113 rfl ⟨Nat.le_of_ble_eq_true rfl, Nat.le_of_ble_eq_true rfl⟩ ⟨rfl, rfl⟩ rfl (Nat.le_of_ble_eq_true rfl) dX2_copy_32 (rfl) ?_
  refine g_vret C hQ rfl dX2_copy_35 ?_
  exact ⟨rfl, rfl⟩

set_option maxRecDepth 100000 in
set_option maxHeartbeats 4000000 in
theorem c_X7_copy_87_1 (l : Launch) (G : gG) (mem : gM) : gMet l yX7_copy cX7_copy 2 none rm_X7_copy G [.ref (gad G 87), .ref (gad G 1)] mem (fun x u => x = none ∧ CopyS 87 1 mem u) := by
  refine g_of (own := RX7) (L0 := [(0, .ref (gad G 87)), (1, .ref (gad G 1))]) (by decide +kernel) rfl (Nat.le_of_ble_eq_true rfl) rfl ?_
  intro p e s m args below meth c C Q hQ
  refine g_aload_n C 0 dX7_copy_0 rfl ?_
  refine g_get_r C ob_87 0 (by decide) rfl wd_156 dX7_copy_1 ?_
  refine g_aload_n C 1 dX7_copy_4 rfl ?_
  refine g_get_r C ob_1 0 (by decide) rfl wd_156 dX7_copy_5 ?_
  refine g_cV0 C (As := [.ref (gad G 2)]) (mem3 := gr mem 89 (cpy 5 (mem 3) (mem 89))) iX6_copy (c_X6_copy l G mem ob_88 ar_89 ob_2 ar_3 (by decide)) wd_319 ob_88 rfl ⟨Nat.le_of_ble_eq_true rfl, Nat.le_of_ble_eq_true rfl⟩ ⟨rfl, rfl⟩ rfl (Nat.le_of_ble_eq_true rfl) dX7_copy_8 (rfl) ?_
  refine g_aload_n C 0 dX7_copy_11 rfl ?_
  refine g_get_r C ob_87 1 (by decide) rfl wd_159 dX7_copy_12 ?_
  refine g_aload_n C 1 dX7_copy_15 rfl ?_
  refine g_get_r C ob_1 1 (by decide) rfl wd_159 dX7_copy_16 ?_
  refine g_cV0 C (As := [.ref (gad G 4)]) (mem3 := gr (gr (gr (gr (gr (gr (gr (gr (gr (gr mem 89 (cpy 5 (mem 3) (mem 89))) 90 (upd (upd (mem 90) 0 (mem 4 0)) 1 (mem 4 1))) 92 (cpy 10 (mem 6) (mem 92))) 94 (cpy 10 (mem 8) (mem 94))) 96 (cpy 10 (mem 10) (mem 96))) 98 (cpy 10 (mem 12) (mem 98))) 100 (cpy 10 (mem 14) (mem 100))) 102 (cpy 10 (mem 16) (mem 102))) 104 (cpy 10 (mem 18) (mem 104))) 106 (cpy 10 (mem 20) (mem 106))) iX3_copy (c_X3_copy_87_1 l G (gr mem 89 (cpy 5 (mem 3) (mem 89)))) wd_329 ob_90 rfl ⟨Nat.le_of_ble_eq_true rfl, Nat.le_of_ble_eq_true rfl⟩ ⟨rfl, rfl⟩ rfl (Nat.le_of_ble_eq_true rfl) dX7_copy_19 (rfl) ?_
  refine g_aload_n C 0 dX7_copy_22 rfl ?_
  refine g_get_r C ob_87 2 (by decide) rfl wd_162 dX7_copy_23 ?_
  refine g_aload_n C 1 dX7_copy_26 rfl ?_
  refine g_get_r C ob_1 2 (by decide) rfl wd_162 dX7_copy_27 ?_
  refine g_cV0 C (As := [.ref (gad G 21)]) (mem3 := gr (gr (gr (gr (gr (gr (gr (gr (gr (gr (gr (gr mem 89 (cpy 5 (mem 3) (mem 89))) 90 (upd (upd (mem 90) 0 (mem 4 0)) 1 (mem 4 1))) 92 (cpy 10 (mem 6) (mem 92))) 94 (cpy 10 (mem 8) (mem 94))) 96 (cpy 10 (mem 10) (mem 96))) 98 (cpy 10 (mem 12) (mem 98))) 100 (cpy 10 (mem 14) (mem 100))) 102 (cpy 10 (mem 16) (mem 102))) 104 (cpy 10 (mem 18) (mem 104))) 106 (cpy 10 (mem 20) (mem 106))) 107 (upd (upd (upd (mem 107) 0 (mem 21 0)) 1 (mem 21 1)) 2 (mem 21 2))) 109 (cpy 10 (mem 23) (mem 109))) iX0_copy (c_X0_copy_87_1 l G (gr (gr (gr (gr (gr (gr (gr (gr (gr (gr mem 89 (cpy 5 (mem 3) (mem 89))) 90 (upd (upd (mem 90) 0 (mem 4 0)) 1 (mem 4 1))) 92 (cpy 10 (mem 6) (mem 92))) 94 (cpy 10 (mem 8) (mem 94))) 96 (cpy 10 (mem 10) (mem 96))) 98 (cpy 10 (mem 12) (mem 98))) 100 (cpy 10 (mem 14) (mem 100))) 102 (cpy 10 (mem 16) (mem 102))) 104 (cpy 10 (mem 18) (mem 104))) 106 (cpy 10 (mem 20) (mem 106)))) wd_334 ob_107 rfl ⟨Nat.le_of_ble_eq_true rfl, Nat.le_of_ble_eq_true rfl⟩ ⟨rfl, rfl⟩ rfl (Nat.le_of_ble_eq_true rfl) dX7_copy_30 (rfl) ?_
  refine g_aload_n C 0 dX7_copy_33 rfl ?_
  refine g_get_r C ob_87 3 (by decide) rfl wd_165 dX7_copy_34 ?_
  refine g_aload_n C 1 dX7_copy_37 rfl ?_
  refine g_get_r C ob_1 3 (by decide) rfl wd_165 dX7_copy_38 ?_
  refine g_cV0 C (As := [.ref (gad G 24)]) (mem3 := gr (gr (gr (gr (gr (gr (gr (gr (gr (gr (gr (gr (gr mem 89 (cpy 5 (mem 3) (mem 89))) 90 (upd (upd (mem 90) 0 (mem 4 0)) 1 (mem 4 1))) 92 (cpy 10 (mem 6) (mem 92))) 94 (cpy 10 (mem 8) (mem 94))) 96 (cpy 10 (mem 10) (mem 96))) 98 (cpy 10 (mem 12) (mem 98))) 100 (cpy 10 (mem 14) (mem 100))) 102 (cpy 10 (mem 16) (mem 102))) 104 (cpy 10 (mem 18) (mem 104))) 106 (cpy 10 (mem 20) (mem 106))) 107 (upd (upd (upd (mem 107) 0 (mem 21 0)) 1 (mem 21 1)) 2 (mem 21 2))) 109 (cpy 10 (mem 23) (mem 109))) 111 (cpy 200 (mem 25) (mem 111))) iX6_copy (c_X6_copy l G (gr (gr (gr (gr (gr (gr (gr (gr (gr (gr (gr (gr mem 89 (cpy 5 (mem 3) (mem 89))) 90 (upd (upd (mem 90) 0 (mem 4 0)) 1 (mem 4 1))) 92 (cpy 10 (mem 6) (mem 92))) 94 (cpy 10 (mem 8) (mem 94))) 96 (cpy 10 (mem 10) (mem 96))) 98 (cpy 10 (mem 12) (mem 98))) 100 (cpy 10 (mem 14) (mem 100))) 102 (cpy 10 (mem 16) (mem 102))) 104 (cpy 10 (mem 18) (mem 104))) 106 (cpy 10 (mem 20) (mem 106))) 107 (upd (upd (upd (mem 107) 0 (mem 21 0)) 1 (mem 21 1)) 2 (mem 21 2))) 109 (cpy 10 (mem 23) (mem 109))) ob_110 ar_111 ob_24 ar_25 (by decide)) wd_319 ob_110 rfl ⟨Nat.le_of_ble_eq_true rfl, Nat.le_of_ble_eq_true rfl⟩ ⟨rfl, rfl⟩ rfl (Nat.le_of_ble_eq_true rfl) dX7_copy_41 (rfl) ?_
  refine g_aload_n C 0 dX7_copy_44 rfl ?_
  refine g_get_r C ob_87 4 (by decide) rfl wd_168 dX7_copy_45 ?_
  refine g_aload_n C 1 dX7_copy_48 rfl ?_
  refine g_get_r C ob_1 4 (by decide) rfl wd_168 dX7_copy_49 ?_
  refine g_cV0 C (As := [.ref (gad G 26)]) (mem3 := gr (gr (gr (gr (gr (gr (gr (gr (gr (gr (gr (gr (gr (gr (gr mem 89 (cpy 5 (mem 3) (mem 89))) 90 (upd (upd (mem 90) 0 (mem 4 0)) 1 (mem 4 1))) 92 (cpy 10 (mem 6) (mem 92))) 94 (cpy 10 (mem 8) (mem 94))) 96 (cpy 10 (mem 10) (mem 96))) 98 (cpy 10 (mem 12) (mem 98))) 100 (cpy 10 (mem 14) (mem 100))) 102 (cpy 10 (mem 16) (mem 102))) 104 (cpy 10 (mem 18) (mem 104))) 106 (cpy 10 (mem 20) (mem 106))) 107 (upd (upd (upd (mem 107) 0 (mem 21 0)) 1 (mem 21 1)) 2 (mem 21 2))) 109 (cpy 10 (mem 23) (mem 109))) 111 (cpy 200 (mem 25) (mem 111))) 112 (upd (upd (upd (mem 112) 0 (mem 26 0)) 1 (mem 26 1)) 2 (mem 26 2))) 114 (cpy 140 (mem 28) (mem 114))) iX2_copy (c_X2_copy_87_1 l G (gr (gr (gr (gr (gr (gr (gr (gr (gr (gr (gr (gr (gr mem 89 (cpy 5 (mem 3) (mem 89))) 90 (upd (upd (mem 90) 0 (mem 4 0)) 1 (mem 4 1))) 92 (cpy 10 (mem 6) (mem 92))) 94 (cpy 10 (mem 8) (mem 94))) 96 (cpy 10 (mem 10) (mem 96))) 98 (cpy 10 (mem 12) (mem 98))) 100 (cpy 10 (mem 14) (mem 100))) 102 (cpy 10 (mem 16) (mem 102))) 104 (cpy 10 (mem 18) (mem 104))) 106 (cpy 10 (mem 20) (mem 106))) 107 (upd (upd (upd (mem 107) 0 (mem 21 0)) 1 (mem 21 1)) 2 (mem 21 2))) 109 (cpy 10 (mem 23) (mem 109))) 111 (cpy 200 (mem 25) (mem 111)))) wd_339 ob_112 rfl ⟨Nat.le_of_ble_eq_true rfl, Nat.le_of_ble_eq_true rfl⟩ ⟨rfl, rfl⟩ rfl (Nat.le_of_ble_eq_true rfl) dX7_copy_52 (rfl) ?_
  refine g_vret C hQ rfl dX7_copy_55 ?_
  refine ⟨rfl, fun k hk => ?_, rfl, ⟨rfl, rfl⟩, ⟨rfl, rfl, rfl, rfl, rfl, rfl, rfl, rfl⟩, ⟨rfl, rfl, rfl⟩, rfl, rfl, ⟨rfl, rfl, rfl⟩, rfl⟩
  rw [gr_n (by omega), gr_n (by omega), gr_n (by omega), gr_n (by omega), gr_n (by omega), gr_n (by omega), gr_n (by omega), gr_n (by omega), gr_n (by omega), gr_n (by omega), gr_n (by omega), gr_n (by omega), gr_n (by omega), gr_n (by omega), gr_n (by omega)]

set_option maxRecDepth 100000 in
set_option maxHeartbeats 4000000 in
theorem c_X3_copy_115_1 (l : Launch) (G : gG) (mem : gM) : gMet l yX3_copy cX3_copy 2 none rm_X3_copy G [.ref (gad G 118), .ref (gad G 4)] mem (fun a u => a = none ∧ u = gr (gr (gr (gr (gr (gr (gr (gr (gr mem 118 (upd (upd (mem 118) 0 (mem 4 0)) 1 (mem 4 1))) 120 (cpy 10 (mem 6) (mem 120))) 122 (cpy 10 (mem 8) (mem 122))) 124 (cpy 10 (mem 10) (mem 124))) 126 (cpy 10 (mem 12) (mem 126))) 128 (cpy 10 (mem 14) (mem 128))) 130 (cpy 10 (mem 16) (mem 130))) 132 (cpy 10 (mem 18) (mem 132))) 134 (cpy 10 (mem 20) (mem 134))) := by
  refine g_of (own := RX3) (L0 := [(0, .ref (gad G 118)), (1, .ref (gad G 4))]) (by decide +kernel) rfl (Nat.le_of_ble_eq_true rfl) rfl ?_
  intro p e s m args below meth c C Q hQ
  refine g_aload_n C 0 dX3_copy_0 rfl ?_
  refine g_aload_n C 1 dX3_copy_1 rfl ?_
  refine g_get_i C ob_4 0 (by decide) rfl wd_50 dX3_copy_2 ?_
  refine g_put_i C ob_118 0 (by decide) rfl wd_50 rfl rfl dX3_copy_5 ?_
  refine g_aload_n C 0 dX3_copy_8 rfl ?_
  refine g_aload_n C 1 dX3_copy_9 rfl ?_
  refine g_get_i C ob_4 1 (by decide) rfl wd_56 dX3_copy_10 ?_
  refine g_top (y := mem 4 1) (rfl) ?_
  refine g_put_i C ob_118 1 (by decide) rfl wd_56 rfl rfl dX3_copy_13 ?_
  refine g_mem (mem2 := gr mem 118 (upd (upd (mem 118) 0 (mem 4 0)) 1 (mem 4 1))) (gr_gr _ _ _ _) ?_
  refine g_aload_n C 0 dX3_copy_16 rfl ?_
  refine g_get_r C ob_118 2 (by decide) rfl wd_58 dX3_copy_17 ?_
  refine g_aload_n C 1 dX3_copy_20 rfl ?_
  refine g_get_r C ob_4 2 (by decide) rfl wd_58 dX3_copy_21 ?_
  refine g_cV0 C (As := [.ref (gad G 5)]) (mem3 := gr (gr mem 118 (upd (upd (mem 118) 0 (mem 4 0)) 1 (mem 4 1))) 120 (cpy 10 (mem 6) (mem 120))) iX6_copy (c_X6_copy l G (gr mem 118 (upd (upd (mem 118) 0 (mem 4 0)) 1 (mem 4 1))) ob_119 ar_120 ob_5 ar_6 (by decide)) wd_333 ob_119 rfl ⟨Nat.le_of_ble_eq_true rfl, Nat.le_of_ble_eq_true rfl⟩ ⟨rfl, rfl⟩ rfl (Nat.le_of_ble_eq_true rfl) dX3_copy_24 (rfl) ?_
  refine g_aload_n C 0 dX3_copy_27 rfl ?_
  refine g_get_r C ob_118 3 (by decide) rfl wd_61 dX3_copy_28 ?_
  refine g_aload_n C 1 dX3_copy_31 rfl ?_
  refine g_get_r C ob_4 3 (by decide) rfl wd_61 dX3_copy_32 ?_
  refine g_cV0 C (As := [.ref (gad G 7)]) (mem3 := gr (gr (gr mem 118 (upd (upd (mem 118) 0 (mem 4 0)) 1 (mem 4 1))) 120 (cpy 10 (mem 6) (mem 120))) 122 (cpy 10 (mem 8) (mem 122))) iX6_copy (c_X6_copy l G (gr (gr mem 118 (upd (upd (mem 118) 0 (mem 4 0)) 1 (mem 4 1))) 120 (cpy 10 (mem 6) (mem 120))) ob_121 ar_122 ob_7 ar_8 (by decide)) wd_333 ob_121 rfl ⟨Nat.le_of_ble_eq_true rfl, Nat.le_of_ble_eq_true rfl⟩ ⟨rfl, rfl⟩ rfl (Nat.le_of_ble_eq_true rfl) dX3_copy_35 (rfl) ?_
  refine g_aload_n C 0 dX3_copy_38 rfl ?_
  refine g_get_r C ob_118 4 (by decide) rfl wd_63 dX3_copy_39 ?_
  refine g_aload_n C 1 dX3_copy_42 rfl ?_
  refine g_get_r C ob_4 4 (by decide) rfl wd_63 dX3_copy_43 ?_
  refine g_cV0 C (As := [.ref (gad G 9)]) (mem3 := gr (gr (gr (gr mem 118 (upd (upd (mem 118) 0 (mem 4 0)) 1 (mem 4 1))) 120 (cpy 10 (mem 6) (mem 120))) 122 (cpy 10 (mem 8) (mem 122))) 124 (cpy 10 (mem 10) (mem 124))) iX6_copy (c_X6_copy l G (gr (gr (gr mem 118 (upd (upd (mem 118) 0 (mem 4 0)) 1 (mem 4 1))) 120 (cpy 10 (mem 6) (mem 120))) 122 (cpy 10 (mem 8) (mem 122))) ob_123 ar_124 ob_9 ar_10 (by decide)) wd_333 ob_123 rfl ⟨Nat.le_of_ble_eq_true rfl, Nat.le_of_ble_eq_true rfl⟩ ⟨rfl, rfl⟩ rfl (Nat.le_of_ble_eq_true rfl) dX3_copy_46 (rfl) ?_
  refine g_aload_n C 0 dX3_copy_49 rfl ?_
  refine g_get_r C ob_118 5 (by decide) rfl wd_66 dX3_copy_50 ?_
  refine g_aload_n C 1 dX3_copy_53 rfl ?_
  refine g_get_r C ob_4 5 (by decide) rfl wd_66 dX3_copy_54 ?_
  refine g_cV0 C (As := [.ref (gad G 11)]) (mem3 := gr (gr (gr (gr (gr mem 118 (upd (upd (mem 118) 0 (mem 4 0)) 1 (mem 4 1))) 120 (cpy 10 (mem 6) (mem 120))) 122 (cpy 10 (mem 8) (mem 122))) 124 (cpy 10 (mem 10) (mem 124))) 126 (cpy 10 (mem 12) (mem 126))) iX6_copy (c_X6_copy l G (gr (gr (gr (gr mem 118 (upd (upd (mem 118) 0 (mem 4 0)) 1 (mem 4 1))) 120 (cpy 10 (mem 6) (mem 120))) 122 (cpy 10 (mem 8) (mem 122))) 124 (cpy 10 (mem 10) (mem 124))) ob_125 ar_126 ob_11 ar_12 (by decide)) wd_333 ob_125 rfl ⟨Nat.le_of_ble_eq_true rfl, Nat.le_of_ble_eq_true rfl⟩ ⟨rfl, rfl⟩ rfl (Nat.le_of_ble_eq_true rfl) dX3_copy_57 (rfl) ?_
  refine g_aload_n C 0 dX3_copy_60 rfl ?_
  refine g_get_r C ob_118 6 (by decide) rfl wd_69 dX3_copy_61 ?_
  refine g_aload_n C 1 dX3_copy_64 rfl ?_
  refine g_get_r C ob_4 6 (by decide) rfl wd_69 dX3_copy_65 ?_
  refine g_cV0 C (As := [.ref (gad G 13)]) (mem3 := gr (gr (gr (gr (gr (gr mem 118 (upd (upd (mem 118) 0 (mem 4 0)) 1 (mem 4 1))) 120 (cpy 10 (mem 6) (mem 120))) 122 (cpy 10 (mem 8) (mem 122))) 124 (cpy 10 (mem 10) (mem 124))) 126 (cpy 10 (mem 12) (mem 126))) 128 (cpy 10 (mem 14) (mem 128))) iX6_copy (c_X6_copy l G (gr (gr (gr (gr (gr mem 118 (upd (upd (mem 118) 0 (mem 4 0)) 1 (mem 4 1))) 120 (cpy 10 (mem 6) (mem 120))) 122 (cpy 10 (mem 8) (mem 122))) 124 (cpy 10 (mem 10) (mem 124))) 126 (cpy 10 (mem 12) (mem 126))) ob_127 ar_128 ob_13 ar_14 (by decide)) wd_333 ob_127 rfl ⟨Nat.le_of_ble_eq_true rfl, Nat.le_of_ble_eq_true rfl⟩ ⟨rfl, rfl⟩ rfl (Nat.le_of_ble_eq_true rfl) dX3_copy_68 (rfl) ?_
  refine g_aload_n C 0 dX3_copy_71 rfl ?_
  refine g_get_r C ob_118 7 (by decide) rfl wd_72 dX3_copy_72 ?_
  refine g_aload_n C 1 dX3_copy_75 rfl ?_
  refine g_get_r C ob_4 7 (by decide) rfl wd_72 dX3_copy_76 ?_
  refine g_cV0 C (As := [.ref (gad G 15)]) (mem3 := gr (gr (gr (gr (gr (gr (gr mem 118 (upd (upd (mem 118) 0 (mem 4 0)) 1 (mem 4 1))) 120 (cpy 10 (mem 6) (mem 120))) 122 (cpy 10 (mem 8) (mem 122))) 124 (cpy 10 (mem 10) (mem 124))) 126 (cpy 10 (mem 12) (mem 126))) 128 (cpy 10 (mem 14) (mem 128))) 130 (cpy 10 (mem 16) (mem 130))) iX6_copy (c_X6_copy l G (gr (gr (gr (gr (gr (gr mem 118 (upd (upd (mem 118) 0 (mem 4 0)) 1 (mem 4 1))) 120 (cpy 10 (mem 6) (mem 120))) 122 (cpy 10 (mem 8) (mem 122))) 124 (cpy 10 (mem 10) (mem 124))) 126 (cpy 10 (mem 12) (mem 126))) 128 (cpy 10 (mem 14) (mem 128))) ob_129 ar_130 ob_15 ar_16 (by decide)) wd_333 ob_129 rfl ⟨Nat.le_of_ble_eq_true rfl, Nat.le_of_ble_eq_true rfl⟩ ⟨rfl, rfl⟩ rfl (Nat.le_of_ble_eq_true rfl) dX3_copy_79 (rfl) ?_
  refine g_aload_n C 0 dX3_copy_82 rfl ?_
  refine g_get_r C ob_118 8 (by decide) rfl wd_74 dX3_copy_83 ?_
  refine g_aload_n C 1 dX3_copy_86 rfl ?_
  refine g_get_r C ob_4 8 (by decide) rfl wd_74 dX3_copy_87 ?_
  refine g_cV0 C (As := [.ref (gad G 17)]) (mem3 := gr (gr (gr (gr (gr (gr (gr (gr mem 118 (upd (upd (mem 118) 0 (mem 4 0)) 1 (mem 4 1))) 120 (cpy 10 (mem 6) (mem 120))) 122 (cpy 10 (mem 8) (mem 122))) 124 (cpy 10 (mem 10) (mem 124))) 126 (cpy 10 (mem 12) (mem 126))) 128 (cpy 10 (mem 14) (mem 128))) 130 (cpy 10 (mem 16) (mem 130))) 132 (cpy 10 (mem 18) (mem 132))) iX6_copy (c_X6_copy l G (gr (gr (gr (gr (gr (gr (gr mem 118 (upd (upd (mem 118) 0 (mem 4 0)) 1 (mem 4 1))) 120 (cpy 10 (mem 6) (mem 120))) 122 (cpy 10 (mem 8) (mem 122))) 124 (cpy 10 (mem 10) (mem 124))) 126 (cpy 10 (mem 12) (mem 126))) 128 (cpy 10 (mem 14) (mem 128))) 130 (cpy 10 (mem 16) (mem 130))) ob_131 ar_132 ob_17 ar_18 (by decide)) wd_333 ob_131 rfl ⟨Nat.le_of_ble_eq_true rfl, Nat.le_of_ble_eq_true rfl⟩ ⟨rfl, rfl⟩ rfl (Nat.le_of_ble_eq_true rfl) dX3_copy_90 (rfl) ?_
  refine g_aload_n C 0 dX3_copy_93 rfl ?_
  refine g_get_r C ob_118 9 (by decide) rfl wd_76 dX3_copy_94 ?_
  refine g_aload_n C 1 dX3_copy_97 rfl ?_
  refine g_get_r C ob_4 9 (by decide) rfl wd_76 dX3_copy_98 ?_
  refine g_cV0 C (As := [.ref (gad G 19)]) (mem3 := gr (gr (gr (gr (gr (gr (gr (gr (gr mem 118 (upd (upd (mem 118) 0 (mem 4 0)) 1 (mem 4 1))) 120 (cpy 10 (mem 6) (mem 120))) 122 (cpy 10 (mem 8) (mem 122))) 124 (cpy 10 (mem 10) (mem 124))) 126 (cpy 10 (mem 12) (mem 126))) 128 (cpy 10 (mem 14) (mem 128))) 130 (cpy 10 (mem 16) (mem 130))) 132 (cpy 10 (mem 18) (mem 132))) 134 (cpy 10 (mem 20) (mem 134))) iX6_copy (c_X6_copy l G (gr (gr (gr (gr (gr (gr (gr (gr mem 118 (upd (upd (mem 118) 0 (mem 4 0)) 1 (mem 4 1))) 120 (cpy 10 (mem 6) (mem 120))) 122 (cpy 10 (mem 8) (mem 122))) 124 (cpy 10 (mem 10) (mem 124))) 126 (cpy 10 (mem 12) (mem 126))) 128 (cpy 10 (mem 14) (mem 128))) 130 (cpy 10 (mem 16) (mem 130))) 132 (cpy 10 (mem 18) (mem 132))) ob_133 ar_134 ob_19 ar_20 (by decide)) wd_333 ob_133 rfl ⟨Nat.le_of_ble_eq_true rfl, Nat.le_of_ble_eq_true rfl⟩ ⟨rfl, rfl⟩ rfl (Nat.le_of_ble_eq_true rfl) dX3_copy_101 (rfl) ?_
  refine g_vret C hQ rfl dX3_copy_104 ?_
  exact ⟨rfl, rfl⟩

set_option maxRecDepth 100000 in
set_option maxHeartbeats 4000000 in
theorem c_X0_copy_115_1 (l : Launch) (G : gG) (mem : gM) : gMet l yX0_copy cX0_copy 2 none rm_X0_copy G [.ref (gad G 135), .ref (gad G 21)] mem (fun a u => a = none ∧ u = gr (gr mem 135 (upd (upd (upd (mem 135) 0 (mem 21 0)) 1 (mem 21 1)) 2 (mem 21 2))) 137 (cpy 10 (mem 23) (mem 137))) := by
  refine g_of (own := RX0) (L0 := [(0, .ref (gad G 135)), (1, .ref (gad G 21))]) (by decide +kernel) rfl (Nat.le_of_ble_eq_true rfl) rfl ?_
  intro p e s m args below meth c C Q hQ
  refine g_aload_n C 0 dX0_copy_0 rfl ?_
  refine g_aload_n C 1 dX0_copy_1 rfl ?_
  refine g_get_i C ob_21 0 (by decide) rfl wd_108 dX0_copy_2 ?_
  refine g_put_i C ob_135 0 (by decide) rfl wd_108 rfl rfl dX0_copy_5 ?_
  refine g_aload_n C 0 dX0_copy_8 rfl ?_
  refine g_aload_n C 1 dX0_copy_9 rfl ?_
  refine g_get_i C ob_21 1 (by decide) rfl wd_112 dX0_copy_10 ?_
  refine g_top (y := mem 21 1) (rfl) ?_
  refine g_put_i C ob_135 1 (by decide) rfl wd_112 rfl rfl dX0_copy_13 ?_
  refine g_mem (mem2 := gr mem 135 (upd (upd (mem 135) 0 (mem 21 0)) 1 (mem 21 1))) (gr_gr _ _ _ _) ?_
  refine g_aload_n C 0 dX0_copy_16 rfl ?_
  refine g_aload_n C 1 dX0_copy_17 rfl ?_
  refine g_get_i C ob_21 2 (by decide) rfl wd_115 dX0_copy_18 ?_
  refine g_top (y := mem 21 2) (rfl) ?_
  refine g_put_i C ob_135 2 (by decide) rfl wd_115 rfl rfl dX0_copy_21 ?_
  refine g_mem (mem2 := gr mem 135 (upd (upd (upd (mem 135) 0 (mem 21 0)) 1 (mem 21 1)) 2 (mem 21 2))) (gr_gr _ _ _ _) ?_
  refine g_aload_n C 0 dX0_copy_24 rfl ?_
  refine g_get_r C ob_135 3 (by decide) rfl wd_118 dX0_copy_25 ?_
  refine g_aload_n C 1 dX0_copy_28 rfl ?_
  refine g_get_r C ob_21 3 (by decide) rfl wd_118 dX0_copy_29 ?_
  refine g_cV0 C (As := [.ref (gad G 22)]) (mem3 := gr (gr mem 135 (upd (upd (upd (mem 135) 0 (mem 21 0)) 1 (mem 21 1)) 2 (mem 21 2))) 137 (cpy 10 (mem 23) (mem 137))) iX6_copy (c_X6_copy l G (gr mem 135 (upd (upd (upd (mem 135) 0 (mem 21 0)) 1 (mem 21 1)) 2 (mem 21 2))) ob_136 ar_137 ob_22 ar_23 (by decide)) wd_338 ob_136 rfl ⟨Nat.le_of_ble_eq_true rfl, Nat.le_of_ble_eq_true rfl⟩ ⟨rfl, rfl⟩ rfl (Nat.le_of_ble_eq_true rfl) dX0_copy_32 (rfl) ?_
  refine g_vret C hQ rfl dX0_copy_35 ?_
  exact ⟨rfl, rfl⟩

set_option maxRecDepth 100000 in
set_option maxHeartbeats 4000000 in
theorem c_X2_copy_115_1 (l : Launch) (G : gG) (mem : gM) : gMet l yX2_copy cX2_copy 2 none rm_X2_copy G [.ref (gad G 140), .ref (gad G 26)] mem (fun a u => a = none ∧ u = gr (gr mem 140 (upd (upd (upd (mem 140) 0 (mem 26 0)) 1 (mem 26 1)) 2 (mem 26 2))) 142 (cpy 140 (mem 28) (mem 142))) := by
  refine g_of (own := RX2) (L0 := [(0, .ref (gad G 140)), (1, .ref (gad G 26))]) (by decide +kernel) rfl (Nat.le_of_ble_eq_true rfl) rfl ?_
  intro p e s m args below meth c C Q hQ
  refine g_aload_n C 0 dX2_copy_0 rfl ?_
  refine g_aload_n C 1 dX2_copy_1 rfl ?_
  refine g_get_i C ob_26 0 (by decide) rfl wd_136 dX2_copy_2 ?_
  refine g_put_i C ob_140 0 (by decide) rfl wd_136 rfl rfl dX2_copy_5 ?_
  refine g_aload_n C 0 dX2_copy_8 rfl ?_
  refine g_aload_n C 1 dX2_copy_9 rfl ?_
  refine g_get_i C ob_26 1 (by decide) rfl wd_138 dX2_copy_10 ?_
  refine g_top (y := mem 26 1) (rfl) ?_
  refine g_put_i C ob_140 1 (by decide) rfl wd_138 rfl rfl dX2_copy_13 ?_
  refine g_mem (mem2 := gr mem 140 (upd (upd (mem 140) 0 (mem 26 0)) 1 (mem 26 1))) (gr_gr _ _ _ _) ?_
  refine g_aload_n C 0 dX2_copy_16 rfl ?_
  refine g_aload_n C 1 dX2_copy_17 rfl ?_
  refine g_get_i C ob_26 2 (by decide) rfl wd_140 dX2_copy_18 ?_
  refine g_top (y := mem 26 2) (rfl) ?_
  refine g_put_i C ob_140 2 (by decide) rfl wd_140 rfl rfl dX2_copy_21 ?_
  refine g_mem (mem2 := gr mem 140 (upd (upd (upd (mem 140) 0 (mem 26 0)) 1 (mem 26 1)) 2 (mem 26 2))) (gr_gr _ _ _ _) ?_
  refine g_aload_n C 0 dX2_copy_24 rfl ?_
  refine g_get_r C ob_140 3 (by decide) rfl wd_142 dX2_copy_25 ?_
  refine g_aload_n C 1 dX2_copy_28 rfl ?_
  refine g_get_r C ob_26 3 (by decide) rfl wd_142 dX2_copy_29 ?_
  refine g_cV0 C (As := [.ref (gad G 27)]) (mem3 := gr (gr mem 140 (upd (upd (upd (mem 140) 0 (mem 26 0)) 1 (mem 26 1)) 2 (mem 26 2))) 142 (cpy 140 (mem 28) (mem 142))) iX6_copy (c_X6_copy l G (gr mem 140 (upd (upd (upd (mem 140) 0 (mem 26 0)) 1 (mem 26 1)) 2 (mem 26 2))) ob_141 ar_142 ob_27 ar_28 (by decide)) wd_343 ob_141 rfl ⟨Nat.le_of_ble_eq_true rfl, Nat.le_of_ble_eq_true rfl⟩ ⟨rfl, rfl⟩ rfl (Nat.le_of_ble_eq_true rfl) dX2_copy_32 (rfl) ?_
  refine g_vret C hQ rfl dX2_copy_35 ?_
  exact ⟨rfl, rfl⟩

set_option maxRecDepth 100000 in
set_option maxHeartbeats 4000000 in
theorem c_X7_copy_115_1 (l : Launch) (G : gG) (mem : gM) : gMet l yX7_copy cX7_copy 2 none rm_X7_copy G [.ref (gad G 115), .ref (gad G 1)] mem (fun x u => x = none ∧ CopyS 115 1 mem u) := by
  refine g_of (own := RX7) (L0 := [(0, .ref (gad G 115)), (1, .ref (gad G 1))]) (by decide +kernel) rfl (Nat.le_of_ble_eq_true rfl) rfl ?_
  intro p e s m args below meth c C Q hQ
  refine g_aload_n C 0 dX7_copy_0 rfl ?_
  refine g_get_r C ob_115 0 (by decide) rfl wd_156 dX7_copy_1 ?_
  refine g_aload_n C 1 dX7_copy_4 rfl ?_
  refine g_get_r C ob_1 0 (by decide) rfl wd_156 dX7_copy_5 ?_
  refine g_cV0 C (As := [.ref (gad G 2)]) (mem3 := gr mem 117 (cpy 5 (mem 3) (mem 117))) iX6_copy (c_X6_copy l G mem ob_116 ar_117 ob_2 ar_3 (by decide)) wd_319 ob_116 rfl ⟨Nat.le_of_ble_eq_true rfl, Nat.le_of_ble_eq_true rfl⟩ ⟨rfl, rfl⟩ rfl (Nat.le_of_ble_eq_true rfl) dX7_copy_8 (rfl) ?_
  refine g_aload_n C 0 dX7_copy_11 rfl ?_
  refine g_get_r C ob_115 1 (by decide) rfl wd_159 dX7_copy_12 ?_
  refine g_aload_n C 1 dX7_copy_15 rfl ?_
  refine g_get_r C ob_1 1 (by decide) rfl wd_159 dX7_copy_16 ?_
  refine g_cV0 C (As := [.ref (gad G 4)]) (mem3 := gr (gr (gr (gr (gr (gr (gr (gr (gr (gr mem 117 (cpy 5 (mem 3) (mem 117))) 118 (upd (upd (mem 118) 0 (mem 4 0)) 1 (mem 4 1))) 120 (cpy 10 (mem 6) (mem 120))) 122 (cpy 10 (mem 8) (mem 122))) 124 (cpy 10 (mem 10) (mem 124))) 126 (cpy 10 (mem 12) (mem 126))) 128 (cpy 10 (mem 14) (mem 128))) 130 (cpy 10 (mem 16) (mem 130))) 132 (cpy 10 (mem 18) (mem 132))) 134 (cpy 10 (mem 20) (mem 134))) iX3_copy (c_X3_copy_115_1 l G (gr mem 117 (cpy 5 (mem 3) (mem 117)))) wd_329 ob_118 rfl ⟨Nat.le_of_ble_eq_true rfl, Nat.le_of_ble_eq_true rfl⟩ ⟨rfl, rfl⟩ rfl (Nat.le_of_ble_eq_true rfl) dX7_copy_19 (rfl) ?_
  refine g_aload_n C 0 dX7_copy_22 rfl ?_
  refine g_get_r C ob_115 2 (by decide) rfl wd_162 dX7_copy_23 ?_
  refine g_aload_n C 1 dX7_copy_26 rfl ?_
  refine g_get_r C ob_1 2 (by decide) rfl wd_162 dX7_copy_27 ?_
  refine g_cV0 C (As := [.ref (gad G 21)]) (mem3 := gr (gr (gr (gr (gr (gr (gr (gr (gr (gr (gr (gr mem 117 (cpy 5 (mem 3) (mem 117))) 118 (upd (upd (mem 118) 0 (mem 4 0)) 1 (mem 4 1))) 120 (cpy 10 (mem 6) (mem 120))) 122 (cpy 10 (mem 8) (mem 122))) 124 (cpy 10 (mem 10) (mem 124))) 126 (cpy 10 (mem 12) (mem 126))) 128 (cpy 10 (mem 14) (mem 128))) 130 (cpy 10 (mem 16) (mem 130))) 132 (cpy 10 (mem 18) (mem 132))) 134 (cpy 10 (mem 20) (mem 134))) 135 (upd (upd (upd (mem 135) 0 (mem 21 0)) 1 (mem 21 1)) 2 (mem 21 2))) 137 (cpy 10 (mem 23) (mem 137))) iX0_copy (c_X0_copy_115_1 l G (gr (gr (gr (gr (gr (gr (gr (gr (gr (gr mem 117 (cpy 5 (mem 3) (mem 117))) 118 (upd (upd (mem 118) 0 (mem 4 0)) 1 (mem 4 1))) 120 (cpy 10 (mem 6) (mem 120))) 122 (cpy 10 (mem 8) (mem 122))) 124 (cpy 10 (mem 10) (mem 124))) 126 (cpy 10 (mem 12) (mem 126))) 128 (cpy 10 (mem 14) (mem 128))) 130 (cpy 10 (mem 16) (mem 130))) 132 (cpy 10 (mem 18) (mem 132))) 134 (cpy 10 (mem 20) (mem 134)))) wd_334 ob_135 rfl ⟨Nat.le_of_ble_eq_true rfl, Nat.le_of_ble_eq_true rfl⟩ ⟨rfl, rfl⟩ rfl (Nat.le_of_ble_eq_true rfl) dX7_copy_30 (rfl) ?_
  refine g_aload_n C 0 dX7_copy_33 rfl ?_
  refine g_get_r C ob_115 3 (by decide) rfl wd_165 dX7_copy_34 ?_
  refine g_aload_n C 1 dX7_copy_37 rfl ?_
  refine g_get_r C ob_1 3 (by decide) rfl wd_165 dX7_copy_38 ?_
  refine g_cV0 C (As := [.ref (gad G 24)]) (mem3 := gr (gr (gr (gr (gr (gr (gr (gr (gr (gr (gr (gr (gr mem 117 (cpy 5 (mem 3) (mem 117))) 118 (upd (upd (mem 118) 0 (mem 4 0)) 1 (mem 4 1))) 120 (cpy 10 (mem 6) (mem 120))) 122 (cpy 10 (mem 8) (mem 122))) 124 (cpy 10 (mem 10) (mem 124))) 126 (cpy 10 (mem 12) (mem 126))) 128 (cpy 10 (mem 14) (mem 128))) 130 (cpy 10 (mem 16) (mem 130))) 132 (cpy 10 (mem 18) (mem 132))) 134 (cpy 10 (mem 20) (mem 134))) 135 (upd (upd (upd (mem 135) 0 (mem 21 0)) 1 (mem 21 1)) 2 (mem 21 2))) 137 (cpy 10 (mem 23) (mem 137))) 139 (cpy 200 (mem 25) (mem 139))) iX6_copy (c_X6_copy l G (gr (gr (gr (gr (gr (gr (gr (gr (gr (gr (gr (gr mem 117 (cpy 5 (mem 3) (mem 117))) 118 (upd (upd (mem 118) 0 (mem 4 0)) 1 (mem 4 1))) 120 (cpy 10 (mem 6) (mem 120))) 122 (cpy 10 (mem 8) (mem 122))) 124 (cpy 10 (mem 10) (mem 124))) 126 (cpy 10 (mem 12) (mem 126))) 128 (cpy 10 (mem 14) (mem 128))) 130 (cpy 10 (mem 16) (mem 130))) 132 (cpy 10 (mem 18) (mem 132))) 134 (cpy 10 (mem 20) (mem 134))) 135 (upd (upd (upd (mem 135) 0 (mem 21 0)) 1 (mem 21 1)) 2 (mem 21 2))) 137 (cpy 10 (mem 23) (mem 137))) ob_138 ar_139 ob_24 ar_25 (by decide)) wd_319 ob_138 rfl ⟨Nat.le_of_ble_eq_true rfl, Nat.le_of_ble_eq_true rfl⟩ ⟨rfl, rfl⟩ rfl (Nat.le_of_ble_eq_true rfl) dX7_copy_41 (rfl) ?_
  refine g_aload_n C 0 dX7_copy_44 rfl ?_
  refine g_get_r C ob_115 4 (by decide) rfl wd_168 dX7_copy_45 ?_
  refine g_aload_n C 1 dX7_copy_48 rfl ?_
  refine g_get_r C ob_1 4 (by decide) rfl wd_168 dX7_copy_49 ?_
  refine g_cV0 C (As := [.ref (gad G 26)]) (mem3 := gr (gr (gr (gr (gr (gr (gr (gr (gr (gr (gr (gr (gr (gr (gr mem 117 (cpy 5 (mem 3) (mem 117))) 118 (upd (upd (mem 118) 0 (mem 4 0)) 1 (mem 4 1))) 120 (cpy 10 (mem 6) (mem 120))) 122 (cpy 10 (mem 8) (mem 122))) 124 (cpy 10 (mem 10) (mem 124))) 126 (cpy 10 (mem 12) (mem 126))) 128 (cpy 10 (mem 14) (mem 128))) 130 (cpy 10 (mem 16) (mem 130))) 132 (cpy 10 (mem 18) (mem 132))) 134 (cpy 10 (mem 20) (mem 134))) 135 (upd (upd (upd (mem 135) 0 (mem 21 0)) 1 (mem 21 1)) 2 (mem 21 2))) 137 (cpy 10 (mem 23) (mem 137))) 139 (cpy 200 (mem 25) (mem 139))) 140 (upd (upd (upd (mem 140) 0 (mem 26 0)) 1 (mem 26 1)) 2 (mem 26 2))) 142 (cpy 140 (mem 28) (mem 142))) iX2_copy (c_X2_copy_115_1 l G (gr (gr (gr (gr (gr (gr (gr (gr (gr (gr (gr (gr (gr mem 117 (cpy 5 (mem 3) (mem 117))) 118 (upd (upd (mem 118) 0 (mem 4 0)) 1 (mem 4 1))) 120 (cpy 10 (mem 6) (mem 120))) 122 (cpy 10 (mem 8) (mem 122))) 124 (cpy 10 (mem 10) (mem 124))) 126 (cpy 10 (mem 12) (mem 126))) 128 (cpy 10 (mem 14) (mem 128))) 130 (cpy 10 (mem 16) (mem 130))) 132 (cpy 10 (mem 18) (mem 132))) 134 (cpy 10 (mem 20) (mem 134))) 135 (upd (upd (upd (mem 135) 0 (mem 21 0)) 1 (mem 21 1)) 2 (mem 21 2))) 137 (cpy 10 (mem 23) (mem 137))) 139 (cpy 200 (mem 25) (mem 139)))) wd_339 ob_140 rfl ⟨Nat.le_of_ble_eq_true rfl, Nat.le_of_ble_eq_true rfl⟩ ⟨rfl, rfl⟩ rfl (Nat.le_of_ble_eq_true rfl) dX7_copy_52 (rfl) ?_
  refine g_vret C hQ rfl dX7_copy_55 ?_
  refine ⟨rfl, fun k hk => ?_, rfl, ⟨rfl, rfl⟩, ⟨rfl, rfl, rfl, rfl, rfl, rfl, rfl, rfl⟩, ⟨rfl, rfl, rfl⟩, rfl, rfl, ⟨rfl, rfl, rfl⟩, rfl⟩
  rw [gr_n (by omega), gr_n (by omega), gr_n (by omega), gr_n (by omega), gr_n (by omega), gr_n (by omega), gr_n (by omega), gr_n (by omega), gr_n (by omega), gr_n (by omega), gr_n (by omega), gr_n (by omega), gr_n (by omega), gr_n (by omega), gr_n (by omega)]
