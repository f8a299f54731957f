def rm_X9_silence : Room := { frames := 0, cells := 0, slots := 0, locals := 0 }
theorem iX9_silence : gIv yX9_silence cX9_silence 3 (some .float) 0 := ⟨⟨wd_560, wd_4, by decide +kernel, by decide +kernel, by decide +kernel⟩, wd_558, wd_559⟩
set_option maxRecDepth 100000 in
set_option maxHeartbeats 4000000 in
theorem c_X9_silence (l : Launch) (G : gG) {T : Nat} {V : Nat → Int32} (g : Good T V) (mem : gM) (r : Rel V mem) (hT : T < 2 ^ 20) : gMet l yX9_silence cX9_silence 3 (some .float) rm_X9_silence G [.ref (gad G 0)] mem (fun a u => a = some (.float (silR V)) ∧ u = mem) := by
  refine g_of (own := RX9) (L0 := [(0, .ref (gad G 0))]) (by decide +kernel) rfl (Nat.le_of_ble_eq_true rfl) rfl ?_
  intro p e s m args below meth c C Q hQ
  obtain ⟨a0, n0, ea, en, ha, hn⟩ := sil_b g hT
  refine g_aload_n C 0 dX9_silence_0 rfl ?_
  refine g_get_r C ob_0 0 (by decide) rfl wd_279 dX9_silence_1 ?_
  refine g_get_r C ob_1 4 (by decide) rfl wd_169 dX9_silence_4 ?_
  refine g_get_i C ob_26 2 (by decide) rfl wd_141 dX9_silence_7 ?_
  refine g_top (y := V 9) ((r_sil r g).trans (gd_asks g).2.1.symm) ?_
  refine g_i2f C dX9_silence_10 ?_
  refine g_fstore_n C (L2 := [(1, .float (FP.i2f (V 9))), (0, .ref (gad G 0))]) dX9_silence_11 (by decide) rfl ?_
  refine g_aload_n C 1 dX9_silence_12 rfl ?_
  refine g_get_r C ob_0 0 (by decide) rfl wd_279 dX9_silence_13 ?_
  refine g_get_r C ob_1 4 (by decide) rfl wd_169 dX9_silence_16 ?_
  refine g_get_i C ob_26 1 (by decide) rfl wd_139 dX9_silence_19 ?_
  refine g_top (y := V 8) ((r_ask r g).trans (gd_asks g).1.symm) ?_
  refine g_aload_n C 1 dX9_silence_22 rfl ?_
  refine g_get_r C ob_0 0 (by decide) rfl wd_279 dX9_silence_23 ?_
  refine g_get_r C ob_1 4 (by decide) rfl wd_169 dX9_silence_26 ?_
  refine g_get_i C ob_26 2 (by decide) rfl wd_141 dX9_silence_29 ?_
  refine g_top (y := V 9) ((r_sil r g).trans (gd_asks g).2.1.symm) ?_
  refine g_iadd C dX9_silence_32 ?_
  refine g_i2f C dX9_silence_33 ?_
  refine g_fstore_n C (L2 := [(2, .float (FP.i2f ((V 8) + (V 9)))), (1, .float (FP.i2f (V 9))), (0, .ref (gad G 0))]) dX9_silence_34 (by decide) rfl ?_
  refine g_fload_n C 0 dX9_silence_35 rfl ?_
  refine g_fconst0 C dX9_silence_36 ?_
  rcases Nat.eq_zero_or_pos a0 with h0 | h0
  · refine g_fcmp C (v := (0 : Int32)) dX9_silence_37 (by rw [ea, h0, fx_eq]; rfl) ?_
    refine g_if_le_t C 47 (by decide) dX9_silence_38 (by decide) ?_
    refine g_fconst0 C dX9_silence_47 ?_
    refine g_fret C hQ rfl dX9_silence_48 ?_
    exact ⟨by rw [silR, if_pos (by rw [ea, h0]; rfl)], rfl⟩
  · refine g_fcmp C (v := (1 : Int32)) dX9_silence_37 (by rw [ea, fx_gt h0 ha]; rfl) ?_
    refine g_if_le_f C 47 (by decide) dX9_silence_38 (by decide) ?_
    refine g_fload_n C 1 dX9_silence_41 rfl ?_
    refine g_fload_n C 0 dX9_silence_42 rfl ?_
    refine g_fdiv C (by rw [ea, en]; exact fx_div h0 ha hn) dX9_silence_43 ?_
    refine g_goto C 48 dX9_silence_44 (by decide) ?_
    refine g_fret C hQ rfl dX9_silence_48 ?_
    exact ⟨by rw [silR, if_neg (fun z => by rw [ea] at z; have := (nI_iff (b := 0) (by omega) (by decide)).mp z; omega)], rfl⟩
