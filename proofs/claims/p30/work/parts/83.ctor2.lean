def rm_X7_init : Room := { frames := 3, cells := 27, slots := 465, locals := 53 }
theorem iX7_init : gIn yX7_init cX7_init 1 0 := ⟨wd_29, wd_5, ⟨by decide +kernel, by decide +kernel, by decide +kernel⟩, wd_28, rfl⟩
set_option maxRecDepth 100000 in
set_option maxHeartbeats 4000000 in
theorem c_X7_init (l : Launch) (D : va_G) (cI : ClassId) : nMet l yX7_init cX7_init 1 rm_X7_init D cI [] 6 [.null, .null, .null, .null, .null] mX7 shX7 False 27 465 := by
  refine n_of (own := RX7) (by decide +kernel) rfl rfl (fun _ => Nat.le_of_ble_eq_true rfl) ?_
  intro p e s m args below meth c A h0 C hin2 Q hQ
  refine n_aload_n C 0 dX7_init_0 rfl ?_
  refine n_obj C wd_30 wd_23 wd_24 (Nat.le_of_ble_eq_true rfl) (Nat.le_of_ble_eq_true rfl) dX7_init_1 ?_
  refine n_aload_n C 0 dX7_init_4 rfl ?_
  refine n_new C (ci := 5) (N := 1) (T := TX6) (mc2 := 1) (ms2 := 1) rfl wi_X6 tyX6 tyX6_ok wd_31 wd_32 wd_6 (fs := [.null]) nf_X6 rfl rfl ⟨Nat.le_of_ble_eq_true rfl, Nat.le_of_ble_eq_true rfl⟩ dX7_init_5 (fun q0 => ?_)
  refine n_dup C dX7_init_8 rfl ?_
  refine n_iconst C (nI 5) dX7_init_9 (by decide) ?_
  refine n_call C (As := [.int (nI 5)]) (mc2 := 2) (ms2 := 6) iX6_init (c_X6_init l D cI (n := 5) (by decide) (by decide)) wd_33 rfl ⟨Nat.le_of_ble_eq_true rfl, Nat.le_of_ble_eq_true rfl⟩ ⟨rfl, rfl⟩ rfl (Nat.le_of_ble_eq_true rfl) rfl rfl ⟨Nat.le_of_ble_eq_true rfl, Nat.le_of_ble_eq_true rfl⟩ dX7_init_10 (fun ad1 cS1 ead1 hSad1 => ?_)
  subst ead1
  refine n_putF C hin2 (ci := 6) (N := 5) (T := TX7) (fs2 := [.ref (ad1 0), .null, .null, .null, .null]) (w2 := ([(h0, .inr (6, [.ref (ad1 0), .null, .null, .null, .null]))] ++ gL cI cS1 ad1 mZ 0 (shRow 5))) 0 rfl rfl wi_X7 tyX7 tyX7_ok nmX7 0 (by decide) wd_156 rfl rfl (tv := (.object "RepairDuty$Row")) (by decide +kernel) rfl rfl (Nat.le_of_ble_eq_true rfl) rfl rfl dX7_init_13 ?_
  refine n_aload_n C 0 dX7_init_16 rfl ?_
  refine n_new C (ci := 3) (N := 10) (T := TX3) (mc2 := 3) (ms2 := 16) rfl wi_X3 tyX3 tyX3_ok wd_42 wd_43 wd_7 (fs := [.int 0, .int 0, .null, .null, .null, .null, .null, .null, .null, .null]) nf_X3 rfl rfl ⟨Nat.le_of_ble_eq_true rfl, Nat.le_of_ble_eq_true rfl⟩ dX7_init_17 (fun q2 => ?_)
  refine n_dup C dX7_init_20 rfl ?_
  refine n_callN C (As := []) (mc2 := 19) (ms2 := 104) iX3_init (c_X3_init l D cI) C.N.1.1 rfl ⟨Nat.le_of_ble_eq_true rfl, Nat.le_of_ble_eq_true rfl⟩ ⟨rfl, rfl⟩ rfl (Nat.le_of_ble_eq_true rfl) rfl rfl ⟨Nat.le_of_ble_eq_true rfl, Nat.le_of_ble_eq_true rfl⟩ dX7_init_21 (fun ad3 cS3 ead3 hSad3 => ?_)
  subst ead3
  refine n_putF C hin2 (ci := 6) (N := 5) (T := TX7) (fs2 := [.ref (ad1 0), .ref (ad3 0), .null, .null, .null]) (w2 := (([(h0, .inr (6, [.ref (ad1 0), .ref (ad3 0), .null, .null, .null]))] ++ gL cI cS1 ad1 mZ 0 (shRow 5)) ++ gL cI cS3 ad3 mZ 0 shX3)) 0 rfl rfl wi_X7 tyX7 tyX7_ok nmX7 1 (by decide) wd_159 rfl rfl (tv := (.object "RepairDuty$Members")) (by decide +kernel) rfl rfl (Nat.le_of_ble_eq_true rfl) rfl rfl dX7_init_24 ?_
  refine n_aload_n C 0 dX7_init_27 rfl ?_
  refine n_new C (ci := 0) (N := 4) (T := TX0) (mc2 := 20) (ms2 := 108) rfl wi_X0 tyX0 tyX0_ok wd_100 wd_101 wd_8 (fs := [.int 0, .int 0, .int 0, .null]) nf_X0 rfl rfl ⟨Nat.le_of_ble_eq_true rfl, Nat.le_of_ble_eq_true rfl⟩ dX7_init_28 (fun q4 => ?_)
  refine n_dup C dX7_init_31 rfl ?_
  refine n_callN C (As := []) (mc2 := 22) (ms2 := 119) iX0_init (c_X0_init l D cI) C.N.1.2.1 rfl ⟨Nat.le_of_ble_eq_true rfl, Nat.le_of_ble_eq_true rfl⟩ ⟨rfl, rfl⟩ rfl (Nat.le_of_ble_eq_true rfl) rfl rfl ⟨Nat.le_of_ble_eq_true rfl, Nat.le_of_ble_eq_true rfl⟩ dX7_init_32 (fun ad5 cS5 ead5 hSad5 => ?_)
  subst ead5
  refine n_putF C hin2 (ci := 6) (N := 5) (T := TX7) (fs2 := [.ref (ad1 0), .ref (ad3 0), .ref (ad5 0), .null, .null]) (w2 := ((([(h0, .inr (6, [.ref (ad1 0), .ref (ad3 0), .ref (ad5 0), .null, .null]))] ++ gL cI cS1 ad1 mZ 0 (shRow 5)) ++ gL cI cS3 ad3 mZ 0 shX3) ++ gL cI cS5 ad5 mZ 0 shX0)) 0 rfl rfl wi_X7 tyX7 tyX7_ok nmX7 2 (by decide) wd_162 rfl rfl (tv := (.object "RepairDuty$Duties")) (by decide +kernel) rfl rfl (Nat.le_of_ble_eq_true rfl) rfl rfl dX7_init_35 ?_
  refine n_aload_n C 0 dX7_init_38 rfl ?_
  refine n_new C (ci := 5) (N := 1) (T := TX6) (mc2 := 23) (ms2 := 120) rfl wi_X6 tyX6 tyX6_ok wd_31 wd_32 wd_6 (fs := [.null]) nf_X6 rfl rfl ⟨Nat.le_of_ble_eq_true rfl, Nat.le_of_ble_eq_true rfl⟩ dX7_init_39 (fun q6 => ?_)
  refine n_dup C dX7_init_42 rfl ?_
  refine n_sipush C (nI 200) dX7_init_43 (by decide) ?_
  refine n_call C (As := [.int (nI 200)]) (mc2 := 24) (ms2 := 320) iX6_init (c_X6_init l D cI (n := 200) (by decide) (by decide)) wd_33 rfl ⟨Nat.le_of_ble_eq_true rfl, Nat.le_of_ble_eq_true rfl⟩ ⟨rfl, rfl⟩ rfl (Nat.le_of_ble_eq_true rfl) rfl rfl ⟨Nat.le_of_ble_eq_true rfl, Nat.le_of_ble_eq_true rfl⟩ dX7_init_46 (fun ad7 cS7 ead7 hSad7 => ?_)
  subst ead7
  refine n_putF C hin2 (ci := 6) (N := 5) (T := TX7) (fs2 := [.ref (ad1 0), .ref (ad3 0), .ref (ad5 0), .ref (ad7 0), .null]) (w2 := (((([(h0, .inr (6, [.ref (ad1 0), .ref (ad3 0), .ref (ad5 0), .ref (ad7 0), .null]))] ++ gL cI cS1 ad1 mZ 0 (shRow 5)) ++ gL cI cS3 ad3 mZ 0 shX3) ++ gL cI cS5 ad5 mZ 0 shX0) ++ gL cI cS7 ad7 mZ 0 (shRow 200))) 0 rfl rfl wi_X7 tyX7 tyX7_ok nmX7 3 (by decide) wd_165 rfl rfl (tv := (.object "RepairDuty$Row")) (by decide +kernel) rfl rfl (Nat.le_of_ble_eq_true rfl) rfl rfl dX7_init_49 ?_
  refine n_aload_n C 0 dX7_init_52 rfl ?_
  refine n_new C (ci := 2) (N := 4) (T := TX2) (mc2 := 25) (ms2 := 324) rfl wi_X2 tyX2 tyX2_ok wd_128 wd_129 wd_9 (fs := [.int 0, .int 0, .int 0, .null]) nf_X2 rfl rfl ⟨Nat.le_of_ble_eq_true rfl, Nat.le_of_ble_eq_true rfl⟩ dX7_init_53 (fun q8 => ?_)
  refine n_dup C dX7_init_56 rfl ?_
  refine n_callN C (As := []) (mc2 := 27) (ms2 := 465) iX2_init (c_X2_init l D cI) C.N.1.2.2 rfl ⟨Nat.le_of_ble_eq_true rfl, Nat.le_of_ble_eq_true rfl⟩ ⟨rfl, rfl⟩ rfl (Nat.le_of_ble_eq_true rfl) rfl rfl ⟨Nat.le_of_ble_eq_true rfl, Nat.le_of_ble_eq_true rfl⟩ dX7_init_57 (fun ad9 cS9 ead9 hSad9 => ?_)
  subst ead9
  refine n_putF C hin2 (ci := 6) (N := 5) (T := TX7) (fs2 := [.ref (ad1 0), .ref (ad3 0), .ref (ad5 0), .ref (ad7 0), .ref (ad9 0)]) (w2 := ((((([(h0, .inr (6, [.ref (ad1 0), .ref (ad3 0), .ref (ad5 0), .ref (ad7 0), .ref (ad9 0)]))] ++ gL cI cS1 ad1 mZ 0 (shRow 5)) ++ gL cI cS3 ad3 mZ 0 shX3) ++ gL cI cS5 ad5 mZ 0 shX0) ++ gL cI cS7 ad7 mZ 0 (shRow 200)) ++ gL cI cS9 ad9 mZ 0 shX2)) 0 rfl rfl wi_X7 tyX7 tyX7_ok nmX7 4 (by decide) wd_168 rfl rfl (tv := (.object "RepairDuty$Log")) (by decide +kernel) rfl rfl (Nat.le_of_ble_eq_true rfl) rfl rfl dX7_init_60 ?_
  refine n_aload_n C 0 dX7_init_63 rfl ?_
  refine n_get C (ci := 6) (N := 5) (T := TX7) 0 (fs := [.ref (ad1 0), .ref (ad3 0), .ref (ad5 0), .ref (ad7 0), .ref (ad9 0)]) rfl rfl wi_X7 0 (by decide) wd_156 (v := .ref (ad1 0)) rfl dX7_init_64 ?_
  refine n_iconst C (nI 0) dX7_init_67 (by decide) ?_
  refine n_bipush C (nI 100) dX7_init_68 (by decide) ?_
  refine n_w (w2 := (((((([(h0, .inr (6, [.ref (ad1 0), .ref (ad3 0), .ref (ad5 0), .ref (ad7 0), .ref (ad9 0)]))] ++ [((ad1 0), .inr (5, [.ref (ad1 1)]))]) ++ [((ad1 1), .inl (cI, (5, .inl (mZ 1))))]) ++ gL cI cS3 ad3 mZ 0 shX3) ++ gL cI cS5 ad5 mZ 0 shX0) ++ gL cI cS7 ad7 mZ 0 (shRow 200)) ++ gL cI cS9 ad9 mZ 0 shX2)) rfl ?_
  refine n_put C (w2 := (((((([(h0, .inr (6, [.ref (ad1 0), .ref (ad3 0), .ref (ad5 0), .ref (ad7 0), .ref (ad9 0)]))] ++ [((ad1 0), .inr (5, [.ref (ad1 1)]))]) ++ [((ad1 1), .inl (cI, (5, .inl (upd (mZ 1) 0 (nI 100)))))]) ++ gL cI cS3 ad3 mZ 0 shX3) ++ gL cI cS5 ad5 mZ 0 shX0) ++ gL cI cS7 ad7 mZ 0 (shRow 200)) ++ gL cI cS9 ad9 mZ 0 shX2)) (c_put_new l D cI (n := 5) (j := 0) (by decide) (by decide) (mZ 1) (nI 100)) wd_152 1 2 rfl rfl (by decide) ⟨Nat.le_of_ble_eq_true rfl, Nat.le_of_ble_eq_true rfl⟩ (Nat.le_of_ble_eq_true rfl) ⟨Nat.le_of_ble_eq_true rfl, Nat.le_of_ble_eq_true rfl⟩ rfl dX7_init_70 ?_
  refine n_aload_n C 0 dX7_init_73 rfl ?_
  refine n_get C (ci := 6) (N := 5) (T := TX7) 0 (fs := [.ref (ad1 0), .ref (ad3 0), .ref (ad5 0), .ref (ad7 0), .ref (ad9 0)]) rfl rfl wi_X7 0 (by decide) wd_156 (v := .ref (ad1 0)) rfl dX7_init_74 ?_
  refine n_iconst C (nI 1) dX7_init_77 (by decide) ?_
  refine n_bipush C (nI 50) dX7_init_78 (by decide) ?_
  refine n_put C (w2 := (((((([(h0, .inr (6, [.ref (ad1 0), .ref (ad3 0), .ref (ad5 0), .ref (ad7 0), .ref (ad9 0)]))] ++ [((ad1 0), .inr (5, [.ref (ad1 1)]))]) ++ [((ad1 1), .inl (cI, (5, .inl (upd (upd (mZ 1) 0 (nI 100)) 1 (nI 50)))))]) ++ gL cI cS3 ad3 mZ 0 shX3) ++ gL cI cS5 ad5 mZ 0 shX0) ++ gL cI cS7 ad7 mZ 0 (shRow 200)) ++ gL cI cS9 ad9 mZ 0 shX2)) (c_put_new l D cI (n := 5) (j := 1) (by decide) (by decide) (upd (mZ 1) 0 (nI 100)) (nI 50)) wd_152 1 2 rfl rfl (by decide) ⟨Nat.le_of_ble_eq_true rfl, Nat.le_of_ble_eq_true rfl⟩ (Nat.le_of_ble_eq_true rfl) ⟨Nat.le_of_ble_eq_true rfl, Nat.le_of_ble_eq_true rfl⟩ rfl dX7_init_80 ?_
  refine n_aload_n C 0 dX7_init_83 rfl ?_
  refine n_get C (ci := 6) (N := 5) (T := TX7) 0 (fs := [.ref (ad1 0), .ref (ad3 0), .ref (ad5 0), .ref (ad7 0), .ref (ad9 0)]) rfl rfl wi_X7 0 (by decide) wd_156 (v := .ref (ad1 0)) rfl dX7_init_84 ?_
  refine n_iconst C (nI 2) dX7_init_87 (by decide) ?_
  refine n_iconst C (nI 2) dX7_init_88 (by decide) ?_
  refine n_put C (w2 := (((((([(h0, .inr (6, [.ref (ad1 0), .ref (ad3 0), .ref (ad5 0), .ref (ad7 0), .ref (ad9 0)]))] ++ [((ad1 0), .inr (5, [.ref (ad1 1)]))]) ++ [((ad1 1), .inl (cI, (5, .inl (upd (upd (upd (mZ 1) 0 (nI 100)) 1 (nI 50)) 2 (nI 2)))))]) ++ gL cI cS3 ad3 mZ 0 shX3) ++ gL cI cS5 ad5 mZ 0 shX0) ++ gL cI cS7 ad7 mZ 0 (shRow 200)) ++ gL cI cS9 ad9 mZ 0 shX2)) (c_put_new l D cI (n := 5) (j := 2) (by decide) (by decide) (upd (upd (mZ 1) 0 (nI 100)) 1 (nI 50)) (nI 2)) wd_152 1 2 rfl rfl (by decide) ⟨Nat.le_of_ble_eq_true rfl, Nat.le_of_ble_eq_true rfl⟩ (Nat.le_of_ble_eq_true rfl) ⟨Nat.le_of_ble_eq_true rfl, Nat.le_of_ble_eq_true rfl⟩ rfl dX7_init_89 ?_
  refine n_aload_n C 0 dX7_init_92 rfl ?_
  refine n_get C (ci := 6) (N := 5) (T := TX7) 0 (fs := [.ref (ad1 0), .ref (ad3 0), .ref (ad5 0), .ref (ad7 0), .ref (ad9 0)]) rfl rfl wi_X7 0 (by decide) wd_156 (v := .ref (ad1 0)) rfl dX7_init_93 ?_
  refine n_iconst C (nI 3) dX7_init_96 (by decide) ?_
  refine n_iconst C (nI 5) dX7_init_97 (by decide) ?_
  refine n_put C (w2 := (((((([(h0, .inr (6, [.ref (ad1 0), .ref (ad3 0), .ref (ad5 0), .ref (ad7 0), .ref (ad9 0)]))] ++ [((ad1 0), .inr (5, [.ref (ad1 1)]))]) ++ [((ad1 1), .inl (cI, (5, .inl (upd (upd (upd (upd (mZ 1) 0 (nI 100)) 1 (nI 50)) 2 (nI 2)) 3 (nI 5)))))]) ++ gL cI cS3 ad3 mZ 0 shX3) ++ gL cI cS5 ad5 mZ 0 shX0) ++ gL cI cS7 ad7 mZ 0 (shRow 200)) ++ gL cI cS9 ad9 mZ 0 shX2)) (c_put_new l D cI (n := 5) (j := 3) (by decide) (by decide) (upd (upd (upd (mZ 1) 0 (nI 100)) 1 (nI 50)) 2 (nI 2)) (nI 5)) wd_152 1 2 rfl rfl (by decide) ⟨Nat.le_of_ble_eq_true rfl, Nat.le_of_ble_eq_true rfl⟩ (Nat.le_of_ble_eq_true rfl) ⟨Nat.le_of_ble_eq_true rfl, Nat.le_of_ble_eq_true rfl⟩ rfl dX7_init_98 ?_
  refine n_aload_n C 0 dX7_init_101 rfl ?_
  refine n_get C (ci := 6) (N := 5) (T := TX7) 0 (fs := [.ref (ad1 0), .ref (ad3 0), .ref (ad5 0), .ref (ad7 0), .ref (ad9 0)]) rfl rfl wi_X7 0 (by decide) wd_156 (v := .ref (ad1 0)) rfl dX7_init_102 ?_
  refine n_iconst C (nI 4) dX7_init_105 (by decide) ?_
  refine n_iconst C (nI 3) dX7_init_106 (by decide) ?_
  refine n_put C (w2 := (((((([(h0, .inr (6, [.ref (ad1 0), .ref (ad3 0), .ref (ad5 0), .ref (ad7 0), .ref (ad9 0)]))] ++ [((ad1 0), .inr (5, [.ref (ad1 1)]))]) ++ [((ad1 1), .inl (cI, (5, .inl (upd (upd (upd (upd (upd (mZ 1) 0 (nI 100)) 1 (nI 50)) 2 (nI 2)) 3 (nI 5)) 4 (nI 3)))))]) ++ gL cI cS3 ad3 mZ 0 shX3) ++ gL cI cS5 ad5 mZ 0 shX0) ++ gL cI cS7 ad7 mZ 0 (shRow 200)) ++ gL cI cS9 ad9 mZ 0 shX2)) (c_put_new l D cI (n := 5) (j := 4) (by decide) (by decide) (upd (upd (upd (upd (mZ 1) 0 (nI 100)) 1 (nI 50)) 2 (nI 2)) 3 (nI 5)) (nI 3)) wd_152 1 2 rfl rfl (by decide) ⟨Nat.le_of_ble_eq_true rfl, Nat.le_of_ble_eq_true rfl⟩ (Nat.le_of_ble_eq_true rfl) ⟨Nat.le_of_ble_eq_true rfl, Nat.le_of_ble_eq_true rfl⟩ rfl dX7_init_107 ?_
  exact n_vret C hQ (fun k => if k < 1 then h0 else if k < 2 then (ad1 0) else if k < 3 then (ad1 1) else if k < 20 then ad3 (k - 3) else if k < 23 then ad5 (k - 20) else if k < 25 then ad7 (k - 23) else ad9 (k - 25)) 0 rfl rfl (fun z => z.elim) dX7_init_110
