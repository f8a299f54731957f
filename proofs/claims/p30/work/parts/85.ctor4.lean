def rm_X9_init : Room := { frames := 5, cells := 153, slots := 2469, locals := 94 }
theorem iX9_init : gIn yX9_init cX9_init 1 0 := ⟨wd_21, wd_4, ⟨by decide +kernel, by decide +kernel, by decide +kernel⟩, wd_20, rfl⟩
set_option maxRecDepth 100000 in
set_option maxHeartbeats 4000000 in
theorem c_X9_init (l : Launch) (D : va_G) (cI : ClassId) : nMet l yX9_init cX9_init 1 rm_X9_init D cI [] 8 [.null, .null, .null, .null, .null] mX9 shX9 True 153 2469 := by
  refine n_of (own := RX9) (by decide +kernel) rfl rfl (fun _ => Nat.le_of_ble_eq_true rfl) ?_
  intro p e s m args below meth c A h0 C hin2 Q hQ
  refine n_aload_n C 0 dX9_init_0 rfl ?_
  refine n_obj C wd_22 wd_23 wd_24 (Nat.le_of_ble_eq_true rfl) (Nat.le_of_ble_eq_true rfl) dX9_init_1 ?_
  refine n_aload_n C 0 dX9_init_4 rfl ?_
  refine n_new C (ci := 6) (N := 5) (T := TX7) (mc2 := 1) (ms2 := 5) rfl wi_X7 tyX7 tyX7_ok wd_25 wd_26 wd_5 (fs := [.null, .null, .null, .null, .null]) nf_X7 rfl rfl ⟨Nat.le_of_ble_eq_true rfl, Nat.le_of_ble_eq_true rfl⟩ dX9_init_5 (fun q0 => ?_)
  refine n_dup C dX9_init_8 rfl ?_
  refine n_call C (As := []) (mc2 := 28) (ms2 := 470) iX7_init (c_X7_init l D cI) wd_27 rfl ⟨Nat.le_of_ble_eq_true rfl, Nat.le_of_ble_eq_true rfl⟩ ⟨rfl, rfl⟩ rfl (Nat.le_of_ble_eq_true rfl) rfl rfl ⟨Nat.le_of_ble_eq_true rfl, Nat.le_of_ble_eq_true rfl⟩ dX9_init_9 (fun ad1 cS1 ead1 hSad1 => ?_)
  subst ead1
  refine n_putF C hin2 (ci := 8) (N := 5) (T := TX9) (fs2 := [.ref (ad1 0), .null, .null, .null, .null]) (w2 := ([(h0, .inr (8, [.ref (ad1 0), .null, .null, .null, .null]))] ++ gL cI cS1 ad1 mX7 0 shX7)) 0 rfl rfl wi_X9 tyX9 tyX9_ok nmX9 0 (by decide) wd_279 rfl rfl (tv := (.object "RepairDuty$State")) (by decide +kernel) rfl rfl (Nat.le_of_ble_eq_true rfl) rfl rfl dX9_init_12 ?_
  refine n_aload_n C 0 dX9_init_15 rfl ?_
  refine n_new C (ci := 1) (N := 3) (T := TX1) (mc2 := 29) (ms2 := 473) rfl wi_X1 tyX1 tyX1_ok wd_181 wd_182 wd_10 (fs := [.int 0, .int 0, .null]) nf_X1 rfl rfl ⟨Nat.le_of_ble_eq_true rfl, Nat.le_of_ble_eq_true rfl⟩ dX9_init_16 (fun q2 => ?_)
  refine n_dup C dX9_init_19 rfl ?_
  refine n_call C (As := []) (mc2 := 142) (ms2 := 2357) iX1_init (c_X1_init l D cI) wd_183 rfl ⟨Nat.le_of_ble_eq_true rfl, Nat.le_of_ble_eq_true rfl⟩ ⟨rfl, rfl⟩ rfl (Nat.le_of_ble_eq_true rfl) rfl rfl ⟨Nat.le_of_ble_eq_true rfl, Nat.le_of_ble_eq_true rfl⟩ dX9_init_20 (fun ad3 cS3 ead3 hSad3 => ?_)
  subst ead3
  refine n_putF C hin2 (ci := 8) (N := 5) (T := TX9) (fs2 := [.ref (ad1 0), .ref (ad3 0), .null, .null, .null]) (w2 := (([(h0, .inr (8, [.ref (ad1 0), .ref (ad3 0), .null, .null, .null]))] ++ gL cI cS1 ad1 mX7 0 shX7) ++ gL cI cS3 ad3 mX1 0 shX1)) 0 rfl rfl wi_X9 tyX9 tyX9_ok nmX9 1 (by decide) wd_280 rfl rfl (tv := (.object "RepairDuty$History")) (by decide +kernel) rfl rfl (Nat.le_of_ble_eq_true rfl) rfl rfl dX9_init_23 ?_
  refine n_aload_n C 0 dX9_init_26 rfl ?_
  refine n_new C (ci := 7) (N := 2) (T := TX8) (mc2 := 143) (ms2 := 2359) rfl wi_X8 tyX8 tyX8_ok wd_201 wd_202 wd_11 (fs := [.int 0, .null]) nf_X8 rfl rfl ⟨Nat.le_of_ble_eq_true rfl, Nat.le_of_ble_eq_true rfl⟩ dX9_init_27 (fun q4 => ?_)
  refine n_dup C dX9_init_30 rfl ?_
  refine n_callN C (As := []) (mc2 := 145) (ms2 := 2420) iX8_init (c_X8_init l D cI) C.N.2.1.1 rfl ⟨Nat.le_of_ble_eq_true rfl, Nat.le_of_ble_eq_true rfl⟩ ⟨rfl, rfl⟩ rfl (Nat.le_of_ble_eq_true rfl) rfl rfl ⟨Nat.le_of_ble_eq_true rfl, Nat.le_of_ble_eq_true rfl⟩ dX9_init_31 (fun ad5 cS5 ead5 hSad5 => ?_)
  subst ead5
  refine n_putF C hin2 (ci := 8) (N := 5) (T := TX9) (fs2 := [.ref (ad1 0), .ref (ad3 0), .ref (ad5 0), .null, .null]) (w2 := ((([(h0, .inr (8, [.ref (ad1 0), .ref (ad3 0), .ref (ad5 0), .null, .null]))] ++ gL cI cS1 ad1 mX7 0 shX7) ++ gL cI cS3 ad3 mX1 0 shX1) ++ gL cI cS5 ad5 mZ 0 shX8)) 0 rfl rfl wi_X9 tyX9 tyX9_ok nmX9 2 (by decide) wd_281 rfl rfl (tv := (.object "RepairDuty$Text")) (by decide +kernel) rfl rfl (Nat.le_of_ble_eq_true rfl) rfl rfl dX9_init_34 ?_
  refine n_aload_n C 0 dX9_init_37 rfl ?_
  refine n_new C (ci := 4) (N := 12) (T := TX5) (mc2 := 146) (ms2 := 2432) rfl wi_X5 tyX5 tyX5_ok wd_217 wd_218 wd_12 (fs := [.int 0, .int 0, .int 0, .int 0, .int 0, .int 0, .int 0, .int 0, .int 0, .int 0, .null, .null]) nf_X5 rfl rfl ⟨Nat.le_of_ble_eq_true rfl, Nat.le_of_ble_eq_true rfl⟩ dX9_init_38 (fun q6 => ?_)
  refine n_dup C dX9_init_41 rfl ?_
  refine n_callN C (As := []) (mc2 := 150) (ms2 := 2454) iX5_init (c_X5_init l D cI) C.N.2.1.2.1 rfl ⟨Nat.le_of_ble_eq_true rfl, Nat.le_of_ble_eq_true rfl⟩ ⟨rfl, rfl⟩ rfl (Nat.le_of_ble_eq_true rfl) rfl rfl ⟨Nat.le_of_ble_eq_true rfl, Nat.le_of_ble_eq_true rfl⟩ dX9_init_42 (fun ad7 cS7 ead7 hSad7 => ?_)
  subst ead7
  refine n_putF C hin2 (ci := 8) (N := 5) (T := TX9) (fs2 := [.ref (ad1 0), .ref (ad3 0), .ref (ad5 0), .ref (ad7 0), .null]) (w2 := (((([(h0, .inr (8, [.ref (ad1 0), .ref (ad3 0), .ref (ad5 0), .ref (ad7 0), .null]))] ++ gL cI cS1 ad1 mX7 0 shX7) ++ gL cI cS3 ad3 mX1 0 shX1) ++ gL cI cS5 ad5 mZ 0 shX8) ++ gL cI cS7 ad7 mZ 0 shX5)) 0 rfl rfl wi_X9 tyX9 tyX9_ok nmX9 3 (by decide) wd_282 rfl rfl (tv := (.object "RepairDuty$Plan")) (by decide +kernel) rfl rfl (Nat.le_of_ble_eq_true rfl) rfl rfl dX9_init_45 ?_
  refine n_aload_n C 0 dX9_init_48 rfl ?_
  refine n_new C (ci := 0) (N := 4) (T := TX0) (mc2 := 151) (ms2 := 2458) rfl wi_X0 tyX0 tyX0_ok wd_277 wd_101 wd_8 (fs := [.int 0, .int 0, .int 0, .null]) nf_X0 rfl rfl ⟨Nat.le_of_ble_eq_true rfl, Nat.le_of_ble_eq_true rfl⟩ dX9_init_49 (fun q8 => ?_)
  refine n_dup C dX9_init_52 rfl ?_
  refine n_callN C (As := []) (mc2 := 153) (ms2 := 2469) iX0_init (c_X0_init l D cI) C.N.2.1.2.2 rfl ⟨Nat.le_of_ble_eq_true rfl, Nat.le_of_ble_eq_true rfl⟩ ⟨rfl, rfl⟩ rfl (Nat.le_of_ble_eq_true rfl) rfl rfl ⟨Nat.le_of_ble_eq_true rfl, Nat.le_of_ble_eq_true rfl⟩ dX9_init_53 (fun ad9 cS9 ead9 hSad9 => ?_)
  subst ead9
  refine n_putF C hin2 (ci := 8) (N := 5) (T := TX9) (fs2 := [.ref (ad1 0), .ref (ad3 0), .ref (ad5 0), .ref (ad7 0), .ref (ad9 0)]) (w2 := ((((([(h0, .inr (8, [.ref (ad1 0), .ref (ad3 0), .ref (ad5 0), .ref (ad7 0), .ref (ad9 0)]))] ++ gL cI cS1 ad1 mX7 0 shX7) ++ gL cI cS3 ad3 mX1 0 shX1) ++ gL cI cS5 ad5 mZ 0 shX8) ++ gL cI cS7 ad7 mZ 0 shX5) ++ gL cI cS9 ad9 mZ 0 shX0)) 0 rfl rfl wi_X9 tyX9 tyX9_ok nmX9 4 (by decide) wd_283 rfl rfl (tv := (.object "RepairDuty$Duties")) (by decide +kernel) rfl rfl (Nat.le_of_ble_eq_true rfl) rfl rfl dX9_init_56 ?_
  have h30 : (fun j => (([2, 30, 58, 86] : List Nat)[j]?).map ad3) = fun j => (([31, 59, 87, 115] : List Nat)[j]?).map (fun k => if k < 1 then h0 else if k < 29 then ad1 (k - 1) else if k < 143 then ad3 (k - 29) else if k < 146 then ad5 (k - 143) else if k < 151 then ad7 (k - 146) else ad9 (k - 151)) := funext fun j => match j with | 0 => rfl | 1 => rfl | 2 => rfl | 3 => rfl | j + 4 => rfl
  exact n_vret C hQ (fun k => if k < 1 then h0 else if k < 29 then ad1 (k - 1) else if k < 143 then ad3 (k - 29) else if k < 146 then ad5 (k - 143) else if k < 151 then ad7 (k - 146) else ad9 (k - 151)) cS3 rfl (congrArg (fun f : Nat → Option Nat => (((((([(h0, .inr (8, [.ref (ad1 0), .ref (ad3 0), .ref (ad5 0), .ref (ad7 0), .ref (ad9 0)]))] ++ gL cI cS1 ad1 mX7 0 shX7) ++ ((ad3 0, .inr (1, [.int 0, .int 0, .ref (ad3 1)])) :: (ad3 1, .inl (cS3, (4, .inr (.inr (.inr (.inr f)))))) :: gL cI cS3 ad3 mX1 2 (shX1.drop 2))) ++ gL cI cS5 ad5 mZ 0 shX8) ++ gL cI cS7 ad7 mZ 0 shX5) ++ gL cI cS9 ad9 mZ 0 shX0) : va_W)) h30) (fun _ => hSad3 trivial) dX9_init_59
