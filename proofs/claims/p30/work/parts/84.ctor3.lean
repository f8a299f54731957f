theorem up4 {ad : Nat → Nat} {a b c d : Nat} (h1 : ad 2 = a) (h2 : ad 30 = b) (h3 : ad 58 = c) (h4 : ad 86 = d) : va_up (va_up (va_up (va_up (fun _ => none) 0 (some a)) 1 (some b)) 2 (some c)) 3 (some d) = fun j => (([2, 30, 58, 86] : List Nat)[j]?).map ad := by
  subst h1 h2 h3 h4
  funext j
  match j with
  | 0 => rfl
  | 1 => rfl
  | 2 => rfl
  | 3 => rfl
  | j + 4 =>
    unfold va_up
    rw [if_neg (by omega), if_neg (by omega), if_neg (by omega), if_neg (by omega)]
    rfl

def rm_X1_init : Room := { frames := 4, cells := 113, slots := 1884, locals := 73 }
theorem iX1_init : gIn yX1_init cX1_init 2 0 := ⟨wd_185, wd_10, ⟨by decide +kernel, by decide +kernel, by decide +kernel⟩, wd_184, rfl⟩
set_option maxRecDepth 100000 in
set_option maxHeartbeats 4000000 in
theorem c_X1_init (l : Launch) (D : va_G) (cI : ClassId) : nMet l yX1_init cX1_init 2 rm_X1_init D cI [] 1 [.int 0, .int 0, .null] mX1 shX1 True 113 1884 := by
  refine n_of (own := RX1) (by decide +kernel) rfl rfl (fun _ => Nat.le_of_ble_eq_true rfl) ?_
  intro p e s m args below meth c A h0 C hin2 Q hQ
  refine n_aload_n C 0 dX1_init_0 rfl ?_
  refine n_obj C wd_186 wd_23 wd_24 (Nat.le_of_ble_eq_true rfl) (Nat.le_of_ble_eq_true rfl) dX1_init_1 ?_
  refine n_aload_n C 0 dX1_init_4 rfl ?_
  refine n_iconst C (nI 4) dX1_init_5 (by decide) ?_
  refine n_newq C (N := 4) (mc2 := 1) (ms2 := 4) wd_187 (by decide) rfl rfl ⟨Nat.le_of_ble_eq_true rfl, Nat.le_of_ble_eq_true rfl⟩ dX1_init_6 (fun q0 cS hcS => ?_)
  refine n_putF C hin2 (ci := 1) (N := 3) (T := TX1) (fs2 := [.int 0, .int 0, .ref q0]) (w2 := ([(h0, .inr (1, [.int 0, .int 0, .ref q0]))] ++ [(q0, .inl (cS, (4, .inr (.inr (.inr (.inr (fun _ => none)))))))])) 0 rfl rfl wi_X1 tyX1 tyX1_ok nmX1 2 (by decide) wd_193 rfl rfl (tv := (.array (.object "RepairDuty$State"))) (by decide +kernel) rfl rfl (Nat.le_of_ble_eq_true rfl) rfl rfl dX1_init_9 ?_
  refine n_iconst C (nI 0) dX1_init_12 (by decide) ?_
  refine n_istore_n C (L2 := [(1, .int (nI 0)), (0, .ref h0)]) dX1_init_13 (by decide) rfl ?_
  refine n_iload_n C 0 dX1_init_14 rfl ?_
  refine n_aload_n C 1 dX1_init_15 rfl ?_
  refine n_get C (ci := 1) (N := 3) (T := TX1) 0 (fs := [.int 0, .int 0, .ref q0]) rfl rfl wi_X1 2 (by decide) wd_193 (v := .ref q0) rfl dX1_init_16 ?_
  refine n_alenq C hcS 1 rfl dX1_init_19 ?_
  refine n_ige_f C 42 (by decide) dX1_init_20 (by decide) ?_
  refine n_aload_n C 1 dX1_init_23 rfl ?_
  refine n_get C (ci := 1) (N := 3) (T := TX1) 0 (fs := [.int 0, .int 0, .ref q0]) rfl rfl wi_X1 2 (by decide) wd_193 (v := .ref q0) rfl dX1_init_24 ?_
  refine n_iload_n C 0 dX1_init_27 rfl ?_
  refine n_new C (ci := 6) (N := 5) (T := TX7) (mc2 := 2) (ms2 := 9) rfl wi_X7 tyX7 tyX7_ok wd_187 wd_26 wd_5 (fs := [.null, .null, .null, .null, .null]) nf_X7 rfl rfl ⟨Nat.le_of_ble_eq_true rfl, Nat.le_of_ble_eq_true rfl⟩ dX1_init_28 (fun q1 => ?_)
  refine n_dup C dX1_init_31 rfl ?_
  refine n_call C (As := []) (mc2 := 29) (ms2 := 474) iX7_init (c_X7_init l D cI) wd_189 rfl ⟨Nat.le_of_ble_eq_true rfl, Nat.le_of_ble_eq_true rfl⟩ ⟨rfl, rfl⟩ rfl (Nat.le_of_ble_eq_true rfl) rfl rfl ⟨Nat.le_of_ble_eq_true rfl, Nat.le_of_ble_eq_true rfl⟩ dX1_init_32 (fun ad2 cS2 ead2 hSad2 => ?_)
  subst ead2
  refine n_astq C hcS 1 2 (f2 := (va_up (fun _ => none) 0 (some (ad2 0)))) (w2 := (([(h0, .inr (1, [.int 0, .int 0, .ref q0]))] ++ [(q0, .inl (cS, (4, .inr (.inr (.inr (.inr (va_up (fun _ => none) 0 (some (ad2 0)))))))))]) ++ gL cI cS2 ad2 mX7 0 shX7)) rfl rfl (by decide) (by decide) rfl rfl dX1_init_35 ?_
  refine n_iinc C (v := nI 1) (L2 := [(1, .int (nI 1)), (0, .ref h0)]) 0 dX1_init_36 rfl (by decide) (by decide) rfl ?_
  refine n_goto C 14 dX1_init_39 (by decide) ?_
  refine n_iload_n C 0 dX1_init_14 rfl ?_
  refine n_aload_n C 1 dX1_init_15 rfl ?_
  refine n_get C (ci := 1) (N := 3) (T := TX1) 0 (fs := [.int 0, .int 0, .ref q0]) rfl rfl wi_X1 2 (by decide) wd_193 (v := .ref q0) rfl dX1_init_16 ?_
  refine n_alenq C hcS 1 rfl dX1_init_19 ?_
  refine n_ige_f C 42 (by decide) dX1_init_20 (by decide) ?_
  refine n_aload_n C 1 dX1_init_23 rfl ?_
  refine n_get C (ci := 1) (N := 3) (T := TX1) 0 (fs := [.int 0, .int 0, .ref q0]) rfl rfl wi_X1 2 (by decide) wd_193 (v := .ref q0) rfl dX1_init_24 ?_
  refine n_iload_n C 0 dX1_init_27 rfl ?_
  refine n_new C (ci := 6) (N := 5) (T := TX7) (mc2 := 30) (ms2 := 479) rfl wi_X7 tyX7 tyX7_ok wd_187 wd_26 wd_5 (fs := [.null, .null, .null, .null, .null]) nf_X7 rfl rfl ⟨Nat.le_of_ble_eq_true rfl, Nat.le_of_ble_eq_true rfl⟩ dX1_init_28 (fun q3 => ?_)
  refine n_dup C dX1_init_31 rfl ?_
  refine n_call C (As := []) (mc2 := 57) (ms2 := 944) iX7_init (c_X7_init l D cI) wd_189 rfl ⟨Nat.le_of_ble_eq_true rfl, Nat.le_of_ble_eq_true rfl⟩ ⟨rfl, rfl⟩ rfl (Nat.le_of_ble_eq_true rfl) rfl rfl ⟨Nat.le_of_ble_eq_true rfl, Nat.le_of_ble_eq_true rfl⟩ dX1_init_32 (fun ad4 cS4 ead4 hSad4 => ?_)
  subst ead4
  refine n_astq C hcS 1 30 (f2 := (va_up (va_up (fun _ => none) 0 (some (ad2 0))) 1 (some (ad4 0)))) (w2 := ((([(h0, .inr (1, [.int 0, .int 0, .ref q0]))] ++ [(q0, .inl (cS, (4, .inr (.inr (.inr (.inr (va_up (va_up (fun _ => none) 0 (some (ad2 0))) 1 (some (ad4 0)))))))))]) ++ gL cI cS2 ad2 mX7 0 shX7) ++ gL cI cS4 ad4 mX7 0 shX7)) rfl rfl (by decide) (by decide) rfl rfl dX1_init_35 ?_
  refine n_iinc C (v := nI 2) (L2 := [(1, .int (nI 2)), (0, .ref h0)]) 0 dX1_init_36 rfl (by decide) (by decide) rfl ?_
  refine n_goto C 14 dX1_init_39 (by decide) ?_
  refine n_iload_n C 0 dX1_init_14 rfl ?_
  refine n_aload_n C 1 dX1_init_15 rfl ?_
  refine n_get C (ci := 1) (N := 3) (T := TX1) 0 (fs := [.int 0, .int 0, .ref q0]) rfl rfl wi_X1 2 (by decide) wd_193 (v := .ref q0) rfl dX1_init_16 ?_
  refine n_alenq C hcS 1 rfl dX1_init_19 ?_
  refine n_ige_f C 42 (by decide) dX1_init_20 (by decide) ?_
  refine n_aload_n C 1 dX1_init_23 rfl ?_
  refine n_get C (ci := 1) (N := 3) (T := TX1) 0 (fs := [.int 0, .int 0, .ref q0]) rfl rfl wi_X1 2 (by decide) wd_193 (v := .ref q0) rfl dX1_init_24 ?_
  refine n_iload_n C 0 dX1_init_27 rfl ?_
  refine n_new C (ci := 6) (N := 5) (T := TX7) (mc2 := 58) (ms2 := 949) rfl wi_X7 tyX7 tyX7_ok wd_187 wd_26 wd_5 (fs := [.null, .null, .null, .null, .null]) nf_X7 rfl rfl ⟨Nat.le_of_ble_eq_true rfl, Nat.le_of_ble_eq_true rfl⟩ dX1_init_28 (fun q5 => ?_)
  refine n_dup C dX1_init_31 rfl ?_
  refine n_call C (As := []) (mc2 := 85) (ms2 := 1414) iX7_init (c_X7_init l D cI) wd_189 rfl ⟨Nat.le_of_ble_eq_true rfl, Nat.le_of_ble_eq_true rfl⟩ ⟨rfl, rfl⟩ rfl (Nat.le_of_ble_eq_true rfl) rfl rfl ⟨Nat.le_of_ble_eq_true rfl, Nat.le_of_ble_eq_true rfl⟩ dX1_init_32 (fun ad6 cS6 ead6 hSad6 => ?_)
  subst ead6
  refine n_astq C hcS 1 58 (f2 := (va_up (va_up (va_up (fun _ => none) 0 (some (ad2 0))) 1 (some (ad4 0))) 2 (some (ad6 0)))) (w2 := (((([(h0, .inr (1, [.int 0, .int 0, .ref q0]))] ++ [(q0, .inl (cS, (4, .inr (.inr (.inr (.inr (va_up (va_up (va_up (fun _ => none) 0 (some (ad2 0))) 1 (some (ad4 0))) 2 (some (ad6 0)))))))))]) ++ gL cI cS2 ad2 mX7 0 shX7) ++ gL cI cS4 ad4 mX7 0 shX7) ++ gL cI cS6 ad6 mX7 0 shX7)) rfl rfl (by decide) (by decide) rfl rfl dX1_init_35 ?_
  refine n_iinc C (v := nI 3) (L2 := [(1, .int (nI 3)), (0, .ref h0)]) 0 dX1_init_36 rfl (by decide) (by decide) rfl ?_
  refine n_goto C 14 dX1_init_39 (by decide) ?_
  refine n_iload_n C 0 dX1_init_14 rfl ?_
  refine n_aload_n C 1 dX1_init_15 rfl ?_
  refine n_get C (ci := 1) (N := 3) (T := TX1) 0 (fs := [.int 0, .int 0, .ref q0]) rfl rfl wi_X1 2 (by decide) wd_193 (v := .ref q0) rfl dX1_init_16 ?_
  refine n_alenq C hcS 1 rfl dX1_init_19 ?_
  refine n_ige_f C 42 (by decide) dX1_init_20 (by decide) ?_
  refine n_aload_n C 1 dX1_init_23 rfl ?_
  refine n_get C (ci := 1) (N := 3) (T := TX1) 0 (fs := [.int 0, .int 0, .ref q0]) rfl rfl wi_X1 2 (by decide) wd_193 (v := .ref q0) rfl dX1_init_24 ?_
  refine n_iload_n C 0 dX1_init_27 rfl ?_
  refine n_new C (ci := 6) (N := 5) (T := TX7) (mc2 := 86) (ms2 := 1419) rfl wi_X7 tyX7 tyX7_ok wd_187 wd_26 wd_5 (fs := [.null, .null, .null, .null, .null]) nf_X7 rfl rfl ⟨Nat.le_of_ble_eq_true rfl, Nat.le_of_ble_eq_true rfl⟩ dX1_init_28 (fun q7 => ?_)
  refine n_dup C dX1_init_31 rfl ?_
  refine n_call C (As := []) (mc2 := 113) (ms2 := 1884) iX7_init (c_X7_init l D cI) wd_189 rfl ⟨Nat.le_of_ble_eq_true rfl, Nat.le_of_ble_eq_true rfl⟩ ⟨rfl, rfl⟩ rfl (Nat.le_of_ble_eq_true rfl) rfl rfl ⟨Nat.le_of_ble_eq_true rfl, Nat.le_of_ble_eq_true rfl⟩ dX1_init_32 (fun ad8 cS8 ead8 hSad8 => ?_)
  subst ead8
  refine n_astq C hcS 1 86 (f2 := (va_up (va_up (va_up (va_up (fun _ => none) 0 (some (ad2 0))) 1 (some (ad4 0))) 2 (some (ad6 0))) 3 (some (ad8 0)))) (w2 := ((((([(h0, .inr (1, [.int 0, .int 0, .ref q0]))] ++ [(q0, .inl (cS, (4, .inr (.inr (.inr (.inr (va_up (va_up (va_up (va_up (fun _ => none) 0 (some (ad2 0))) 1 (some (ad4 0))) 2 (some (ad6 0))) 3 (some (ad8 0)))))))))]) ++ gL cI cS2 ad2 mX7 0 shX7) ++ gL cI cS4 ad4 mX7 0 shX7) ++ gL cI cS6 ad6 mX7 0 shX7) ++ gL cI cS8 ad8 mX7 0 shX7)) rfl rfl (by decide) (by decide) rfl rfl dX1_init_35 ?_
  refine n_iinc C (v := nI 4) (L2 := [(1, .int (nI 4)), (0, .ref h0)]) 0 dX1_init_36 rfl (by decide) (by decide) rfl ?_
  refine n_goto C 14 dX1_init_39 (by decide) ?_
  refine n_iload_n C 0 dX1_init_14 rfl ?_
  refine n_aload_n C 1 dX1_init_15 rfl ?_
  refine n_get C (ci := 1) (N := 3) (T := TX1) 0 (fs := [.int 0, .int 0, .ref q0]) rfl rfl wi_X1 2 (by decide) wd_193 (v := .ref q0) rfl dX1_init_16 ?_
  refine n_alenq C hcS 1 rfl dX1_init_19 ?_
  refine n_ige_t C 42 (by decide) dX1_init_20 (by decide) ?_
  have hup := up4 (ad := fun k => if k < 1 then h0 else if k < 2 then q0 else if k < 30 then ad2 (k - 2) else if k < 58 then ad4 (k - 30) else if k < 86 then ad6 (k - 58) else ad8 (k - 86)) (a := ad2 0) (b := ad4 0) (c := ad6 0) (d := ad8 0) rfl rfl rfl rfl
  rw [hup]
  exact n_vret C hQ (fun k => if k < 1 then h0 else if k < 2 then q0 else if k < 30 then ad2 (k - 2) else if k < 58 then ad4 (k - 30) else if k < 86 then ad6 (k - 58) else ad8 (k - 86)) cS rfl rfl (fun _ => hcS) dX1_init_42
