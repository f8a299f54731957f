set_option maxRecDepth 100000 in
set_option maxHeartbeats 4000000 in
/-- the walk to the loop's head: both objects made -/
theorem law_make {p : Program} {l : Launch} {e : Env} {s : State} {m : MethodId} {args : Array Value} {below : List Frame} {meth : Method} {c : Code} {Q : State → Prop} {D : va_G} {cI : ClassId} {A : Nat → Prop} {b : Nat} {rt : Option FieldType} (C : nC D cI A RL cL_law rt 8 p s m args meth c)
    (kk : ∀ (a1 a2 : Nat → Nat) (c1 c2 : ClassId), va_K D vwCl [(c1, .object "RepairDuty$State")] s → nV p l e room_1 s m args below meth c Q D A 8 161 5235 ((([] : va_W) ++ gL cI c1 a1 mX9 0 shX9) ++ gL cI c2 a2 mX10 0 shX10) 18 [(3, .int (nI 0)), (2, .ref (a2 0)), (1, .ref (a1 0)), (0, .ref b)] []) : nV p l e room_1 s m args below meth c Q D A 8 0 0 [] 0 [(0, .ref b)] [] := by
  refine n_new C (ci := 8) (N := 5) (T := TX9) (mc2 := 1) (ms2 := 5) rfl wi_X9 tyX9 tyX9_ok wd_37 wd_38 wd_23 (fs := [.null, .null, .null, .null, .null]) nf_X9 rfl rfl ⟨Nat.le_of_ble_eq_true rfl, Nat.le_of_ble_eq_true rfl⟩ dL_law_0 (fun q0 => ?_)
  refine n_dup C dL_law_3 rfl ?_
  refine n_call C (As := []) (mc2 := 154) (ms2 := 2474) iX9_init (c_X9_init l D cI) wd_39 rfl ⟨Nat.le_of_ble_eq_true rfl, Nat.le_of_ble_eq_true rfl⟩ ⟨rfl, rfl⟩ rfl (Nat.le_of_ble_eq_true rfl) rfl rfl ⟨Nat.le_of_ble_eq_true rfl, Nat.le_of_ble_eq_true rfl⟩ dL_law_4 (fun ad1 cS1 ead1 hSad1 => ?_)
  subst ead1
  refine n_astore_n C (L2 := [(1, .ref (ad1 0)), (0, .ref b)]) dL_law_7 (by decide) rfl ?_
  refine n_new C (ci := 9) (N := 21) (T := TX10) (mc2 := 155) (ms2 := 2495) rfl wi_X10 tyX10 tyX10_ok wd_697 wd_698 wd_32 (fs := [.null, .null, .int 0, .int 0, .null, .int 0, .null, .int 0, .int 0, .int 0, .null, .int 0, .int 0, .null, .int 0, .int 0, .int 0, .int 0, .int 0, .int 0, .int 0]) nf_X10 rfl rfl ⟨Nat.le_of_ble_eq_true rfl, Nat.le_of_ble_eq_true rfl⟩ dL_law_8 (fun q2 => ?_)
  refine n_dup C dL_law_11 rfl ?_
  refine n_call C (As := []) (mc2 := 161) (ms2 := 5235) iX10_init (c_X10_init l D cI) wd_699 rfl ⟨Nat.le_of_ble_eq_true rfl, Nat.le_of_ble_eq_true rfl⟩ ⟨rfl, rfl⟩ rfl (Nat.le_of_ble_eq_true rfl) rfl rfl ⟨Nat.le_of_ble_eq_true rfl, Nat.le_of_ble_eq_true rfl⟩ dL_law_12 (fun ad3 cS3 ead3 hSad3 => ?_)
  subst ead3
  refine n_astore_n C (L2 := [(2, .ref (ad3 0)), (1, .ref (ad1 0)), (0, .ref b)]) dL_law_15 (by decide) rfl ?_
  refine n_iconst C (nI 0) dL_law_16 (by decide) ?_
  refine n_istore_n C (L2 := [(3, .int (nI 0)), (2, .ref (ad3 0)), (1, .ref (ad1 0)), (0, .ref b)]) dL_law_17 (by decide) rfl ?_
  exact kk ad1 ad3 cS1 cS3 (hSad1 trivial)
