set_option maxRecDepth 100000 in
set_option maxHeartbeats 4000000 in
/-- the law's first steps: the object made -/
theorem law_make {p : Program} {l : Launch} {e : Env} {s : State} {m : MethodId} {args : Array Value} {below : List Frame} {meth : Method} {c : Code} {Q : State → Prop} {D : va_G} {cI : ClassId} {A : Nat → Prop} {b : Nat} {rt : Option FieldType} (C : nC D cI A RL cL_law rt 15 p s m args meth c)
    (kk : ∀ (a1 : Nat → Nat) (c1 : ClassId), va_K D vwCl [(c1, .object "RepairDuty$State")] s → nV p l e room_1 s m args below meth c Q D A 15 154 2474 (([] : va_W) ++ gL cI c1 a1 mX9 0 shX9) 8 [(1, .ref (a1 0)), (0, .ref b)] []) : nV p l e room_1 s m args below meth c Q D A 15 0 0 [] 0 [(0, .ref b)] [] := by
  refine n_new C (ci := 8) (N := 5) (T := TX9) (mc2 := 1) (ms2 := 5) rfl wi_X9 tyX9 tyX9_ok wd_17 wd_18 wd_4 (fs := [.null, .null, .null, .null, .null]) nf_X9 rfl rfl ⟨Nat.le_of_ble_eq_true rfl, Nat.le_of_ble_eq_true rfl⟩ dL_law_0 (fun q0 => ?_)
  refine n_dup C dL_law_3 rfl ?_
  refine n_call C (As := []) (mc2 := 154) (ms2 := 2474) iX9_init (c_X9_init l D cI) wd_19 rfl ⟨Nat.le_of_ble_eq_true rfl, Nat.le_of_ble_eq_true rfl⟩ ⟨rfl, rfl⟩ rfl (Nat.le_of_ble_eq_true rfl) rfl rfl ⟨Nat.le_of_ble_eq_true rfl, Nat.le_of_ble_eq_true rfl⟩ dL_law_4 (fun ad1 cS1 ead1 hSad1 => ?_)
  subst ead1
  refine n_astore_n C (L2 := [(1, .ref (ad1 0)), (0, .ref b)]) dL_law_7 (by decide) rfl ?_
  exact kk ad1 cS1 (hSad1 trivial)
