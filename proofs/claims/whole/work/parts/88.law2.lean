set_option maxRecDepth 100000 in
set_option maxHeartbeats 4000000 in
theorem law_14 {p : Program} {l : Launch} {e : Env} {s : State} {m : MethodId} {args : Array Value} {below : List Frame} {meth : Method} {c : Code} {Q : State → Prop} {G : gG} {b N mc ms : Nat} {xs : Nat → Int32} {rt : Option FieldType} (C : gC G RL cL_law rt 8 p room_1 s m args meth c mc ms) (hN : N ≤ 2048) (X : sX G b N xs s) {i T : Nat} {mem : gM} (hi : 4 * i + 4 ≤ N) (hT : T ≤ 200 * i) (hI : INV T mem) (kk : ∀ (T2 : Nat) (u : gM), T2 ≤ T + 200 → INV T2 u → gV p l e room_1 s m args below meth c mc ms Q G 8 u 875 [(0, .ref b), (1, .ref (gad G 0)), (2, .ref (gad G 154)), (3, .int (nI (4 * i)))] []) : gV p l e room_1 s m args below meth c mc ms Q G 8 mem 575 [(0, .ref b), (1, .ref (gad G 0)), (2, .ref (gad G 154)), (3, .int (nI (4 * i)))] [] := by
  obtain ⟨Vs, h, o, tx, tl, r, g, hx, hh, h4, hpa, tX, tM⟩ := id hI
  refine g_aload_n C 1 dL_law_575 rfl ?_
  refine g_aload_n C 0 dL_law_576 rfl ?_
  refine g_iload_n C 3 dL_law_577 rfl ?_
  refine g_iconst C (nI 1) dL_law_578 (by decide) ?_
  refine g_iadd_n C (d := (4 * i) + 1) dL_law_579 rfl ?_
  refine g_sld C X (j := (4 * i) + 1) (by omega) (by omega) dL_law_580 ?_
  refine g_cVr C (As := [.int (xs ((4 * i) + 1))]) iX9_type (c_X9_type l G mem tX (xs ((4 * i) + 1))) wd_519 ob_0 rfl ⟨Nat.le_of_ble_eq_true rfl, Nat.le_of_ble_eq_true rfl⟩ ⟨rfl, rfl⟩ rfl (Nat.le_of_ble_eq_true rfl) dL_law_581 (fun r1 u1 hq => ?_)
  obtain ⟨⟨tx2, tl2, ty1, tX2⟩, hf⟩ := hq
  have tM1 := txm_3 tM (hf 154 (by decide) (by decide)) (hf 158 (by decide) (by decide))
  refine g_aload_n C 2 dL_law_584 rfl ?_
  refine g_aload_n C 0 dL_law_585 rfl ?_
  refine g_iload_n C 3 dL_law_586 rfl ?_
  refine g_iconst C (nI 1) dL_law_587 (by decide) ?_
  refine g_iadd_n C (d := (4 * i) + 1) dL_law_588 rfl ?_
  refine g_sld C X (j := (4 * i) + 1) (by omega) (by omega) dL_law_589 ?_
  refine g_cVr C (As := [.int (xs ((4 * i) + 1))]) iX10_type (c_X10_type l G u1 tM1 (xs ((4 * i) + 1))) wd_877 ob_154 rfl ⟨Nat.le_of_ble_eq_true rfl, Nat.le_of_ble_eq_true rfl⟩ ⟨rfl, rfl⟩ rfl (Nat.le_of_ble_eq_true rfl) dL_law_590 (fun r2 u2 hq => ?_)
  obtain ⟨⟨tx3, tl3, ty2, tM3⟩, hmt⟩ := hq
  obtain ⟨e1, e2, e3⟩ := ty_det tX.2.1 ty1 ty2
  rw [← e2, ← e3] at tM3
  refine g_icmp_eq_t C 875 (e1) dL_law_593 (by decide) ?_
  exact kk (T) (u2) (by omega) (inv_text r g hx hh h4 hpa tX2 hf tM3 hmt)

set_option maxRecDepth 100000 in
set_option maxHeartbeats 4000000 in
theorem law_15 {p : Program} {l : Launch} {e : Env} {s : State} {m : MethodId} {args : Array Value} {below : List Frame} {meth : Method} {c : Code} {Q : State → Prop} {G : gG} {b N mc ms : Nat} {xs : Nat → Int32} {rt : Option FieldType} (C : gC G RL cL_law rt 8 p room_1 s m args meth c mc ms) (hN : N ≤ 2048) (X : sX G b N xs s) {i T : Nat} {mem : gM} (hi : 4 * i + 4 ≤ N) (hT : T ≤ 200 * i) (hI : INV T mem) (kk : ∀ (T2 : Nat) (u : gM), T2 ≤ T + 200 → INV T2 u → gV p l e room_1 s m args below meth c mc ms Q G 8 u 875 [(0, .ref b), (1, .ref (gad G 0)), (2, .ref (gad G 154)), (3, .int (nI (4 * i)))] []) : gV p l e room_1 s m args below meth c mc ms Q G 8 mem 598 [(0, .ref b), (1, .ref (gad G 0)), (2, .ref (gad G 154)), (3, .int (nI (4 * i)))] [] := by
  obtain ⟨Vs, h, o, tx, tl, r, g, hx, hh, h4, hpa, tX, tM⟩ := id hI
  refine g_aload_n C 1 dL_law_598 rfl ?_
  refine g_cV1 C (As := []) (w := .int (nI tl)) (mem3 := gr mem 143 (upd (mem 143) 0 (nI 0))) iX9_clear (c_X9_clear l G mem tX) wd_528 ob_0 rfl ⟨Nat.le_of_ble_eq_true rfl, Nat.le_of_ble_eq_true rfl⟩ ⟨rfl, rfl⟩ rfl (Nat.le_of_ble_eq_true rfl) dL_law_599 (rfl) (rfl) ?_
  refine g_aload_n C 2 dL_law_602 rfl ?_
  refine g_cV1 C (As := []) (w := .int (nI tl)) (mem3 := gr (gr mem 143 (upd (mem 143) 0 (nI 0))) 154 (upd (mem 154) 7 (nI 0))) iX10_clear (c_X10_clear l G (gr mem 143 (upd (mem 143) 0 (nI 0))) (tx := tx) (tl := tl) (txm_3 tM rfl rfl)) wd_881 ob_154 rfl ⟨Nat.le_of_ble_eq_true rfl, Nat.le_of_ble_eq_true rfl⟩ ⟨rfl, rfl⟩ rfl (Nat.le_of_ble_eq_true rfl) dL_law_603 (rfl) (rfl) ?_
  refine g_icmp_eq_t C 875 (rfl) dL_law_606 (by decide) ?_
  exact kk (T) (gr (gr mem 143 (upd (mem 143) 0 (nI 0))) 154 (upd (mem 154) 7 (nI 0))) (by omega) (inv_text (u1 := (gr mem 143 (upd (mem 143) 0 (nI 0)))) (t2 := tx) (l2 := 0) r g hx hh h4 hpa tx_cl (fun k h1 _ => gr_n h1) (txm_cl (tx := tx) (mem := (gr mem 143 (upd (mem 143) 0 (nI 0))))).1 (txm_cl (tx := tx) (mem := (gr mem 143 (upd (mem 143) 0 (nI 0))))).2)

set_option maxRecDepth 100000 in
set_option maxHeartbeats 4000000 in
theorem law_16 {p : Program} {l : Launch} {e : Env} {s : State} {m : MethodId} {args : Array Value} {below : List Frame} {meth : Method} {c : Code} {Q : State → Prop} {G : gG} {b N mc ms : Nat} {xs : Nat → Int32} {rt : Option FieldType} (C : gC G RL cL_law rt 8 p room_1 s m args meth c mc ms) (hN : N ≤ 2048) (X : sX G b N xs s) {i T : Nat} {mem : gM} (hi : 4 * i + 4 ≤ N) (hT : T ≤ 200 * i) (hI : INV T mem) (kk : ∀ (T2 : Nat) (u : gM), T2 ≤ T + 200 → INV T2 u → gV p l e room_1 s m args below meth c mc ms Q G 8 u 875 [(0, .ref b), (1, .ref (gad G 0)), (2, .ref (gad G 154)), (3, .int (nI (4 * i)))] []) : gV p l e room_1 s m args below meth c mc ms Q G 8 mem 611 [(0, .ref b), (1, .ref (gad G 0)), (2, .ref (gad G 154)), (3, .int (nI (4 * i)))] [] := by
  obtain ⟨Vs, h, o, tx, tl, r, g, hx, hh, h4, hpa, tX, tM⟩ := id hI
  refine g_aload_n C 1 dL_law_611 rfl ?_
  refine g_cVr C (As := []) iX9_read (c_X9_read l G g mem r hx tX) wd_536 ob_0 rfl ⟨Nat.le_of_ble_eq_true rfl, Nat.le_of_ble_eq_true rfl⟩ ⟨rfl, rfl⟩ rfl (Nat.le_of_ble_eq_true rfl) dL_law_612 (fun r1 u1 hq => ?_)
  have rx := hq
  obtain ⟨f154, f155, f158⟩ := rdx_3 rx
  have g1 : Good T (u1 155) := by rw [f155]; exact g
  have h1 : u1 154 2 = nI h := by rw [f154]; exact hh
  refine g_aload_n C 2 dL_law_615 rfl ?_
  refine g_cVr C (As := []) iX10_read (c_X10_read l G u1 g1 h1 h4 (txm_3 tM f154 f158)) wd_885 ob_154 rfl ⟨Nat.le_of_ble_eq_true rfl, Nat.le_of_ble_eq_true rfl⟩ ⟨rfl, rfl⟩ rfl (Nat.le_of_ble_eq_true rfl) dL_law_616 (fun r2 u2 hq => ?_)
  have hst := inv_read r g hx hh h4 hpa tX tM rx hq
  refine g_icmp_eq_t C 875 (hst.1) dL_law_619 (by decide) ?_
  exact kk (T) (u2) (by omega) (hst.2)

set_option maxRecDepth 100000 in
set_option maxHeartbeats 4000000 in
theorem law_17 {p : Program} {l : Launch} {e : Env} {s : State} {m : MethodId} {args : Array Value} {below : List Frame} {meth : Method} {c : Code} {Q : State → Prop} {G : gG} {b N mc ms : Nat} {xs : Nat → Int32} {rt : Option FieldType} (C : gC G RL cL_law rt 8 p room_1 s m args meth c mc ms) (hN : N ≤ 2048) (X : sX G b N xs s) {i T : Nat} {mem : gM} (hi : 4 * i + 4 ≤ N) (hT : T ≤ 200 * i) (hI : INV T mem) (kk : ∀ (T2 : Nat) (u : gM), T2 ≤ T + 200 → INV T2 u → gV p l e room_1 s m args below meth c mc ms Q G 8 u 875 [(0, .ref b), (1, .ref (gad G 0)), (2, .ref (gad G 154)), (3, .int (nI (4 * i)))] []) : gV p l e room_1 s m args below meth c mc ms Q G 8 mem 624 [(0, .ref b), (1, .ref (gad G 0)), (2, .ref (gad G 154)), (3, .int (nI (4 * i)))] [] := by
  obtain ⟨Vs, h, o, tx, tl, r, g, hx, hh, h4, hpa, tX, tM⟩ := id hI
  refine g_aload_n C 1 dL_law_624 rfl ?_
  refine g_aload_n C 0 dL_law_625 rfl ?_
  refine g_iload_n C 3 dL_law_626 rfl ?_
  refine g_iconst C (nI 1) dL_law_627 (by decide) ?_
  refine g_iadd_n C (d := (4 * i) + 1) dL_law_628 rfl ?_
  refine g_sld C X (j := (4 * i) + 1) (by omega) (by omega) dL_law_629 ?_
  refine g_aload_n C 0 dL_law_630 rfl ?_
  refine g_iload_n C 3 dL_law_631 rfl ?_
  refine g_iconst C (nI 2) dL_law_632 (by decide) ?_
  refine g_iadd_n C (d := (4 * i) + 2) dL_law_633 rfl ?_
  refine g_sld C X (j := (4 * i) + 2) (by omega) (by omega) dL_law_634 ?_
  refine g_cV1 C (As := [.int (xs ((4 * i) + 1)), .int (xs ((4 * i) + 2))]) (w := .int (lostR (mem 155) (xs ((4 * i) + 1)) (xs ((4 * i) + 2)))) (mem3 := mem) iX9_lost (c_X9_lost l G g mem r (xs ((4 * i) + 1)) (xs ((4 * i) + 2))) wd_564 ob_0 rfl ⟨Nat.le_of_ble_eq_true rfl, Nat.le_of_ble_eq_true rfl⟩ ⟨rfl, rfl⟩ rfl (Nat.le_of_ble_eq_true rfl) dL_law_635 (rfl) (rfl) ?_
  refine g_aload_n C 2 dL_law_638 rfl ?_
  refine g_aload_n C 0 dL_law_639 rfl ?_
  refine g_iload_n C 3 dL_law_640 rfl ?_
  refine g_iconst C (nI 1) dL_law_641 (by decide) ?_
  refine g_iadd_n C (d := (4 * i) + 1) dL_law_642 rfl ?_
  refine g_sld C X (j := (4 * i) + 1) (by omega) (by omega) dL_law_643 ?_
  refine g_aload_n C 0 dL_law_644 rfl ?_
  refine g_iload_n C 3 dL_law_645 rfl ?_
  refine g_iconst C (nI 2) dL_law_646 (by decide) ?_
  refine g_iadd_n C (d := (4 * i) + 2) dL_law_647 rfl ?_
  refine g_sld C X (j := (4 * i) + 2) (by omega) (by omega) dL_law_648 ?_
  refine g_cV1 C (As := [.int (xs ((4 * i) + 1)), .int (xs ((4 * i) + 2))]) (w := .int (lostR (mem 155) (xs ((4 * i) + 1)) (xs ((4 * i) + 2)))) (mem3 := mem) iX10_lost (c_X10_lost l G mem g (xs ((4 * i) + 1)) (xs ((4 * i) + 2))) wd_901 ob_154 rfl ⟨Nat.le_of_ble_eq_true rfl, Nat.le_of_ble_eq_true rfl⟩ ⟨rfl, rfl⟩ rfl (Nat.le_of_ble_eq_true rfl) dL_law_649 (rfl) (rfl) ?_
  refine g_icmp_eq_t C 875 (rfl) dL_law_652 (by decide) ?_
  exact kk (T) (mem) (by omega) (hI)

set_option maxRecDepth 100000 in
set_option maxHeartbeats 4000000 in
theorem law_18 {p : Program} {l : Launch} {e : Env} {s : State} {m : MethodId} {args : Array Value} {below : List Frame} {meth : Method} {c : Code} {Q : State → Prop} {G : gG} {b N mc ms : Nat} {xs : Nat → Int32} {rt : Option FieldType} (C : gC G RL cL_law rt 8 p room_1 s m args meth c mc ms) (hN : N ≤ 2048) (X : sX G b N xs s) {i T : Nat} {mem : gM} (hi : 4 * i + 4 ≤ N) (hT : T ≤ 200 * i) (hI : INV T mem) (kk : ∀ (T2 : Nat) (u : gM), T2 ≤ T + 200 → INV T2 u → gV p l e room_1 s m args below meth c mc ms Q G 8 u 875 [(0, .ref b), (1, .ref (gad G 0)), (2, .ref (gad G 154)), (3, .int (nI (4 * i)))] []) : gV p l e room_1 s m args below meth c mc ms Q G 8 mem 657 [(0, .ref b), (1, .ref (gad G 0)), (2, .ref (gad G 154)), (3, .int (nI (4 * i)))] [] := by
  obtain ⟨Vs, h, o, tx, tl, r, g, hx, hh, h4, hpa, tX, tM⟩ := id hI
  refine g_aload_n C 1 dL_law_657 rfl ?_
  refine g_aload_n C 0 dL_law_658 rfl ?_
  refine g_iload_n C 3 dL_law_659 rfl ?_
  refine g_iconst C (nI 1) dL_law_660 (by decide) ?_
  refine g_iadd_n C (d := (4 * i) + 1) dL_law_661 rfl ?_
  refine g_sld C X (j := (4 * i) + 1) (by omega) (by omega) dL_law_662 ?_
  refine g_cVr C (As := [.int (xs ((4 * i) + 1))]) iX9_repair (c_X9_repair l G g mem r hx (by omega) (xs ((4 * i) + 1))) wd_569 ob_0 rfl ⟨Nat.le_of_ble_eq_true rfl, Nat.le_of_ble_eq_true rfl⟩ ⟨rfl, rfl⟩ rfl (Nat.le_of_ble_eq_true rfl) dL_law_663 (fun r1 u1 hq => ?_)
  have ax := hq
  obtain ⟨f154, f155, f158⟩ := ax_3 ax
  have g1 : Good T (u1 155) := by rw [f155]; exact g
  have h1 : u1 154 2 = nI h := by rw [f154]; exact hh
  refine g_aload_n C 2 dL_law_666 rfl ?_
  refine g_aload_n C 0 dL_law_667 rfl ?_
  refine g_iload_n C 3 dL_law_668 rfl ?_
  refine g_iconst C (nI 1) dL_law_669 (by decide) ?_
  refine g_iadd_n C (d := (4 * i) + 1) dL_law_670 rfl ?_
  refine g_sld C X (j := (4 * i) + 1) (by omega) (by omega) dL_law_671 ?_
  refine g_cVr C (As := [.int (xs ((4 * i) + 1))]) iX10_repair (c_X10_repair l G u1 g1 h1 h4 (by omega) (xs ((4 * i) + 1))) wd_905 ob_154 rfl ⟨Nat.le_of_ble_eq_true rfl, Nat.le_of_ble_eq_true rfl⟩ ⟨rfl, rfl⟩ rfl (Nat.le_of_ble_eq_true rfl) dL_law_672 (fun r2 u2 hq => ?_)
  rw [f155] at hq
  have hst := step_act (T2 := T + 1) g hh h4 hpa tX tM ax hq (fun hok => good_reps g (by omega) _ hok) (by omega)
  refine g_icmp_eq_t C 875 (hst.1) dL_law_675 (by decide) ?_
  exact kk (T + 1) (u2) (by omega) (hst.2)

set_option maxRecDepth 100000 in
set_option maxHeartbeats 4000000 in
theorem law_19 {p : Program} {l : Launch} {e : Env} {s : State} {m : MethodId} {args : Array Value} {below : List Frame} {meth : Method} {c : Code} {Q : State → Prop} {G : gG} {b N mc ms : Nat} {xs : Nat → Int32} {rt : Option FieldType} (C : gC G RL cL_law rt 8 p room_1 s m args meth c mc ms) (hN : N ≤ 2048) (X : sX G b N xs s) {i T : Nat} {mem : gM} (hi : 4 * i + 4 ≤ N) (hT : T ≤ 200 * i) (hI : INV T mem) (kk : ∀ (T2 : Nat) (u : gM), T2 ≤ T + 200 → INV T2 u → gV p l e room_1 s m args below meth c mc ms Q G 8 u 875 [(0, .ref b), (1, .ref (gad G 0)), (2, .ref (gad G 154)), (3, .int (nI (4 * i)))] []) : gV p l e room_1 s m args below meth c mc ms Q G 8 mem 680 [(0, .ref b), (1, .ref (gad G 0)), (2, .ref (gad G 154)), (3, .int (nI (4 * i)))] [] := by
  obtain ⟨Vs, h, o, tx, tl, r, g, hx, hh, h4, hpa, tX, tM⟩ := id hI
  refine g_aload_n C 1 dL_law_680 rfl ?_
  refine g_cVr C (As := []) iX9_repairAll (c_X9_repairAll l G g mem r hx (by omega)) wd_631 ob_0 rfl ⟨Nat.le_of_ble_eq_true rfl, Nat.le_of_ble_eq_true rfl⟩ ⟨rfl, rfl⟩ rfl (Nat.le_of_ble_eq_true rfl) dL_law_681 (fun r1 u1 hq => ?_)
  obtain ⟨⟨hr1, xx⟩, gg⟩ := hq
  obtain ⟨f154, f155, f158⟩ := xp_3 xx
  have g1 : Good T (u1 155) := by rw [f155]; exact g
  have h1 : u1 154 2 = nI h := by rw [f154]; exact hh
  refine g_aload_n C 2 dL_law_684 rfl ?_
  refine g_cVr C (As := []) iX10_repairAll (c_X10_repairAll l G u1 g1 h1 h4 (by omega)) wd_932 ob_154 rfl ⟨Nat.le_of_ble_eq_true rfl, Nat.le_of_ble_eq_true rfl⟩ ⟨rfl, rfl⟩ rfl (Nat.le_of_ble_eq_true rfl) dL_law_685 (fun r2 u2 hq => ?_)
  rw [f155] at hq
  obtain ⟨hr2, ma⟩ := hq
  refine g_icmp_eq_t C 875 (hr1.trans hr2.symm) dL_law_688 (by decide) ?_
  exact kk (T + 200) (u2) (by omega) (inv_act (T := T) (o := 0) h4 hpa tX tM (xx.more (by omega)) gg ma)

set_option maxRecDepth 100000 in
set_option maxHeartbeats 4000000 in
theorem law_20 {p : Program} {l : Launch} {e : Env} {s : State} {m : MethodId} {args : Array Value} {below : List Frame} {meth : Method} {c : Code} {Q : State → Prop} {G : gG} {b N mc ms : Nat} {xs : Nat → Int32} {rt : Option FieldType} (C : gC G RL cL_law rt 8 p room_1 s m args meth c mc ms) (hN : N ≤ 2048) (X : sX G b N xs s) {i T : Nat} {mem : gM} (hi : 4 * i + 4 ≤ N) (hT : T ≤ 200 * i) (hI : INV T mem) (kk : ∀ (T2 : Nat) (u : gM), T2 ≤ T + 200 → INV T2 u → gV p l e room_1 s m args below meth c mc ms Q G 8 u 875 [(0, .ref b), (1, .ref (gad G 0)), (2, .ref (gad G 154)), (3, .int (nI (4 * i)))] []) : gV p l e room_1 s m args below meth c mc ms Q G 8 mem 693 [(0, .ref b), (1, .ref (gad G 0)), (2, .ref (gad G 154)), (3, .int (nI (4 * i)))] [] := by
  obtain ⟨Vs, h, o, tx, tl, r, g, hx, hh, h4, hpa, tX, tM⟩ := id hI
  refine g_aload_n C 1 dL_law_693 rfl ?_
  refine g_aload_n C 0 dL_law_694 rfl ?_
  refine g_iload_n C 3 dL_law_695 rfl ?_
  refine g_iconst C (nI 1) dL_law_696 (by decide) ?_
  refine g_iadd_n C (d := (4 * i) + 1) dL_law_697 rfl ?_
  refine g_sld C X (j := (4 * i) + 1) (by omega) (by omega) dL_law_698 ?_
  refine g_aload_n C 0 dL_law_699 rfl ?_
  refine g_iload_n C 3 dL_law_700 rfl ?_
  refine g_iconst C (nI 2) dL_law_701 (by decide) ?_
  refine g_iadd_n C (d := (4 * i) + 2) dL_law_702 rfl ?_
  refine g_sld C X (j := (4 * i) + 2) (by omega) (by omega) dL_law_703 ?_
  refine g_aload_n C 0 dL_law_704 rfl ?_
  refine g_iload_n C 3 dL_law_705 rfl ?_
  refine g_iconst C (nI 3) dL_law_706 (by decide) ?_
  refine g_iadd_n C (d := (4 * i) + 3) dL_law_707 rfl ?_
  refine g_sld C X (j := (4 * i) + 3) (by omega) (by omega) dL_law_708 ?_
  refine g_cVf C (As := [.int (xs ((4 * i) + 1)), .int (xs ((4 * i) + 2)), .int (xs ((4 * i) + 3))]) (v := .int (lookR (mem 155) (xs ((4 * i) + 1)) (xs ((4 * i) + 2)) (xs ((4 * i) + 3)))) iX9_look (c_X9_look l G g mem r (xs ((4 * i) + 1)) (xs ((4 * i) + 2)) (xs ((4 * i) + 3))) wd_635 ob_0 rfl ⟨Nat.le_of_ble_eq_true rfl, Nat.le_of_ble_eq_true rfl⟩ ⟨rfl, rfl⟩ rfl (Nat.le_of_ble_eq_true rfl) dL_law_709 (fun u1 hq => ?_)
  have xx := xp_fr r hx hq
  have g1 : Good T (u1 155) := by rw [xx.2.2 155 (by decide)]; exact g
  have f155 := xx.2.2 155 (by decide)
  refine g_aload_n C 2 dL_law_712 rfl ?_
  refine g_aload_n C 0 dL_law_713 rfl ?_
  refine g_iload_n C 3 dL_law_714 rfl ?_
  refine g_iconst C (nI 1) dL_law_715 (by decide) ?_
  refine g_iadd_n C (d := (4 * i) + 1) dL_law_716 rfl ?_
  refine g_sld C X (j := (4 * i) + 1) (by omega) (by omega) dL_law_717 ?_
  refine g_aload_n C 0 dL_law_718 rfl ?_
  refine g_iload_n C 3 dL_law_719 rfl ?_
  refine g_iconst C (nI 2) dL_law_720 (by decide) ?_
  refine g_iadd_n C (d := (4 * i) + 2) dL_law_721 rfl ?_
  refine g_sld C X (j := (4 * i) + 2) (by omega) (by omega) dL_law_722 ?_
  refine g_aload_n C 0 dL_law_723 rfl ?_
  refine g_iload_n C 3 dL_law_724 rfl ?_
  refine g_iconst C (nI 3) dL_law_725 (by decide) ?_
  refine g_iadd_n C (d := (4 * i) + 3) dL_law_726 rfl ?_
  refine g_sld C X (j := (4 * i) + 3) (by omega) (by omega) dL_law_727 ?_
  refine g_cVr C (As := [.int (xs ((4 * i) + 1)), .int (xs ((4 * i) + 2)), .int (xs ((4 * i) + 3))]) iX10_look (c_X10_look l G u1 g1 (xs ((4 * i) + 1)) (xs ((4 * i) + 2)) (xs ((4 * i) + 3))) wd_936 ob_154 rfl ⟨Nat.le_of_ble_eq_true rfl, Nat.le_of_ble_eq_true rfl⟩ ⟨rfl, rfl⟩ rfl (Nat.le_of_ble_eq_true rfl) dL_law_728 (fun r2 u2 hq => ?_)
  rw [f155] at hq
  obtain ⟨rfl, hmn⟩ := hq
  refine g_icmp_eq_t C 875 (rfl) dL_law_731 (by decide) ?_
  exact kk (T) (u2) (by omega) (inv_same (o := 0) h4 g hh hpa tX tM xx hmn)

set_option maxRecDepth 100000 in
set_option maxHeartbeats 4000000 in
theorem law_21 {p : Program} {l : Launch} {e : Env} {s : State} {m : MethodId} {args : Array Value} {below : List Frame} {meth : Method} {c : Code} {Q : State → Prop} {G : gG} {b N mc ms : Nat} {xs : Nat → Int32} {rt : Option FieldType} (C : gC G RL cL_law rt 8 p room_1 s m args meth c mc ms) (hN : N ≤ 2048) (X : sX G b N xs s) {i T : Nat} {mem : gM} (hi : 4 * i + 4 ≤ N) (hT : T ≤ 200 * i) (hI : INV T mem) (kk : ∀ (T2 : Nat) (u : gM), T2 ≤ T + 200 → INV T2 u → gV p l e room_1 s m args below meth c mc ms Q G 8 u 875 [(0, .ref b), (1, .ref (gad G 0)), (2, .ref (gad G 154)), (3, .int (nI (4 * i)))] []) : gV p l e room_1 s m args below meth c mc ms Q G 8 mem 736 [(0, .ref b), (1, .ref (gad G 0)), (2, .ref (gad G 154)), (3, .int (nI (4 * i)))] [] := by
  obtain ⟨Vs, h, o, tx, tl, r, g, hx, hh, h4, hpa, tX, tM⟩ := id hI
  refine g_aload_n C 1 dL_law_736 rfl ?_
  refine g_aload_n C 0 dL_law_737 rfl ?_
  refine g_iload_n C 3 dL_law_738 rfl ?_
  refine g_iconst C (nI 1) dL_law_739 (by decide) ?_
  refine g_iadd_n C (d := (4 * i) + 1) dL_law_740 rfl ?_
  refine g_sld C X (j := (4 * i) + 1) (by omega) (by omega) dL_law_741 ?_
  refine g_aload_n C 0 dL_law_742 rfl ?_
  refine g_iload_n C 3 dL_law_743 rfl ?_
  refine g_iconst C (nI 2) dL_law_744 (by decide) ?_
  refine g_iadd_n C (d := (4 * i) + 2) dL_law_745 rfl ?_
  refine g_sld C X (j := (4 * i) + 2) (by omega) (by omega) dL_law_746 ?_
  refine g_cV1 C (As := [.int (xs ((4 * i) + 1)), .int (xs ((4 * i) + 2))]) (w := .int (pastR (mem 155) (xs ((4 * i) + 1)) (xs ((4 * i) + 2)))) (mem3 := mem) iX9_past (c_X9_past l G g mem r (by omega) (xs ((4 * i) + 1)) (xs ((4 * i) + 2))) wd_644 ob_0 rfl ⟨Nat.le_of_ble_eq_true rfl, Nat.le_of_ble_eq_true rfl⟩ ⟨rfl, rfl⟩ rfl (Nat.le_of_ble_eq_true rfl) dL_law_747 (rfl) (rfl) ?_
  refine g_aload_n C 2 dL_law_750 rfl ?_
  refine g_aload_n C 0 dL_law_751 rfl ?_
  refine g_iload_n C 3 dL_law_752 rfl ?_
  refine g_iconst C (nI 1) dL_law_753 (by decide) ?_
  refine g_iadd_n C (d := (4 * i) + 1) dL_law_754 rfl ?_
  refine g_sld C X (j := (4 * i) + 1) (by omega) (by omega) dL_law_755 ?_
  refine g_aload_n C 0 dL_law_756 rfl ?_
  refine g_iload_n C 3 dL_law_757 rfl ?_
  refine g_iconst C (nI 2) dL_law_758 (by decide) ?_
  refine g_iadd_n C (d := (4 * i) + 2) dL_law_759 rfl ?_
  refine g_sld C X (j := (4 * i) + 2) (by omega) (by omega) dL_law_760 ?_
  refine g_cV1 C (As := [.int (xs ((4 * i) + 1)), .int (xs ((4 * i) + 2))]) (w := .int (pastR (mem 155) (xs ((4 * i) + 1)) (xs ((4 * i) + 2)))) (mem3 := mem) iX10_past (c_X10_past l G mem g (by omega) (xs ((4 * i) + 1)) (xs ((4 * i) + 2))) wd_944 ob_154 rfl ⟨Nat.le_of_ble_eq_true rfl, Nat.le_of_ble_eq_true rfl⟩ ⟨rfl, rfl⟩ rfl (Nat.le_of_ble_eq_true rfl) dL_law_761 (rfl) (rfl) ?_
  refine g_icmp_eq_t C 875 (rfl) dL_law_764 (by decide) ?_
  exact kk (T) (mem) (by omega) (hI)

set_option maxRecDepth 100000 in
set_option maxHeartbeats 4000000 in
theorem law_22 {p : Program} {l : Launch} {e : Env} {s : State} {m : MethodId} {args : Array Value} {below : List Frame} {meth : Method} {c : Code} {Q : State → Prop} {G : gG} {b N mc ms : Nat} {xs : Nat → Int32} {rt : Option FieldType} (C : gC G RL cL_law rt 8 p room_1 s m args meth c mc ms) (hN : N ≤ 2048) (X : sX G b N xs s) {i T : Nat} {mem : gM} (hi : 4 * i + 4 ≤ N) (hT : T ≤ 200 * i) (hI : INV T mem) (kk : ∀ (T2 : Nat) (u : gM), T2 ≤ T + 200 → INV T2 u → gV p l e room_1 s m args below meth c mc ms Q G 8 u 875 [(0, .ref b), (1, .ref (gad G 0)), (2, .ref (gad G 154)), (3, .int (nI (4 * i)))] []) : gV p l e room_1 s m args below meth c mc ms Q G 8 mem 769 [(0, .ref b), (1, .ref (gad G 0)), (2, .ref (gad G 154)), (3, .int (nI (4 * i)))] [] := by
  obtain ⟨Vs, h, o, tx, tl, r, g, hx, hh, h4, hpa, tX, tM⟩ := id hI
  refine g_aload_n C 1 dL_law_769 rfl ?_
  refine g_aload_n C 0 dL_law_770 rfl ?_
  refine g_iload_n C 3 dL_law_771 rfl ?_
  refine g_iconst C (nI 1) dL_law_772 (by decide) ?_
  refine g_iadd_n C (d := (4 * i) + 1) dL_law_773 rfl ?_
  refine g_sld C X (j := (4 * i) + 1) (by omega) (by omega) dL_law_774 ?_
  refine g_cVf C (As := [.int (xs ((4 * i) + 1))]) (v := .int (whyR (mem 155) (xs ((4 * i) + 1)))) iX9_why (c_X9_why l G g mem r (xs ((4 * i) + 1))) wd_659 ob_0 rfl ⟨Nat.le_of_ble_eq_true rfl, Nat.le_of_ble_eq_true rfl⟩ ⟨rfl, rfl⟩ rfl (Nat.le_of_ble_eq_true rfl) dL_law_775 (fun u1 hq => ?_)
  have xx := xp_fr r hx hq
  have g1 : Good T (u1 155) := by rw [xx.2.2 155 (by decide)]; exact g
  have f155 := xx.2.2 155 (by decide)
  refine g_aload_n C 2 dL_law_778 rfl ?_
  refine g_aload_n C 0 dL_law_779 rfl ?_
  refine g_iload_n C 3 dL_law_780 rfl ?_
  refine g_iconst C (nI 1) dL_law_781 (by decide) ?_
  refine g_iadd_n C (d := (4 * i) + 1) dL_law_782 rfl ?_
  refine g_sld C X (j := (4 * i) + 1) (by omega) (by omega) dL_law_783 ?_
  refine g_cVr C (As := [.int (xs ((4 * i) + 1))]) iX10_why (c_X10_why l G u1 g1 (xs ((4 * i) + 1))) wd_952 ob_154 rfl ⟨Nat.le_of_ble_eq_true rfl, Nat.le_of_ble_eq_true rfl⟩ ⟨rfl, rfl⟩ rfl (Nat.le_of_ble_eq_true rfl) dL_law_784 (fun r2 u2 hq => ?_)
  rw [f155] at hq
  obtain ⟨rfl, hmn⟩ := hq
  refine g_icmp_eq_t C 875 (rfl) dL_law_787 (by decide) ?_
  exact kk (T) (u2) (by omega) (inv_same (o := 0) h4 g hh hpa tX tM xx hmn)

set_option maxRecDepth 100000 in
set_option maxHeartbeats 4000000 in
theorem law_23 {p : Program} {l : Launch} {e : Env} {s : State} {m : MethodId} {args : Array Value} {below : List Frame} {meth : Method} {c : Code} {Q : State → Prop} {G : gG} {b N mc ms : Nat} {xs : Nat → Int32} {rt : Option FieldType} (C : gC G RL cL_law rt 8 p room_1 s m args meth c mc ms) (hN : N ≤ 2048) (X : sX G b N xs s) {i T : Nat} {mem : gM} (hi : 4 * i + 4 ≤ N) (hT : T ≤ 200 * i) (hI : INV T mem) (kk : ∀ (T2 : Nat) (u : gM), T2 ≤ T + 200 → INV T2 u → gV p l e room_1 s m args below meth c mc ms Q G 8 u 875 [(0, .ref b), (1, .ref (gad G 0)), (2, .ref (gad G 154)), (3, .int (nI (4 * i)))] []) : gV p l e room_1 s m args below meth c mc ms Q G 8 mem 792 [(0, .ref b), (1, .ref (gad G 0)), (2, .ref (gad G 154)), (3, .int (nI (4 * i)))] [] := by
  obtain ⟨Vs, h, o, tx, tl, r, g, hx, hh, h4, hpa, tX, tM⟩ := id hI
  refine g_aload_n C 1 dL_law_792 rfl ?_
  refine g_cV1 C (As := []) (w := .float (silR (mem 155))) (mem3 := mem) iX9_silence (c_X9_silence l G g mem r (by omega)) wd_663 ob_0 rfl ⟨Nat.le_of_ble_eq_true rfl, Nat.le_of_ble_eq_true rfl⟩ ⟨rfl, rfl⟩ rfl (Nat.le_of_ble_eq_true rfl) dL_law_793 (rfl) (rfl) ?_
  refine g_f2d C (fx_dbl (sil_nn g (by omega))) dL_law_796 ?_
  refine g_dstore C (L2 := [(4, .double (FP.f2d (silR (mem 155)))), (0, .ref b), (1, .ref (gad G 0)), (2, .ref (gad G 154)), (3, .int (nI (4 * i)))]) dL_law_797 (by decide) rfl ?_
  refine g_aload_n C 3 dL_law_799 rfl ?_
  refine g_cV1 C (As := []) (w := .float (silR (mem 155))) (mem3 := mem) iX10_silence (c_X10_silence l G mem g (by omega)) wd_956 ob_154 rfl ⟨Nat.le_of_ble_eq_true rfl, Nat.le_of_ble_eq_true rfl⟩ ⟨rfl, rfl⟩ rfl (Nat.le_of_ble_eq_true rfl) dL_law_800 (rfl) (rfl) ?_
  refine g_f2d C (fx_dbl (sil_nn g (by omega))) dL_law_803 ?_
  refine g_dstore C (L2 := [(6, .double (FP.f2d (silR (mem 155)))), (4, .double (FP.f2d (silR (mem 155)))), (0, .ref b), (1, .ref (gad G 0)), (2, .ref (gad G 154)), (3, .int (nI (4 * i)))]) dL_law_804 (by decide) rfl ?_
  refine g_dload C 1 dL_law_806 rfl ?_
  refine g_dload C 0 dL_law_808 rfl ?_
  refine g_dcmp C dL_law_810 ?_
  refine g_if_eq C 832 dL_law_811 (by decide) (fun c_811 => ?_) (fun c_811 => ?_)
  · refine g_goto C 875 dL_law_832 (by decide) ?_
    refine g_loc (L2 := [(0, .ref b), (1, .ref (gad G 0)), (2, .ref (gad G 154)), (3, .int (nI (4 * i)))]) [2, 3, 4, 5] rfl ?_
    exact kk (T) (mem) (by omega) (hI)
  · refine g_dload C 1 dL_law_814 rfl ?_
    refine g_dload C 1 dL_law_816 rfl ?_
    refine g_dcmp C dL_law_818 ?_
    refine g_if_eq_f C 830 (c_811) dL_law_819 (by decide) ?_
    refine g_dload C 0 dL_law_822 rfl ?_
    refine g_dload C 0 dL_law_824 rfl ?_
    refine g_dcmp C dL_law_826 ?_
    refine g_if_ne_t C 832 (c_811) dL_law_827 (by decide) ?_
    refine g_goto C 875 dL_law_832 (by decide) ?_
    refine g_loc (L2 := [(0, .ref b), (1, .ref (gad G 0)), (2, .ref (gad G 154)), (3, .int (nI (4 * i)))]) [2, 3, 4, 5] rfl ?_
    exact kk (T) (mem) (by omega) (hI)

set_option maxRecDepth 100000 in
set_option maxHeartbeats 4000000 in
theorem law_24 {p : Program} {l : Launch} {e : Env} {s : State} {m : MethodId} {args : Array Value} {below : List Frame} {meth : Method} {c : Code} {Q : State → Prop} {G : gG} {b N mc ms : Nat} {xs : Nat → Int32} {rt : Option FieldType} (C : gC G RL cL_law rt 8 p room_1 s m args meth c mc ms) (hN : N ≤ 2048) (X : sX G b N xs s) {i T : Nat} {mem : gM} (hi : 4 * i + 4 ≤ N) (hT : T ≤ 200 * i) (hI : INV T mem) (kk : ∀ (T2 : Nat) (u : gM), T2 ≤ T + 200 → INV T2 u → gV p l e room_1 s m args below meth c mc ms Q G 8 u 875 [(0, .ref b), (1, .ref (gad G 0)), (2, .ref (gad G 154)), (3, .int (nI (4 * i)))] []) : gV p l e room_1 s m args below meth c mc ms Q G 8 mem 835 [(0, .ref b), (1, .ref (gad G 0)), (2, .ref (gad G 154)), (3, .int (nI (4 * i)))] [] := by
  obtain ⟨Vs, h, o, tx, tl, r, g, hx, hh, h4, hpa, tX, tM⟩ := id hI
  refine g_aload_n C 1 dL_law_835 rfl ?_
  refine g_cVr C (As := []) iX9_bestWait (c_X9_bestWait l G g mem r) wd_667 ob_0 rfl ⟨Nat.le_of_ble_eq_true rfl, Nat.le_of_ble_eq_true rfl⟩ ⟨rfl, rfl⟩ rfl (Nat.le_of_ble_eq_true rfl) dL_law_836 (fun r1 u1 hq => ?_)
  obtain ⟨rfl, hq⟩ := hq
  have xx := xp_fr r hx hq
  have g1 : Good T (u1 155) := by rw [xx.2.2 155 (by decide)]; exact g
  have f155 := xx.2.2 155 (by decide)
  refine g_aload_n C 2 dL_law_839 rfl ?_
  refine g_cVr C (As := []) iX10_bestWait (c_X10_bestWait l G u1 g1) wd_960 ob_154 rfl ⟨Nat.le_of_ble_eq_true rfl, Nat.le_of_ble_eq_true rfl⟩ ⟨rfl, rfl⟩ rfl (Nat.le_of_ble_eq_true rfl) dL_law_840 (fun r2 u2 hq => ?_)
  rw [f155] at hq
  obtain ⟨rfl, hmn⟩ := hq
  refine g_icmp_eq_t C 875 (rfl) dL_law_843 (by decide) ?_
  exact kk (T) (u2) (by omega) (inv_same (o := 0) h4 g hh hpa tX tM xx hmn)

set_option maxRecDepth 100000 in
set_option maxHeartbeats 4000000 in
theorem law_25 {p : Program} {l : Launch} {e : Env} {s : State} {m : MethodId} {args : Array Value} {below : List Frame} {meth : Method} {c : Code} {Q : State → Prop} {G : gG} {b N mc ms : Nat} {xs : Nat → Int32} {rt : Option FieldType} (C : gC G RL cL_law rt 8 p room_1 s m args meth c mc ms) (hN : N ≤ 2048) (X : sX G b N xs s) {i T : Nat} {mem : gM} (hi : 4 * i + 4 ≤ N) (hT : T ≤ 200 * i) (hI : INV T mem) (kk : ∀ (T2 : Nat) (u : gM), T2 ≤ T + 200 → INV T2 u → gV p l e room_1 s m args below meth c mc ms Q G 8 u 875 [(0, .ref b), (1, .ref (gad G 0)), (2, .ref (gad G 154)), (3, .int (nI (4 * i)))] []) : gV p l e room_1 s m args below meth c mc ms Q G 8 mem 848 [(0, .ref b), (1, .ref (gad G 0)), (2, .ref (gad G 154)), (3, .int (nI (4 * i)))] [] := by
  obtain ⟨Vs, h, o, tx, tl, r, g, hx, hh, h4, hpa, tX, tM⟩ := id hI
  refine g_aload_n C 1 dL_law_848 rfl ?_
  refine g_cVr C (As := []) iX9_undo (c_X9_undo l G g mem r hx) wd_677 ob_0 rfl ⟨Nat.le_of_ble_eq_true rfl, Nat.le_of_ble_eq_true rfl⟩ ⟨rfl, rfl⟩ rfl (Nat.le_of_ble_eq_true rfl) dL_law_849 (fun r1 u1 hq => ?_)
  have ux := hq
  obtain ⟨f154, f155, f158⟩ := ux_3 ux
  have h1 : u1 154 2 = nI h := by rw [f154]; exact hh
  refine g_aload_n C 2 dL_law_852 rfl ?_
  refine g_cVr C (As := []) iX10_undo (c_X10_undo l G u1 h1 h4) wd_967 ob_154 rfl ⟨Nat.le_of_ble_eq_true rfl, Nat.le_of_ble_eq_true rfl⟩ ⟨rfl, rfl⟩ rfl (Nat.le_of_ble_eq_true rfl) dL_law_853 (fun r2 u2 hq => ?_)
  have hst := inv_undo g hx hh h4 hpa tX tM ux hq
  refine g_icmp_eq_t C 875 (hst.1) dL_law_856 (by decide) ?_
  exact kk (T) (u2) (by omega) (hst.2)

set_option maxRecDepth 100000 in
set_option maxHeartbeats 4000000 in
theorem law_26 {p : Program} {l : Launch} {e : Env} {s : State} {m : MethodId} {args : Array Value} {below : List Frame} {meth : Method} {c : Code} {Q : State → Prop} {G : gG} {b N mc ms : Nat} {xs : Nat → Int32} {rt : Option FieldType} (C : gC G RL cL_law rt 8 p room_1 s m args meth c mc ms) (hN : N ≤ 2048) (X : sX G b N xs s) {i T : Nat} {mem : gM} (hi : 4 * i + 4 ≤ N) (hT : T ≤ 200 * i) (hI : INV T mem) (kk : ∀ (T2 : Nat) (u : gM), T2 ≤ T + 200 → INV T2 u → gV p l e room_1 s m args below meth c mc ms Q G 8 u 875 [(0, .ref b), (1, .ref (gad G 0)), (2, .ref (gad G 154)), (3, .int (nI (4 * i)))] []) : gV p l e room_1 s m args below meth c mc ms Q G 8 mem 861 [(0, .ref b), (1, .ref (gad G 0)), (2, .ref (gad G 154)), (3, .int (nI (4 * i)))] [] := by
  obtain ⟨Vs, h, o, tx, tl, r, g, hx, hh, h4, hpa, tX, tM⟩ := id hI
  refine g_aload_n C 1 dL_law_861 rfl ?_
  refine g_cV1 C (As := []) (w := .long (fpR (mem 155))) (mem3 := mem) iX9_fingerprint (c_X9_fingerprint l G g mem r (by omega)) wd_685 ob_0 rfl ⟨Nat.le_of_ble_eq_true rfl, Nat.le_of_ble_eq_true rfl⟩ ⟨rfl, rfl⟩ rfl (Nat.le_of_ble_eq_true rfl) dL_law_862 (rfl) (rfl) ?_
  refine g_aload_n C 2 dL_law_865 rfl ?_
  refine g_cV1 C (As := []) (w := .long (fpR (mem 155))) (mem3 := mem) iX10_fingerprint (c_X10_fingerprint l G mem g (by omega)) wd_971 ob_154 rfl ⟨Nat.le_of_ble_eq_true rfl, Nat.le_of_ble_eq_true rfl⟩ ⟨rfl, rfl⟩ rfl (Nat.le_of_ble_eq_true rfl) dL_law_866 (rfl) (rfl) ?_
  refine g_lcmp C dL_law_869 ?_
  refine g_if_eq_t C 875 (lg_self _) dL_law_870 (by decide) ?_
  exact kk (T) (mem) (by omega) (hI)
