set_option maxRecDepth 100000 in
set_option maxHeartbeats 4000000 in
theorem law_tail {p : Program} {l : Launch} {e : Env} {s : State} {m : MethodId} {args : Array Value} {below : List Frame} {meth : Method} {c : Code} {Q : State → Prop} {G : gG} {b mc ms n : Nat} {rt : Option FieldType} (C : gC G RL cL_law rt 15 p room_1 s m args meth c mc ms) {k T : Nat} {mem : gM} (hk : k < 24) (hT : T < 2 ^ 20) (hI : LI T n mem) (kk : gV p l e room_1 s m args below meth c mc ms Q G 15 mem 733 [(0, .ref b), (1, .ref (gad G 0)), (2, .int (nI n)), (3, .int (nI k))] []) : gV p l e room_1 s m args below meth c mc ms Q G 15 mem 711 [(0, .ref b), (1, .ref (gad G 0)), (2, .int (nI n)), (3, .int (nI k)), (8, .int (nI 1))] [] := by
  obtain ⟨V, Vs, h, A, B, L, g, x, hnV⟩ := hI
  refine g_iload C 4 dL_law_711 rfl ?_
  refine g_if_eq_f C 731 (by decide) dL_law_713 (by decide) ?_
  refine g_iload_n C 3 dL_law_716 rfl ?_
  refine g_iconst C (nI 4) dL_law_717 (by decide) ?_
  refine g_irem C (by decide) dL_law_718 ?_
  refine g_iconst C (nI 3) dL_law_719 (by decide) ?_
  refine g_icmp_ne C 733 dL_law_720 (by decide) (fun c_720 => ?_) (fun c_720 => ?_)
  · refine g_loc (L2 := [(0, .ref b), (1, .ref (gad G 0)), (2, .int (nI n)), (3, .int (nI k))]) [0, 1, 2, 3] rfl ?_
    exact kk
  · refine g_aload_n C 1 dL_law_723 rfl ?_
    refine g_iload_n C 2 dL_law_724 rfl ?_
    refine g_cS1 C (As := [.ref (gad G 0), .int (nI n)]) (w := .int (nI 1)) (mem3 := mem) iL_agrees (c_agrees_n l G hnV g mem L hT x) wd_653 rfl ⟨Nat.le_of_ble_eq_true rfl, Nat.le_of_ble_eq_true rfl⟩ ⟨rfl, rfl⟩ rfl (Nat.le_of_ble_eq_true rfl) dL_law_725 (rfl) (rfl) ?_
    refine g_if_ne_t C 733 (by decide) dL_law_728 (by decide) ?_
    refine g_loc (L2 := [(0, .ref b), (1, .ref (gad G 0)), (2, .int (nI n)), (3, .int (nI k))]) [0, 1, 2, 3] rfl ?_
    exact kk
set_option maxRecDepth 100000 in
set_option maxHeartbeats 4000000 in
theorem law_A {p : Program} {l : Launch} {e : Env} {s : State} {m : MethodId} {args : Array Value} {below : List Frame} {meth : Method} {c : Code} {Q : State → Prop} {G : gG} {b N mc ms n : Nat} {xs : Nat → Int32} {rt : Option FieldType} (C : gC G RL cL_law rt 15 p room_1 s m args meth c mc ms) (hN : N ≤ 260) (X : sX G b N xs s) (hA : upA (gA G)) (hx0 : G.2.2.1.2.2 = 0) (hmc : mc + 2 ≤ room_1.cells) (hms : ms + 20 ≤ room_1.slots) (hn2 : 2 ≤ n) (hn9 : n ≤ 9) {k T : Nat} {mem : gM} {qv av : Int32} {m1 bb hw : Nat} (hk : k < 24) (hT0 : T + 256 < 2 ^ 19) (hI : LI T n mem) (hm : m1 < n) (hb : bb < 200) (kk : ∀ (T2 : Nat) (u : gM), T2 ≤ T + 256 → LI T2 n u → gV p l e room_1 s m args below meth c (mc + 2) (ms + 20) Q G 15 u 733 [(0, .ref b), (1, .ref (gad G 0)), (2, .int (nI n)), (3, .int (nI k))] []) : gV p l e room_1 s m args below meth c mc ms Q G 15 mem 266 [(0, .ref b), (1, .ref (gad G 0)), (2, .int (nI n)), (3, .int (nI k)), (4, .int qv), (5, .int av), (6, .int (nI m1)), (7, .int (nI bb)), (8, .int (nI 1)), (9, .int (nI hw))] [] := by
  obtain ⟨V, Vs, h, A, B, L, g, x, hnV⟩ := hI
  have hm2 : m1 < vN V := by rw [hnV]; exact hm
  have hn10 := gd_n10 g
  have hT : T < 2 ^ 20 := by omega
  refine g_aload_n C 1 dL_law_266 rfl ?_
  refine g_iload C 6 dL_law_267 rfl ?_
  refine g_iload C 7 dL_law_269 rfl ?_
  refine g_cV1 C (As := [.int (nI m1), .int (nI bb)]) (w := .int (if vLo V bb m1 = true then nI 1 else nI 0)) (mem3 := mem) iX9_lost (c_X9_lost l G g mem L.1 (nI m1) (nI bb)) wd_486 ob_0 rfl ⟨Nat.le_of_ble_eq_true rfl, Nat.le_of_ble_eq_true rfl⟩ ⟨rfl, rfl⟩ rfl (Nat.le_of_ble_eq_true rfl) dL_law_271 (congrArg Value.int (lost_n g hm2 hb)) (rfl) ?_
  refine g_istore C (L2 := [(10, .int (if vLo V bb m1 = true then nI 1 else nI 0)), (0, .ref b), (1, .ref (gad G 0)), (2, .int (nI n)), (3, .int (nI k)), (4, .int qv), (5, .int av), (6, .int (nI m1)), (7, .int (nI bb)), (8, .int (nI 1)), (9, .int (nI hw))]) dL_law_274 (by decide) rfl ?_
  refine g_aload_n C 2 dL_law_276 rfl ?_
  refine g_iload C 7 dL_law_277 rfl ?_
  refine g_iconst C (nI 5) dL_law_279 (by decide) ?_
  refine g_cV1 C (As := [.int (nI m1), .int (nI 5)]) (w := .int (nI (fa_cnt (fun q => vLo V q m1) 200))) (mem3 := mem) iX9_member (c_X9_member l G g mem L.1 (nI m1) (nI 5)) wd_364 ob_0 rfl ⟨Nat.le_of_ble_eq_true rfl, Nat.le_of_ble_eq_true rfl⟩ ⟨rfl, rfl⟩ rfl (Nat.le_of_ble_eq_true rfl) dL_law_280 (congrArg Value.int (mem_5 g hm2)) (rfl) ?_
  refine g_istore C (L2 := [(11, .int (nI (fa_cnt (fun q => vLo V q m1) 200))), (10, .int (if vLo V bb m1 = true then nI 1 else nI 0)), (0, .ref b), (1, .ref (gad G 0)), (2, .int (nI n)), (3, .int (nI k)), (4, .int qv), (5, .int av), (6, .int (nI m1)), (7, .int (nI bb)), (8, .int (nI 1)), (9, .int (nI hw))]) dL_law_283 (by decide) rfl ?_
  refine g_aload_n C 3 dL_law_285 rfl ?_
  refine g_iload C 8 dL_law_286 rfl ?_
  refine g_iload C 9 dL_law_288 rfl ?_
  refine g_cVr C (As := [.int (nI m1), .int (nI bb)]) iX9_lose (c_X9_lose l G g mem L.1 L.2.1.choose_spec (nI m1) (nI bb)) wd_479 ob_0 rfl ⟨Nat.le_of_ble_eq_true rfl, Nat.le_of_ble_eq_true rfl⟩ ⟨rfl, rfl⟩ rfl (Nat.le_of_ble_eq_true rfl) dL_law_290 (fun r241 u238 hq => ?_)
  rw [toN_nI (show m1 < 2 ^ 31 by omega), toN_nI (show bb < 2 ^ 31 by omega)] at hq
  obtain ⟨e240, L239⟩ := ax_ok L hq (⟨memP_of g hm2, blkP_of hb⟩)
  have e240 : r241 = nI (fa_cnt (bt (V (150 + bb) ||| bit m1)) 10) := e240.trans (rfl)
  subst e240
  have g2 : Good T (lsV V m1 bb) := good_ls g hm2 hb
  have x2 : Ex T (lsV V m1 bb) := ex_upd x (by omega) (fun m _ => by omega)
  have hn3 : vN (lsV V m1 bb) = n := (vN_upd (by omega)).trans hnV
  refine g_iconst C (nI 1) dL_law_293 (by decide) ?_
  refine g_icmp_lt_f C 330 (ls_ge (by omega)) dL_law_294 (by decide) ?_
  refine g_aload_n C 3 dL_law_297 rfl ?_
  refine g_iload C 8 dL_law_298 rfl ?_
  refine g_iload C 9 dL_law_300 rfl ?_
  refine g_cV1 C (As := [.int (nI m1), .int (nI bb)]) (w := .int (nI 1)) (mem3 := u238) iX9_lost (c_X9_lost l G g2 u238 L239.1 (nI m1) (nI bb)) wd_486 ob_0 rfl ⟨Nat.le_of_ble_eq_true rfl, Nat.le_of_ble_eq_true rfl⟩ ⟨rfl, rfl⟩ rfl (Nat.le_of_ble_eq_true rfl) dL_law_302 (congrArg Value.int ((lost_n g2 (by rw [hn3]; exact hm) hb).trans (if_pos (ls_y (by omega))))) (rfl) ?_
  refine g_iconst C (nI 1) dL_law_305 (by decide) ?_
  refine g_icmp_ne_f C 330 (by decide) dL_law_306 (by decide) ?_
  refine g_aload_n C 3 dL_law_309 rfl ?_
  refine g_iload C 8 dL_law_310 rfl ?_
  refine g_iconst C (nI 5) dL_law_312 (by decide) ?_
  refine g_cV1 C (As := [.int (nI m1), .int (nI 5)]) (w := .int (nI (fa_cnt (fun q => vLo (lsV V m1 bb) q m1) 200))) (mem3 := u238) iX9_member (c_X9_member l G g2 u238 L239.1 (nI m1) (nI 5)) wd_364 ob_0 rfl ⟨Nat.le_of_ble_eq_true rfl, Nat.le_of_ble_eq_true rfl⟩ ⟨rfl, rfl⟩ rfl (Nat.le_of_ble_eq_true rfl) dL_law_313 (congrArg Value.int (mem_5 g2 (by rw [hn3]; exact hm))) (rfl) ?_
  refine g_iload C 0 dL_law_316 rfl ?_
  refine g_iconst C (nI 1) dL_law_318 (by decide) ?_
  refine g_iadd_n C (d := (fa_cnt (fun q => vLo V q m1) 200) + 1) dL_law_319 rfl ?_
  refine g_iload C 1 dL_law_320 rfl ?_
  refine g_isub C dL_law_322 ?_
  refine g_top (y := nI (fa_cnt (fun q => vLo (lsV V m1 bb) q m1) 200)) (ls_cnt (by omega) hb) ?_
  refine g_icmp_ne_f C 330 (rfl) dL_law_323 (by decide) ?_
  refine g_iconst C (nI 1) dL_law_326 (by decide) ?_
  refine g_goto C 331 dL_law_327 (by decide) ?_
  refine g_istore C (L2 := [(8, .int (nI 1)), (11, .int (nI (fa_cnt (fun q => vLo V q m1) 200))), (10, .int (if vLo V bb m1 = true then nI 1 else nI 0)), (0, .ref b), (1, .ref (gad G 0)), (2, .int (nI n)), (3, .int (nI k)), (4, .int qv), (5, .int av), (6, .int (nI m1)), (7, .int (nI bb)), (9, .int (nI hw))]) dL_law_331 (by decide) rfl ?_
  refine g_goto C 711 dL_law_333 (by decide) ?_
  refine g_loc (L2 := [(0, .ref b), (1, .ref (gad G 0)), (2, .int (nI n)), (3, .int (nI k)), (8, .int (nI 1))]) [3, 4, 5, 6, 0] rfl ?_
  refine g_widen (mc2 := mc + 2) (ms2 := ms + 20) (by omega) (by omega) ?_
  have hIz : LI T n u238 := ⟨(lsV V m1 bb), _, _, _, _, L239, g2, x2, hn3⟩
  exact law_tail (C.cnt hmc hms) hk (by omega) hIz (kk T u238 (by omega) hIz)
set_option maxRecDepth 100000 in
set_option maxHeartbeats 4000000 in
theorem law_B {p : Program} {l : Launch} {e : Env} {s : State} {m : MethodId} {args : Array Value} {below : List Frame} {meth : Method} {c : Code} {Q : State → Prop} {G : gG} {b N mc ms n : Nat} {xs : Nat → Int32} {rt : Option FieldType} (C : gC G RL cL_law rt 15 p room_1 s m args meth c mc ms) (hN : N ≤ 260) (X : sX G b N xs s) (hA : upA (gA G)) (hx0 : G.2.2.1.2.2 = 0) (hmc : mc + 2 ≤ room_1.cells) (hms : ms + 20 ≤ room_1.slots) (hn2 : 2 ≤ n) (hn9 : n ≤ 9) {k T : Nat} {mem : gM} {qv av : Int32} {m1 bb hw : Nat} (hk : k < 24) (hT0 : T + 256 < 2 ^ 19) (hI : LI T n mem) (hm : m1 < n) (hb : bb < 200) (kk : ∀ (T2 : Nat) (u : gM), T2 ≤ T + 256 → LI T2 n u → gV p l e room_1 s m args below meth c (mc + 2) (ms + 20) Q G 15 u 733 [(0, .ref b), (1, .ref (gad G 0)), (2, .int (nI n)), (3, .int (nI k))] []) : gV p l e room_1 s m args below meth c mc ms Q G 15 mem 342 [(0, .ref b), (1, .ref (gad G 0)), (2, .int (nI n)), (3, .int (nI k)), (4, .int qv), (5, .int av), (6, .int (nI m1)), (7, .int (nI bb)), (8, .int (nI 1)), (9, .int (nI hw))] [] := by
  obtain ⟨V, Vs, h, A, B, L, g, x, hnV⟩ := hI
  have hm2 : m1 < vN V := by rw [hnV]; exact hm
  have hn10 := gd_n10 g
  have hT : T < 2 ^ 20 := by omega
  refine g_aload_n C 1 dL_law_342 rfl ?_
  refine g_iload C 6 dL_law_343 rfl ?_
  refine g_iconst C (nI 2) dL_law_345 (by decide) ?_
  refine g_cV1 C (As := [.int (nI m1), .int (nI 2)]) (w := .int (V (32 + 12 * m1))) (mem3 := mem) iX9_member (c_X9_member l G g mem L.1 (nI m1) (nI 2)) wd_364 ob_0 rfl ⟨Nat.le_of_ble_eq_true rfl, Nat.le_of_ble_eq_true rfl⟩ ⟨rfl, rfl⟩ rfl (Nat.le_of_ble_eq_true rfl) dL_law_346 (congrArg Value.int (mem_n g hm2 (w := 2) (by decide) (by omega))) (rfl) ?_
  refine g_iconst C (nI 1) dL_law_349 (by decide) ?_
  refine g_icmp_ne C 357 dL_law_350 (by decide) (fun c_350 => ?_) (fun c_350 => ?_)
  · refine g_iconst C (nI 0) dL_law_357 (by decide) ?_
    refine g_istore C (L2 := [(10, .int (nI 0)), (0, .ref b), (1, .ref (gad G 0)), (2, .int (nI n)), (3, .int (nI k)), (4, .int qv), (5, .int av), (6, .int (nI m1)), (7, .int (nI bb)), (8, .int (nI 1)), (9, .int (nI hw))]) dL_law_358 (by decide) rfl ?_
    refine g_aload_n C 2 dL_law_360 rfl ?_
    refine g_iload C 7 dL_law_361 rfl ?_
    refine g_bipush C (nI 8) dL_law_363 (by decide) ?_
    refine g_cV1 C (As := [.int (nI m1), .int (nI 8)]) (w := .int (V (38 + 12 * m1))) (mem3 := mem) iX9_member (c_X9_member l G g mem L.1 (nI m1) (nI 8)) wd_364 ob_0 rfl ⟨Nat.le_of_ble_eq_true rfl, Nat.le_of_ble_eq_true rfl⟩ ⟨rfl, rfl⟩ rfl (Nat.le_of_ble_eq_true rfl) dL_law_365 (congrArg Value.int (mem_n g hm2 (w := 8) (by decide) (by omega))) (rfl) ?_
    refine g_istore C (L2 := [(11, .int (V (38 + 12 * m1))), (10, .int (nI 0)), (0, .ref b), (1, .ref (gad G 0)), (2, .int (nI n)), (3, .int (nI k)), (4, .int qv), (5, .int av), (6, .int (nI m1)), (7, .int (nI bb)), (8, .int (nI 1)), (9, .int (nI hw))]) dL_law_368 (by decide) rfl ?_
    refine g_aload_n C 2 dL_law_370 rfl ?_
    refine g_iload_n C 5 dL_law_371 rfl ?_
    refine g_cell C X hN (k := k) (by omega) wd_610 ⟨Nat.le_of_ble_eq_true rfl, Nat.le_of_ble_eq_true rfl⟩ (Nat.le_of_ble_eq_true rfl) dL_law_372 (fun rc1 => ?_)
    refine g_istore C (L2 := [(12, .int rc1), (11, .int (V (38 + 12 * m1))), (10, .int (nI 0)), (0, .ref b), (1, .ref (gad G 0)), (2, .int (nI n)), (3, .int (nI k)), (4, .int qv), (5, .int av), (6, .int (nI m1)), (7, .int (nI bb)), (8, .int (nI 1)), (9, .int (nI hw))]) dL_law_375 (by decide) rfl ?_
    refine g_aload_n C 4 dL_law_377 rfl ?_
    rcases Classical.em (V (38 + 12 * m1) = 0) with h38 | h38
    · refine g_iload C 9 dL_law_378 rfl ?_
      refine g_iload C 8 dL_law_380 rfl ?_
      refine g_bipush C (nI 64) dL_law_382 (by decide) ?_
      refine g_iand C dL_law_384 ?_
      refine g_if_ne C 397 dL_law_385 (by decide) (fun c_385 => ?_) (fun c_385 => ?_)
      · refine g_iload C 0 dL_law_397 rfl ?_
        refine g_cVr C (As := [.int (nI m1), .int rc1]) iX9_commit (c_X9_commit l G g mem L.1 L.2.1.choose_spec (nI m1) rc1) wd_413 ob_0 rfl ⟨Nat.le_of_ble_eq_true rfl, Nat.le_of_ble_eq_true rfl⟩ ⟨rfl, rfl⟩ rfl (Nat.le_of_ble_eq_true rfl) dL_law_399 (fun r245 u242 hq => ?_)
        rw [toN_nI (show m1 < 2 ^ 31 by omega)] at hq
        obtain ⟨e244, L243⟩ := ax_no L hq (fun q => c_350 (lv_1 q.2))
        have e244 : r245 = kState := e244.trans (if_pos (memP_of g hm2))
        subst e244
        refine g_iload C 2 dL_law_402 rfl ?_
        refine g_if_ne_f C 412 (by decide) dL_law_404 (by decide) ?_
        refine g_ldc C wd_661 dL_law_407 ?_
        refine g_goto C 422 dL_law_409 (by decide) ?_
        refine g_icmp_ne_f C 429 (rfl) dL_law_422 (by decide) ?_
        refine g_iconst C (nI 1) dL_law_425 (by decide) ?_
        refine g_goto C 430 dL_law_426 (by decide) ?_
        refine g_istore C (L2 := [(8, .int (nI 1)), (12, .int rc1), (11, .int (V (38 + 12 * m1))), (10, .int (nI 0)), (0, .ref b), (1, .ref (gad G 0)), (2, .int (nI n)), (3, .int (nI k)), (4, .int qv), (5, .int av), (6, .int (nI m1)), (7, .int (nI bb)), (9, .int (nI hw))]) dL_law_430 (by decide) rfl ?_
        refine g_aload_n C 5 dL_law_432 rfl ?_
        refine g_iload C 1 dL_law_433 rfl ?_
        refine g_cV1 C (As := [.int rc1]) (w := .int (mixI rc1)) (mem3 := u242) iX9_mix (c_X9_mix l G u242 rc1) wd_405 ob_0 rfl ⟨Nat.le_of_ble_eq_true rfl, Nat.le_of_ble_eq_true rfl⟩ ⟨rfl, rfl⟩ rfl (Nat.le_of_ble_eq_true rfl) dL_law_435 (rfl) (rfl) ?_
        refine g_iload C 1 dL_law_438 rfl ?_
        refine g_icmp_eq C 451 dL_law_440 (by decide) (fun c_440 => ?_) (fun c_440 => ?_)
        · refine g_iconst C (nI 1) dL_law_451 (by decide) ?_
          refine g_goto C 456 dL_law_452 (by decide) ?_
          refine g_istore C (L2 := [(13, .int (nI 1)), (8, .int (nI 1)), (12, .int rc1), (11, .int (V (38 + 12 * m1))), (10, .int (nI 0)), (0, .ref b), (1, .ref (gad G 0)), (2, .int (nI n)), (3, .int (nI k)), (4, .int qv), (5, .int av), (6, .int (nI m1)), (7, .int (nI bb)), (9, .int (nI hw))]) dL_law_456 (by decide) rfl ?_
          refine g_iload C 1 dL_law_458 rfl ?_
          refine g_if_eq_f C 509 (by decide) dL_law_460 (by decide) ?_
          refine g_iload C 4 dL_law_463 rfl ?_
          refine g_if_eq_t C 505 (by decide) dL_law_465 (by decide) ?_
          refine g_iconst C (nI 1) dL_law_505 (by decide) ?_
          refine g_goto C 510 dL_law_506 (by decide) ?_
          refine g_istore C (L2 := [(8, .int (nI 1)), (13, .int (nI 1)), (12, .int rc1), (11, .int (V (38 + 12 * m1))), (10, .int (nI 0)), (0, .ref b), (1, .ref (gad G 0)), (2, .int (nI n)), (3, .int (nI k)), (4, .int qv), (5, .int av), (6, .int (nI m1)), (7, .int (nI bb)), (9, .int (nI hw))]) dL_law_510 (by decide) rfl ?_
          refine g_goto C 711 dL_law_512 (by decide) ?_
          refine g_loc (L2 := [(0, .ref b), (1, .ref (gad G 0)), (2, .int (nI n)), (3, .int (nI k)), (8, .int (nI 1))]) [5, 6, 7, 8, 0] rfl ?_
          refine g_widen (mc2 := mc + 2) (ms2 := ms + 20) (by omega) (by omega) ?_
          have hIz : LI T n u242 := ⟨V, _, _, _, _, L243, g, x, hnV⟩
          exact law_tail (C.cnt hmc hms) hk (by omega) hIz (kk T u242 (by omega) hIz)
        · refine g_iload C 9 dL_law_443 rfl ?_
          refine g_bipush C (nI 64) dL_law_445 (by decide) ?_
          refine g_iand C dL_law_447 ?_
          refine g_if_ne_t C 455 (c_385) dL_law_448 (by decide) ?_
          refine g_iconst C (nI 0) dL_law_455 (by decide) ?_
          refine g_istore C (L2 := [(13, .int (nI 0)), (8, .int (nI 1)), (12, .int rc1), (11, .int (V (38 + 12 * m1))), (10, .int (nI 0)), (0, .ref b), (1, .ref (gad G 0)), (2, .int (nI n)), (3, .int (nI k)), (4, .int qv), (5, .int av), (6, .int (nI m1)), (7, .int (nI bb)), (9, .int (nI hw))]) dL_law_456 (by decide) rfl ?_
          refine g_iload C 1 dL_law_458 rfl ?_
          refine g_if_eq_f C 509 (by decide) dL_law_460 (by decide) ?_
          refine g_iload C 4 dL_law_463 rfl ?_
          refine g_if_eq_t C 505 (by decide) dL_law_465 (by decide) ?_
          refine g_iconst C (nI 1) dL_law_505 (by decide) ?_
          refine g_goto C 510 dL_law_506 (by decide) ?_
          refine g_istore C (L2 := [(8, .int (nI 1)), (13, .int (nI 0)), (12, .int rc1), (11, .int (V (38 + 12 * m1))), (10, .int (nI 0)), (0, .ref b), (1, .ref (gad G 0)), (2, .int (nI n)), (3, .int (nI k)), (4, .int qv), (5, .int av), (6, .int (nI m1)), (7, .int (nI bb)), (9, .int (nI hw))]) dL_law_510 (by decide) rfl ?_
          refine g_goto C 711 dL_law_512 (by decide) ?_
          refine g_loc (L2 := [(0, .ref b), (1, .ref (gad G 0)), (2, .int (nI n)), (3, .int (nI k)), (8, .int (nI 1))]) [5, 6, 7, 8, 0] rfl ?_
          refine g_widen (mc2 := mc + 2) (ms2 := ms + 20) (by omega) (by omega) ?_
          have hIz : LI T n u242 := ⟨V, _, _, _, _, L243, g, x, hnV⟩
          exact law_tail (C.cnt hmc hms) hk (by omega) hIz (kk T u242 (by omega) hIz)
      · refine g_aload_n C 4 dL_law_388 rfl ?_
        refine g_iload C 0 dL_law_389 rfl ?_
        refine g_cV1 C (As := [.int rc1]) (w := .int (mixI rc1)) (mem3 := mem) iX9_mix (c_X9_mix l G mem rc1) wd_405 ob_0 rfl ⟨Nat.le_of_ble_eq_true rfl, Nat.le_of_ble_eq_true rfl⟩ ⟨rfl, rfl⟩ rfl (Nat.le_of_ble_eq_true rfl) dL_law_391 (rfl) (rfl) ?_
        refine g_goto C 399 dL_law_394 (by decide) ?_
        refine g_cVr C (As := [.int (nI m1), .int (mixI rc1)]) iX9_commit (c_X9_commit l G g mem L.1 L.2.1.choose_spec (nI m1) (mixI rc1)) wd_413 ob_0 rfl ⟨Nat.le_of_ble_eq_true rfl, Nat.le_of_ble_eq_true rfl⟩ ⟨rfl, rfl⟩ rfl (Nat.le_of_ble_eq_true rfl) dL_law_399 (fun r249 u246 hq => ?_)
        rw [toN_nI (show m1 < 2 ^ 31 by omega)] at hq
        obtain ⟨e248, L247⟩ := ax_no L hq (fun q => c_350 (lv_1 q.2))
        have e248 : r249 = kState := e248.trans (if_pos (memP_of g hm2))
        subst e248
        refine g_iload C 2 dL_law_402 rfl ?_
        refine g_if_ne_f C 412 (by decide) dL_law_404 (by decide) ?_
        refine g_ldc C wd_661 dL_law_407 ?_
        refine g_goto C 422 dL_law_409 (by decide) ?_
        refine g_icmp_ne_f C 429 (rfl) dL_law_422 (by decide) ?_
        refine g_iconst C (nI 1) dL_law_425 (by decide) ?_
        refine g_goto C 430 dL_law_426 (by decide) ?_
        refine g_istore C (L2 := [(8, .int (nI 1)), (12, .int rc1), (11, .int (V (38 + 12 * m1))), (10, .int (nI 0)), (0, .ref b), (1, .ref (gad G 0)), (2, .int (nI n)), (3, .int (nI k)), (4, .int qv), (5, .int av), (6, .int (nI m1)), (7, .int (nI bb)), (9, .int (nI hw))]) dL_law_430 (by decide) rfl ?_
        refine g_aload_n C 5 dL_law_432 rfl ?_
        refine g_iload C 1 dL_law_433 rfl ?_
        refine g_cV1 C (As := [.int rc1]) (w := .int (mixI rc1)) (mem3 := u246) iX9_mix (c_X9_mix l G u246 rc1) wd_405 ob_0 rfl ⟨Nat.le_of_ble_eq_true rfl, Nat.le_of_ble_eq_true rfl⟩ ⟨rfl, rfl⟩ rfl (Nat.le_of_ble_eq_true rfl) dL_law_435 (rfl) (rfl) ?_
        refine g_iload C 1 dL_law_438 rfl ?_
        refine g_icmp_eq C 451 dL_law_440 (by decide) (fun c_440 => ?_) (fun c_440 => ?_)
        · refine g_iconst C (nI 1) dL_law_451 (by decide) ?_
          refine g_goto C 456 dL_law_452 (by decide) ?_
          refine g_istore C (L2 := [(13, .int (nI 1)), (8, .int (nI 1)), (12, .int rc1), (11, .int (V (38 + 12 * m1))), (10, .int (nI 0)), (0, .ref b), (1, .ref (gad G 0)), (2, .int (nI n)), (3, .int (nI k)), (4, .int qv), (5, .int av), (6, .int (nI m1)), (7, .int (nI bb)), (9, .int (nI hw))]) dL_law_456 (by decide) rfl ?_
          refine g_iload C 1 dL_law_458 rfl ?_
          refine g_if_eq_f C 509 (by decide) dL_law_460 (by decide) ?_
          refine g_iload C 4 dL_law_463 rfl ?_
          refine g_if_eq_t C 505 (by decide) dL_law_465 (by decide) ?_
          refine g_iconst C (nI 1) dL_law_505 (by decide) ?_
          refine g_goto C 510 dL_law_506 (by decide) ?_
          refine g_istore C (L2 := [(8, .int (nI 1)), (13, .int (nI 1)), (12, .int rc1), (11, .int (V (38 + 12 * m1))), (10, .int (nI 0)), (0, .ref b), (1, .ref (gad G 0)), (2, .int (nI n)), (3, .int (nI k)), (4, .int qv), (5, .int av), (6, .int (nI m1)), (7, .int (nI bb)), (9, .int (nI hw))]) dL_law_510 (by decide) rfl ?_
          refine g_goto C 711 dL_law_512 (by decide) ?_
          refine g_loc (L2 := [(0, .ref b), (1, .ref (gad G 0)), (2, .int (nI n)), (3, .int (nI k)), (8, .int (nI 1))]) [5, 6, 7, 8, 0] rfl ?_
          refine g_widen (mc2 := mc + 2) (ms2 := ms + 20) (by omega) (by omega) ?_
          have hIz : LI T n u246 := ⟨V, _, _, _, _, L247, g, x, hnV⟩
          exact law_tail (C.cnt hmc hms) hk (by omega) hIz (kk T u246 (by omega) hIz)
        · refine g_iload C 9 dL_law_443 rfl ?_
          refine g_bipush C (nI 64) dL_law_445 (by decide) ?_
          refine g_iand C dL_law_447 ?_
          refine g_if_ne_f C 455 (c_385) dL_law_448 (by decide) ?_
          refine g_iconst C (nI 1) dL_law_451 (by decide) ?_
          refine g_goto C 456 dL_law_452 (by decide) ?_
          refine g_istore C (L2 := [(13, .int (nI 1)), (8, .int (nI 1)), (12, .int rc1), (11, .int (V (38 + 12 * m1))), (10, .int (nI 0)), (0, .ref b), (1, .ref (gad G 0)), (2, .int (nI n)), (3, .int (nI k)), (4, .int qv), (5, .int av), (6, .int (nI m1)), (7, .int (nI bb)), (9, .int (nI hw))]) dL_law_456 (by decide) rfl ?_
          refine g_iload C 1 dL_law_458 rfl ?_
          refine g_if_eq_f C 509 (by decide) dL_law_460 (by decide) ?_
          refine g_iload C 4 dL_law_463 rfl ?_
          refine g_if_eq_t C 505 (by decide) dL_law_465 (by decide) ?_
          refine g_iconst C (nI 1) dL_law_505 (by decide) ?_
          refine g_goto C 510 dL_law_506 (by decide) ?_
          refine g_istore C (L2 := [(8, .int (nI 1)), (13, .int (nI 1)), (12, .int rc1), (11, .int (V (38 + 12 * m1))), (10, .int (nI 0)), (0, .ref b), (1, .ref (gad G 0)), (2, .int (nI n)), (3, .int (nI k)), (4, .int qv), (5, .int av), (6, .int (nI m1)), (7, .int (nI bb)), (9, .int (nI hw))]) dL_law_510 (by decide) rfl ?_
          refine g_goto C 711 dL_law_512 (by decide) ?_
          refine g_loc (L2 := [(0, .ref b), (1, .ref (gad G 0)), (2, .int (nI n)), (3, .int (nI k)), (8, .int (nI 1))]) [5, 6, 7, 8, 0] rfl ?_
          refine g_widen (mc2 := mc + 2) (ms2 := ms + 20) (by omega) (by omega) ?_
          have hIz : LI T n u246 := ⟨V, _, _, _, _, L247, g, x, hnV⟩
          exact law_tail (C.cnt hmc hms) hk (by omega) hIz (kk T u246 (by omega) hIz)
    · refine g_iload C 9 dL_law_378 rfl ?_
      refine g_iload C 8 dL_law_380 rfl ?_
      refine g_bipush C (nI 64) dL_law_382 (by decide) ?_
      refine g_iand C dL_law_384 ?_
      refine g_if_ne C 397 dL_law_385 (by decide) (fun c_385 => ?_) (fun c_385 => ?_)
      · refine g_iload C 0 dL_law_397 rfl ?_
        refine g_cVr C (As := [.int (nI m1), .int rc1]) iX9_commit (c_X9_commit l G g mem L.1 L.2.1.choose_spec (nI m1) rc1) wd_413 ob_0 rfl ⟨Nat.le_of_ble_eq_true rfl, Nat.le_of_ble_eq_true rfl⟩ ⟨rfl, rfl⟩ rfl (Nat.le_of_ble_eq_true rfl) dL_law_399 (fun r253 u250 hq => ?_)
        rw [toN_nI (show m1 < 2 ^ 31 by omega)] at hq
        obtain ⟨e252, L251⟩ := ax_no L hq (fun q => c_350 (lv_1 q.2))
        have e252 : r253 = kState := e252.trans (if_pos (memP_of g hm2))
        subst e252
        refine g_iload C 2 dL_law_402 rfl ?_
        refine g_if_ne_f C 412 (by decide) dL_law_404 (by decide) ?_
        refine g_ldc C wd_661 dL_law_407 ?_
        refine g_goto C 422 dL_law_409 (by decide) ?_
        refine g_icmp_ne_f C 429 (rfl) dL_law_422 (by decide) ?_
        refine g_iconst C (nI 1) dL_law_425 (by decide) ?_
        refine g_goto C 430 dL_law_426 (by decide) ?_
        refine g_istore C (L2 := [(8, .int (nI 1)), (12, .int rc1), (11, .int (V (38 + 12 * m1))), (10, .int (nI 0)), (0, .ref b), (1, .ref (gad G 0)), (2, .int (nI n)), (3, .int (nI k)), (4, .int qv), (5, .int av), (6, .int (nI m1)), (7, .int (nI bb)), (9, .int (nI hw))]) dL_law_430 (by decide) rfl ?_
        refine g_aload_n C 5 dL_law_432 rfl ?_
        refine g_iload C 1 dL_law_433 rfl ?_
        refine g_cV1 C (As := [.int rc1]) (w := .int (mixI rc1)) (mem3 := u250) iX9_mix (c_X9_mix l G u250 rc1) wd_405 ob_0 rfl ⟨Nat.le_of_ble_eq_true rfl, Nat.le_of_ble_eq_true rfl⟩ ⟨rfl, rfl⟩ rfl (Nat.le_of_ble_eq_true rfl) dL_law_435 (rfl) (rfl) ?_
        refine g_iload C 1 dL_law_438 rfl ?_
        refine g_icmp_eq C 451 dL_law_440 (by decide) (fun c_440 => ?_) (fun c_440 => ?_)
        · refine g_iconst C (nI 1) dL_law_451 (by decide) ?_
          refine g_goto C 456 dL_law_452 (by decide) ?_
          refine g_istore C (L2 := [(13, .int (nI 1)), (8, .int (nI 1)), (12, .int rc1), (11, .int (V (38 + 12 * m1))), (10, .int (nI 0)), (0, .ref b), (1, .ref (gad G 0)), (2, .int (nI n)), (3, .int (nI k)), (4, .int qv), (5, .int av), (6, .int (nI m1)), (7, .int (nI bb)), (9, .int (nI hw))]) dL_law_456 (by decide) rfl ?_
          refine g_iload C 1 dL_law_458 rfl ?_
          refine g_if_eq_f C 509 (by decide) dL_law_460 (by decide) ?_
          refine g_iload C 4 dL_law_463 rfl ?_
          refine g_if_eq_t C 505 (by decide) dL_law_465 (by decide) ?_
          refine g_iconst C (nI 1) dL_law_505 (by decide) ?_
          refine g_goto C 510 dL_law_506 (by decide) ?_
          refine g_istore C (L2 := [(8, .int (nI 1)), (13, .int (nI 1)), (12, .int rc1), (11, .int (V (38 + 12 * m1))), (10, .int (nI 0)), (0, .ref b), (1, .ref (gad G 0)), (2, .int (nI n)), (3, .int (nI k)), (4, .int qv), (5, .int av), (6, .int (nI m1)), (7, .int (nI bb)), (9, .int (nI hw))]) dL_law_510 (by decide) rfl ?_
          refine g_goto C 711 dL_law_512 (by decide) ?_
          refine g_loc (L2 := [(0, .ref b), (1, .ref (gad G 0)), (2, .int (nI n)), (3, .int (nI k)), (8, .int (nI 1))]) [5, 6, 7, 8, 0] rfl ?_
          refine g_widen (mc2 := mc + 2) (ms2 := ms + 20) (by omega) (by omega) ?_
          have hIz : LI T n u250 := ⟨V, _, _, _, _, L251, g, x, hnV⟩
          exact law_tail (C.cnt hmc hms) hk (by omega) hIz (kk T u250 (by omega) hIz)
        · refine g_iload C 9 dL_law_443 rfl ?_
          refine g_bipush C (nI 64) dL_law_445 (by decide) ?_
          refine g_iand C dL_law_447 ?_
          refine g_if_ne_t C 455 (c_385) dL_law_448 (by decide) ?_
          refine g_iconst C (nI 0) dL_law_455 (by decide) ?_
          refine g_istore C (L2 := [(13, .int (nI 0)), (8, .int (nI 1)), (12, .int rc1), (11, .int (V (38 + 12 * m1))), (10, .int (nI 0)), (0, .ref b), (1, .ref (gad G 0)), (2, .int (nI n)), (3, .int (nI k)), (4, .int qv), (5, .int av), (6, .int (nI m1)), (7, .int (nI bb)), (9, .int (nI hw))]) dL_law_456 (by decide) rfl ?_
          refine g_iload C 1 dL_law_458 rfl ?_
          refine g_if_eq_f C 509 (by decide) dL_law_460 (by decide) ?_
          refine g_iload C 4 dL_law_463 rfl ?_
          refine g_if_eq_t C 505 (by decide) dL_law_465 (by decide) ?_
          refine g_iconst C (nI 1) dL_law_505 (by decide) ?_
          refine g_goto C 510 dL_law_506 (by decide) ?_
          refine g_istore C (L2 := [(8, .int (nI 1)), (13, .int (nI 0)), (12, .int rc1), (11, .int (V (38 + 12 * m1))), (10, .int (nI 0)), (0, .ref b), (1, .ref (gad G 0)), (2, .int (nI n)), (3, .int (nI k)), (4, .int qv), (5, .int av), (6, .int (nI m1)), (7, .int (nI bb)), (9, .int (nI hw))]) dL_law_510 (by decide) rfl ?_
          refine g_goto C 711 dL_law_512 (by decide) ?_
          refine g_loc (L2 := [(0, .ref b), (1, .ref (gad G 0)), (2, .int (nI n)), (3, .int (nI k)), (8, .int (nI 1))]) [5, 6, 7, 8, 0] rfl ?_
          refine g_widen (mc2 := mc + 2) (ms2 := ms + 20) (by omega) (by omega) ?_
          have hIz : LI T n u250 := ⟨V, _, _, _, _, L251, g, x, hnV⟩
          exact law_tail (C.cnt hmc hms) hk (by omega) hIz (kk T u250 (by omega) hIz)
      · refine g_aload_n C 4 dL_law_388 rfl ?_
        refine g_iload C 0 dL_law_389 rfl ?_
        refine g_cV1 C (As := [.int rc1]) (w := .int (mixI rc1)) (mem3 := mem) iX9_mix (c_X9_mix l G mem rc1) wd_405 ob_0 rfl ⟨Nat.le_of_ble_eq_true rfl, Nat.le_of_ble_eq_true rfl⟩ ⟨rfl, rfl⟩ rfl (Nat.le_of_ble_eq_true rfl) dL_law_391 (rfl) (rfl) ?_
        refine g_goto C 399 dL_law_394 (by decide) ?_
        refine g_cVr C (As := [.int (nI m1), .int (mixI rc1)]) iX9_commit (c_X9_commit l G g mem L.1 L.2.1.choose_spec (nI m1) (mixI rc1)) wd_413 ob_0 rfl ⟨Nat.le_of_ble_eq_true rfl, Nat.le_of_ble_eq_true rfl⟩ ⟨rfl, rfl⟩ rfl (Nat.le_of_ble_eq_true rfl) dL_law_399 (fun r257 u254 hq => ?_)
        rw [toN_nI (show m1 < 2 ^ 31 by omega)] at hq
        obtain ⟨e256, L255⟩ := ax_no L hq (fun q => c_350 (lv_1 q.2))
        have e256 : r257 = kState := e256.trans (if_pos (memP_of g hm2))
        subst e256
        refine g_iload C 2 dL_law_402 rfl ?_
        refine g_if_ne_f C 412 (by decide) dL_law_404 (by decide) ?_
        refine g_ldc C wd_661 dL_law_407 ?_
        refine g_goto C 422 dL_law_409 (by decide) ?_
        refine g_icmp_ne_f C 429 (rfl) dL_law_422 (by decide) ?_
        refine g_iconst C (nI 1) dL_law_425 (by decide) ?_
        refine g_goto C 430 dL_law_426 (by decide) ?_
        refine g_istore C (L2 := [(8, .int (nI 1)), (12, .int rc1), (11, .int (V (38 + 12 * m1))), (10, .int (nI 0)), (0, .ref b), (1, .ref (gad G 0)), (2, .int (nI n)), (3, .int (nI k)), (4, .int qv), (5, .int av), (6, .int (nI m1)), (7, .int (nI bb)), (9, .int (nI hw))]) dL_law_430 (by decide) rfl ?_
        refine g_aload_n C 5 dL_law_432 rfl ?_
        refine g_iload C 1 dL_law_433 rfl ?_
        refine g_cV1 C (As := [.int rc1]) (w := .int (mixI rc1)) (mem3 := u254) iX9_mix (c_X9_mix l G u254 rc1) wd_405 ob_0 rfl ⟨Nat.le_of_ble_eq_true rfl, Nat.le_of_ble_eq_true rfl⟩ ⟨rfl, rfl⟩ rfl (Nat.le_of_ble_eq_true rfl) dL_law_435 (rfl) (rfl) ?_
        refine g_iload C 1 dL_law_438 rfl ?_
        refine g_icmp_eq C 451 dL_law_440 (by decide) (fun c_440 => ?_) (fun c_440 => ?_)
        · refine g_iconst C (nI 1) dL_law_451 (by decide) ?_
          refine g_goto C 456 dL_law_452 (by decide) ?_
          refine g_istore C (L2 := [(13, .int (nI 1)), (8, .int (nI 1)), (12, .int rc1), (11, .int (V (38 + 12 * m1))), (10, .int (nI 0)), (0, .ref b), (1, .ref (gad G 0)), (2, .int (nI n)), (3, .int (nI k)), (4, .int qv), (5, .int av), (6, .int (nI m1)), (7, .int (nI bb)), (9, .int (nI hw))]) dL_law_456 (by decide) rfl ?_
          refine g_iload C 1 dL_law_458 rfl ?_
          refine g_if_eq_f C 509 (by decide) dL_law_460 (by decide) ?_
          refine g_iload C 4 dL_law_463 rfl ?_
          refine g_if_eq_t C 505 (by decide) dL_law_465 (by decide) ?_
          refine g_iconst C (nI 1) dL_law_505 (by decide) ?_
          refine g_goto C 510 dL_law_506 (by decide) ?_
          refine g_istore C (L2 := [(8, .int (nI 1)), (13, .int (nI 1)), (12, .int rc1), (11, .int (V (38 + 12 * m1))), (10, .int (nI 0)), (0, .ref b), (1, .ref (gad G 0)), (2, .int (nI n)), (3, .int (nI k)), (4, .int qv), (5, .int av), (6, .int (nI m1)), (7, .int (nI bb)), (9, .int (nI hw))]) dL_law_510 (by decide) rfl ?_
          refine g_goto C 711 dL_law_512 (by decide) ?_
          refine g_loc (L2 := [(0, .ref b), (1, .ref (gad G 0)), (2, .int (nI n)), (3, .int (nI k)), (8, .int (nI 1))]) [5, 6, 7, 8, 0] rfl ?_
          refine g_widen (mc2 := mc + 2) (ms2 := ms + 20) (by omega) (by omega) ?_
          have hIz : LI T n u254 := ⟨V, _, _, _, _, L255, g, x, hnV⟩
          exact law_tail (C.cnt hmc hms) hk (by omega) hIz (kk T u254 (by omega) hIz)
        · refine g_iload C 9 dL_law_443 rfl ?_
          refine g_bipush C (nI 64) dL_law_445 (by decide) ?_
          refine g_iand C dL_law_447 ?_
          refine g_if_ne_f C 455 (c_385) dL_law_448 (by decide) ?_
          refine g_iconst C (nI 1) dL_law_451 (by decide) ?_
          refine g_goto C 456 dL_law_452 (by decide) ?_
          refine g_istore C (L2 := [(13, .int (nI 1)), (8, .int (nI 1)), (12, .int rc1), (11, .int (V (38 + 12 * m1))), (10, .int (nI 0)), (0, .ref b), (1, .ref (gad G 0)), (2, .int (nI n)), (3, .int (nI k)), (4, .int qv), (5, .int av), (6, .int (nI m1)), (7, .int (nI bb)), (9, .int (nI hw))]) dL_law_456 (by decide) rfl ?_
          refine g_iload C 1 dL_law_458 rfl ?_
          refine g_if_eq_f C 509 (by decide) dL_law_460 (by decide) ?_
          refine g_iload C 4 dL_law_463 rfl ?_
          refine g_if_eq_t C 505 (by decide) dL_law_465 (by decide) ?_
          refine g_iconst C (nI 1) dL_law_505 (by decide) ?_
          refine g_goto C 510 dL_law_506 (by decide) ?_
          refine g_istore C (L2 := [(8, .int (nI 1)), (13, .int (nI 1)), (12, .int rc1), (11, .int (V (38 + 12 * m1))), (10, .int (nI 0)), (0, .ref b), (1, .ref (gad G 0)), (2, .int (nI n)), (3, .int (nI k)), (4, .int qv), (5, .int av), (6, .int (nI m1)), (7, .int (nI bb)), (9, .int (nI hw))]) dL_law_510 (by decide) rfl ?_
          refine g_goto C 711 dL_law_512 (by decide) ?_
          refine g_loc (L2 := [(0, .ref b), (1, .ref (gad G 0)), (2, .int (nI n)), (3, .int (nI k)), (8, .int (nI 1))]) [5, 6, 7, 8, 0] rfl ?_
          refine g_widen (mc2 := mc + 2) (ms2 := ms + 20) (by omega) (by omega) ?_
          have hIz : LI T n u254 := ⟨V, _, _, _, _, L255, g, x, hnV⟩
          exact law_tail (C.cnt hmc hms) hk (by omega) hIz (kk T u254 (by omega) hIz)
  · refine g_iconst C (nI 1) dL_law_353 (by decide) ?_
    refine g_goto C 358 dL_law_354 (by decide) ?_
    refine g_istore C (L2 := [(10, .int (nI 1)), (0, .ref b), (1, .ref (gad G 0)), (2, .int (nI n)), (3, .int (nI k)), (4, .int qv), (5, .int av), (6, .int (nI m1)), (7, .int (nI bb)), (8, .int (nI 1)), (9, .int (nI hw))]) dL_law_358 (by decide) rfl ?_
    refine g_aload_n C 2 dL_law_360 rfl ?_
    refine g_iload C 7 dL_law_361 rfl ?_
    refine g_bipush C (nI 8) dL_law_363 (by decide) ?_
    refine g_cV1 C (As := [.int (nI m1), .int (nI 8)]) (w := .int (V (38 + 12 * m1))) (mem3 := mem) iX9_member (c_X9_member l G g mem L.1 (nI m1) (nI 8)) wd_364 ob_0 rfl ⟨Nat.le_of_ble_eq_true rfl, Nat.le_of_ble_eq_true rfl⟩ ⟨rfl, rfl⟩ rfl (Nat.le_of_ble_eq_true rfl) dL_law_365 (congrArg Value.int (mem_n g hm2 (w := 8) (by decide) (by omega))) (rfl) ?_
    refine g_istore C (L2 := [(11, .int (V (38 + 12 * m1))), (10, .int (nI 1)), (0, .ref b), (1, .ref (gad G 0)), (2, .int (nI n)), (3, .int (nI k)), (4, .int qv), (5, .int av), (6, .int (nI m1)), (7, .int (nI bb)), (8, .int (nI 1)), (9, .int (nI hw))]) dL_law_368 (by decide) rfl ?_
    refine g_aload_n C 2 dL_law_370 rfl ?_
    refine g_iload_n C 5 dL_law_371 rfl ?_
    refine g_cell C X hN (k := k) (by omega) wd_610 ⟨Nat.le_of_ble_eq_true rfl, Nat.le_of_ble_eq_true rfl⟩ (Nat.le_of_ble_eq_true rfl) dL_law_372 (fun rc2 => ?_)
    refine g_istore C (L2 := [(12, .int rc2), (11, .int (V (38 + 12 * m1))), (10, .int (nI 1)), (0, .ref b), (1, .ref (gad G 0)), (2, .int (nI n)), (3, .int (nI k)), (4, .int qv), (5, .int av), (6, .int (nI m1)), (7, .int (nI bb)), (8, .int (nI 1)), (9, .int (nI hw))]) dL_law_375 (by decide) rfl ?_
    refine g_aload_n C 4 dL_law_377 rfl ?_
    rcases Classical.em (V (38 + 12 * m1) = 0) with h38 | h38
    · refine g_iload C 9 dL_law_378 rfl ?_
      refine g_iload C 8 dL_law_380 rfl ?_
      refine g_bipush C (nI 64) dL_law_382 (by decide) ?_
      refine g_iand C dL_law_384 ?_
      refine g_if_ne C 397 dL_law_385 (by decide) (fun c_385 => ?_) (fun c_385 => ?_)
      · refine g_iload C 0 dL_law_397 rfl ?_
        refine g_cVr C (As := [.int (nI m1), .int rc2]) iX9_commit (c_X9_commit l G g mem L.1 L.2.1.choose_spec (nI m1) rc2) wd_413 ob_0 rfl ⟨Nat.le_of_ble_eq_true rfl, Nat.le_of_ble_eq_true rfl⟩ ⟨rfl, rfl⟩ rfl (Nat.le_of_ble_eq_true rfl) dL_law_399 (fun r261 u258 hq => ?_)
        rw [toN_nI (show m1 < 2 ^ 31 by omega)] at hq
        obtain ⟨e260, L259⟩ := ax_ok L hq (⟨memP_of g hm2, decide_eq_true c_350⟩)
        have e260 : r261 = nI 0 := e260.trans (if_pos h38)
        subst e260
        obtain ⟨V2, hV2⟩ : ∃ V2, V2 = cmV V m1 rc2 := ⟨_, rfl⟩
        rw [← hV2] at L259
        have g2 : Good T V2 := hV2 ▸ good_cm g (by omega) _
        have x2 : Ex T V2 := hV2 ▸ ex_cm x _ _
        have hn3 : vN V2 = n := by rw [hV2]; exact cm_n.trans hnV
        have e38 : V2 (38 + 12 * m1) = nI 1 := by rw [hV2]; exact cm_38
        have e39 : V2 (39 + 12 * m1) = rc2 := by rw [hV2]; exact cm_39
        have e32 : V2 (32 + 12 * m1) = nI 1 := by rw [hV2]; exact cm_32.trans c_350
        refine g_iload C 2 dL_law_402 rfl ?_
        refine g_if_ne_t C 412 (by decide) dL_law_404 (by decide) ?_
        refine g_iload C 1 dL_law_412 rfl ?_
        refine g_if_ne_f C 421 (h38) dL_law_414 (by decide) ?_
        refine g_iconst C (nI 0) dL_law_417 (by decide) ?_
        refine g_goto C 422 dL_law_418 (by decide) ?_
        refine g_icmp_ne_f C 429 (rfl) dL_law_422 (by decide) ?_
        refine g_iconst C (nI 1) dL_law_425 (by decide) ?_
        refine g_goto C 430 dL_law_426 (by decide) ?_
        refine g_istore C (L2 := [(8, .int (nI 1)), (12, .int rc2), (11, .int (V (38 + 12 * m1))), (10, .int (nI 1)), (0, .ref b), (1, .ref (gad G 0)), (2, .int (nI n)), (3, .int (nI k)), (4, .int qv), (5, .int av), (6, .int (nI m1)), (7, .int (nI bb)), (9, .int (nI hw))]) dL_law_430 (by decide) rfl ?_
        refine g_aload_n C 5 dL_law_432 rfl ?_
        refine g_iload C 1 dL_law_433 rfl ?_
        refine g_cV1 C (As := [.int rc2]) (w := .int (mixI rc2)) (mem3 := u258) iX9_mix (c_X9_mix l G u258 rc2) wd_405 ob_0 rfl ⟨Nat.le_of_ble_eq_true rfl, Nat.le_of_ble_eq_true rfl⟩ ⟨rfl, rfl⟩ rfl (Nat.le_of_ble_eq_true rfl) dL_law_435 (rfl) (rfl) ?_
        refine g_iload C 1 dL_law_438 rfl ?_
        refine g_icmp_eq C 451 dL_law_440 (by decide) (fun c_440 => ?_) (fun c_440 => ?_)
        · refine g_iconst C (nI 1) dL_law_451 (by decide) ?_
          refine g_goto C 456 dL_law_452 (by decide) ?_
          refine g_istore C (L2 := [(13, .int (nI 1)), (8, .int (nI 1)), (12, .int rc2), (11, .int (V (38 + 12 * m1))), (10, .int (nI 1)), (0, .ref b), (1, .ref (gad G 0)), (2, .int (nI n)), (3, .int (nI k)), (4, .int qv), (5, .int av), (6, .int (nI m1)), (7, .int (nI bb)), (9, .int (nI hw))]) dL_law_456 (by decide) rfl ?_
          refine g_iload C 1 dL_law_458 rfl ?_
          refine g_if_eq_f C 509 (by decide) dL_law_460 (by decide) ?_
          refine g_iload C 4 dL_law_463 rfl ?_
          refine g_if_eq_f C 505 (by decide) dL_law_465 (by decide) ?_
          refine g_iload C 10 dL_law_468 rfl ?_
          refine g_sipush C (nI 128) dL_law_470 (by decide) ?_
          refine g_iand C dL_law_473 ?_
          refine g_if_ne C 505 dL_law_474 (by decide) (fun c_474 => ?_) (fun c_474 => ?_)
          · refine g_iconst C (nI 1) dL_law_505 (by decide) ?_
            refine g_goto C 510 dL_law_506 (by decide) ?_
            refine g_istore C (L2 := [(8, .int (nI 1)), (13, .int (nI 1)), (12, .int rc2), (11, .int (V (38 + 12 * m1))), (10, .int (nI 1)), (0, .ref b), (1, .ref (gad G 0)), (2, .int (nI n)), (3, .int (nI k)), (4, .int qv), (5, .int av), (6, .int (nI m1)), (7, .int (nI bb)), (9, .int (nI hw))]) dL_law_510 (by decide) rfl ?_
            refine g_goto C 711 dL_law_512 (by decide) ?_
            refine g_loc (L2 := [(0, .ref b), (1, .ref (gad G 0)), (2, .int (nI n)), (3, .int (nI k)), (8, .int (nI 1))]) [5, 6, 7, 8, 0] rfl ?_
            refine g_widen (mc2 := mc + 2) (ms2 := ms + 20) (by omega) (by omega) ?_
            have hIz : LI T n u258 := ⟨V2, _, _, _, _, L259, g2, x2, hn3⟩
            exact law_tail (C.cnt hmc hms) hk (by omega) hIz (kk T u258 (by omega) hIz)
          · refine g_aload_n C 6 dL_law_477 rfl ?_
            refine g_iload C 11 dL_law_478 rfl ?_
            refine g_iload C 2 dL_law_480 rfl ?_
            refine g_cVr C (As := [.int (nI m1), .int rc2]) iX9_reveal (c_X9_reveal l G g2 u258 L259.1 L259.2.1.choose_spec (nI m1) rc2) wd_419 ob_0 rfl ⟨Nat.le_of_ble_eq_true rfl, Nat.le_of_ble_eq_true rfl⟩ ⟨rfl, rfl⟩ rfl (Nat.le_of_ble_eq_true rfl) dL_law_482 (fun r265 u262 hq => ?_)
            rw [toN_nI (show m1 < 2 ^ 31 by omega)] at hq
            obtain ⟨e264, L263⟩ := ax_ok L259 hq (⟨⟨memP_of g2 (by rw [hn3]; exact hm), decide_eq_true e32⟩, by rw [e38]; decide⟩)
            have e264 : r265 = nI 1 := e264.trans (if_pos (c_440.trans e39.symm))
            subst e264
            obtain ⟨V3, hV3⟩ : ∃ V3, V3 = rvV V2 m1 rc2 := ⟨_, rfl⟩
            rw [← hV3] at L263
            have g3 : Good T V3 := hV3 ▸ good_rv g2 (by omega) _
            have x3 : Ex T V3 := hV3 ▸ ex_rv x2 _ _
            have hn4 : vN V3 = n := by rw [hV3]; exact rv_n.trans hn3
            have f38 : V3 (38 + 12 * m1) = nI 2 := by rw [hV3]; exact rv_38.trans (if_pos (c_440.trans e39.symm))
            refine g_iload C 0 dL_law_485 rfl ?_
            refine g_icmp_ne_f C 509 (by decide) dL_law_487 (by decide) ?_
            refine g_aload_n C 6 dL_law_490 rfl ?_
            refine g_iload C 11 dL_law_491 rfl ?_
            refine g_bipush C (nI 8) dL_law_493 (by decide) ?_
            refine g_cV1 C (As := [.int (nI m1), .int (nI 8)]) (w := .int (nI 2)) (mem3 := u262) iX9_member (c_X9_member l G g3 u262 L263.1 (nI m1) (nI 8)) wd_364 ob_0 rfl ⟨Nat.le_of_ble_eq_true rfl, Nat.le_of_ble_eq_true rfl⟩ ⟨rfl, rfl⟩ rfl (Nat.le_of_ble_eq_true rfl) dL_law_495 (congrArg Value.int ((mem_n g3 (by rw [hn4]; exact hm) (w := 8) (by decide) (by omega)).trans f38)) (rfl) ?_
            refine g_iconst C (nI 3) dL_law_498 (by decide) ?_
            refine g_iload C 0 dL_law_499 rfl ?_
            refine g_isub C dL_law_501 ?_
            refine g_top (y := nI 2) (by decide) ?_
            refine g_icmp_ne_f C 509 (by decide) dL_law_502 (by decide) ?_
            refine g_iconst C (nI 1) dL_law_505 (by decide) ?_
            refine g_goto C 510 dL_law_506 (by decide) ?_
            refine g_istore C (L2 := [(8, .int (nI 1)), (13, .int (nI 1)), (12, .int rc2), (11, .int (V (38 + 12 * m1))), (10, .int (nI 1)), (0, .ref b), (1, .ref (gad G 0)), (2, .int (nI n)), (3, .int (nI k)), (4, .int qv), (5, .int av), (6, .int (nI m1)), (7, .int (nI bb)), (9, .int (nI hw))]) dL_law_510 (by decide) rfl ?_
            refine g_goto C 711 dL_law_512 (by decide) ?_
            refine g_loc (L2 := [(0, .ref b), (1, .ref (gad G 0)), (2, .int (nI n)), (3, .int (nI k)), (8, .int (nI 1))]) [5, 6, 7, 8, 0] rfl ?_
            refine g_widen (mc2 := mc + 2) (ms2 := ms + 20) (by omega) (by omega) ?_
            have hIz : LI T n u262 := ⟨V3, _, _, _, _, L263, g3, x3, hn4⟩
            exact law_tail (C.cnt hmc hms) hk (by omega) hIz (kk T u262 (by omega) hIz)
        · refine g_iload C 9 dL_law_443 rfl ?_
          refine g_bipush C (nI 64) dL_law_445 (by decide) ?_
          refine g_iand C dL_law_447 ?_
          refine g_if_ne_t C 455 (c_385) dL_law_448 (by decide) ?_
          refine g_iconst C (nI 0) dL_law_455 (by decide) ?_
          refine g_istore C (L2 := [(13, .int (nI 0)), (8, .int (nI 1)), (12, .int rc2), (11, .int (V (38 + 12 * m1))), (10, .int (nI 1)), (0, .ref b), (1, .ref (gad G 0)), (2, .int (nI n)), (3, .int (nI k)), (4, .int qv), (5, .int av), (6, .int (nI m1)), (7, .int (nI bb)), (9, .int (nI hw))]) dL_law_456 (by decide) rfl ?_
          refine g_iload C 1 dL_law_458 rfl ?_
          refine g_if_eq_f C 509 (by decide) dL_law_460 (by decide) ?_
          refine g_iload C 4 dL_law_463 rfl ?_
          refine g_if_eq_f C 505 (by decide) dL_law_465 (by decide) ?_
          refine g_iload C 10 dL_law_468 rfl ?_
          refine g_sipush C (nI 128) dL_law_470 (by decide) ?_
          refine g_iand C dL_law_473 ?_
          refine g_if_ne C 505 dL_law_474 (by decide) (fun c_474 => ?_) (fun c_474 => ?_)
          · refine g_iconst C (nI 1) dL_law_505 (by decide) ?_
            refine g_goto C 510 dL_law_506 (by decide) ?_
            refine g_istore C (L2 := [(8, .int (nI 1)), (13, .int (nI 0)), (12, .int rc2), (11, .int (V (38 + 12 * m1))), (10, .int (nI 1)), (0, .ref b), (1, .ref (gad G 0)), (2, .int (nI n)), (3, .int (nI k)), (4, .int qv), (5, .int av), (6, .int (nI m1)), (7, .int (nI bb)), (9, .int (nI hw))]) dL_law_510 (by decide) rfl ?_
            refine g_goto C 711 dL_law_512 (by decide) ?_
            refine g_loc (L2 := [(0, .ref b), (1, .ref (gad G 0)), (2, .int (nI n)), (3, .int (nI k)), (8, .int (nI 1))]) [5, 6, 7, 8, 0] rfl ?_
            refine g_widen (mc2 := mc + 2) (ms2 := ms + 20) (by omega) (by omega) ?_
            have hIz : LI T n u258 := ⟨V2, _, _, _, _, L259, g2, x2, hn3⟩
            exact law_tail (C.cnt hmc hms) hk (by omega) hIz (kk T u258 (by omega) hIz)
          · refine g_aload_n C 6 dL_law_477 rfl ?_
            refine g_iload C 11 dL_law_478 rfl ?_
            refine g_iload C 2 dL_law_480 rfl ?_
            refine g_cVr C (As := [.int (nI m1), .int rc2]) iX9_reveal (c_X9_reveal l G g2 u258 L259.1 L259.2.1.choose_spec (nI m1) rc2) wd_419 ob_0 rfl ⟨Nat.le_of_ble_eq_true rfl, Nat.le_of_ble_eq_true rfl⟩ ⟨rfl, rfl⟩ rfl (Nat.le_of_ble_eq_true rfl) dL_law_482 (fun r269 u266 hq => ?_)
            rw [toN_nI (show m1 < 2 ^ 31 by omega)] at hq
            obtain ⟨e268, L267⟩ := ax_ok L259 hq (⟨⟨memP_of g2 (by rw [hn3]; exact hm), decide_eq_true e32⟩, by rw [e38]; decide⟩)
            have e268 : r269 = nI 0 := e268.trans (if_neg (fun q => c_440 (q.trans e39)))
            subst e268
            obtain ⟨V3, hV3⟩ : ∃ V3, V3 = rvV V2 m1 rc2 := ⟨_, rfl⟩
            rw [← hV3] at L267
            have g3 : Good T V3 := hV3 ▸ good_rv g2 (by omega) _
            have x3 : Ex T V3 := hV3 ▸ ex_rv x2 _ _
            have hn4 : vN V3 = n := by rw [hV3]; exact rv_n.trans hn3
            have f38 : V3 (38 + 12 * m1) = nI 3 := by rw [hV3]; exact rv_38.trans (if_neg (fun q => c_440 (q.trans e39)))
            refine g_iload C 0 dL_law_485 rfl ?_
            refine g_icmp_ne_f C 509 (by decide) dL_law_487 (by decide) ?_
            refine g_aload_n C 6 dL_law_490 rfl ?_
            refine g_iload C 11 dL_law_491 rfl ?_
            refine g_bipush C (nI 8) dL_law_493 (by decide) ?_
            refine g_cV1 C (As := [.int (nI m1), .int (nI 8)]) (w := .int (nI 3)) (mem3 := u266) iX9_member (c_X9_member l G g3 u266 L267.1 (nI m1) (nI 8)) wd_364 ob_0 rfl ⟨Nat.le_of_ble_eq_true rfl, Nat.le_of_ble_eq_true rfl⟩ ⟨rfl, rfl⟩ rfl (Nat.le_of_ble_eq_true rfl) dL_law_495 (congrArg Value.int ((mem_n g3 (by rw [hn4]; exact hm) (w := 8) (by decide) (by omega)).trans f38)) (rfl) ?_
            refine g_iconst C (nI 3) dL_law_498 (by decide) ?_
            refine g_iload C 0 dL_law_499 rfl ?_
            refine g_isub C dL_law_501 ?_
            refine g_top (y := nI 3) (by decide) ?_
            refine g_icmp_ne_f C 509 (by decide) dL_law_502 (by decide) ?_
            refine g_iconst C (nI 1) dL_law_505 (by decide) ?_
            refine g_goto C 510 dL_law_506 (by decide) ?_
            refine g_istore C (L2 := [(8, .int (nI 1)), (13, .int (nI 0)), (12, .int rc2), (11, .int (V (38 + 12 * m1))), (10, .int (nI 1)), (0, .ref b), (1, .ref (gad G 0)), (2, .int (nI n)), (3, .int (nI k)), (4, .int qv), (5, .int av), (6, .int (nI m1)), (7, .int (nI bb)), (9, .int (nI hw))]) dL_law_510 (by decide) rfl ?_
            refine g_goto C 711 dL_law_512 (by decide) ?_
            refine g_loc (L2 := [(0, .ref b), (1, .ref (gad G 0)), (2, .int (nI n)), (3, .int (nI k)), (8, .int (nI 1))]) [5, 6, 7, 8, 0] rfl ?_
            refine g_widen (mc2 := mc + 2) (ms2 := ms + 20) (by omega) (by omega) ?_
            have hIz : LI T n u266 := ⟨V3, _, _, _, _, L267, g3, x3, hn4⟩
            exact law_tail (C.cnt hmc hms) hk (by omega) hIz (kk T u266 (by omega) hIz)
      · refine g_aload_n C 4 dL_law_388 rfl ?_
        refine g_iload C 0 dL_law_389 rfl ?_
        refine g_cV1 C (As := [.int rc2]) (w := .int (mixI rc2)) (mem3 := mem) iX9_mix (c_X9_mix l G mem rc2) wd_405 ob_0 rfl ⟨Nat.le_of_ble_eq_true rfl, Nat.le_of_ble_eq_true rfl⟩ ⟨rfl, rfl⟩ rfl (Nat.le_of_ble_eq_true rfl) dL_law_391 (rfl) (rfl) ?_
        refine g_goto C 399 dL_law_394 (by decide) ?_
        refine g_cVr C (As := [.int (nI m1), .int (mixI rc2)]) iX9_commit (c_X9_commit l G g mem L.1 L.2.1.choose_spec (nI m1) (mixI rc2)) wd_413 ob_0 rfl ⟨Nat.le_of_ble_eq_true rfl, Nat.le_of_ble_eq_true rfl⟩ ⟨rfl, rfl⟩ rfl (Nat.le_of_ble_eq_true rfl) dL_law_399 (fun r273 u270 hq => ?_)
        rw [toN_nI (show m1 < 2 ^ 31 by omega)] at hq
        obtain ⟨e272, L271⟩ := ax_ok L hq (⟨memP_of g hm2, decide_eq_true c_350⟩)
        have e272 : r273 = nI 0 := e272.trans (if_pos h38)
        subst e272
        obtain ⟨V2, hV2⟩ : ∃ V2, V2 = cmV V m1 (mixI rc2) := ⟨_, rfl⟩
        rw [← hV2] at L271
        have g2 : Good T V2 := hV2 ▸ good_cm g (by omega) _
        have x2 : Ex T V2 := hV2 ▸ ex_cm x _ _
        have hn3 : vN V2 = n := by rw [hV2]; exact cm_n.trans hnV
        have e38 : V2 (38 + 12 * m1) = nI 1 := by rw [hV2]; exact cm_38
        have e39 : V2 (39 + 12 * m1) = (mixI rc2) := by rw [hV2]; exact cm_39
        have e32 : V2 (32 + 12 * m1) = nI 1 := by rw [hV2]; exact cm_32.trans c_350
        refine g_iload C 2 dL_law_402 rfl ?_
        refine g_if_ne_t C 412 (by decide) dL_law_404 (by decide) ?_
        refine g_iload C 1 dL_law_412 rfl ?_
        refine g_if_ne_f C 421 (h38) dL_law_414 (by decide) ?_
        refine g_iconst C (nI 0) dL_law_417 (by decide) ?_
        refine g_goto C 422 dL_law_418 (by decide) ?_
        refine g_icmp_ne_f C 429 (rfl) dL_law_422 (by decide) ?_
        refine g_iconst C (nI 1) dL_law_425 (by decide) ?_
        refine g_goto C 430 dL_law_426 (by decide) ?_
        refine g_istore C (L2 := [(8, .int (nI 1)), (12, .int rc2), (11, .int (V (38 + 12 * m1))), (10, .int (nI 1)), (0, .ref b), (1, .ref (gad G 0)), (2, .int (nI n)), (3, .int (nI k)), (4, .int qv), (5, .int av), (6, .int (nI m1)), (7, .int (nI bb)), (9, .int (nI hw))]) dL_law_430 (by decide) rfl ?_
        refine g_aload_n C 5 dL_law_432 rfl ?_
        refine g_iload C 1 dL_law_433 rfl ?_
        refine g_cV1 C (As := [.int rc2]) (w := .int (mixI rc2)) (mem3 := u270) iX9_mix (c_X9_mix l G u270 rc2) wd_405 ob_0 rfl ⟨Nat.le_of_ble_eq_true rfl, Nat.le_of_ble_eq_true rfl⟩ ⟨rfl, rfl⟩ rfl (Nat.le_of_ble_eq_true rfl) dL_law_435 (rfl) (rfl) ?_
        refine g_iload C 1 dL_law_438 rfl ?_
        refine g_icmp_eq C 451 dL_law_440 (by decide) (fun c_440 => ?_) (fun c_440 => ?_)
        · refine g_iconst C (nI 1) dL_law_451 (by decide) ?_
          refine g_goto C 456 dL_law_452 (by decide) ?_
          refine g_istore C (L2 := [(13, .int (nI 1)), (8, .int (nI 1)), (12, .int rc2), (11, .int (V (38 + 12 * m1))), (10, .int (nI 1)), (0, .ref b), (1, .ref (gad G 0)), (2, .int (nI n)), (3, .int (nI k)), (4, .int qv), (5, .int av), (6, .int (nI m1)), (7, .int (nI bb)), (9, .int (nI hw))]) dL_law_456 (by decide) rfl ?_
          refine g_iload C 1 dL_law_458 rfl ?_
          refine g_if_eq_f C 509 (by decide) dL_law_460 (by decide) ?_
          refine g_iload C 4 dL_law_463 rfl ?_
          refine g_if_eq_f C 505 (by decide) dL_law_465 (by decide) ?_
          refine g_iload C 10 dL_law_468 rfl ?_
          refine g_sipush C (nI 128) dL_law_470 (by decide) ?_
          refine g_iand C dL_law_473 ?_
          refine g_if_ne C 505 dL_law_474 (by decide) (fun c_474 => ?_) (fun c_474 => ?_)
          · refine g_iconst C (nI 1) dL_law_505 (by decide) ?_
            refine g_goto C 510 dL_law_506 (by decide) ?_
            refine g_istore C (L2 := [(8, .int (nI 1)), (13, .int (nI 1)), (12, .int rc2), (11, .int (V (38 + 12 * m1))), (10, .int (nI 1)), (0, .ref b), (1, .ref (gad G 0)), (2, .int (nI n)), (3, .int (nI k)), (4, .int qv), (5, .int av), (6, .int (nI m1)), (7, .int (nI bb)), (9, .int (nI hw))]) dL_law_510 (by decide) rfl ?_
            refine g_goto C 711 dL_law_512 (by decide) ?_
            refine g_loc (L2 := [(0, .ref b), (1, .ref (gad G 0)), (2, .int (nI n)), (3, .int (nI k)), (8, .int (nI 1))]) [5, 6, 7, 8, 0] rfl ?_
            refine g_widen (mc2 := mc + 2) (ms2 := ms + 20) (by omega) (by omega) ?_
            have hIz : LI T n u270 := ⟨V2, _, _, _, _, L271, g2, x2, hn3⟩
            exact law_tail (C.cnt hmc hms) hk (by omega) hIz (kk T u270 (by omega) hIz)
          · refine g_aload_n C 6 dL_law_477 rfl ?_
            refine g_iload C 11 dL_law_478 rfl ?_
            refine g_iload C 2 dL_law_480 rfl ?_
            refine g_cVr C (As := [.int (nI m1), .int rc2]) iX9_reveal (c_X9_reveal l G g2 u270 L271.1 L271.2.1.choose_spec (nI m1) rc2) wd_419 ob_0 rfl ⟨Nat.le_of_ble_eq_true rfl, Nat.le_of_ble_eq_true rfl⟩ ⟨rfl, rfl⟩ rfl (Nat.le_of_ble_eq_true rfl) dL_law_482 (fun r277 u274 hq => ?_)
            rw [toN_nI (show m1 < 2 ^ 31 by omega)] at hq
            obtain ⟨e276, L275⟩ := ax_ok L271 hq (⟨⟨memP_of g2 (by rw [hn3]; exact hm), decide_eq_true e32⟩, by rw [e38]; decide⟩)
            have e276 : r277 = nI 1 := e276.trans (if_pos e39.symm)
            subst e276
            obtain ⟨V3, hV3⟩ : ∃ V3, V3 = rvV V2 m1 rc2 := ⟨_, rfl⟩
            rw [← hV3] at L275
            have g3 : Good T V3 := hV3 ▸ good_rv g2 (by omega) _
            have x3 : Ex T V3 := hV3 ▸ ex_rv x2 _ _
            have hn4 : vN V3 = n := by rw [hV3]; exact rv_n.trans hn3
            have f38 : V3 (38 + 12 * m1) = nI 2 := by rw [hV3]; exact rv_38.trans (if_pos e39.symm)
            refine g_iload C 0 dL_law_485 rfl ?_
            refine g_icmp_ne_f C 509 (by decide) dL_law_487 (by decide) ?_
            refine g_aload_n C 6 dL_law_490 rfl ?_
            refine g_iload C 11 dL_law_491 rfl ?_
            refine g_bipush C (nI 8) dL_law_493 (by decide) ?_
            refine g_cV1 C (As := [.int (nI m1), .int (nI 8)]) (w := .int (nI 2)) (mem3 := u274) iX9_member (c_X9_member l G g3 u274 L275.1 (nI m1) (nI 8)) wd_364 ob_0 rfl ⟨Nat.le_of_ble_eq_true rfl, Nat.le_of_ble_eq_true rfl⟩ ⟨rfl, rfl⟩ rfl (Nat.le_of_ble_eq_true rfl) dL_law_495 (congrArg Value.int ((mem_n g3 (by rw [hn4]; exact hm) (w := 8) (by decide) (by omega)).trans f38)) (rfl) ?_
            refine g_iconst C (nI 3) dL_law_498 (by decide) ?_
            refine g_iload C 0 dL_law_499 rfl ?_
            refine g_isub C dL_law_501 ?_
            refine g_top (y := nI 2) (by decide) ?_
            refine g_icmp_ne_f C 509 (by decide) dL_law_502 (by decide) ?_
            refine g_iconst C (nI 1) dL_law_505 (by decide) ?_
            refine g_goto C 510 dL_law_506 (by decide) ?_
            refine g_istore C (L2 := [(8, .int (nI 1)), (13, .int (nI 1)), (12, .int rc2), (11, .int (V (38 + 12 * m1))), (10, .int (nI 1)), (0, .ref b), (1, .ref (gad G 0)), (2, .int (nI n)), (3, .int (nI k)), (4, .int qv), (5, .int av), (6, .int (nI m1)), (7, .int (nI bb)), (9, .int (nI hw))]) dL_law_510 (by decide) rfl ?_
            refine g_goto C 711 dL_law_512 (by decide) ?_
            refine g_loc (L2 := [(0, .ref b), (1, .ref (gad G 0)), (2, .int (nI n)), (3, .int (nI k)), (8, .int (nI 1))]) [5, 6, 7, 8, 0] rfl ?_
            refine g_widen (mc2 := mc + 2) (ms2 := ms + 20) (by omega) (by omega) ?_
            have hIz : LI T n u274 := ⟨V3, _, _, _, _, L275, g3, x3, hn4⟩
            exact law_tail (C.cnt hmc hms) hk (by omega) hIz (kk T u274 (by omega) hIz)
        · refine g_iload C 9 dL_law_443 rfl ?_
          refine g_bipush C (nI 64) dL_law_445 (by decide) ?_
          refine g_iand C dL_law_447 ?_
          refine g_if_ne_f C 455 (c_385) dL_law_448 (by decide) ?_
          refine g_iconst C (nI 1) dL_law_451 (by decide) ?_
          refine g_goto C 456 dL_law_452 (by decide) ?_
          refine g_istore C (L2 := [(13, .int (nI 1)), (8, .int (nI 1)), (12, .int rc2), (11, .int (V (38 + 12 * m1))), (10, .int (nI 1)), (0, .ref b), (1, .ref (gad G 0)), (2, .int (nI n)), (3, .int (nI k)), (4, .int qv), (5, .int av), (6, .int (nI m1)), (7, .int (nI bb)), (9, .int (nI hw))]) dL_law_456 (by decide) rfl ?_
          refine g_iload C 1 dL_law_458 rfl ?_
          refine g_if_eq_f C 509 (by decide) dL_law_460 (by decide) ?_
          refine g_iload C 4 dL_law_463 rfl ?_
          refine g_if_eq_f C 505 (by decide) dL_law_465 (by decide) ?_
          refine g_iload C 10 dL_law_468 rfl ?_
          refine g_sipush C (nI 128) dL_law_470 (by decide) ?_
          refine g_iand C dL_law_473 ?_
          refine g_if_ne C 505 dL_law_474 (by decide) (fun c_474 => ?_) (fun c_474 => ?_)
          · refine g_iconst C (nI 1) dL_law_505 (by decide) ?_
            refine g_goto C 510 dL_law_506 (by decide) ?_
            refine g_istore C (L2 := [(8, .int (nI 1)), (13, .int (nI 1)), (12, .int rc2), (11, .int (V (38 + 12 * m1))), (10, .int (nI 1)), (0, .ref b), (1, .ref (gad G 0)), (2, .int (nI n)), (3, .int (nI k)), (4, .int qv), (5, .int av), (6, .int (nI m1)), (7, .int (nI bb)), (9, .int (nI hw))]) dL_law_510 (by decide) rfl ?_
            refine g_goto C 711 dL_law_512 (by decide) ?_
            refine g_loc (L2 := [(0, .ref b), (1, .ref (gad G 0)), (2, .int (nI n)), (3, .int (nI k)), (8, .int (nI 1))]) [5, 6, 7, 8, 0] rfl ?_
            refine g_widen (mc2 := mc + 2) (ms2 := ms + 20) (by omega) (by omega) ?_
            have hIz : LI T n u270 := ⟨V2, _, _, _, _, L271, g2, x2, hn3⟩
            exact law_tail (C.cnt hmc hms) hk (by omega) hIz (kk T u270 (by omega) hIz)
          · refine g_aload_n C 6 dL_law_477 rfl ?_
            refine g_iload C 11 dL_law_478 rfl ?_
            refine g_iload C 2 dL_law_480 rfl ?_
            refine g_cVr C (As := [.int (nI m1), .int rc2]) iX9_reveal (c_X9_reveal l G g2 u270 L271.1 L271.2.1.choose_spec (nI m1) rc2) wd_419 ob_0 rfl ⟨Nat.le_of_ble_eq_true rfl, Nat.le_of_ble_eq_true rfl⟩ ⟨rfl, rfl⟩ rfl (Nat.le_of_ble_eq_true rfl) dL_law_482 (fun r281 u278 hq => ?_)
            rw [toN_nI (show m1 < 2 ^ 31 by omega)] at hq
            obtain ⟨e280, L279⟩ := ax_ok L271 hq (⟨⟨memP_of g2 (by rw [hn3]; exact hm), decide_eq_true e32⟩, by rw [e38]; decide⟩)
            have e280 : r281 = nI 1 := e280.trans (if_pos e39.symm)
            subst e280
            obtain ⟨V3, hV3⟩ : ∃ V3, V3 = rvV V2 m1 rc2 := ⟨_, rfl⟩
            rw [← hV3] at L279
            have g3 : Good T V3 := hV3 ▸ good_rv g2 (by omega) _
            have x3 : Ex T V3 := hV3 ▸ ex_rv x2 _ _
            have hn4 : vN V3 = n := by rw [hV3]; exact rv_n.trans hn3
            have f38 : V3 (38 + 12 * m1) = nI 2 := by rw [hV3]; exact rv_38.trans (if_pos e39.symm)
            refine g_iload C 0 dL_law_485 rfl ?_
            refine g_icmp_ne_f C 509 (by decide) dL_law_487 (by decide) ?_
            refine g_aload_n C 6 dL_law_490 rfl ?_
            refine g_iload C 11 dL_law_491 rfl ?_
            refine g_bipush C (nI 8) dL_law_493 (by decide) ?_
            refine g_cV1 C (As := [.int (nI m1), .int (nI 8)]) (w := .int (nI 2)) (mem3 := u278) iX9_member (c_X9_member l G g3 u278 L279.1 (nI m1) (nI 8)) wd_364 ob_0 rfl ⟨Nat.le_of_ble_eq_true rfl, Nat.le_of_ble_eq_true rfl⟩ ⟨rfl, rfl⟩ rfl (Nat.le_of_ble_eq_true rfl) dL_law_495 (congrArg Value.int ((mem_n g3 (by rw [hn4]; exact hm) (w := 8) (by decide) (by omega)).trans f38)) (rfl) ?_
            refine g_iconst C (nI 3) dL_law_498 (by decide) ?_
            refine g_iload C 0 dL_law_499 rfl ?_
            refine g_isub C dL_law_501 ?_
            refine g_top (y := nI 2) (by decide) ?_
            refine g_icmp_ne_f C 509 (by decide) dL_law_502 (by decide) ?_
            refine g_iconst C (nI 1) dL_law_505 (by decide) ?_
            refine g_goto C 510 dL_law_506 (by decide) ?_
            refine g_istore C (L2 := [(8, .int (nI 1)), (13, .int (nI 1)), (12, .int rc2), (11, .int (V (38 + 12 * m1))), (10, .int (nI 1)), (0, .ref b), (1, .ref (gad G 0)), (2, .int (nI n)), (3, .int (nI k)), (4, .int qv), (5, .int av), (6, .int (nI m1)), (7, .int (nI bb)), (9, .int (nI hw))]) dL_law_510 (by decide) rfl ?_
            refine g_goto C 711 dL_law_512 (by decide) ?_
            refine g_loc (L2 := [(0, .ref b), (1, .ref (gad G 0)), (2, .int (nI n)), (3, .int (nI k)), (8, .int (nI 1))]) [5, 6, 7, 8, 0] rfl ?_
            refine g_widen (mc2 := mc + 2) (ms2 := ms + 20) (by omega) (by omega) ?_
            have hIz : LI T n u278 := ⟨V3, _, _, _, _, L279, g3, x3, hn4⟩
            exact law_tail (C.cnt hmc hms) hk (by omega) hIz (kk T u278 (by omega) hIz)
    · refine g_iload C 9 dL_law_378 rfl ?_
      refine g_iload C 8 dL_law_380 rfl ?_
      refine g_bipush C (nI 64) dL_law_382 (by decide) ?_
      refine g_iand C dL_law_384 ?_
      refine g_if_ne C 397 dL_law_385 (by decide) (fun c_385 => ?_) (fun c_385 => ?_)
      · refine g_iload C 0 dL_law_397 rfl ?_
        refine g_cVr C (As := [.int (nI m1), .int rc2]) iX9_commit (c_X9_commit l G g mem L.1 L.2.1.choose_spec (nI m1) rc2) wd_413 ob_0 rfl ⟨Nat.le_of_ble_eq_true rfl, Nat.le_of_ble_eq_true rfl⟩ ⟨rfl, rfl⟩ rfl (Nat.le_of_ble_eq_true rfl) dL_law_399 (fun r285 u282 hq => ?_)
        rw [toN_nI (show m1 < 2 ^ 31 by omega)] at hq
        obtain ⟨e284, L283⟩ := ax_ok L hq (⟨memP_of g hm2, decide_eq_true c_350⟩)
        have e284 : r285 = nI 1 := e284.trans (if_neg h38)
        subst e284
        obtain ⟨V2, hV2⟩ : ∃ V2, V2 = cmV V m1 rc2 := ⟨_, rfl⟩
        rw [← hV2] at L283
        have g2 : Good T V2 := hV2 ▸ good_cm g (by omega) _
        have x2 : Ex T V2 := hV2 ▸ ex_cm x _ _
        have hn3 : vN V2 = n := by rw [hV2]; exact cm_n.trans hnV
        have e38 : V2 (38 + 12 * m1) = nI 1 := by rw [hV2]; exact cm_38
        have e39 : V2 (39 + 12 * m1) = rc2 := by rw [hV2]; exact cm_39
        have e32 : V2 (32 + 12 * m1) = nI 1 := by rw [hV2]; exact cm_32.trans c_350
        refine g_iload C 2 dL_law_402 rfl ?_
        refine g_if_ne_t C 412 (by decide) dL_law_404 (by decide) ?_
        refine g_iload C 1 dL_law_412 rfl ?_
        refine g_if_ne_t C 421 (h38) dL_law_414 (by decide) ?_
        refine g_iconst C (nI 1) dL_law_421 (by decide) ?_
        refine g_icmp_ne_f C 429 (rfl) dL_law_422 (by decide) ?_
        refine g_iconst C (nI 1) dL_law_425 (by decide) ?_
        refine g_goto C 430 dL_law_426 (by decide) ?_
        refine g_istore C (L2 := [(8, .int (nI 1)), (12, .int rc2), (11, .int (V (38 + 12 * m1))), (10, .int (nI 1)), (0, .ref b), (1, .ref (gad G 0)), (2, .int (nI n)), (3, .int (nI k)), (4, .int qv), (5, .int av), (6, .int (nI m1)), (7, .int (nI bb)), (9, .int (nI hw))]) dL_law_430 (by decide) rfl ?_
        refine g_aload_n C 5 dL_law_432 rfl ?_
        refine g_iload C 1 dL_law_433 rfl ?_
        refine g_cV1 C (As := [.int rc2]) (w := .int (mixI rc2)) (mem3 := u282) iX9_mix (c_X9_mix l G u282 rc2) wd_405 ob_0 rfl ⟨Nat.le_of_ble_eq_true rfl, Nat.le_of_ble_eq_true rfl⟩ ⟨rfl, rfl⟩ rfl (Nat.le_of_ble_eq_true rfl) dL_law_435 (rfl) (rfl) ?_
        refine g_iload C 1 dL_law_438 rfl ?_
        refine g_icmp_eq C 451 dL_law_440 (by decide) (fun c_440 => ?_) (fun c_440 => ?_)
        · refine g_iconst C (nI 1) dL_law_451 (by decide) ?_
          refine g_goto C 456 dL_law_452 (by decide) ?_
          refine g_istore C (L2 := [(13, .int (nI 1)), (8, .int (nI 1)), (12, .int rc2), (11, .int (V (38 + 12 * m1))), (10, .int (nI 1)), (0, .ref b), (1, .ref (gad G 0)), (2, .int (nI n)), (3, .int (nI k)), (4, .int qv), (5, .int av), (6, .int (nI m1)), (7, .int (nI bb)), (9, .int (nI hw))]) dL_law_456 (by decide) rfl ?_
          refine g_iload C 1 dL_law_458 rfl ?_
          refine g_if_eq_f C 509 (by decide) dL_law_460 (by decide) ?_
          refine g_iload C 4 dL_law_463 rfl ?_
          refine g_if_eq_f C 505 (by decide) dL_law_465 (by decide) ?_
          refine g_iload C 10 dL_law_468 rfl ?_
          refine g_sipush C (nI 128) dL_law_470 (by decide) ?_
          refine g_iand C dL_law_473 ?_
          refine g_if_ne C 505 dL_law_474 (by decide) (fun c_474 => ?_) (fun c_474 => ?_)
          · refine g_iconst C (nI 1) dL_law_505 (by decide) ?_
            refine g_goto C 510 dL_law_506 (by decide) ?_
            refine g_istore C (L2 := [(8, .int (nI 1)), (13, .int (nI 1)), (12, .int rc2), (11, .int (V (38 + 12 * m1))), (10, .int (nI 1)), (0, .ref b), (1, .ref (gad G 0)), (2, .int (nI n)), (3, .int (nI k)), (4, .int qv), (5, .int av), (6, .int (nI m1)), (7, .int (nI bb)), (9, .int (nI hw))]) dL_law_510 (by decide) rfl ?_
            refine g_goto C 711 dL_law_512 (by decide) ?_
            refine g_loc (L2 := [(0, .ref b), (1, .ref (gad G 0)), (2, .int (nI n)), (3, .int (nI k)), (8, .int (nI 1))]) [5, 6, 7, 8, 0] rfl ?_
            refine g_widen (mc2 := mc + 2) (ms2 := ms + 20) (by omega) (by omega) ?_
            have hIz : LI T n u282 := ⟨V2, _, _, _, _, L283, g2, x2, hn3⟩
            exact law_tail (C.cnt hmc hms) hk (by omega) hIz (kk T u282 (by omega) hIz)
          · refine g_aload_n C 6 dL_law_477 rfl ?_
            refine g_iload C 11 dL_law_478 rfl ?_
            refine g_iload C 2 dL_law_480 rfl ?_
            refine g_cVr C (As := [.int (nI m1), .int rc2]) iX9_reveal (c_X9_reveal l G g2 u282 L283.1 L283.2.1.choose_spec (nI m1) rc2) wd_419 ob_0 rfl ⟨Nat.le_of_ble_eq_true rfl, Nat.le_of_ble_eq_true rfl⟩ ⟨rfl, rfl⟩ rfl (Nat.le_of_ble_eq_true rfl) dL_law_482 (fun r289 u286 hq => ?_)
            rw [toN_nI (show m1 < 2 ^ 31 by omega)] at hq
            obtain ⟨e288, L287⟩ := ax_ok L283 hq (⟨⟨memP_of g2 (by rw [hn3]; exact hm), decide_eq_true e32⟩, by rw [e38]; decide⟩)
            have e288 : r289 = nI 1 := e288.trans (if_pos (c_440.trans e39.symm))
            subst e288
            obtain ⟨V3, hV3⟩ : ∃ V3, V3 = rvV V2 m1 rc2 := ⟨_, rfl⟩
            rw [← hV3] at L287
            have g3 : Good T V3 := hV3 ▸ good_rv g2 (by omega) _
            have x3 : Ex T V3 := hV3 ▸ ex_rv x2 _ _
            have hn4 : vN V3 = n := by rw [hV3]; exact rv_n.trans hn3
            have f38 : V3 (38 + 12 * m1) = nI 2 := by rw [hV3]; exact rv_38.trans (if_pos (c_440.trans e39.symm))
            refine g_iload C 0 dL_law_485 rfl ?_
            refine g_icmp_ne_f C 509 (by decide) dL_law_487 (by decide) ?_
            refine g_aload_n C 6 dL_law_490 rfl ?_
            refine g_iload C 11 dL_law_491 rfl ?_
            refine g_bipush C (nI 8) dL_law_493 (by decide) ?_
            refine g_cV1 C (As := [.int (nI m1), .int (nI 8)]) (w := .int (nI 2)) (mem3 := u286) iX9_member (c_X9_member l G g3 u286 L287.1 (nI m1) (nI 8)) wd_364 ob_0 rfl ⟨Nat.le_of_ble_eq_true rfl, Nat.le_of_ble_eq_true rfl⟩ ⟨rfl, rfl⟩ rfl (Nat.le_of_ble_eq_true rfl) dL_law_495 (congrArg Value.int ((mem_n g3 (by rw [hn4]; exact hm) (w := 8) (by decide) (by omega)).trans f38)) (rfl) ?_
            refine g_iconst C (nI 3) dL_law_498 (by decide) ?_
            refine g_iload C 0 dL_law_499 rfl ?_
            refine g_isub C dL_law_501 ?_
            refine g_top (y := nI 2) (by decide) ?_
            refine g_icmp_ne_f C 509 (by decide) dL_law_502 (by decide) ?_
            refine g_iconst C (nI 1) dL_law_505 (by decide) ?_
            refine g_goto C 510 dL_law_506 (by decide) ?_
            refine g_istore C (L2 := [(8, .int (nI 1)), (13, .int (nI 1)), (12, .int rc2), (11, .int (V (38 + 12 * m1))), (10, .int (nI 1)), (0, .ref b), (1, .ref (gad G 0)), (2, .int (nI n)), (3, .int (nI k)), (4, .int qv), (5, .int av), (6, .int (nI m1)), (7, .int (nI bb)), (9, .int (nI hw))]) dL_law_510 (by decide) rfl ?_
            refine g_goto C 711 dL_law_512 (by decide) ?_
            refine g_loc (L2 := [(0, .ref b), (1, .ref (gad G 0)), (2, .int (nI n)), (3, .int (nI k)), (8, .int (nI 1))]) [5, 6, 7, 8, 0] rfl ?_
            refine g_widen (mc2 := mc + 2) (ms2 := ms + 20) (by omega) (by omega) ?_
            have hIz : LI T n u286 := ⟨V3, _, _, _, _, L287, g3, x3, hn4⟩
            exact law_tail (C.cnt hmc hms) hk (by omega) hIz (kk T u286 (by omega) hIz)
        · refine g_iload C 9 dL_law_443 rfl ?_
          refine g_bipush C (nI 64) dL_law_445 (by decide) ?_
          refine g_iand C dL_law_447 ?_
          refine g_if_ne_t C 455 (c_385) dL_law_448 (by decide) ?_
          refine g_iconst C (nI 0) dL_law_455 (by decide) ?_
          refine g_istore C (L2 := [(13, .int (nI 0)), (8, .int (nI 1)), (12, .int rc2), (11, .int (V (38 + 12 * m1))), (10, .int (nI 1)), (0, .ref b), (1, .ref (gad G 0)), (2, .int (nI n)), (3, .int (nI k)), (4, .int qv), (5, .int av), (6, .int (nI m1)), (7, .int (nI bb)), (9, .int (nI hw))]) dL_law_456 (by decide) rfl ?_
          refine g_iload C 1 dL_law_458 rfl ?_
          refine g_if_eq_f C 509 (by decide) dL_law_460 (by decide) ?_
          refine g_iload C 4 dL_law_463 rfl ?_
          refine g_if_eq_f C 505 (by decide) dL_law_465 (by decide) ?_
          refine g_iload C 10 dL_law_468 rfl ?_
          refine g_sipush C (nI 128) dL_law_470 (by decide) ?_
          refine g_iand C dL_law_473 ?_
          refine g_if_ne C 505 dL_law_474 (by decide) (fun c_474 => ?_) (fun c_474 => ?_)
          · refine g_iconst C (nI 1) dL_law_505 (by decide) ?_
            refine g_goto C 510 dL_law_506 (by decide) ?_
            refine g_istore C (L2 := [(8, .int (nI 1)), (13, .int (nI 0)), (12, .int rc2), (11, .int (V (38 + 12 * m1))), (10, .int (nI 1)), (0, .ref b), (1, .ref (gad G 0)), (2, .int (nI n)), (3, .int (nI k)), (4, .int qv), (5, .int av), (6, .int (nI m1)), (7, .int (nI bb)), (9, .int (nI hw))]) dL_law_510 (by decide) rfl ?_
            refine g_goto C 711 dL_law_512 (by decide) ?_
            refine g_loc (L2 := [(0, .ref b), (1, .ref (gad G 0)), (2, .int (nI n)), (3, .int (nI k)), (8, .int (nI 1))]) [5, 6, 7, 8, 0] rfl ?_
            refine g_widen (mc2 := mc + 2) (ms2 := ms + 20) (by omega) (by omega) ?_
            have hIz : LI T n u282 := ⟨V2, _, _, _, _, L283, g2, x2, hn3⟩
            exact law_tail (C.cnt hmc hms) hk (by omega) hIz (kk T u282 (by omega) hIz)
          · refine g_aload_n C 6 dL_law_477 rfl ?_
            refine g_iload C 11 dL_law_478 rfl ?_
            refine g_iload C 2 dL_law_480 rfl ?_
            refine g_cVr C (As := [.int (nI m1), .int rc2]) iX9_reveal (c_X9_reveal l G g2 u282 L283.1 L283.2.1.choose_spec (nI m1) rc2) wd_419 ob_0 rfl ⟨Nat.le_of_ble_eq_true rfl, Nat.le_of_ble_eq_true rfl⟩ ⟨rfl, rfl⟩ rfl (Nat.le_of_ble_eq_true rfl) dL_law_482 (fun r293 u290 hq => ?_)
            rw [toN_nI (show m1 < 2 ^ 31 by omega)] at hq
            obtain ⟨e292, L291⟩ := ax_ok L283 hq (⟨⟨memP_of g2 (by rw [hn3]; exact hm), decide_eq_true e32⟩, by rw [e38]; decide⟩)
            have e292 : r293 = nI 0 := e292.trans (if_neg (fun q => c_440 (q.trans e39)))
            subst e292
            obtain ⟨V3, hV3⟩ : ∃ V3, V3 = rvV V2 m1 rc2 := ⟨_, rfl⟩
            rw [← hV3] at L291
            have g3 : Good T V3 := hV3 ▸ good_rv g2 (by omega) _
            have x3 : Ex T V3 := hV3 ▸ ex_rv x2 _ _
            have hn4 : vN V3 = n := by rw [hV3]; exact rv_n.trans hn3
            have f38 : V3 (38 + 12 * m1) = nI 3 := by rw [hV3]; exact rv_38.trans (if_neg (fun q => c_440 (q.trans e39)))
            refine g_iload C 0 dL_law_485 rfl ?_
            refine g_icmp_ne_f C 509 (by decide) dL_law_487 (by decide) ?_
            refine g_aload_n C 6 dL_law_490 rfl ?_
            refine g_iload C 11 dL_law_491 rfl ?_
            refine g_bipush C (nI 8) dL_law_493 (by decide) ?_
            refine g_cV1 C (As := [.int (nI m1), .int (nI 8)]) (w := .int (nI 3)) (mem3 := u290) iX9_member (c_X9_member l G g3 u290 L291.1 (nI m1) (nI 8)) wd_364 ob_0 rfl ⟨Nat.le_of_ble_eq_true rfl, Nat.le_of_ble_eq_true rfl⟩ ⟨rfl, rfl⟩ rfl (Nat.le_of_ble_eq_true rfl) dL_law_495 (congrArg Value.int ((mem_n g3 (by rw [hn4]; exact hm) (w := 8) (by decide) (by omega)).trans f38)) (rfl) ?_
            refine g_iconst C (nI 3) dL_law_498 (by decide) ?_
            refine g_iload C 0 dL_law_499 rfl ?_
            refine g_isub C dL_law_501 ?_
            refine g_top (y := nI 3) (by decide) ?_
            refine g_icmp_ne_f C 509 (by decide) dL_law_502 (by decide) ?_
            refine g_iconst C (nI 1) dL_law_505 (by decide) ?_
            refine g_goto C 510 dL_law_506 (by decide) ?_
            refine g_istore C (L2 := [(8, .int (nI 1)), (13, .int (nI 0)), (12, .int rc2), (11, .int (V (38 + 12 * m1))), (10, .int (nI 1)), (0, .ref b), (1, .ref (gad G 0)), (2, .int (nI n)), (3, .int (nI k)), (4, .int qv), (5, .int av), (6, .int (nI m1)), (7, .int (nI bb)), (9, .int (nI hw))]) dL_law_510 (by decide) rfl ?_
            refine g_goto C 711 dL_law_512 (by decide) ?_
            refine g_loc (L2 := [(0, .ref b), (1, .ref (gad G 0)), (2, .int (nI n)), (3, .int (nI k)), (8, .int (nI 1))]) [5, 6, 7, 8, 0] rfl ?_
            refine g_widen (mc2 := mc + 2) (ms2 := ms + 20) (by omega) (by omega) ?_
            have hIz : LI T n u290 := ⟨V3, _, _, _, _, L291, g3, x3, hn4⟩
            exact law_tail (C.cnt hmc hms) hk (by omega) hIz (kk T u290 (by omega) hIz)
      · refine g_aload_n C 4 dL_law_388 rfl ?_
        refine g_iload C 0 dL_law_389 rfl ?_
        refine g_cV1 C (As := [.int rc2]) (w := .int (mixI rc2)) (mem3 := mem) iX9_mix (c_X9_mix l G mem rc2) wd_405 ob_0 rfl ⟨Nat.le_of_ble_eq_true rfl, Nat.le_of_ble_eq_true rfl⟩ ⟨rfl, rfl⟩ rfl (Nat.le_of_ble_eq_true rfl) dL_law_391 (rfl) (rfl) ?_
        refine g_goto C 399 dL_law_394 (by decide) ?_
        refine g_cVr C (As := [.int (nI m1), .int (mixI rc2)]) iX9_commit (c_X9_commit l G g mem L.1 L.2.1.choose_spec (nI m1) (mixI rc2)) wd_413 ob_0 rfl ⟨Nat.le_of_ble_eq_true rfl, Nat.le_of_ble_eq_true rfl⟩ ⟨rfl, rfl⟩ rfl (Nat.le_of_ble_eq_true rfl) dL_law_399 (fun r297 u294 hq => ?_)
        rw [toN_nI (show m1 < 2 ^ 31 by omega)] at hq
        obtain ⟨e296, L295⟩ := ax_ok L hq (⟨memP_of g hm2, decide_eq_true c_350⟩)
        have e296 : r297 = nI 1 := e296.trans (if_neg h38)
        subst e296
        obtain ⟨V2, hV2⟩ : ∃ V2, V2 = cmV V m1 (mixI rc2) := ⟨_, rfl⟩
        rw [← hV2] at L295
        have g2 : Good T V2 := hV2 ▸ good_cm g (by omega) _
        have x2 : Ex T V2 := hV2 ▸ ex_cm x _ _
        have hn3 : vN V2 = n := by rw [hV2]; exact cm_n.trans hnV
        have e38 : V2 (38 + 12 * m1) = nI 1 := by rw [hV2]; exact cm_38
        have e39 : V2 (39 + 12 * m1) = (mixI rc2) := by rw [hV2]; exact cm_39
        have e32 : V2 (32 + 12 * m1) = nI 1 := by rw [hV2]; exact cm_32.trans c_350
        refine g_iload C 2 dL_law_402 rfl ?_
        refine g_if_ne_t C 412 (by decide) dL_law_404 (by decide) ?_
        refine g_iload C 1 dL_law_412 rfl ?_
        refine g_if_ne_t C 421 (h38) dL_law_414 (by decide) ?_
        refine g_iconst C (nI 1) dL_law_421 (by decide) ?_
        refine g_icmp_ne_f C 429 (rfl) dL_law_422 (by decide) ?_
        refine g_iconst C (nI 1) dL_law_425 (by decide) ?_
        refine g_goto C 430 dL_law_426 (by decide) ?_
        refine g_istore C (L2 := [(8, .int (nI 1)), (12, .int rc2), (11, .int (V (38 + 12 * m1))), (10, .int (nI 1)), (0, .ref b), (1, .ref (gad G 0)), (2, .int (nI n)), (3, .int (nI k)), (4, .int qv), (5, .int av), (6, .int (nI m1)), (7, .int (nI bb)), (9, .int (nI hw))]) dL_law_430 (by decide) rfl ?_
        refine g_aload_n C 5 dL_law_432 rfl ?_
        refine g_iload C 1 dL_law_433 rfl ?_
        refine g_cV1 C (As := [.int rc2]) (w := .int (mixI rc2)) (mem3 := u294) iX9_mix (c_X9_mix l G u294 rc2) wd_405 ob_0 rfl ⟨Nat.le_of_ble_eq_true rfl, Nat.le_of_ble_eq_true rfl⟩ ⟨rfl, rfl⟩ rfl (Nat.le_of_ble_eq_true rfl) dL_law_435 (rfl) (rfl) ?_
        refine g_iload C 1 dL_law_438 rfl ?_
        refine g_icmp_eq C 451 dL_law_440 (by decide) (fun c_440 => ?_) (fun c_440 => ?_)
        · refine g_iconst C (nI 1) dL_law_451 (by decide) ?_
          refine g_goto C 456 dL_law_452 (by decide) ?_
          refine g_istore C (L2 := [(13, .int (nI 1)), (8, .int (nI 1)), (12, .int rc2), (11, .int (V (38 + 12 * m1))), (10, .int (nI 1)), (0, .ref b), (1, .ref (gad G 0)), (2, .int (nI n)), (3, .int (nI k)), (4, .int qv), (5, .int av), (6, .int (nI m1)), (7, .int (nI bb)), (9, .int (nI hw))]) dL_law_456 (by decide) rfl ?_
          refine g_iload C 1 dL_law_458 rfl ?_
          refine g_if_eq_f C 509 (by decide) dL_law_460 (by decide) ?_
          refine g_iload C 4 dL_law_463 rfl ?_
          refine g_if_eq_f C 505 (by decide) dL_law_465 (by decide) ?_
          refine g_iload C 10 dL_law_468 rfl ?_
          refine g_sipush C (nI 128) dL_law_470 (by decide) ?_
          refine g_iand C dL_law_473 ?_
          refine g_if_ne C 505 dL_law_474 (by decide) (fun c_474 => ?_) (fun c_474 => ?_)
          · refine g_iconst C (nI 1) dL_law_505 (by decide) ?_
            refine g_goto C 510 dL_law_506 (by decide) ?_
            refine g_istore C (L2 := [(8, .int (nI 1)), (13, .int (nI 1)), (12, .int rc2), (11, .int (V (38 + 12 * m1))), (10, .int (nI 1)), (0, .ref b), (1, .ref (gad G 0)), (2, .int (nI n)), (3, .int (nI k)), (4, .int qv), (5, .int av), (6, .int (nI m1)), (7, .int (nI bb)), (9, .int (nI hw))]) dL_law_510 (by decide) rfl ?_
            refine g_goto C 711 dL_law_512 (by decide) ?_
            refine g_loc (L2 := [(0, .ref b), (1, .ref (gad G 0)), (2, .int (nI n)), (3, .int (nI k)), (8, .int (nI 1))]) [5, 6, 7, 8, 0] rfl ?_
            refine g_widen (mc2 := mc + 2) (ms2 := ms + 20) (by omega) (by omega) ?_
            have hIz : LI T n u294 := ⟨V2, _, _, _, _, L295, g2, x2, hn3⟩
            exact law_tail (C.cnt hmc hms) hk (by omega) hIz (kk T u294 (by omega) hIz)
          · refine g_aload_n C 6 dL_law_477 rfl ?_
            refine g_iload C 11 dL_law_478 rfl ?_
            refine g_iload C 2 dL_law_480 rfl ?_
            refine g_cVr C (As := [.int (nI m1), .int rc2]) iX9_reveal (c_X9_reveal l G g2 u294 L295.1 L295.2.1.choose_spec (nI m1) rc2) wd_419 ob_0 rfl ⟨Nat.le_of_ble_eq_true rfl, Nat.le_of_ble_eq_true rfl⟩ ⟨rfl, rfl⟩ rfl (Nat.le_of_ble_eq_true rfl) dL_law_482 (fun r301 u298 hq => ?_)
            rw [toN_nI (show m1 < 2 ^ 31 by omega)] at hq
            obtain ⟨e300, L299⟩ := ax_ok L295 hq (⟨⟨memP_of g2 (by rw [hn3]; exact hm), decide_eq_true e32⟩, by rw [e38]; decide⟩)
            have e300 : r301 = nI 1 := e300.trans (if_pos e39.symm)
            subst e300
            obtain ⟨V3, hV3⟩ : ∃ V3, V3 = rvV V2 m1 rc2 := ⟨_, rfl⟩
            rw [← hV3] at L299
            have g3 : Good T V3 := hV3 ▸ good_rv g2 (by omega) _
            have x3 : Ex T V3 := hV3 ▸ ex_rv x2 _ _
            have hn4 : vN V3 = n := by rw [hV3]; exact rv_n.trans hn3
            have f38 : V3 (38 + 12 * m1) = nI 2 := by rw [hV3]; exact rv_38.trans (if_pos e39.symm)
            refine g_iload C 0 dL_law_485 rfl ?_
            refine g_icmp_ne_f C 509 (by decide) dL_law_487 (by decide) ?_
            refine g_aload_n C 6 dL_law_490 rfl ?_
            refine g_iload C 11 dL_law_491 rfl ?_
            refine g_bipush C (nI 8) dL_law_493 (by decide) ?_
            refine g_cV1 C (As := [.int (nI m1), .int (nI 8)]) (w := .int (nI 2)) (mem3 := u298) iX9_member (c_X9_member l G g3 u298 L299.1 (nI m1) (nI 8)) wd_364 ob_0 rfl ⟨Nat.le_of_ble_eq_true rfl, Nat.le_of_ble_eq_true rfl⟩ ⟨rfl, rfl⟩ rfl (Nat.le_of_ble_eq_true rfl) dL_law_495 (congrArg Value.int ((mem_n g3 (by rw [hn4]; exact hm) (w := 8) (by decide) (by omega)).trans f38)) (rfl) ?_
            refine g_iconst C (nI 3) dL_law_498 (by decide) ?_
            refine g_iload C 0 dL_law_499 rfl ?_
            refine g_isub C dL_law_501 ?_
            refine g_top (y := nI 2) (by decide) ?_
            refine g_icmp_ne_f C 509 (by decide) dL_law_502 (by decide) ?_
            refine g_iconst C (nI 1) dL_law_505 (by decide) ?_
            refine g_goto C 510 dL_law_506 (by decide) ?_
            refine g_istore C (L2 := [(8, .int (nI 1)), (13, .int (nI 1)), (12, .int rc2), (11, .int (V (38 + 12 * m1))), (10, .int (nI 1)), (0, .ref b), (1, .ref (gad G 0)), (2, .int (nI n)), (3, .int (nI k)), (4, .int qv), (5, .int av), (6, .int (nI m1)), (7, .int (nI bb)), (9, .int (nI hw))]) dL_law_510 (by decide) rfl ?_
            refine g_goto C 711 dL_law_512 (by decide) ?_
            refine g_loc (L2 := [(0, .ref b), (1, .ref (gad G 0)), (2, .int (nI n)), (3, .int (nI k)), (8, .int (nI 1))]) [5, 6, 7, 8, 0] rfl ?_
            refine g_widen (mc2 := mc + 2) (ms2 := ms + 20) (by omega) (by omega) ?_
            have hIz : LI T n u298 := ⟨V3, _, _, _, _, L299, g3, x3, hn4⟩
            exact law_tail (C.cnt hmc hms) hk (by omega) hIz (kk T u298 (by omega) hIz)
        · refine g_iload C 9 dL_law_443 rfl ?_
          refine g_bipush C (nI 64) dL_law_445 (by decide) ?_
          refine g_iand C dL_law_447 ?_
          refine g_if_ne_f C 455 (c_385) dL_law_448 (by decide) ?_
          refine g_iconst C (nI 1) dL_law_451 (by decide) ?_
          refine g_goto C 456 dL_law_452 (by decide) ?_
          refine g_istore C (L2 := [(13, .int (nI 1)), (8, .int (nI 1)), (12, .int rc2), (11, .int (V (38 + 12 * m1))), (10, .int (nI 1)), (0, .ref b), (1, .ref (gad G 0)), (2, .int (nI n)), (3, .int (nI k)), (4, .int qv), (5, .int av), (6, .int (nI m1)), (7, .int (nI bb)), (9, .int (nI hw))]) dL_law_456 (by decide) rfl ?_
          refine g_iload C 1 dL_law_458 rfl ?_
          refine g_if_eq_f C 509 (by decide) dL_law_460 (by decide) ?_
          refine g_iload C 4 dL_law_463 rfl ?_
          refine g_if_eq_f C 505 (by decide) dL_law_465 (by decide) ?_
          refine g_iload C 10 dL_law_468 rfl ?_
          refine g_sipush C (nI 128) dL_law_470 (by decide) ?_
          refine g_iand C dL_law_473 ?_
          refine g_if_ne C 505 dL_law_474 (by decide) (fun c_474 => ?_) (fun c_474 => ?_)
          · refine g_iconst C (nI 1) dL_law_505 (by decide) ?_
            refine g_goto C 510 dL_law_506 (by decide) ?_
            refine g_istore C (L2 := [(8, .int (nI 1)), (13, .int (nI 1)), (12, .int rc2), (11, .int (V (38 + 12 * m1))), (10, .int (nI 1)), (0, .ref b), (1, .ref (gad G 0)), (2, .int (nI n)), (3, .int (nI k)), (4, .int qv), (5, .int av), (6, .int (nI m1)), (7, .int (nI bb)), (9, .int (nI hw))]) dL_law_510 (by decide) rfl ?_
            refine g_goto C 711 dL_law_512 (by decide) ?_
            refine g_loc (L2 := [(0, .ref b), (1, .ref (gad G 0)), (2, .int (nI n)), (3, .int (nI k)), (8, .int (nI 1))]) [5, 6, 7, 8, 0] rfl ?_
            refine g_widen (mc2 := mc + 2) (ms2 := ms + 20) (by omega) (by omega) ?_
            have hIz : LI T n u294 := ⟨V2, _, _, _, _, L295, g2, x2, hn3⟩
            exact law_tail (C.cnt hmc hms) hk (by omega) hIz (kk T u294 (by omega) hIz)
          · refine g_aload_n C 6 dL_law_477 rfl ?_
            refine g_iload C 11 dL_law_478 rfl ?_
            refine g_iload C 2 dL_law_480 rfl ?_
            refine g_cVr C (As := [.int (nI m1), .int rc2]) iX9_reveal (c_X9_reveal l G g2 u294 L295.1 L295.2.1.choose_spec (nI m1) rc2) wd_419 ob_0 rfl ⟨Nat.le_of_ble_eq_true rfl, Nat.le_of_ble_eq_true rfl⟩ ⟨rfl, rfl⟩ rfl (Nat.le_of_ble_eq_true rfl) dL_law_482 (fun r305 u302 hq => ?_)
            rw [toN_nI (show m1 < 2 ^ 31 by omega)] at hq
            obtain ⟨e304, L303⟩ := ax_ok L295 hq (⟨⟨memP_of g2 (by rw [hn3]; exact hm), decide_eq_true e32⟩, by rw [e38]; decide⟩)
            have e304 : r305 = nI 1 := e304.trans (if_pos e39.symm)
            subst e304
            obtain ⟨V3, hV3⟩ : ∃ V3, V3 = rvV V2 m1 rc2 := ⟨_, rfl⟩
            rw [← hV3] at L303
            have g3 : Good T V3 := hV3 ▸ good_rv g2 (by omega) _
            have x3 : Ex T V3 := hV3 ▸ ex_rv x2 _ _
            have hn4 : vN V3 = n := by rw [hV3]; exact rv_n.trans hn3
            have f38 : V3 (38 + 12 * m1) = nI 2 := by rw [hV3]; exact rv_38.trans (if_pos e39.symm)
            refine g_iload C 0 dL_law_485 rfl ?_
            refine g_icmp_ne_f C 509 (by decide) dL_law_487 (by decide) ?_
            refine g_aload_n C 6 dL_law_490 rfl ?_
            refine g_iload C 11 dL_law_491 rfl ?_
            refine g_bipush C (nI 8) dL_law_493 (by decide) ?_
            refine g_cV1 C (As := [.int (nI m1), .int (nI 8)]) (w := .int (nI 2)) (mem3 := u302) iX9_member (c_X9_member l G g3 u302 L303.1 (nI m1) (nI 8)) wd_364 ob_0 rfl ⟨Nat.le_of_ble_eq_true rfl, Nat.le_of_ble_eq_true rfl⟩ ⟨rfl, rfl⟩ rfl (Nat.le_of_ble_eq_true rfl) dL_law_495 (congrArg Value.int ((mem_n g3 (by rw [hn4]; exact hm) (w := 8) (by decide) (by omega)).trans f38)) (rfl) ?_
            refine g_iconst C (nI 3) dL_law_498 (by decide) ?_
            refine g_iload C 0 dL_law_499 rfl ?_
            refine g_isub C dL_law_501 ?_
            refine g_top (y := nI 2) (by decide) ?_
            refine g_icmp_ne_f C 509 (by decide) dL_law_502 (by decide) ?_
            refine g_iconst C (nI 1) dL_law_505 (by decide) ?_
            refine g_goto C 510 dL_law_506 (by decide) ?_
            refine g_istore C (L2 := [(8, .int (nI 1)), (13, .int (nI 1)), (12, .int rc2), (11, .int (V (38 + 12 * m1))), (10, .int (nI 1)), (0, .ref b), (1, .ref (gad G 0)), (2, .int (nI n)), (3, .int (nI k)), (4, .int qv), (5, .int av), (6, .int (nI m1)), (7, .int (nI bb)), (9, .int (nI hw))]) dL_law_510 (by decide) rfl ?_
            refine g_goto C 711 dL_law_512 (by decide) ?_
            refine g_loc (L2 := [(0, .ref b), (1, .ref (gad G 0)), (2, .int (nI n)), (3, .int (nI k)), (8, .int (nI 1))]) [5, 6, 7, 8, 0] rfl ?_
            refine g_widen (mc2 := mc + 2) (ms2 := ms + 20) (by omega) (by omega) ?_
            have hIz : LI T n u302 := ⟨V3, _, _, _, _, L303, g3, x3, hn4⟩
            exact law_tail (C.cnt hmc hms) hk (by omega) hIz (kk T u302 (by omega) hIz)
set_option maxRecDepth 100000 in
set_option maxHeartbeats 4000000 in
theorem law_C {p : Program} {l : Launch} {e : Env} {s : State} {m : MethodId} {args : Array Value} {below : List Frame} {meth : Method} {c : Code} {Q : State → Prop} {G : gG} {b N mc ms n : Nat} {xs : Nat → Int32} {rt : Option FieldType} (C : gC G RL cL_law rt 15 p room_1 s m args meth c mc ms) (hN : N ≤ 260) (X : sX G b N xs s) (hA : upA (gA G)) (hx0 : G.2.2.1.2.2 = 0) (hmc : mc + 2 ≤ room_1.cells) (hms : ms + 20 ≤ room_1.slots) (hn2 : 2 ≤ n) (hn9 : n ≤ 9) {k T : Nat} {mem : gM} {qv av : Int32} {m1 bb hw : Nat} (hk : k < 24) (hT0 : T + 256 < 2 ^ 19) (hI : LI T n mem) (hm : m1 < n) (hb : bb < 200) (kk : ∀ (T2 : Nat) (u : gM), T2 ≤ T + 256 → LI T2 n u → gV p l e room_1 s m args below meth c (mc + 2) (ms + 20) Q G 15 u 733 [(0, .ref b), (1, .ref (gad G 0)), (2, .int (nI n)), (3, .int (nI k))] []) : gV p l e room_1 s m args below meth c mc ms Q G 15 mem 521 [(0, .ref b), (1, .ref (gad G 0)), (2, .int (nI n)), (3, .int (nI k)), (4, .int qv), (5, .int av), (6, .int (nI m1)), (7, .int (nI bb)), (8, .int (nI 1)), (9, .int (nI hw))] [] := by
  obtain ⟨V, Vs, h, A, B, L, g, x, hnV⟩ := hI
  have hm2 : m1 < vN V := by rw [hnV]; exact hm
  have hn10 := gd_n10 g
  have hT : T < 2 ^ 20 := by omega
  refine g_aload_n C 1 dL_law_521 rfl ?_
  refine g_iload_n C 2 dL_law_522 rfl ?_
  refine g_callSXf C (As := [.ref (gad G 0), .int (nI n)]) (v := .int (nI 1)) (mc2 := mc + 2) (ms2 := ms + 20) iL_draws (c_draws_n l G hA hx0 hnV g mem L hT x (by omega)) wd_665 rfl ⟨Nat.le_of_ble_eq_true rfl, Nat.le_of_ble_eq_true rfl⟩ ⟨rfl, rfl⟩ rfl (Nat.le_of_ble_eq_true rfl) (by omega) (by omega) ⟨hmc, hms⟩ dL_law_523 (fun u306 hq => ?_)
  have C := C.cnt hmc hms
  refine g_istore C (L2 := [(8, .int (nI 1)), (0, .ref b), (1, .ref (gad G 0)), (2, .int (nI n)), (3, .int (nI k)), (4, .int qv), (5, .int av), (6, .int (nI m1)), (7, .int (nI bb)), (9, .int (nI hw))]) dL_law_526 (by decide) rfl ?_
  refine g_goto C 711 dL_law_528 (by decide) ?_
  refine g_loc (L2 := [(0, .ref b), (1, .ref (gad G 0)), (2, .int (nI n)), (3, .int (nI k)), (8, .int (nI 1))]) [1, 2, 3, 4, 0] rfl ?_
  have hIz : LI (T + 1) n u306 := hq
  exact law_tail (C.cnt hmc hms) hk (by omega) hIz (kk (T + 1) u306 (by omega) hIz)
set_option maxRecDepth 100000 in
set_option maxHeartbeats 4000000 in
theorem law_D {p : Program} {l : Launch} {e : Env} {s : State} {m : MethodId} {args : Array Value} {below : List Frame} {meth : Method} {c : Code} {Q : State → Prop} {G : gG} {b N mc ms n : Nat} {xs : Nat → Int32} {rt : Option FieldType} (C : gC G RL cL_law rt 15 p room_1 s m args meth c mc ms) (hN : N ≤ 260) (X : sX G b N xs s) (hA : upA (gA G)) (hx0 : G.2.2.1.2.2 = 0) (hmc : mc + 2 ≤ room_1.cells) (hms : ms + 20 ≤ room_1.slots) (hn2 : 2 ≤ n) (hn9 : n ≤ 9) {k T : Nat} {mem : gM} {qv av : Int32} {m1 bb hw : Nat} (hk : k < 24) (hT0 : T + 256 < 2 ^ 19) (hI : LI T n mem) (hm : m1 < n) (hb : bb < 200) (kk : ∀ (T2 : Nat) (u : gM), T2 ≤ T + 256 → LI T2 n u → gV p l e room_1 s m args below meth c (mc + 2) (ms + 20) Q G 15 u 733 [(0, .ref b), (1, .ref (gad G 0)), (2, .int (nI n)), (3, .int (nI k))] []) : gV p l e room_1 s m args below meth c mc ms Q G 15 mem 538 [(0, .ref b), (1, .ref (gad G 0)), (2, .int (nI n)), (3, .int (nI k)), (4, .int qv), (5, .int av), (6, .int (nI m1)), (7, .int (nI bb)), (8, .int (nI 1)), (9, .int (nI hw))] [] := by
  obtain ⟨V, Vs, h, A, B, L, g, x, hnV⟩ := hI
  have hm2 : m1 < vN V := by rw [hnV]; exact hm
  have hn10 := gd_n10 g
  have hT : T < 2 ^ 20 := by omega
  refine g_aload_n C 1 dL_law_538 rfl ?_
  refine g_iload_n C 2 dL_law_539 rfl ?_
  refine g_iload C 7 dL_law_540 rfl ?_
  refine g_callSXf C (As := [.ref (gad G 0), .int (nI n), .int (nI bb)]) (v := .int (nI 1)) (mc2 := mc + 2) (ms2 := ms + 20) iL_repairs (c_repairs_n l G hA hx0 hnV g mem L (by omega) x (by omega) hb) wd_658 rfl ⟨Nat.le_of_ble_eq_true rfl, Nat.le_of_ble_eq_true rfl⟩ ⟨rfl, rfl⟩ rfl (Nat.le_of_ble_eq_true rfl) (by omega) (by omega) ⟨hmc, hms⟩ dL_law_542 (fun u307 hq => ?_)
  have C := C.cnt hmc hms
  refine g_istore C (L2 := [(8, .int (nI 1)), (0, .ref b), (1, .ref (gad G 0)), (2, .int (nI n)), (3, .int (nI k)), (4, .int qv), (5, .int av), (6, .int (nI m1)), (7, .int (nI bb)), (9, .int (nI hw))]) dL_law_545 (by decide) rfl ?_
  refine g_goto C 711 dL_law_547 (by decide) ?_
  refine g_loc (L2 := [(0, .ref b), (1, .ref (gad G 0)), (2, .int (nI n)), (3, .int (nI k)), (8, .int (nI 1))]) [1, 2, 3, 4, 0] rfl ?_
  have hIz : LI (T + 1) n u307 := hq
  exact law_tail (C.cnt hmc hms) hk (by omega) hIz (kk (T + 1) u307 (by omega) hIz)
set_option maxRecDepth 100000 in
set_option maxHeartbeats 4000000 in
theorem law_E {p : Program} {l : Launch} {e : Env} {s : State} {m : MethodId} {args : Array Value} {below : List Frame} {meth : Method} {c : Code} {Q : State → Prop} {G : gG} {b N mc ms n : Nat} {xs : Nat → Int32} {rt : Option FieldType} (C : gC G RL cL_law rt 15 p room_1 s m args meth c mc ms) (hN : N ≤ 260) (X : sX G b N xs s) (hA : upA (gA G)) (hx0 : G.2.2.1.2.2 = 0) (hmc : mc + 2 ≤ room_1.cells) (hms : ms + 20 ≤ room_1.slots) (hn2 : 2 ≤ n) (hn9 : n ≤ 9) {k T : Nat} {mem : gM} {qv av : Int32} {m1 bb hw : Nat} (hk : k < 24) (hT0 : T + 256 < 2 ^ 19) (hI : LI T n mem) (hm : m1 < n) (hb : bb < 200) (kk : ∀ (T2 : Nat) (u : gM), T2 ≤ T + 256 → LI T2 n u → gV p l e room_1 s m args below meth c (mc + 2) (ms + 20) Q G 15 u 733 [(0, .ref b), (1, .ref (gad G 0)), (2, .int (nI n)), (3, .int (nI k))] []) : gV p l e room_1 s m args below meth c mc ms Q G 15 mem 557 [(0, .ref b), (1, .ref (gad G 0)), (2, .int (nI n)), (3, .int (nI k)), (4, .int qv), (5, .int av), (6, .int (nI m1)), (7, .int (nI bb)), (8, .int (nI 1)), (9, .int (nI hw))] [] := by
  obtain ⟨V, Vs, h, A, B, L, g, x, hnV⟩ := hI
  have hm2 : m1 < vN V := by rw [hnV]; exact hm
  have hn10 := gd_n10 g
  have hT : T < 2 ^ 20 := by omega
  refine g_aload_n C 1 dL_law_557 rfl ?_
  refine g_iload C 6 dL_law_558 rfl ?_
  refine g_iconst C (nI 2) dL_law_560 (by decide) ?_
  refine g_cV1 C (As := [.int (nI m1), .int (nI 2)]) (w := .int (V (32 + 12 * m1))) (mem3 := mem) iX9_member (c_X9_member l G g mem L.1 (nI m1) (nI 2)) wd_364 ob_0 rfl ⟨Nat.le_of_ble_eq_true rfl, Nat.le_of_ble_eq_true rfl⟩ ⟨rfl, rfl⟩ rfl (Nat.le_of_ble_eq_true rfl) dL_law_561 (congrArg Value.int (mem_n g hm2 (w := 2) (by decide) (by omega))) (rfl) ?_
  refine g_istore C (L2 := [(10, .int (V (32 + 12 * m1))), (0, .ref b), (1, .ref (gad G 0)), (2, .int (nI n)), (3, .int (nI k)), (4, .int qv), (5, .int av), (6, .int (nI m1)), (7, .int (nI bb)), (8, .int (nI 1)), (9, .int (nI hw))]) dL_law_564 (by decide) rfl ?_
  refine g_aload_n C 2 dL_law_566 rfl ?_
  refine g_iload C 7 dL_law_567 rfl ?_
  refine g_iload C 6 dL_law_569 rfl ?_
  refine g_bipush C (nI 32) dL_law_571 (by decide) ?_
  refine g_iand C dL_law_573 ?_
  refine g_if_eq C 581 dL_law_574 (by decide) (fun c_574 => ?_) (fun c_574 => ?_)
  · refine g_iconst C (nI 0) dL_law_581 (by decide) ?_
    refine g_cVr C (As := [.int (nI m1), .int (nI 0)]) iX9_live (c_X9_live l G g mem L.1 L.2.1.choose_spec (nI m1) (nI 0)) wd_349 ob_0 rfl ⟨Nat.le_of_ble_eq_true rfl, Nat.le_of_ble_eq_true rfl⟩ ⟨rfl, rfl⟩ rfl (Nat.le_of_ble_eq_true rfl) dL_law_582 (fun r311 u308 hq => ?_)
    rw [toN_nI (show m1 < 2 ^ 31 by omega)] at hq
    obtain ⟨e310, L309⟩ := ax_ok L hq (memP_of g hm2)
    have e310 : r311 = V (32 + 12 * m1) := e310.trans (rfl)
    subst e310
    have g2 : Good T (upd V (32 + 12 * m1) (if nI 0 = 0 then nI 0 else nI 1)) := by
      have q := good_lvs g (nI 0) (memP_of g hm2)
      rw [toN_nI (show m1 < 2 ^ 31 by omega)] at q
      exact q
    have x2 : Ex T (upd V (32 + 12 * m1) (if nI 0 = 0 then nI 0 else nI 1)) := ex_upd x (by omega) (fun m _ => by omega)
    have hn3 : vN (upd V (32 + 12 * m1) (if nI 0 = 0 then nI 0 else nI 1)) = n := (vN_upd (by omega)).trans hnV
    refine g_iload C 0 dL_law_585 rfl ?_
    refine g_icmp_ne_f C 594 (rfl) dL_law_587 (by decide) ?_
    refine g_iconst C (nI 1) dL_law_590 (by decide) ?_
    refine g_goto C 595 dL_law_591 (by decide) ?_
    refine g_istore C (L2 := [(8, .int (nI 1)), (10, .int (V (32 + 12 * m1))), (0, .ref b), (1, .ref (gad G 0)), (2, .int (nI n)), (3, .int (nI k)), (4, .int qv), (5, .int av), (6, .int (nI m1)), (7, .int (nI bb)), (9, .int (nI hw))]) dL_law_595 (by decide) rfl ?_
    refine g_goto C 711 dL_law_597 (by decide) ?_
    refine g_loc (L2 := [(0, .ref b), (1, .ref (gad G 0)), (2, .int (nI n)), (3, .int (nI k)), (8, .int (nI 1))]) [2, 3, 4, 5, 0] rfl ?_
    refine g_widen (mc2 := mc + 2) (ms2 := ms + 20) (by omega) (by omega) ?_
    have hIz : LI T n u308 := ⟨(upd V (32 + 12 * m1) (if nI 0 = 0 then nI 0 else nI 1)), _, _, _, _, L309, g2, x2, hn3⟩
    exact law_tail (C.cnt hmc hms) hk (by omega) hIz (kk T u308 (by omega) hIz)
  · refine g_iconst C (nI 1) dL_law_577 (by decide) ?_
    refine g_goto C 582 dL_law_578 (by decide) ?_
    refine g_cVr C (As := [.int (nI m1), .int (nI 1)]) iX9_live (c_X9_live l G g mem L.1 L.2.1.choose_spec (nI m1) (nI 1)) wd_349 ob_0 rfl ⟨Nat.le_of_ble_eq_true rfl, Nat.le_of_ble_eq_true rfl⟩ ⟨rfl, rfl⟩ rfl (Nat.le_of_ble_eq_true rfl) dL_law_582 (fun r315 u312 hq => ?_)
    rw [toN_nI (show m1 < 2 ^ 31 by omega)] at hq
    obtain ⟨e314, L313⟩ := ax_ok L hq (memP_of g hm2)
    have e314 : r315 = V (32 + 12 * m1) := e314.trans (rfl)
    subst e314
    have g2 : Good T (upd V (32 + 12 * m1) (if nI 1 = 0 then nI 0 else nI 1)) := by
      have q := good_lvs g (nI 1) (memP_of g hm2)
      rw [toN_nI (show m1 < 2 ^ 31 by omega)] at q
      exact q
    have x2 : Ex T (upd V (32 + 12 * m1) (if nI 1 = 0 then nI 0 else nI 1)) := ex_upd x (by omega) (fun m _ => by omega)
    have hn3 : vN (upd V (32 + 12 * m1) (if nI 1 = 0 then nI 0 else nI 1)) = n := (vN_upd (by omega)).trans hnV
    refine g_iload C 0 dL_law_585 rfl ?_
    refine g_icmp_ne_f C 594 (rfl) dL_law_587 (by decide) ?_
    refine g_iconst C (nI 1) dL_law_590 (by decide) ?_
    refine g_goto C 595 dL_law_591 (by decide) ?_
    refine g_istore C (L2 := [(8, .int (nI 1)), (10, .int (V (32 + 12 * m1))), (0, .ref b), (1, .ref (gad G 0)), (2, .int (nI n)), (3, .int (nI k)), (4, .int qv), (5, .int av), (6, .int (nI m1)), (7, .int (nI bb)), (9, .int (nI hw))]) dL_law_595 (by decide) rfl ?_
    refine g_goto C 711 dL_law_597 (by decide) ?_
    refine g_loc (L2 := [(0, .ref b), (1, .ref (gad G 0)), (2, .int (nI n)), (3, .int (nI k)), (8, .int (nI 1))]) [2, 3, 4, 5, 0] rfl ?_
    refine g_widen (mc2 := mc + 2) (ms2 := ms + 20) (by omega) (by omega) ?_
    have hIz : LI T n u312 := ⟨(upd V (32 + 12 * m1) (if nI 1 = 0 then nI 0 else nI 1)), _, _, _, _, L313, g2, x2, hn3⟩
    exact law_tail (C.cnt hmc hms) hk (by omega) hIz (kk T u312 (by omega) hIz)
set_option maxRecDepth 100000 in
set_option maxHeartbeats 4000000 in
theorem law_F {p : Program} {l : Launch} {e : Env} {s : State} {m : MethodId} {args : Array Value} {below : List Frame} {meth : Method} {c : Code} {Q : State → Prop} {G : gG} {b N mc ms n : Nat} {xs : Nat → Int32} {rt : Option FieldType} (C : gC G RL cL_law rt 15 p room_1 s m args meth c mc ms) (hN : N ≤ 260) (X : sX G b N xs s) (hA : upA (gA G)) (hx0 : G.2.2.1.2.2 = 0) (hmc : mc + 2 ≤ room_1.cells) (hms : ms + 20 ≤ room_1.slots) (hn2 : 2 ≤ n) (hn9 : n ≤ 9) {k T : Nat} {mem : gM} {qv av : Int32} {m1 bb hw : Nat} (hk : k < 24) (hT0 : T + 256 < 2 ^ 19) (hI : LI T n mem) (hm : m1 < n) (hb : bb < 200) (kk : ∀ (T2 : Nat) (u : gM), T2 ≤ T + 256 → LI T2 n u → gV p l e room_1 s m args below meth c (mc + 2) (ms + 20) Q G 15 u 733 [(0, .ref b), (1, .ref (gad G 0)), (2, .int (nI n)), (3, .int (nI k))] []) : gV p l e room_1 s m args below meth c mc ms Q G 15 mem 600 [(0, .ref b), (1, .ref (gad G 0)), (2, .int (nI n)), (3, .int (nI k)), (4, .int qv), (5, .int av), (6, .int (nI m1)), (7, .int (nI bb)), (8, .int (nI 1)), (9, .int (nI hw))] [] := by
  obtain ⟨V, Vs, h, A, B, L, g, x, hnV⟩ := hI
  have hm2 : m1 < vN V := by rw [hnV]; exact hm
  have hn10 := gd_n10 g
  have hT : T < 2 ^ 20 := by omega
  have hcn := fa_cnt_le (cnP V) 200
  refine g_aload_n C 1 dL_law_600 rfl ?_
  refine g_cV1 C (As := []) (w := .long (fpR V)) (mem3 := mem) iX9_fingerprint (c_X9_fingerprint l G g mem L.1 hT) wd_580 ob_0 rfl ⟨Nat.le_of_ble_eq_true rfl, Nat.le_of_ble_eq_true rfl⟩ ⟨rfl, rfl⟩ rfl (Nat.le_of_ble_eq_true rfl) dL_law_601 (rfl) (rfl) ?_
  refine g_lstore C (L2 := [(10, .long (fpR V)), (0, .ref b), (1, .ref (gad G 0)), (2, .int (nI n)), (3, .int (nI k)), (4, .int qv), (5, .int av), (6, .int (nI m1)), (7, .int (nI bb)), (8, .int (nI 1)), (9, .int (nI hw))]) dL_law_604 (by decide) rfl ?_
  refine g_aload_n C 2 dL_law_606 rfl ?_
  refine g_cVr C (As := []) iX9_bestWait (c_X9_bestWait l G g mem L.1) wd_561 ob_0 rfl ⟨Nat.le_of_ble_eq_true rfl, Nat.le_of_ble_eq_true rfl⟩ ⟨rfl, rfl⟩ rfl (Nat.le_of_ble_eq_true rfl) dL_law_607 (fun r319 u316 hq => ?_)
  obtain ⟨e318, hf⟩ := hq
  have L317 := ls_fr L hf
  have e318 : r319 = bwI (bwF V 6) := e318.trans (rfl)
  subst e318
  refine g_istore C (L2 := [(12, .int (bwI (bwF V 6))), (10, .long (fpR V)), (0, .ref b), (1, .ref (gad G 0)), (2, .int (nI n)), (3, .int (nI k)), (4, .int qv), (5, .int av), (6, .int (nI m1)), (7, .int (nI bb)), (8, .int (nI 1)), (9, .int (nI hw))]) dL_law_610 (by decide) rfl ?_
  refine g_iconst C (nI 0) dL_law_612 (by decide) ?_
  refine g_istore C (L2 := [(13, .int (nI 0)), (12, .int (bwI (bwF V 6))), (10, .long (fpR V)), (0, .ref b), (1, .ref (gad G 0)), (2, .int (nI n)), (3, .int (nI k)), (4, .int qv), (5, .int av), (6, .int (nI m1)), (7, .int (nI bb)), (8, .int (nI 1)), (9, .int (nI hw))]) dL_law_613 (by decide) rfl ?_
  refine g_iconst C (nI 0) dL_law_615 (by decide) ?_
  refine g_istore C (L2 := [(14, .int (nI 0)), (13, .int (nI 0)), (12, .int (bwI (bwF V 6))), (10, .long (fpR V)), (0, .ref b), (1, .ref (gad G 0)), (2, .int (nI n)), (3, .int (nI k)), (4, .int qv), (5, .int av), (6, .int (nI m1)), (7, .int (nI bb)), (8, .int (nI 1)), (9, .int (nI hw))]) dL_law_616 (by decide) rfl ?_
  have lp_618 : ∀ (fu : Nat) (bq : Nat) (M1 : gM), (bq ≤ 200) → (kLS T V Vs h A B M1) → 200 - bq < fu → gV p l e room_1 s m args below meth c mc ms Q G 15 M1 618 [(0, .ref b), (1, .ref (gad G 0)), (2, .int (nI n)), (3, .int (nI k)), (4, .int qv), (5, .int av), (6, .int (nI m1)), (7, .int (nI bb)), (8, .int (nI 1)), (9, .int (nI hw)), (10, .long (fpR V)), (12, .int (bwI (bwF V 6))), (13, .int (nI (fa_cnt (cnP V) bq))), (14, .int (nI bq))] [] := by
    intro fu
    induction fu with
    | zero => intro bq M1 _ _ hfu; exact absurd hfu (Nat.not_lt_zero _)
    | succ fu ih_618 =>
      intro bq M1 hbq LM hfu_618
      refine g_iload C 13 dL_law_618 rfl ?_
      refine g_sipush C (nI 200) dL_law_620 (by decide) ?_
      refine g_icmp_ge C 651 dL_law_623 (by decide) (fun c_623 => ?_) (fun c_623 => ?_)
      · have hin : bq = 200 := by have q := (nI_leI (a := 200) (b := bq) (by omega) (by omega)).mp c_623; omega
        rw [hin]
        refine g_iload C 11 dL_law_651 rfl ?_
        refine g_ldc C wd_626 dL_law_653 ?_
        refine g_icmp_ne C 662 dL_law_655 (by decide) (fun c_655 => ?_) (fun c_655 => ?_)
        · refine g_iconst C (nI 0) dL_law_662 (by decide) ?_
          refine g_iload C 12 dL_law_663 rfl ?_
          refine g_if_ne_t C 672 (fun q => c_655 (bw_no ((nI_iff (b := 0) (by omega) (by decide)).mp q))) dL_law_665 (by decide) ?_
          refine g_iconst C (nI 0) dL_law_672 (by decide) ?_
          refine g_icmp_ne_f C 708 (by decide) dL_law_673 (by decide) ?_
          refine g_aload_n C 1 dL_law_676 rfl ?_
          refine g_cV1 C (As := []) (w := .long (fpR V)) (mem3 := M1) iX9_fingerprint (c_X9_fingerprint l G g M1 LM.1 hT) wd_580 ob_0 rfl ⟨Nat.le_of_ble_eq_true rfl, Nat.le_of_ble_eq_true rfl⟩ ⟨rfl, rfl⟩ rfl (Nat.le_of_ble_eq_true rfl) dL_law_677 (rfl) (rfl) ?_
          refine g_lload C 10 dL_law_680 rfl ?_
          refine g_lcmp C dL_law_682 ?_
          refine g_if_ne_f C 708 (lg_self _) dL_law_683 (by decide) ?_
          refine g_aload_n C 1 dL_law_686 rfl ?_
          refine g_cVr C (As := []) iX9_repairAll (c_X9_repairAll l G g M1 LM.1 LM.2.1.choose_spec (by omega)) wd_491 ob_0 rfl ⟨Nat.le_of_ble_eq_true rfl, Nat.le_of_ble_eq_true rfl⟩ ⟨rfl, rfl⟩ rfl (Nat.le_of_ble_eq_true rfl) dL_law_687 (fun r323 u320 hq => ?_)
          obtain ⟨⟨e322, xp⟩, gS⟩ := hq
          have hra := ra_all g x 200 (Nat.le_refl _) (by omega)
          have L321 := (ls_xp LM xp).more (Nat.le_add_right T 200)
          have e322 : r323 = nI (fa_cnt (cnP V) 200) := e322.trans ((congrArg nI hra.2.1))
          subst e322
          refine g_iload C 12 dL_law_690 rfl ?_
          refine g_icmp_ne_f C 708 (rfl) dL_law_692 (by decide) ?_
          refine g_aload_n C 1 dL_law_695 rfl ?_
          refine g_cVr C (As := []) iX9_bestWait (c_X9_bestWait l G gS u320 L321.1) wd_561 ob_0 rfl ⟨Nat.le_of_ble_eq_true rfl, Nat.le_of_ble_eq_true rfl⟩ ⟨rfl, rfl⟩ rfl (Nat.le_of_ble_eq_true rfl) dL_law_696 (fun r327 u324 hq => ?_)
          obtain ⟨e326, hf⟩ := hq
          have L325 := ls_fr L321 hf
          have e326 : r327 = kNone := e326.trans (bw_after hra.2.2.2)
          subst e326
          refine g_ldc C wd_626 dL_law_699 ?_
          refine g_icmp_ne_f C 708 (rfl) dL_law_701 (by decide) ?_
          refine g_iconst C (nI 1) dL_law_704 (by decide) ?_
          refine g_goto C 709 dL_law_705 (by decide) ?_
          refine g_istore C (L2 := [(8, .int (nI 1)), (0, .ref b), (1, .ref (gad G 0)), (2, .int (nI n)), (3, .int (nI k)), (4, .int qv), (5, .int av), (6, .int (nI m1)), (7, .int (nI bb)), (9, .int (nI hw)), (10, .long (fpR V)), (12, .int (bwI (bwF V 6))), (13, .int (nI (fa_cnt (cnP V) 200))), (14, .int (nI 200))]) dL_law_709 (by decide) rfl ?_
          refine g_loc (L2 := [(0, .ref b), (1, .ref (gad G 0)), (2, .int (nI n)), (3, .int (nI k)), (8, .int (nI 1))]) [1, 2, 3, 4, 0] rfl ?_
          refine g_widen (mc2 := mc + 2) (ms2 := ms + 20) (by omega) (by omega) ?_
          have hIz : LI (T + 200) n u324 := ⟨(raV V (rWA V) 200).1, _, _, _, _, L325, gS, hra.1.2.1, (hra.1.2.2.trans hnV)⟩
          exact law_tail (C.cnt hmc hms) hk (by omega) hIz (kk (T + 200) u324 (by omega) hIz)
        · refine g_iconst C (nI 1) dL_law_658 (by decide) ?_
          refine g_goto C 663 dL_law_659 (by decide) ?_
          refine g_iload C 12 dL_law_663 rfl ?_
          refine g_if_ne_f C 672 (Classical.byContradiction fun q => bw_yes g (fun z => q (by rw [z]; rfl)) c_655) dL_law_665 (by decide) ?_
          refine g_iconst C (nI 1) dL_law_668 (by decide) ?_
          refine g_goto C 673 dL_law_669 (by decide) ?_
          refine g_icmp_ne_f C 708 (by decide) dL_law_673 (by decide) ?_
          refine g_aload_n C 1 dL_law_676 rfl ?_
          refine g_cV1 C (As := []) (w := .long (fpR V)) (mem3 := M1) iX9_fingerprint (c_X9_fingerprint l G g M1 LM.1 hT) wd_580 ob_0 rfl ⟨Nat.le_of_ble_eq_true rfl, Nat.le_of_ble_eq_true rfl⟩ ⟨rfl, rfl⟩ rfl (Nat.le_of_ble_eq_true rfl) dL_law_677 (rfl) (rfl) ?_
          refine g_lload C 10 dL_law_680 rfl ?_
          refine g_lcmp C dL_law_682 ?_
          refine g_if_ne_f C 708 (lg_self _) dL_law_683 (by decide) ?_
          refine g_aload_n C 1 dL_law_686 rfl ?_
          refine g_cVr C (As := []) iX9_repairAll (c_X9_repairAll l G g M1 LM.1 LM.2.1.choose_spec (by omega)) wd_491 ob_0 rfl ⟨Nat.le_of_ble_eq_true rfl, Nat.le_of_ble_eq_true rfl⟩ ⟨rfl, rfl⟩ rfl (Nat.le_of_ble_eq_true rfl) dL_law_687 (fun r331 u328 hq => ?_)
          obtain ⟨⟨e330, xp⟩, gS⟩ := hq
          have hra := ra_all g x 200 (Nat.le_refl _) (by omega)
          have L329 := (ls_xp LM xp).more (Nat.le_add_right T 200)
          have e330 : r331 = nI (fa_cnt (cnP V) 200) := e330.trans ((congrArg nI hra.2.1))
          subst e330
          refine g_iload C 12 dL_law_690 rfl ?_
          refine g_icmp_ne_f C 708 (rfl) dL_law_692 (by decide) ?_
          refine g_aload_n C 1 dL_law_695 rfl ?_
          refine g_cVr C (As := []) iX9_bestWait (c_X9_bestWait l G gS u328 L329.1) wd_561 ob_0 rfl ⟨Nat.le_of_ble_eq_true rfl, Nat.le_of_ble_eq_true rfl⟩ ⟨rfl, rfl⟩ rfl (Nat.le_of_ble_eq_true rfl) dL_law_696 (fun r335 u332 hq => ?_)
          obtain ⟨e334, hf⟩ := hq
          have L333 := ls_fr L329 hf
          have e334 : r335 = kNone := e334.trans (bw_after hra.2.2.2)
          subst e334
          refine g_ldc C wd_626 dL_law_699 ?_
          refine g_icmp_ne_f C 708 (rfl) dL_law_701 (by decide) ?_
          refine g_iconst C (nI 1) dL_law_704 (by decide) ?_
          refine g_goto C 709 dL_law_705 (by decide) ?_
          refine g_istore C (L2 := [(8, .int (nI 1)), (0, .ref b), (1, .ref (gad G 0)), (2, .int (nI n)), (3, .int (nI k)), (4, .int qv), (5, .int av), (6, .int (nI m1)), (7, .int (nI bb)), (9, .int (nI hw)), (10, .long (fpR V)), (12, .int (bwI (bwF V 6))), (13, .int (nI (fa_cnt (cnP V) 200))), (14, .int (nI 200))]) dL_law_709 (by decide) rfl ?_
          refine g_loc (L2 := [(0, .ref b), (1, .ref (gad G 0)), (2, .int (nI n)), (3, .int (nI k)), (8, .int (nI 1))]) [1, 2, 3, 4, 0] rfl ?_
          refine g_widen (mc2 := mc + 2) (ms2 := ms + 20) (by omega) (by omega) ?_
          have hIz : LI (T + 200) n u332 := ⟨(raV V (rWA V) 200).1, _, _, _, _, L333, gS, hra.1.2.1, (hra.1.2.2.trans hnV)⟩
          exact law_tail (C.cnt hmc hms) hk (by omega) hIz (kk (T + 200) u332 (by omega) hIz)
      · have hb2 : bq < 200 := by have q := mt (nI_leI (a := 200) (b := bq) (by omega) (by omega)).mpr c_623; omega
        refine g_iload C 12 dL_law_626 rfl ?_
        refine g_aload_n C 1 dL_law_628 rfl ?_
        refine g_iload C 13 dL_law_629 rfl ?_
        refine g_cVf C (As := [.int (nI bq)]) (v := .int (whyR V (nI bq))) iX9_why (c_X9_why l G g M1 LM.1 (nI bq)) wd_553 ob_0 rfl ⟨Nat.le_of_ble_eq_true rfl, Nat.le_of_ble_eq_true rfl⟩ ⟨rfl, rfl⟩ rfl (Nat.le_of_ble_eq_true rfl) dL_law_631 (fun u336 hq => ?_)
        have L337 := ls_fr LM hq
        refine g_top (y := nI (hcd V bq)) (why_n hb2) ?_
        refine g_if_ne C 641 dL_law_634 (by decide) (fun c_634 => ?_) (fun c_634 => ?_)
        · refine g_iconst C (nI 0) dL_law_641 (by decide) ?_
          refine g_iadd_n C (d := (fa_cnt (cnP V) bq) + 0) dL_law_642 rfl ?_
          refine g_top (y := nI (fa_cnt (cnP V) (bq + 1))) (cn_n c_634) ?_
          refine g_istore C (L2 := [(13, .int (nI (fa_cnt (cnP V) (bq + 1)))), (0, .ref b), (1, .ref (gad G 0)), (2, .int (nI n)), (3, .int (nI k)), (4, .int qv), (5, .int av), (6, .int (nI m1)), (7, .int (nI bb)), (8, .int (nI 1)), (9, .int (nI hw)), (10, .long (fpR V)), (12, .int (bwI (bwF V 6))), (14, .int (nI bq))]) dL_law_643 (by decide) rfl ?_
          refine g_iinc C (v := nI (bq + 1)) (L2 := [(14, .int (nI (bq + 1))), (13, .int (nI (fa_cnt (cnP V) (bq + 1)))), (0, .ref b), (1, .ref (gad G 0)), (2, .int (nI n)), (3, .int (nI k)), (4, .int qv), (5, .int av), (6, .int (nI m1)), (7, .int (nI bb)), (8, .int (nI 1)), (9, .int (nI hw)), (10, .long (fpR V)), (12, .int (bwI (bwF V 6)))]) 13 dL_law_645 rfl (nI_1 _) (by decide) rfl ?_
          refine g_goto C 618 dL_law_648 (by decide) ?_
          refine g_loc (L2 := [(0, .ref b), (1, .ref (gad G 0)), (2, .int (nI n)), (3, .int (nI k)), (4, .int qv), (5, .int av), (6, .int (nI m1)), (7, .int (nI bb)), (8, .int (nI 1)), (9, .int (nI hw)), (10, .long (fpR V)), (12, .int (bwI (bwF V 6))), (13, .int (nI (fa_cnt (cnP V) (bq + 1)))), (14, .int (nI (bq + 1)))]) [2, 3, 4, 5, 6, 7, 8, 9, 10, 11, 12, 13, 1, 0] rfl ?_
          exact g_eq (ih_618 (bq + 1) u336 (hb2) (L337) (by omega)) (rfl) (rfl) rfl
        · refine g_iconst C (nI 1) dL_law_637 (by decide) ?_
          refine g_goto C 642 dL_law_638 (by decide) ?_
          refine g_iadd_n C (d := (fa_cnt (cnP V) bq) + 1) dL_law_642 rfl ?_
          refine g_top (y := nI (fa_cnt (cnP V) (bq + 1))) (cn_y c_634) ?_
          refine g_istore C (L2 := [(13, .int (nI (fa_cnt (cnP V) (bq + 1)))), (0, .ref b), (1, .ref (gad G 0)), (2, .int (nI n)), (3, .int (nI k)), (4, .int qv), (5, .int av), (6, .int (nI m1)), (7, .int (nI bb)), (8, .int (nI 1)), (9, .int (nI hw)), (10, .long (fpR V)), (12, .int (bwI (bwF V 6))), (14, .int (nI bq))]) dL_law_643 (by decide) rfl ?_
          refine g_iinc C (v := nI (bq + 1)) (L2 := [(14, .int (nI (bq + 1))), (13, .int (nI (fa_cnt (cnP V) (bq + 1)))), (0, .ref b), (1, .ref (gad G 0)), (2, .int (nI n)), (3, .int (nI k)), (4, .int qv), (5, .int av), (6, .int (nI m1)), (7, .int (nI bb)), (8, .int (nI 1)), (9, .int (nI hw)), (10, .long (fpR V)), (12, .int (bwI (bwF V 6)))]) 13 dL_law_645 rfl (nI_1 _) (by decide) rfl ?_
          refine g_goto C 618 dL_law_648 (by decide) ?_
          refine g_loc (L2 := [(0, .ref b), (1, .ref (gad G 0)), (2, .int (nI n)), (3, .int (nI k)), (4, .int qv), (5, .int av), (6, .int (nI m1)), (7, .int (nI bb)), (8, .int (nI 1)), (9, .int (nI hw)), (10, .long (fpR V)), (12, .int (bwI (bwF V 6))), (13, .int (nI (fa_cnt (cnP V) (bq + 1)))), (14, .int (nI (bq + 1)))]) [2, 3, 4, 5, 6, 7, 8, 9, 10, 11, 12, 13, 1, 0] rfl ?_
          exact g_eq (ih_618 (bq + 1) u336 (hb2) (L337) (by omega)) (rfl) (rfl) rfl
  refine g_loc (L2 := [(0, .ref b), (1, .ref (gad G 0)), (2, .int (nI n)), (3, .int (nI k)), (4, .int qv), (5, .int av), (6, .int (nI m1)), (7, .int (nI bb)), (8, .int (nI 1)), (9, .int (nI hw)), (10, .long (fpR V)), (12, .int (bwI (bwF V 6))), (13, .int (nI 0)), (14, .int (nI 0))]) [4, 5, 6, 7, 8, 9, 10, 11, 12, 13, 3, 2, 1, 0] rfl ?_
  exact g_eq (lp_618 (_ + 1) 0 u316 (Nat.zero_le _) (L317) (Nat.lt_succ_self _)) (rfl) (gLc rfl (gLc rfl (gLc rfl (gLc rfl (gLc rfl (gLc rfl (gLc rfl (gLc rfl (gLc rfl (gLc rfl (gLc rfl (gLc rfl (gLc (congrArg Value.int (rfl)) (rfl)))))))))))))) rfl
