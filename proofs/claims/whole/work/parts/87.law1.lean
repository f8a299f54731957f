theorem lg_self (x : Int64) : lg_cmp x x = 0 := by unfold lg_cmp; simp
theorem rdx_3 {T : Nat} {V : Nat → Int32} {Vs : Nat → Nat → Int32} {h tl : Nat} {tx : Nat → Nat} {mem u : gM} {r1 : Int32} (a : RDX T V Vs h tx tl mem u r1) : u 154 = mem 154 ∧ u 155 = mem 155 ∧ u 158 = mem 158 := by
  by_cases q : rdOK (vN V) tx tl
  · obtain ⟨-, -, -, -, f⟩ := a.1 q
    exact ⟨f 154 (by decide), f 155 (by decide), f 158 (by decide)⟩
  · rw [(a.2 q).2]; exact ⟨rfl, rfl, rfl⟩
theorem ux_3 {T : Nat} {V : Nat → Int32} {Vs : Nat → Nat → Int32} {h : Nat} {mem u : gM} {r1 : Int32} (a : UX T V Vs h mem u r1) : u 154 = mem 154 ∧ u 155 = mem 155 ∧ u 158 = mem 158 := by
  rcases Nat.eq_zero_or_pos h with q | q
  · exact xp_3 (a.1 q).2
  · exact xp_3 (a.2 q).2

set_option maxRecDepth 100000 in
set_option maxHeartbeats 4000000 in
theorem law_0 {p : Program} {l : Launch} {e : Env} {s : State} {m : MethodId} {args : Array Value} {below : List Frame} {meth : Method} {c : Code} {Q : State → Prop} {G : gG} {b N mc ms : Nat} {xs : Nat → Int32} {rt : Option FieldType} (C : gC G RL cL_law rt 8 p room_1 s m args meth c mc ms) (hN : N ≤ 2048) (X : sX G b N xs s) {i T : Nat} {mem : gM} (hi : 4 * i + 4 ≤ N) (hT : T ≤ 200 * i) (hI : INV T mem) (kk : ∀ (T2 : Nat) (u : gM), T2 ≤ T + 200 → INV T2 u → gV p l e room_1 s m args below meth c mc ms Q G 8 u 875 [(0, .ref b), (1, .ref (gad G 0)), (2, .ref (gad G 154)), (3, .int (nI (4 * i)))] []) : gV p l e room_1 s m args below meth c mc ms Q G 8 mem 156 [(0, .ref b), (1, .ref (gad G 0)), (2, .ref (gad G 154)), (3, .int (nI (4 * i)))] [] := by
  obtain ⟨Vs, h, o, tx, tl, r, g, hx, hh, h4, hpa, tX, tM⟩ := id hI
  refine g_aload_n C 1 dL_law_156 rfl ?_
  refine g_aload_n C 0 dL_law_157 rfl ?_
  refine g_iload_n C 3 dL_law_158 rfl ?_
  refine g_iconst C (nI 1) dL_law_159 (by decide) ?_
  refine g_iadd_n C (d := (4 * i) + 1) dL_law_160 rfl ?_
  refine g_sld C X (j := (4 * i) + 1) (by omega) (by omega) dL_law_161 ?_
  refine g_aload_n C 0 dL_law_162 rfl ?_
  refine g_iload_n C 3 dL_law_163 rfl ?_
  refine g_iconst C (nI 2) dL_law_164 (by decide) ?_
  refine g_iadd_n C (d := (4 * i) + 2) dL_law_165 rfl ?_
  refine g_sld C X (j := (4 * i) + 2) (by omega) (by omega) dL_law_166 ?_
  refine g_cVr C (As := [.int (xs ((4 * i) + 1)), .int (xs ((4 * i) + 2))]) iX9_join (c_X9_join l G g mem r hx  (xs ((4 * i) + 1)) (xs ((4 * i) + 2))) wd_315 ob_0 rfl ⟨Nat.le_of_ble_eq_true rfl, Nat.le_of_ble_eq_true rfl⟩ ⟨rfl, rfl⟩ rfl (Nat.le_of_ble_eq_true rfl) dL_law_167 (fun r1 u1 hq => ?_)
  have ax := hq
  obtain ⟨f154, f155, f158⟩ := ax_3 ax
  have g1 : Good T (u1 155) := by rw [f155]; exact g
  have h1 : u1 154 2 = nI h := by rw [f154]; exact hh
  refine g_aload_n C 2 dL_law_170 rfl ?_
  refine g_aload_n C 0 dL_law_171 rfl ?_
  refine g_iload_n C 3 dL_law_172 rfl ?_
  refine g_iconst C (nI 1) dL_law_173 (by decide) ?_
  refine g_iadd_n C (d := (4 * i) + 1) dL_law_174 rfl ?_
  refine g_sld C X (j := (4 * i) + 1) (by omega) (by omega) dL_law_175 ?_
  refine g_aload_n C 0 dL_law_176 rfl ?_
  refine g_iload_n C 3 dL_law_177 rfl ?_
  refine g_iconst C (nI 2) dL_law_178 (by decide) ?_
  refine g_iadd_n C (d := (4 * i) + 2) dL_law_179 rfl ?_
  refine g_sld C X (j := (4 * i) + 2) (by omega) (by omega) dL_law_180 ?_
  refine g_cVr C (As := [.int (xs ((4 * i) + 1)), .int (xs ((4 * i) + 2))]) iX10_join (c_X10_join l G u1 g1 h1 h4  (xs ((4 * i) + 1)) (xs ((4 * i) + 2))) wd_767 ob_154 rfl ⟨Nat.le_of_ble_eq_true rfl, Nat.le_of_ble_eq_true rfl⟩ ⟨rfl, rfl⟩ rfl (Nat.le_of_ble_eq_true rfl) dL_law_181 (fun r2 u2 hq => ?_)
  rw [f155] at hq
  have hst := step_act (T2 := T) g hh h4 hpa tX tM ax hq (fun hok => good_join g hok.2 hok.1.1 hok.1.2) (by omega)
  refine g_icmp_eq_t C 875 (hst.1) dL_law_184 (by decide) ?_
  exact kk (T) (u2) (by omega) (hst.2)

set_option maxRecDepth 100000 in
set_option maxHeartbeats 4000000 in
theorem law_1 {p : Program} {l : Launch} {e : Env} {s : State} {m : MethodId} {args : Array Value} {below : List Frame} {meth : Method} {c : Code} {Q : State → Prop} {G : gG} {b N mc ms : Nat} {xs : Nat → Int32} {rt : Option FieldType} (C : gC G RL cL_law rt 8 p room_1 s m args meth c mc ms) (hN : N ≤ 2048) (X : sX G b N xs s) {i T : Nat} {mem : gM} (hi : 4 * i + 4 ≤ N) (hT : T ≤ 200 * i) (hI : INV T mem) (kk : ∀ (T2 : Nat) (u : gM), T2 ≤ T + 200 → INV T2 u → gV p l e room_1 s m args below meth c mc ms Q G 8 u 875 [(0, .ref b), (1, .ref (gad G 0)), (2, .ref (gad G 154)), (3, .int (nI (4 * i)))] []) : gV p l e room_1 s m args below meth c mc ms Q G 8 mem 189 [(0, .ref b), (1, .ref (gad G 0)), (2, .ref (gad G 154)), (3, .int (nI (4 * i)))] [] := by
  obtain ⟨Vs, h, o, tx, tl, r, g, hx, hh, h4, hpa, tX, tM⟩ := id hI
  refine g_aload_n C 1 dL_law_189 rfl ?_
  refine g_aload_n C 0 dL_law_190 rfl ?_
  refine g_iload_n C 3 dL_law_191 rfl ?_
  refine g_iconst C (nI 1) dL_law_192 (by decide) ?_
  refine g_iadd_n C (d := (4 * i) + 1) dL_law_193 rfl ?_
  refine g_sld C X (j := (4 * i) + 1) (by omega) (by omega) dL_law_194 ?_
  refine g_aload_n C 0 dL_law_195 rfl ?_
  refine g_iload_n C 3 dL_law_196 rfl ?_
  refine g_iconst C (nI 2) dL_law_197 (by decide) ?_
  refine g_iadd_n C (d := (4 * i) + 2) dL_law_198 rfl ?_
  refine g_sld C X (j := (4 * i) + 2) (by omega) (by omega) dL_law_199 ?_
  refine g_aload_n C 0 dL_law_200 rfl ?_
  refine g_iload_n C 3 dL_law_201 rfl ?_
  refine g_iconst C (nI 3) dL_law_202 (by decide) ?_
  refine g_iadd_n C (d := (4 * i) + 3) dL_law_203 rfl ?_
  refine g_sld C X (j := (4 * i) + 3) (by omega) (by omega) dL_law_204 ?_
  refine g_cVr C (As := [.int (xs ((4 * i) + 1)), .int (xs ((4 * i) + 2)), .int (xs ((4 * i) + 3))]) iX9_change (c_X9_change l G g mem r hx  (xs ((4 * i) + 1)) (xs ((4 * i) + 2)) (xs ((4 * i) + 3))) wd_369 ob_0 rfl ⟨Nat.le_of_ble_eq_true rfl, Nat.le_of_ble_eq_true rfl⟩ ⟨rfl, rfl⟩ rfl (Nat.le_of_ble_eq_true rfl) dL_law_205 (fun r1 u1 hq => ?_)
  have ax := hq
  obtain ⟨f154, f155, f158⟩ := ax_3 ax
  have g1 : Good T (u1 155) := by rw [f155]; exact g
  have h1 : u1 154 2 = nI h := by rw [f154]; exact hh
  refine g_aload_n C 2 dL_law_208 rfl ?_
  refine g_aload_n C 0 dL_law_209 rfl ?_
  refine g_iload_n C 3 dL_law_210 rfl ?_
  refine g_iconst C (nI 1) dL_law_211 (by decide) ?_
  refine g_iadd_n C (d := (4 * i) + 1) dL_law_212 rfl ?_
  refine g_sld C X (j := (4 * i) + 1) (by omega) (by omega) dL_law_213 ?_
  refine g_aload_n C 0 dL_law_214 rfl ?_
  refine g_iload_n C 3 dL_law_215 rfl ?_
  refine g_iconst C (nI 2) dL_law_216 (by decide) ?_
  refine g_iadd_n C (d := (4 * i) + 2) dL_law_217 rfl ?_
  refine g_sld C X (j := (4 * i) + 2) (by omega) (by omega) dL_law_218 ?_
  refine g_aload_n C 0 dL_law_219 rfl ?_
  refine g_iload_n C 3 dL_law_220 rfl ?_
  refine g_iconst C (nI 3) dL_law_221 (by decide) ?_
  refine g_iadd_n C (d := (4 * i) + 3) dL_law_222 rfl ?_
  refine g_sld C X (j := (4 * i) + 3) (by omega) (by omega) dL_law_223 ?_
  refine g_cVr C (As := [.int (xs ((4 * i) + 1)), .int (xs ((4 * i) + 2)), .int (xs ((4 * i) + 3))]) iX10_change (c_X10_change l G u1 g1 h1 h4  (xs ((4 * i) + 1)) (xs ((4 * i) + 2)) (xs ((4 * i) + 3))) wd_784 ob_154 rfl ⟨Nat.le_of_ble_eq_true rfl, Nat.le_of_ble_eq_true rfl⟩ ⟨rfl, rfl⟩ rfl (Nat.le_of_ble_eq_true rfl) dL_law_224 (fun r2 u2 hq => ?_)
  rw [f155] at hq
  have hst := step_act (T2 := T) g hh h4 hpa tX tM ax hq (fun hok => good_ch g hok) (by omega)
  refine g_icmp_eq_t C 875 (hst.1) dL_law_227 (by decide) ?_
  exact kk (T) (u2) (by omega) (hst.2)

set_option maxRecDepth 100000 in
set_option maxHeartbeats 4000000 in
theorem law_2 {p : Program} {l : Launch} {e : Env} {s : State} {m : MethodId} {args : Array Value} {below : List Frame} {meth : Method} {c : Code} {Q : State → Prop} {G : gG} {b N mc ms : Nat} {xs : Nat → Int32} {rt : Option FieldType} (C : gC G RL cL_law rt 8 p room_1 s m args meth c mc ms) (hN : N ≤ 2048) (X : sX G b N xs s) {i T : Nat} {mem : gM} (hi : 4 * i + 4 ≤ N) (hT : T ≤ 200 * i) (hI : INV T mem) (kk : ∀ (T2 : Nat) (u : gM), T2 ≤ T + 200 → INV T2 u → gV p l e room_1 s m args below meth c mc ms Q G 8 u 875 [(0, .ref b), (1, .ref (gad G 0)), (2, .ref (gad G 154)), (3, .int (nI (4 * i)))] []) : gV p l e room_1 s m args below meth c mc ms Q G 8 mem 232 [(0, .ref b), (1, .ref (gad G 0)), (2, .ref (gad G 154)), (3, .int (nI (4 * i)))] [] := by
  obtain ⟨Vs, h, o, tx, tl, r, g, hx, hh, h4, hpa, tX, tM⟩ := id hI
  refine g_aload_n C 1 dL_law_232 rfl ?_
  refine g_aload_n C 0 dL_law_233 rfl ?_
  refine g_iload_n C 3 dL_law_234 rfl ?_
  refine g_iconst C (nI 1) dL_law_235 (by decide) ?_
  refine g_iadd_n C (d := (4 * i) + 1) dL_law_236 rfl ?_
  refine g_sld C X (j := (4 * i) + 1) (by omega) (by omega) dL_law_237 ?_
  refine g_aload_n C 0 dL_law_238 rfl ?_
  refine g_iload_n C 3 dL_law_239 rfl ?_
  refine g_iconst C (nI 2) dL_law_240 (by decide) ?_
  refine g_iadd_n C (d := (4 * i) + 2) dL_law_241 rfl ?_
  refine g_sld C X (j := (4 * i) + 2) (by omega) (by omega) dL_law_242 ?_
  refine g_if_eq C 250 dL_law_243 (by decide) (fun c_243 => ?_) (fun c_243 => ?_)
  · refine g_iconst C (nI 0) dL_law_250 (by decide) ?_
    refine g_cVr C (As := [.int (xs ((4 * i) + 1)), .int (nI 0)]) iX9_live (c_X9_live l G g mem r hx  (xs ((4 * i) + 1)) (nI 0)) wd_386 ob_0 rfl ⟨Nat.le_of_ble_eq_true rfl, Nat.le_of_ble_eq_true rfl⟩ ⟨rfl, rfl⟩ rfl (Nat.le_of_ble_eq_true rfl) dL_law_251 (fun r1 u1 hq => ?_)
    have ax := hq
    obtain ⟨f154, f155, f158⟩ := ax_3 ax
    have g1 : Good T (u1 155) := by rw [f155]; exact g
    have h1 : u1 154 2 = nI h := by rw [f154]; exact hh
    refine g_aload_n C 2 dL_law_254 rfl ?_
    refine g_aload_n C 0 dL_law_255 rfl ?_
    refine g_iload_n C 3 dL_law_256 rfl ?_
    refine g_iconst C (nI 1) dL_law_257 (by decide) ?_
    refine g_iadd_n C (d := (4 * i) + 1) dL_law_258 rfl ?_
    refine g_sld C X (j := (4 * i) + 1) (by omega) (by omega) dL_law_259 ?_
    refine g_aload_n C 0 dL_law_260 rfl ?_
    refine g_iload_n C 3 dL_law_261 rfl ?_
    refine g_iconst C (nI 2) dL_law_262 (by decide) ?_
    refine g_iadd_n C (d := (4 * i) + 2) dL_law_263 rfl ?_
    refine g_sld C X (j := (4 * i) + 2) (by omega) (by omega) dL_law_264 ?_
    refine g_if_eq_t C 272 (c_243) dL_law_265 (by decide) ?_
    refine g_iconst C (nI 0) dL_law_272 (by decide) ?_
    refine g_cVr C (As := [.int (xs ((4 * i) + 1)), .int (nI 0)]) iX10_live (c_X10_live l G u1 g1 h1 h4  (xs ((4 * i) + 1)) (nI 0)) wd_796 ob_154 rfl ⟨Nat.le_of_ble_eq_true rfl, Nat.le_of_ble_eq_true rfl⟩ ⟨rfl, rfl⟩ rfl (Nat.le_of_ble_eq_true rfl) dL_law_273 (fun r2 u2 hq => ?_)
    rw [f155] at hq
    have hst := step_act (T2 := T) g hh h4 hpa tX tM ax hq (fun hok => good_lvs g _ hok) (by omega)
    refine g_icmp_eq_t C 875 (hst.1) dL_law_276 (by decide) ?_
    exact kk (T) (u2) (by omega) (hst.2)
  · refine g_iconst C (nI 1) dL_law_246 (by decide) ?_
    refine g_goto C 251 dL_law_247 (by decide) ?_
    refine g_cVr C (As := [.int (xs ((4 * i) + 1)), .int (nI 1)]) iX9_live (c_X9_live l G g mem r hx  (xs ((4 * i) + 1)) (nI 1)) wd_386 ob_0 rfl ⟨Nat.le_of_ble_eq_true rfl, Nat.le_of_ble_eq_true rfl⟩ ⟨rfl, rfl⟩ rfl (Nat.le_of_ble_eq_true rfl) dL_law_251 (fun r1 u1 hq => ?_)
    have ax := hq
    obtain ⟨f154, f155, f158⟩ := ax_3 ax
    have g1 : Good T (u1 155) := by rw [f155]; exact g
    have h1 : u1 154 2 = nI h := by rw [f154]; exact hh
    refine g_aload_n C 2 dL_law_254 rfl ?_
    refine g_aload_n C 0 dL_law_255 rfl ?_
    refine g_iload_n C 3 dL_law_256 rfl ?_
    refine g_iconst C (nI 1) dL_law_257 (by decide) ?_
    refine g_iadd_n C (d := (4 * i) + 1) dL_law_258 rfl ?_
    refine g_sld C X (j := (4 * i) + 1) (by omega) (by omega) dL_law_259 ?_
    refine g_aload_n C 0 dL_law_260 rfl ?_
    refine g_iload_n C 3 dL_law_261 rfl ?_
    refine g_iconst C (nI 2) dL_law_262 (by decide) ?_
    refine g_iadd_n C (d := (4 * i) + 2) dL_law_263 rfl ?_
    refine g_sld C X (j := (4 * i) + 2) (by omega) (by omega) dL_law_264 ?_
    refine g_if_eq_f C 272 (c_243) dL_law_265 (by decide) ?_
    refine g_iconst C (nI 1) dL_law_268 (by decide) ?_
    refine g_goto C 273 dL_law_269 (by decide) ?_
    refine g_cVr C (As := [.int (xs ((4 * i) + 1)), .int (nI 1)]) iX10_live (c_X10_live l G u1 g1 h1 h4  (xs ((4 * i) + 1)) (nI 1)) wd_796 ob_154 rfl ⟨Nat.le_of_ble_eq_true rfl, Nat.le_of_ble_eq_true rfl⟩ ⟨rfl, rfl⟩ rfl (Nat.le_of_ble_eq_true rfl) dL_law_273 (fun r2 u2 hq => ?_)
    rw [f155] at hq
    have hst := step_act (T2 := T) g hh h4 hpa tX tM ax hq (fun hok => good_lvs g _ hok) (by omega)
    refine g_icmp_eq_t C 875 (hst.1) dL_law_276 (by decide) ?_
    exact kk (T) (u2) (by omega) (hst.2)

set_option maxRecDepth 100000 in
set_option maxHeartbeats 4000000 in
theorem law_3 {p : Program} {l : Launch} {e : Env} {s : State} {m : MethodId} {args : Array Value} {below : List Frame} {meth : Method} {c : Code} {Q : State → Prop} {G : gG} {b N mc ms : Nat} {xs : Nat → Int32} {rt : Option FieldType} (C : gC G RL cL_law rt 8 p room_1 s m args meth c mc ms) (hN : N ≤ 2048) (X : sX G b N xs s) {i T : Nat} {mem : gM} (hi : 4 * i + 4 ≤ N) (hT : T ≤ 200 * i) (hI : INV T mem) (kk : ∀ (T2 : Nat) (u : gM), T2 ≤ T + 200 → INV T2 u → gV p l e room_1 s m args below meth c mc ms Q G 8 u 875 [(0, .ref b), (1, .ref (gad G 0)), (2, .ref (gad G 154)), (3, .int (nI (4 * i)))] []) : gV p l e room_1 s m args below meth c mc ms Q G 8 mem 281 [(0, .ref b), (1, .ref (gad G 0)), (2, .ref (gad G 154)), (3, .int (nI (4 * i)))] [] := by
  obtain ⟨Vs, h, o, tx, tl, r, g, hx, hh, h4, hpa, tX, tM⟩ := id hI
  refine g_aload_n C 1 dL_law_281 rfl ?_
  refine g_aload_n C 0 dL_law_282 rfl ?_
  refine g_iload_n C 3 dL_law_283 rfl ?_
  refine g_iconst C (nI 1) dL_law_284 (by decide) ?_
  refine g_iadd_n C (d := (4 * i) + 1) dL_law_285 rfl ?_
  refine g_sld C X (j := (4 * i) + 1) (by omega) (by omega) dL_law_286 ?_
  refine g_aload_n C 0 dL_law_287 rfl ?_
  refine g_iload_n C 3 dL_law_288 rfl ?_
  refine g_iconst C (nI 2) dL_law_289 (by decide) ?_
  refine g_iadd_n C (d := (4 * i) + 2) dL_law_290 rfl ?_
  refine g_sld C X (j := (4 * i) + 2) (by omega) (by omega) dL_law_291 ?_
  refine g_cV1 C (As := [.int (xs ((4 * i) + 1)), .int (xs ((4 * i) + 2))]) (w := .int (memberR (mem 155) (xs ((4 * i) + 1)) (xs ((4 * i) + 2)))) (mem3 := mem) iX9_member (c_X9_member l G g mem r (xs ((4 * i) + 1)) (xs ((4 * i) + 2))) wd_397 ob_0 rfl ⟨Nat.le_of_ble_eq_true rfl, Nat.le_of_ble_eq_true rfl⟩ ⟨rfl, rfl⟩ rfl (Nat.le_of_ble_eq_true rfl) dL_law_292 (rfl) (rfl) ?_
  refine g_aload_n C 2 dL_law_295 rfl ?_
  refine g_aload_n C 0 dL_law_296 rfl ?_
  refine g_iload_n C 3 dL_law_297 rfl ?_
  refine g_iconst C (nI 1) dL_law_298 (by decide) ?_
  refine g_iadd_n C (d := (4 * i) + 1) dL_law_299 rfl ?_
  refine g_sld C X (j := (4 * i) + 1) (by omega) (by omega) dL_law_300 ?_
  refine g_aload_n C 0 dL_law_301 rfl ?_
  refine g_iload_n C 3 dL_law_302 rfl ?_
  refine g_iconst C (nI 2) dL_law_303 (by decide) ?_
  refine g_iadd_n C (d := (4 * i) + 2) dL_law_304 rfl ?_
  refine g_sld C X (j := (4 * i) + 2) (by omega) (by omega) dL_law_305 ?_
  refine g_cV1 C (As := [.int (xs ((4 * i) + 1)), .int (xs ((4 * i) + 2))]) (w := .int (memberR (mem 155) (xs ((4 * i) + 1)) (xs ((4 * i) + 2)))) (mem3 := mem) iX10_member (c_X10_member l G mem g (xs ((4 * i) + 1)) (xs ((4 * i) + 2))) wd_800 ob_154 rfl ⟨Nat.le_of_ble_eq_true rfl, Nat.le_of_ble_eq_true rfl⟩ ⟨rfl, rfl⟩ rfl (Nat.le_of_ble_eq_true rfl) dL_law_306 (rfl) (rfl) ?_
  refine g_icmp_eq_t C 875 (rfl) dL_law_309 (by decide) ?_
  exact kk (T) (mem) (by omega) (hI)

set_option maxRecDepth 100000 in
set_option maxHeartbeats 4000000 in
theorem law_4 {p : Program} {l : Launch} {e : Env} {s : State} {m : MethodId} {args : Array Value} {below : List Frame} {meth : Method} {c : Code} {Q : State → Prop} {G : gG} {b N mc ms : Nat} {xs : Nat → Int32} {rt : Option FieldType} (C : gC G RL cL_law rt 8 p room_1 s m args meth c mc ms) (hN : N ≤ 2048) (X : sX G b N xs s) {i T : Nat} {mem : gM} (hi : 4 * i + 4 ≤ N) (hT : T ≤ 200 * i) (hI : INV T mem) (kk : ∀ (T2 : Nat) (u : gM), T2 ≤ T + 200 → INV T2 u → gV p l e room_1 s m args below meth c mc ms Q G 8 u 875 [(0, .ref b), (1, .ref (gad G 0)), (2, .ref (gad G 154)), (3, .int (nI (4 * i)))] []) : gV p l e room_1 s m args below meth c mc ms Q G 8 mem 314 [(0, .ref b), (1, .ref (gad G 0)), (2, .ref (gad G 154)), (3, .int (nI (4 * i)))] [] := by
  obtain ⟨Vs, h, o, tx, tl, r, g, hx, hh, h4, hpa, tX, tM⟩ := id hI
  refine g_aload_n C 1 dL_law_314 rfl ?_
  refine g_aload_n C 0 dL_law_315 rfl ?_
  refine g_iload_n C 3 dL_law_316 rfl ?_
  refine g_iconst C (nI 1) dL_law_317 (by decide) ?_
  refine g_iadd_n C (d := (4 * i) + 1) dL_law_318 rfl ?_
  refine g_sld C X (j := (4 * i) + 1) (by omega) (by omega) dL_law_319 ?_
  refine g_aload_n C 0 dL_law_320 rfl ?_
  refine g_iload_n C 3 dL_law_321 rfl ?_
  refine g_iconst C (nI 2) dL_law_322 (by decide) ?_
  refine g_iadd_n C (d := (4 * i) + 2) dL_law_323 rfl ?_
  refine g_sld C X (j := (4 * i) + 2) (by omega) (by omega) dL_law_324 ?_
  refine g_cVr C (As := [.int (xs ((4 * i) + 1)), .int (xs ((4 * i) + 2))]) iX9_set (c_X9_set l G g mem r hx  (xs ((4 * i) + 1)) (xs ((4 * i) + 2))) wd_414 ob_0 rfl ⟨Nat.le_of_ble_eq_true rfl, Nat.le_of_ble_eq_true rfl⟩ ⟨rfl, rfl⟩ rfl (Nat.le_of_ble_eq_true rfl) dL_law_325 (fun r1 u1 hq => ?_)
  have ax := hq
  obtain ⟨f154, f155, f158⟩ := ax_3 ax
  have g1 : Good T (u1 155) := by rw [f155]; exact g
  have h1 : u1 154 2 = nI h := by rw [f154]; exact hh
  refine g_aload_n C 2 dL_law_328 rfl ?_
  refine g_aload_n C 0 dL_law_329 rfl ?_
  refine g_iload_n C 3 dL_law_330 rfl ?_
  refine g_iconst C (nI 1) dL_law_331 (by decide) ?_
  refine g_iadd_n C (d := (4 * i) + 1) dL_law_332 rfl ?_
  refine g_sld C X (j := (4 * i) + 1) (by omega) (by omega) dL_law_333 ?_
  refine g_aload_n C 0 dL_law_334 rfl ?_
  refine g_iload_n C 3 dL_law_335 rfl ?_
  refine g_iconst C (nI 2) dL_law_336 (by decide) ?_
  refine g_iadd_n C (d := (4 * i) + 2) dL_law_337 rfl ?_
  refine g_sld C X (j := (4 * i) + 2) (by omega) (by omega) dL_law_338 ?_
  refine g_cVr C (As := [.int (xs ((4 * i) + 1)), .int (xs ((4 * i) + 2))]) iX10_set (c_X10_set l G u1 g1 h1 h4  (xs ((4 * i) + 1)) (xs ((4 * i) + 2))) wd_812 ob_154 rfl ⟨Nat.le_of_ble_eq_true rfl, Nat.le_of_ble_eq_true rfl⟩ ⟨rfl, rfl⟩ rfl (Nat.le_of_ble_eq_true rfl) dL_law_339 (fun r2 u2 hq => ?_)
  rw [f155] at hq
  have hst := step_act (T2 := T) g hh h4 hpa tX tM ax hq (fun hok => good_sts g hok) (by omega)
  refine g_icmp_eq_t C 875 (hst.1) dL_law_342 (by decide) ?_
  exact kk (T) (u2) (by omega) (hst.2)

set_option maxRecDepth 100000 in
set_option maxHeartbeats 4000000 in
theorem law_5 {p : Program} {l : Launch} {e : Env} {s : State} {m : MethodId} {args : Array Value} {below : List Frame} {meth : Method} {c : Code} {Q : State → Prop} {G : gG} {b N mc ms : Nat} {xs : Nat → Int32} {rt : Option FieldType} (C : gC G RL cL_law rt 8 p room_1 s m args meth c mc ms) (hN : N ≤ 2048) (X : sX G b N xs s) {i T : Nat} {mem : gM} (hi : 4 * i + 4 ≤ N) (hT : T ≤ 200 * i) (hI : INV T mem) (kk : ∀ (T2 : Nat) (u : gM), T2 ≤ T + 200 → INV T2 u → gV p l e room_1 s m args below meth c mc ms Q G 8 u 875 [(0, .ref b), (1, .ref (gad G 0)), (2, .ref (gad G 154)), (3, .int (nI (4 * i)))] []) : gV p l e room_1 s m args below meth c mc ms Q G 8 mem 347 [(0, .ref b), (1, .ref (gad G 0)), (2, .ref (gad G 154)), (3, .int (nI (4 * i)))] [] := by
  obtain ⟨Vs, h, o, tx, tl, r, g, hx, hh, h4, hpa, tX, tM⟩ := id hI
  refine g_aload_n C 1 dL_law_347 rfl ?_
  refine g_aload_n C 0 dL_law_348 rfl ?_
  refine g_iload_n C 3 dL_law_349 rfl ?_
  refine g_iconst C (nI 1) dL_law_350 (by decide) ?_
  refine g_iadd_n C (d := (4 * i) + 1) dL_law_351 rfl ?_
  refine g_sld C X (j := (4 * i) + 1) (by omega) (by omega) dL_law_352 ?_
  refine g_cV1 C (As := [.int (xs ((4 * i) + 1))]) (w := .int (aboutR (mem 155) (xs ((4 * i) + 1)))) (mem3 := mem) iX9_about (c_X9_about l G g mem r (xs ((4 * i) + 1))) wd_425 ob_0 rfl ⟨Nat.le_of_ble_eq_true rfl, Nat.le_of_ble_eq_true rfl⟩ ⟨rfl, rfl⟩ rfl (Nat.le_of_ble_eq_true rfl) dL_law_353 (rfl) (rfl) ?_
  refine g_aload_n C 2 dL_law_356 rfl ?_
  refine g_aload_n C 0 dL_law_357 rfl ?_
  refine g_iload_n C 3 dL_law_358 rfl ?_
  refine g_iconst C (nI 1) dL_law_359 (by decide) ?_
  refine g_iadd_n C (d := (4 * i) + 1) dL_law_360 rfl ?_
  refine g_sld C X (j := (4 * i) + 1) (by omega) (by omega) dL_law_361 ?_
  refine g_cV1 C (As := [.int (xs ((4 * i) + 1))]) (w := .int (aboutR (mem 155) (xs ((4 * i) + 1)))) (mem3 := mem) iX10_about (c_X10_about l G mem (xs ((4 * i) + 1))) wd_816 ob_154 rfl ⟨Nat.le_of_ble_eq_true rfl, Nat.le_of_ble_eq_true rfl⟩ ⟨rfl, rfl⟩ rfl (Nat.le_of_ble_eq_true rfl) dL_law_362 (rfl) (rfl) ?_
  refine g_icmp_eq_t C 875 (rfl) dL_law_365 (by decide) ?_
  exact kk (T) (mem) (by omega) (hI)

set_option maxRecDepth 100000 in
set_option maxHeartbeats 4000000 in
theorem law_6 {p : Program} {l : Launch} {e : Env} {s : State} {m : MethodId} {args : Array Value} {below : List Frame} {meth : Method} {c : Code} {Q : State → Prop} {G : gG} {b N mc ms : Nat} {xs : Nat → Int32} {rt : Option FieldType} (C : gC G RL cL_law rt 8 p room_1 s m args meth c mc ms) (hN : N ≤ 2048) (X : sX G b N xs s) {i T : Nat} {mem : gM} (hi : 4 * i + 4 ≤ N) (hT : T ≤ 200 * i) (hI : INV T mem) (kk : ∀ (T2 : Nat) (u : gM), T2 ≤ T + 200 → INV T2 u → gV p l e room_1 s m args below meth c mc ms Q G 8 u 875 [(0, .ref b), (1, .ref (gad G 0)), (2, .ref (gad G 154)), (3, .int (nI (4 * i)))] []) : gV p l e room_1 s m args below meth c mc ms Q G 8 mem 370 [(0, .ref b), (1, .ref (gad G 0)), (2, .ref (gad G 154)), (3, .int (nI (4 * i)))] [] := by
  obtain ⟨Vs, h, o, tx, tl, r, g, hx, hh, h4, hpa, tX, tM⟩ := id hI
  refine g_aload_n C 1 dL_law_370 rfl ?_
  refine g_aload_n C 0 dL_law_371 rfl ?_
  refine g_iload_n C 3 dL_law_372 rfl ?_
  refine g_iconst C (nI 1) dL_law_373 (by decide) ?_
  refine g_iadd_n C (d := (4 * i) + 1) dL_law_374 rfl ?_
  refine g_sld C X (j := (4 * i) + 1) (by omega) (by omega) dL_law_375 ?_
  refine g_cV1 C (As := [.int (xs ((4 * i) + 1))]) (w := .int (mixI (xs ((4 * i) + 1)))) (mem3 := mem) iX9_mix (c_X9_mix l G mem (xs ((4 * i) + 1))) wd_429 ob_0 rfl ⟨Nat.le_of_ble_eq_true rfl, Nat.le_of_ble_eq_true rfl⟩ ⟨rfl, rfl⟩ rfl (Nat.le_of_ble_eq_true rfl) dL_law_376 (rfl) (rfl) ?_
  refine g_aload_n C 2 dL_law_379 rfl ?_
  refine g_aload_n C 0 dL_law_380 rfl ?_
  refine g_iload_n C 3 dL_law_381 rfl ?_
  refine g_iconst C (nI 1) dL_law_382 (by decide) ?_
  refine g_iadd_n C (d := (4 * i) + 1) dL_law_383 rfl ?_
  refine g_sld C X (j := (4 * i) + 1) (by omega) (by omega) dL_law_384 ?_
  refine g_cV1 C (As := [.int (xs ((4 * i) + 1))]) (w := .int (mixI (xs ((4 * i) + 1)))) (mem3 := mem) iX10_mix (c_X10_mix l G mem (xs ((4 * i) + 1))) wd_820 ob_154 rfl ⟨Nat.le_of_ble_eq_true rfl, Nat.le_of_ble_eq_true rfl⟩ ⟨rfl, rfl⟩ rfl (Nat.le_of_ble_eq_true rfl) dL_law_385 (rfl) (rfl) ?_
  refine g_icmp_eq_t C 875 (rfl) dL_law_388 (by decide) ?_
  exact kk (T) (mem) (by omega) (hI)

set_option maxRecDepth 100000 in
set_option maxHeartbeats 4000000 in
theorem law_7 {p : Program} {l : Launch} {e : Env} {s : State} {m : MethodId} {args : Array Value} {below : List Frame} {meth : Method} {c : Code} {Q : State → Prop} {G : gG} {b N mc ms : Nat} {xs : Nat → Int32} {rt : Option FieldType} (C : gC G RL cL_law rt 8 p room_1 s m args meth c mc ms) (hN : N ≤ 2048) (X : sX G b N xs s) {i T : Nat} {mem : gM} (hi : 4 * i + 4 ≤ N) (hT : T ≤ 200 * i) (hI : INV T mem) (kk : ∀ (T2 : Nat) (u : gM), T2 ≤ T + 200 → INV T2 u → gV p l e room_1 s m args below meth c mc ms Q G 8 u 875 [(0, .ref b), (1, .ref (gad G 0)), (2, .ref (gad G 154)), (3, .int (nI (4 * i)))] []) : gV p l e room_1 s m args below meth c mc ms Q G 8 mem 393 [(0, .ref b), (1, .ref (gad G 0)), (2, .ref (gad G 154)), (3, .int (nI (4 * i)))] [] := by
  obtain ⟨Vs, h, o, tx, tl, r, g, hx, hh, h4, hpa, tX, tM⟩ := id hI
  refine g_aload_n C 1 dL_law_393 rfl ?_
  refine g_aload_n C 0 dL_law_394 rfl ?_
  refine g_iload_n C 3 dL_law_395 rfl ?_
  refine g_iconst C (nI 1) dL_law_396 (by decide) ?_
  refine g_iadd_n C (d := (4 * i) + 1) dL_law_397 rfl ?_
  refine g_sld C X (j := (4 * i) + 1) (by omega) (by omega) dL_law_398 ?_
  refine g_aload_n C 0 dL_law_399 rfl ?_
  refine g_iload_n C 3 dL_law_400 rfl ?_
  refine g_iconst C (nI 2) dL_law_401 (by decide) ?_
  refine g_iadd_n C (d := (4 * i) + 2) dL_law_402 rfl ?_
  refine g_sld C X (j := (4 * i) + 2) (by omega) (by omega) dL_law_403 ?_
  refine g_cVr C (As := [.int (xs ((4 * i) + 1)), .int (xs ((4 * i) + 2))]) iX9_commit (c_X9_commit l G g mem r hx  (xs ((4 * i) + 1)) (xs ((4 * i) + 2))) wd_437 ob_0 rfl ⟨Nat.le_of_ble_eq_true rfl, Nat.le_of_ble_eq_true rfl⟩ ⟨rfl, rfl⟩ rfl (Nat.le_of_ble_eq_true rfl) dL_law_404 (fun r1 u1 hq => ?_)
  have ax := hq
  obtain ⟨f154, f155, f158⟩ := ax_3 ax
  have g1 : Good T (u1 155) := by rw [f155]; exact g
  have h1 : u1 154 2 = nI h := by rw [f154]; exact hh
  refine g_aload_n C 2 dL_law_407 rfl ?_
  refine g_aload_n C 0 dL_law_408 rfl ?_
  refine g_iload_n C 3 dL_law_409 rfl ?_
  refine g_iconst C (nI 1) dL_law_410 (by decide) ?_
  refine g_iadd_n C (d := (4 * i) + 1) dL_law_411 rfl ?_
  refine g_sld C X (j := (4 * i) + 1) (by omega) (by omega) dL_law_412 ?_
  refine g_aload_n C 0 dL_law_413 rfl ?_
  refine g_iload_n C 3 dL_law_414 rfl ?_
  refine g_iconst C (nI 2) dL_law_415 (by decide) ?_
  refine g_iadd_n C (d := (4 * i) + 2) dL_law_416 rfl ?_
  refine g_sld C X (j := (4 * i) + 2) (by omega) (by omega) dL_law_417 ?_
  refine g_cVr C (As := [.int (xs ((4 * i) + 1)), .int (xs ((4 * i) + 2))]) iX10_commit (c_X10_commit l G u1 g1 h1 h4  (xs ((4 * i) + 1)) (xs ((4 * i) + 2))) wd_828 ob_154 rfl ⟨Nat.le_of_ble_eq_true rfl, Nat.le_of_ble_eq_true rfl⟩ ⟨rfl, rfl⟩ rfl (Nat.le_of_ble_eq_true rfl) dL_law_418 (fun r2 u2 hq => ?_)
  rw [f155] at hq
  have hst := step_act (T2 := T) g hh h4 hpa tX tM ax hq (fun hok => good_cms g _ hok.1) (by omega)
  refine g_icmp_eq_t C 875 (hst.1) dL_law_421 (by decide) ?_
  exact kk (T) (u2) (by omega) (hst.2)

set_option maxRecDepth 100000 in
set_option maxHeartbeats 4000000 in
theorem law_8 {p : Program} {l : Launch} {e : Env} {s : State} {m : MethodId} {args : Array Value} {below : List Frame} {meth : Method} {c : Code} {Q : State → Prop} {G : gG} {b N mc ms : Nat} {xs : Nat → Int32} {rt : Option FieldType} (C : gC G RL cL_law rt 8 p room_1 s m args meth c mc ms) (hN : N ≤ 2048) (X : sX G b N xs s) {i T : Nat} {mem : gM} (hi : 4 * i + 4 ≤ N) (hT : T ≤ 200 * i) (hI : INV T mem) (kk : ∀ (T2 : Nat) (u : gM), T2 ≤ T + 200 → INV T2 u → gV p l e room_1 s m args below meth c mc ms Q G 8 u 875 [(0, .ref b), (1, .ref (gad G 0)), (2, .ref (gad G 154)), (3, .int (nI (4 * i)))] []) : gV p l e room_1 s m args below meth c mc ms Q G 8 mem 426 [(0, .ref b), (1, .ref (gad G 0)), (2, .ref (gad G 154)), (3, .int (nI (4 * i)))] [] := by
  obtain ⟨Vs, h, o, tx, tl, r, g, hx, hh, h4, hpa, tX, tM⟩ := id hI
  refine g_aload_n C 1 dL_law_426 rfl ?_
  refine g_aload_n C 0 dL_law_427 rfl ?_
  refine g_iload_n C 3 dL_law_428 rfl ?_
  refine g_iconst C (nI 1) dL_law_429 (by decide) ?_
  refine g_iadd_n C (d := (4 * i) + 1) dL_law_430 rfl ?_
  refine g_sld C X (j := (4 * i) + 1) (by omega) (by omega) dL_law_431 ?_
  refine g_aload_n C 0 dL_law_432 rfl ?_
  refine g_iload_n C 3 dL_law_433 rfl ?_
  refine g_iconst C (nI 2) dL_law_434 (by decide) ?_
  refine g_iadd_n C (d := (4 * i) + 2) dL_law_435 rfl ?_
  refine g_sld C X (j := (4 * i) + 2) (by omega) (by omega) dL_law_436 ?_
  refine g_cVr C (As := [.int (xs ((4 * i) + 1)), .int (xs ((4 * i) + 2))]) iX9_reveal (c_X9_reveal l G g mem r hx  (xs ((4 * i) + 1)) (xs ((4 * i) + 2))) wd_443 ob_0 rfl ⟨Nat.le_of_ble_eq_true rfl, Nat.le_of_ble_eq_true rfl⟩ ⟨rfl, rfl⟩ rfl (Nat.le_of_ble_eq_true rfl) dL_law_437 (fun r1 u1 hq => ?_)
  have ax := hq
  obtain ⟨f154, f155, f158⟩ := ax_3 ax
  have g1 : Good T (u1 155) := by rw [f155]; exact g
  have h1 : u1 154 2 = nI h := by rw [f154]; exact hh
  refine g_aload_n C 2 dL_law_440 rfl ?_
  refine g_aload_n C 0 dL_law_441 rfl ?_
  refine g_iload_n C 3 dL_law_442 rfl ?_
  refine g_iconst C (nI 1) dL_law_443 (by decide) ?_
  refine g_iadd_n C (d := (4 * i) + 1) dL_law_444 rfl ?_
  refine g_sld C X (j := (4 * i) + 1) (by omega) (by omega) dL_law_445 ?_
  refine g_aload_n C 0 dL_law_446 rfl ?_
  refine g_iload_n C 3 dL_law_447 rfl ?_
  refine g_iconst C (nI 2) dL_law_448 (by decide) ?_
  refine g_iadd_n C (d := (4 * i) + 2) dL_law_449 rfl ?_
  refine g_sld C X (j := (4 * i) + 2) (by omega) (by omega) dL_law_450 ?_
  refine g_cVr C (As := [.int (xs ((4 * i) + 1)), .int (xs ((4 * i) + 2))]) iX10_reveal (c_X10_reveal l G u1 g1 h1 h4  (xs ((4 * i) + 1)) (xs ((4 * i) + 2))) wd_837 ob_154 rfl ⟨Nat.le_of_ble_eq_true rfl, Nat.le_of_ble_eq_true rfl⟩ ⟨rfl, rfl⟩ rfl (Nat.le_of_ble_eq_true rfl) dL_law_451 (fun r2 u2 hq => ?_)
  rw [f155] at hq
  have hst := step_act (T2 := T) g hh h4 hpa tX tM ax hq (fun hok => good_rvs g _ hok.1.1) (by omega)
  refine g_icmp_eq_t C 875 (hst.1) dL_law_454 (by decide) ?_
  exact kk (T) (u2) (by omega) (hst.2)

set_option maxRecDepth 100000 in
set_option maxHeartbeats 4000000 in
theorem law_9 {p : Program} {l : Launch} {e : Env} {s : State} {m : MethodId} {args : Array Value} {below : List Frame} {meth : Method} {c : Code} {Q : State → Prop} {G : gG} {b N mc ms : Nat} {xs : Nat → Int32} {rt : Option FieldType} (C : gC G RL cL_law rt 8 p room_1 s m args meth c mc ms) (hN : N ≤ 2048) (X : sX G b N xs s) {i T : Nat} {mem : gM} (hi : 4 * i + 4 ≤ N) (hT : T ≤ 200 * i) (hI : INV T mem) (kk : ∀ (T2 : Nat) (u : gM), T2 ≤ T + 200 → INV T2 u → gV p l e room_1 s m args below meth c mc ms Q G 8 u 875 [(0, .ref b), (1, .ref (gad G 0)), (2, .ref (gad G 154)), (3, .int (nI (4 * i)))] []) : gV p l e room_1 s m args below meth c mc ms Q G 8 mem 459 [(0, .ref b), (1, .ref (gad G 0)), (2, .ref (gad G 154)), (3, .int (nI (4 * i)))] [] := by
  obtain ⟨Vs, h, o, tx, tl, r, g, hx, hh, h4, hpa, tX, tM⟩ := id hI
  refine g_aload_n C 1 dL_law_459 rfl ?_
  refine g_cVr C (As := []) iX9_draw (c_X9_draw l G g mem r hx  ) wd_447 ob_0 rfl ⟨Nat.le_of_ble_eq_true rfl, Nat.le_of_ble_eq_true rfl⟩ ⟨rfl, rfl⟩ rfl (Nat.le_of_ble_eq_true rfl) dL_law_460 (fun r1 u1 hq => ?_)
  have ax := hq
  obtain ⟨f154, f155, f158⟩ := ax_3 ax
  have g1 : Good T (u1 155) := by rw [f155]; exact g
  have h1 : u1 154 2 = nI h := by rw [f154]; exact hh
  refine g_aload_n C 2 dL_law_463 rfl ?_
  refine g_cVr C (As := []) iX10_draw (c_X10_draw l G u1 g1 h1 h4  ) wd_841 ob_154 rfl ⟨Nat.le_of_ble_eq_true rfl, Nat.le_of_ble_eq_true rfl⟩ ⟨rfl, rfl⟩ rfl (Nat.le_of_ble_eq_true rfl) dL_law_464 (fun r2 u2 hq => ?_)
  rw [f155] at hq
  have hst := step_act (T2 := T) g hh h4 hpa tX tM ax hq (fun hok => good_draw g _) (by omega)
  refine g_icmp_eq_t C 875 (hst.1) dL_law_467 (by decide) ?_
  exact kk (T) (u2) (by omega) (hst.2)

set_option maxRecDepth 100000 in
set_option maxHeartbeats 4000000 in
theorem law_10 {p : Program} {l : Launch} {e : Env} {s : State} {m : MethodId} {args : Array Value} {below : List Frame} {meth : Method} {c : Code} {Q : State → Prop} {G : gG} {b N mc ms : Nat} {xs : Nat → Int32} {rt : Option FieldType} (C : gC G RL cL_law rt 8 p room_1 s m args meth c mc ms) (hN : N ≤ 2048) (X : sX G b N xs s) {i T : Nat} {mem : gM} (hi : 4 * i + 4 ≤ N) (hT : T ≤ 200 * i) (hI : INV T mem) (kk : ∀ (T2 : Nat) (u : gM), T2 ≤ T + 200 → INV T2 u → gV p l e room_1 s m args below meth c mc ms Q G 8 u 875 [(0, .ref b), (1, .ref (gad G 0)), (2, .ref (gad G 154)), (3, .int (nI (4 * i)))] []) : gV p l e room_1 s m args below meth c mc ms Q G 8 mem 472 [(0, .ref b), (1, .ref (gad G 0)), (2, .ref (gad G 154)), (3, .int (nI (4 * i)))] [] := by
  obtain ⟨Vs, h, o, tx, tl, r, g, hx, hh, h4, hpa, tX, tM⟩ := id hI
  refine g_aload_n C 1 dL_law_472 rfl ?_
  refine g_cV1 C (As := []) (w := .long (seedR (mem 155))) (mem3 := mem) iX9_seed (c_X9_seed l G g mem r) wd_495 ob_0 rfl ⟨Nat.le_of_ble_eq_true rfl, Nat.le_of_ble_eq_true rfl⟩ ⟨rfl, rfl⟩ rfl (Nat.le_of_ble_eq_true rfl) dL_law_473 (rfl) (rfl) ?_
  refine g_aload_n C 2 dL_law_476 rfl ?_
  refine g_cV1 C (As := []) (w := .long (seedR (mem 155))) (mem3 := mem) iX10_seed (c_X10_seed l G mem) wd_857 ob_154 rfl ⟨Nat.le_of_ble_eq_true rfl, Nat.le_of_ble_eq_true rfl⟩ ⟨rfl, rfl⟩ rfl (Nat.le_of_ble_eq_true rfl) dL_law_477 (rfl) (rfl) ?_
  refine g_lcmp C dL_law_480 ?_
  refine g_if_eq_t C 875 (lg_self _) dL_law_481 (by decide) ?_
  exact kk (T) (mem) (by omega) (hI)

set_option maxRecDepth 100000 in
set_option maxHeartbeats 4000000 in
theorem law_11 {p : Program} {l : Launch} {e : Env} {s : State} {m : MethodId} {args : Array Value} {below : List Frame} {meth : Method} {c : Code} {Q : State → Prop} {G : gG} {b N mc ms : Nat} {xs : Nat → Int32} {rt : Option FieldType} (C : gC G RL cL_law rt 8 p room_1 s m args meth c mc ms) (hN : N ≤ 2048) (X : sX G b N xs s) {i T : Nat} {mem : gM} (hi : 4 * i + 4 ≤ N) (hT : T ≤ 200 * i) (hI : INV T mem) (kk : ∀ (T2 : Nat) (u : gM), T2 ≤ T + 200 → INV T2 u → gV p l e room_1 s m args below meth c mc ms Q G 8 u 875 [(0, .ref b), (1, .ref (gad G 0)), (2, .ref (gad G 154)), (3, .int (nI (4 * i)))] []) : gV p l e room_1 s m args below meth c mc ms Q G 8 mem 486 [(0, .ref b), (1, .ref (gad G 0)), (2, .ref (gad G 154)), (3, .int (nI (4 * i)))] [] := by
  obtain ⟨Vs, h, o, tx, tl, r, g, hx, hh, h4, hpa, tX, tM⟩ := id hI
  refine g_aload_n C 1 dL_law_486 rfl ?_
  refine g_aload_n C 0 dL_law_487 rfl ?_
  refine g_iload_n C 3 dL_law_488 rfl ?_
  refine g_iconst C (nI 1) dL_law_489 (by decide) ?_
  refine g_iadd_n C (d := (4 * i) + 1) dL_law_490 rfl ?_
  refine g_sld C X (j := (4 * i) + 1) (by omega) (by omega) dL_law_491 ?_
  refine g_cV1 C (As := [.int (xs ((4 * i) + 1))]) (w := .int (dutyR (mem 155) (xs ((4 * i) + 1)))) (mem3 := mem) iX9_duty (c_X9_duty l G g mem r (xs ((4 * i) + 1))) wd_500 ob_0 rfl ⟨Nat.le_of_ble_eq_true rfl, Nat.le_of_ble_eq_true rfl⟩ ⟨rfl, rfl⟩ rfl (Nat.le_of_ble_eq_true rfl) dL_law_492 (rfl) (rfl) ?_
  refine g_aload_n C 2 dL_law_495 rfl ?_
  refine g_aload_n C 0 dL_law_496 rfl ?_
  refine g_iload_n C 3 dL_law_497 rfl ?_
  refine g_iconst C (nI 1) dL_law_498 (by decide) ?_
  refine g_iadd_n C (d := (4 * i) + 1) dL_law_499 rfl ?_
  refine g_sld C X (j := (4 * i) + 1) (by omega) (by omega) dL_law_500 ?_
  refine g_cV1 C (As := [.int (xs ((4 * i) + 1))]) (w := .int (dutyR (mem 155) (xs ((4 * i) + 1)))) (mem3 := mem) iX10_duty (c_X10_duty l G mem g (xs ((4 * i) + 1))) wd_862 ob_154 rfl ⟨Nat.le_of_ble_eq_true rfl, Nat.le_of_ble_eq_true rfl⟩ ⟨rfl, rfl⟩ rfl (Nat.le_of_ble_eq_true rfl) dL_law_501 (rfl) (rfl) ?_
  refine g_icmp_eq_t C 875 (rfl) dL_law_504 (by decide) ?_
  exact kk (T) (mem) (by omega) (hI)

set_option maxRecDepth 100000 in
set_option maxHeartbeats 4000000 in
theorem law_12 {p : Program} {l : Launch} {e : Env} {s : State} {m : MethodId} {args : Array Value} {below : List Frame} {meth : Method} {c : Code} {Q : State → Prop} {G : gG} {b N mc ms : Nat} {xs : Nat → Int32} {rt : Option FieldType} (C : gC G RL cL_law rt 8 p room_1 s m args meth c mc ms) (hN : N ≤ 2048) (X : sX G b N xs s) {i T : Nat} {mem : gM} (hi : 4 * i + 4 ≤ N) (hT : T ≤ 200 * i) (hI : INV T mem) (kk : ∀ (T2 : Nat) (u : gM), T2 ≤ T + 200 → INV T2 u → gV p l e room_1 s m args below meth c mc ms Q G 8 u 875 [(0, .ref b), (1, .ref (gad G 0)), (2, .ref (gad G 154)), (3, .int (nI (4 * i)))] []) : gV p l e room_1 s m args below meth c mc ms Q G 8 mem 509 [(0, .ref b), (1, .ref (gad G 0)), (2, .ref (gad G 154)), (3, .int (nI (4 * i)))] [] := by
  obtain ⟨Vs, h, o, tx, tl, r, g, hx, hh, h4, hpa, tX, tM⟩ := id hI
  refine g_aload_n C 1 dL_law_509 rfl ?_
  refine g_aload_n C 0 dL_law_510 rfl ?_
  refine g_iload_n C 3 dL_law_511 rfl ?_
  refine g_iconst C (nI 1) dL_law_512 (by decide) ?_
  refine g_iadd_n C (d := (4 * i) + 1) dL_law_513 rfl ?_
  refine g_sld C X (j := (4 * i) + 1) (by omega) (by omega) dL_law_514 ?_
  refine g_aload_n C 0 dL_law_515 rfl ?_
  refine g_iload_n C 3 dL_law_516 rfl ?_
  refine g_iconst C (nI 2) dL_law_517 (by decide) ?_
  refine g_iadd_n C (d := (4 * i) + 2) dL_law_518 rfl ?_
  refine g_sld C X (j := (4 * i) + 2) (by omega) (by omega) dL_law_519 ?_
  refine g_cVf C (As := [.int (xs ((4 * i) + 1)), .int (xs ((4 * i) + 2))]) (v := .int (leftR (mem 155) (xs ((4 * i) + 1)) (xs ((4 * i) + 2)))) iX9_ifLeft (c_X9_ifLeft l G g mem r (xs ((4 * i) + 1)) (xs ((4 * i) + 2))) wd_508 ob_0 rfl ⟨Nat.le_of_ble_eq_true rfl, Nat.le_of_ble_eq_true rfl⟩ ⟨rfl, rfl⟩ rfl (Nat.le_of_ble_eq_true rfl) dL_law_520 (fun u1 hq => ?_)
  have xx := xp_fr r hx hq
  have g1 : Good T (u1 155) := by rw [xx.2.2 155 (by decide)]; exact g
  have f155 := xx.2.2 155 (by decide)
  refine g_aload_n C 2 dL_law_523 rfl ?_
  refine g_aload_n C 0 dL_law_524 rfl ?_
  refine g_iload_n C 3 dL_law_525 rfl ?_
  refine g_iconst C (nI 1) dL_law_526 (by decide) ?_
  refine g_iadd_n C (d := (4 * i) + 1) dL_law_527 rfl ?_
  refine g_sld C X (j := (4 * i) + 1) (by omega) (by omega) dL_law_528 ?_
  refine g_aload_n C 0 dL_law_529 rfl ?_
  refine g_iload_n C 3 dL_law_530 rfl ?_
  refine g_iconst C (nI 2) dL_law_531 (by decide) ?_
  refine g_iadd_n C (d := (4 * i) + 2) dL_law_532 rfl ?_
  refine g_sld C X (j := (4 * i) + 2) (by omega) (by omega) dL_law_533 ?_
  refine g_cVf C (As := [.int (xs ((4 * i) + 1)), .int (xs ((4 * i) + 2))]) (v := .int (leftR (mem 155) (xs ((4 * i) + 1)) (xs ((4 * i) + 2)))) iX10_ifLeft ((f155 ▸ c_X10_ifLeft l G u1 g1 (xs ((4 * i) + 1)) (xs ((4 * i) + 2)))) wd_866 ob_154 rfl ⟨Nat.le_of_ble_eq_true rfl, Nat.le_of_ble_eq_true rfl⟩ ⟨rfl, rfl⟩ rfl (Nat.le_of_ble_eq_true rfl) dL_law_534 (fun u2 hq => ?_)
  have hmn := hq
  refine g_icmp_eq_t C 875 (rfl) dL_law_537 (by decide) ?_
  exact kk (T) (u2) (by omega) (inv_same (o := 0) h4 g hh hpa tX tM xx hmn)

set_option maxRecDepth 100000 in
set_option maxHeartbeats 4000000 in
theorem law_13 {p : Program} {l : Launch} {e : Env} {s : State} {m : MethodId} {args : Array Value} {below : List Frame} {meth : Method} {c : Code} {Q : State → Prop} {G : gG} {b N mc ms : Nat} {xs : Nat → Int32} {rt : Option FieldType} (C : gC G RL cL_law rt 8 p room_1 s m args meth c mc ms) (hN : N ≤ 2048) (X : sX G b N xs s) {i T : Nat} {mem : gM} (hi : 4 * i + 4 ≤ N) (hT : T ≤ 200 * i) (hI : INV T mem) (kk : ∀ (T2 : Nat) (u : gM), T2 ≤ T + 200 → INV T2 u → gV p l e room_1 s m args below meth c mc ms Q G 8 u 875 [(0, .ref b), (1, .ref (gad G 0)), (2, .ref (gad G 154)), (3, .int (nI (4 * i)))] []) : gV p l e room_1 s m args below meth c mc ms Q G 8 mem 542 [(0, .ref b), (1, .ref (gad G 0)), (2, .ref (gad G 154)), (3, .int (nI (4 * i)))] [] := by
  obtain ⟨Vs, h, o, tx, tl, r, g, hx, hh, h4, hpa, tX, tM⟩ := id hI
  refine g_aload_n C 1 dL_law_542 rfl ?_
  refine g_aload_n C 0 dL_law_543 rfl ?_
  refine g_iload_n C 3 dL_law_544 rfl ?_
  refine g_iconst C (nI 1) dL_law_545 (by decide) ?_
  refine g_iadd_n C (d := (4 * i) + 1) dL_law_546 rfl ?_
  refine g_sld C X (j := (4 * i) + 1) (by omega) (by omega) dL_law_547 ?_
  refine g_aload_n C 0 dL_law_548 rfl ?_
  refine g_iload_n C 3 dL_law_549 rfl ?_
  refine g_iconst C (nI 2) dL_law_550 (by decide) ?_
  refine g_iadd_n C (d := (4 * i) + 2) dL_law_551 rfl ?_
  refine g_sld C X (j := (4 * i) + 2) (by omega) (by omega) dL_law_552 ?_
  refine g_cVr C (As := [.int (xs ((4 * i) + 1)), .int (xs ((4 * i) + 2))]) iX9_lose (c_X9_lose l G g mem r hx  (xs ((4 * i) + 1)) (xs ((4 * i) + 2))) wd_512 ob_0 rfl ⟨Nat.le_of_ble_eq_true rfl, Nat.le_of_ble_eq_true rfl⟩ ⟨rfl, rfl⟩ rfl (Nat.le_of_ble_eq_true rfl) dL_law_553 (fun r1 u1 hq => ?_)
  have ax := hq
  obtain ⟨f154, f155, f158⟩ := ax_3 ax
  have g1 : Good T (u1 155) := by rw [f155]; exact g
  have h1 : u1 154 2 = nI h := by rw [f154]; exact hh
  refine g_aload_n C 2 dL_law_556 rfl ?_
  refine g_aload_n C 0 dL_law_557 rfl ?_
  refine g_iload_n C 3 dL_law_558 rfl ?_
  refine g_iconst C (nI 1) dL_law_559 (by decide) ?_
  refine g_iadd_n C (d := (4 * i) + 1) dL_law_560 rfl ?_
  refine g_sld C X (j := (4 * i) + 1) (by omega) (by omega) dL_law_561 ?_
  refine g_aload_n C 0 dL_law_562 rfl ?_
  refine g_iload_n C 3 dL_law_563 rfl ?_
  refine g_iconst C (nI 2) dL_law_564 (by decide) ?_
  refine g_iadd_n C (d := (4 * i) + 2) dL_law_565 rfl ?_
  refine g_sld C X (j := (4 * i) + 2) (by omega) (by omega) dL_law_566 ?_
  refine g_cVr C (As := [.int (xs ((4 * i) + 1)), .int (xs ((4 * i) + 2))]) iX10_lose (c_X10_lose l G u1 g1 h1 h4  (xs ((4 * i) + 1)) (xs ((4 * i) + 2))) wd_870 ob_154 rfl ⟨Nat.le_of_ble_eq_true rfl, Nat.le_of_ble_eq_true rfl⟩ ⟨rfl, rfl⟩ rfl (Nat.le_of_ble_eq_true rfl) dL_law_567 (fun r2 u2 hq => ?_)
  rw [f155] at hq
  have hst := step_act (T2 := T) g hh h4 hpa tX tM ax hq (fun hok => good_lss g hok) (by omega)
  refine g_icmp_eq_t C 875 (hst.1) dL_law_570 (by decide) ?_
  exact kk (T) (u2) (by omega) (hst.2)
