/-! what the law's agrees looks at -/
def seF (V : Nat → Int32) : Nat → Int32
  | 0 => nI 0
  | r + 1 => seF V r ||| bit (vL V r)
theorem se_hs {V : Nat → Int32} {m : Nat} (hm : m < 32) : ∀ {r : Nat}, (∀ q, q < r → vL V q < 32) → (hs (seF V r) m ↔ ∃ q, q < r ∧ vL V q = m)
  | 0, _ => by
    unfold seF
    rw [hs_bt hm]
    refine ⟨fun z => ?_, fun ⟨q, h, _⟩ => absurd h (Nat.not_lt_zero q)⟩
    rw [show (nI 0 : Int32) = 0 from rfl, b_0] at z
    cases z
  | r + 1, h => by
    unfold seF
    rw [hs_or (h r (Nat.lt_succ_self r)) hm, se_hs hm fun q hq => h q (Nat.lt_succ_of_lt hq)]
    refine ⟨fun z => ?_, fun ⟨q, h1, h2⟩ => ?_⟩
    · rcases z with ⟨q, h1, h2⟩ | z
      · exact ⟨q, Nat.lt_succ_of_lt h1, h2⟩
      · exact ⟨r, Nat.lt_succ_self r, z.symm⟩
    · by_cases e : q = r
      · exact Or.inr (by rw [← h2, e])
      · exact Or.inl ⟨q, by omega, h2⟩
section AGR
variable {T : Nat} {V : Nat → Int32}
theorem vl32 (g : Good T V) : ∀ q, q < vZ V → vL V q < 32 := fun q hq => by
  have := (gd_l g hq).2.1
  have := gd_n10 g
  omega
theorem se_new (g : Good T V) {i : Nat} (hi : i < vZ V) : ¬ hs (seF V i) (vL V i) := fun z => by
  obtain ⟨q, h1, h2⟩ := (se_hs (vl32 g i hi) fun q hq => vl32 g q (by omega)).mp z
  have := gd_linj g (by omega) hi h2
  omega
theorem rk_in (g : Good T V) {m : Nat} (hm : m < vN V) (h : ¬ V (34 + 12 * m) = kNone) : hs (seF V (vZ V)) m := by
  have n10 := gd_n10 g
  refine (se_hs (by omega) (vl32 g)).mpr ?_
  refine Classical.byContradiction fun z => h (gd_none g hm fun r hr e => z ⟨r, hr, e⟩)
theorem rk_out (g : Good T V) {m : Nat} (hm : m < vN V) (h : V (34 + 12 * m) = kNone) : ¬ hs (seF V (vZ V)) m := fun z => by
  have n10 := gd_n10 g
  obtain ⟨q, h1, h2⟩ := (se_hs (by omega) (vl32 g)).mp z
  have e := (gd_l g h1).2.2
  rw [h2, h] at e
  have := (gd_z g).2
  exact nN_ne (f := q) (by omega) e.symm
theorem nhs_0 {x : Int32} {m : Nat} (hm : m < 32) (h : ¬ hs x m) : (x >>> (nI m &&& 31)) &&& nI 1 = 0 := by
  rw [sh1_eq hm, (nhs_bt hm).mp h]; rfl
theorem hs_1 {x : Int32} {m : Nat} (h : hs x m) : ¬ (x >>> (nI m &&& 31)) &&& nI 1 = 0 := fun z => absurd (h.symm.trans z) (by decide)
theorem mem_n (g : Good T V) {m w i : Nat} (hm : m < vN V) (hw : w < 9 ∧ w ≠ 5) (h : 30 + 12 * m + w = i) : memberR V (nI m) (nI w) = V i := by
  rw [member_n g hm hw.1, mbR, if_neg hw.2, h]
theorem mem_5 (g : Good T V) {m : Nat} (hm : m < vN V) : memberR V (nI m) (nI 5) = nI (fa_cnt (fun q => vLo V q m) 200) := member_n g hm (by decide)
theorem lost_n (g : Good T V) {m b : Nat} (hm : m < vN V) (hb : b < 200) : lostR V (nI m) (nI b) = if vLo V b m = true then nI 1 else nI 0 := by
  have n10 := gd_n10 g
  rw [lostR, if_pos ⟨memP_of g hm, blkP_of hb⟩, toN_nI (by omega), toN_nI (by omega)]
theorem cnt_lo {m bb : Nat} : nI (fa_cnt (fun q => vLo V q m) bb) + (if vLo V bb m = true then nI 1 else nI 0) = nI (fa_cnt (fun q => vLo V q m) (bb + 1)) := cnt_add (p := fun q => vLo V q m)
theorem stg_nn {x : Int32} (h : stgP x) : ¬ x < 0 := by rcases h with rfl | rfl | rfl | rfl <;> decide
theorem stg_3 {x : Int32} (h : stgP x) : ¬ nI 3 < x := by rcases h with rfl | rfl | rfl | rfl <;> decide
theorem seed_z (h : V 6 = 0) : lg_cmp (seedR V) (-4611686018427387905 : Int64) = 0 := by rw [seedR, if_pos h]; exact lg_self _
theorem i64_ne (x : Int32) : ¬ x.toInt64 = (-4611686018427387905 : Int64) := fun z => by
  have h := congrArg Int64.toInt z
  rw [Int32.toInt_toInt64] at h
  have h1 := Int32.le_toInt x
  have e : (-4611686018427387905 : Int64).toInt = -4611686018427387905 := by decide
  omega
theorem lg_ne {x y : Int64} (h : ¬ x = y) : ¬ lg_cmp x y = 0 := by
  unfold lg_cmp
  by_cases q : x > y
  · rw [if_pos q]; decide
  · rw [if_neg q, if_neg h]; decide
theorem seed_nz (h : ¬ V 6 = 0) : ¬ lg_cmp (seedR V) (-4611686018427387905 : Int64) = 0 := by rw [seedR, if_neg h]; exact lg_ne (i64_ne _)
theorem ex_z (g : Good T V) (x : Ex T V) (hT : T < 2 ^ 20) : V 6 = 0 ↔ nI (vZ V) = 0 := by
  have n10 := gd_n10 g
  have hz := (gd_z g).2
  obtain ⟨⟨x1, x2, x3⟩, -⟩ := x
  rw [show (nI (vZ V) = 0 ↔ vZ V = 0) from nI_iff (b := 0) (by omega) (by decide), ← x3, x1, toN_nI (by omega)]
  exact nI_iff (b := 0) (by omega) (by decide)
end AGR

theorem duty_out {T : Nat} {V : Nat → Int32} (g : Good T V) {i : Nat} (h : vZ V ≤ i) (h2 : i < 2 ^ 31) : dutyR V (nI i) = kNone := by
  have n10 := gd_n10 g
  have hz := (gd_z g).2
  rw [dutyR, if_neg (nI_pos h2), if_neg (nI_nlt h h2)]

def rm_L_agrees : Room := { frames := 3, cells := 0, slots := 0, locals := 66 }
theorem iL_agrees : gIs yL_agrees cL_agrees 8 (some .boolean) 2 := ⟨⟨wd_655, wd_3, by decide +kernel, by decide +kernel, by decide +kernel⟩, wd_654⟩
set_option maxRecDepth 100000 in
set_option maxHeartbeats 4000000 in
theorem c_L_agrees (l : Launch) (G : gG) {T : Nat} {V : Nat → Int32} {Vs : Nat → Nat → Int32} {h : Nat} {A B : Nat → Int32} (g : Good T V) (mem : gM) (L : kLS T V Vs h A B mem) (hT : T < 2 ^ 20) (x : Ex T V) : gMet l yL_agrees cL_agrees 8 (some .boolean) rm_L_agrees G [.ref (gad G 0), .int (nI (vN V))] mem (fun a u => a = some (.int (nI 1)) ∧ u = mem) := by
  refine g_of (own := RL) (L0 := [(0, .ref (gad G 0)), (1, .int (nI (vN V)))]) (by decide +kernel) rfl (Nat.le_of_ble_eq_true rfl) rfl ?_
  intro p e s m args below meth c C Q hQ
  have hn10 := gd_n10 g
  have hzn := (gd_z g).2
  refine g_iconst C (nI 0) dL_agrees_0 (by decide) ?_
  refine g_istore_n C (L2 := [(2, .int (nI 0)), (0, .ref (gad G 0)), (1, .int (nI (vN V)))]) dL_agrees_1 (by decide) rfl ?_
  refine g_iconst C (nI 0) dL_agrees_2 (by decide) ?_
  refine g_istore_n C (L2 := [(3, .int (nI 0)), (2, .int (nI 0)), (0, .ref (gad G 0)), (1, .int (nI (vN V)))]) dL_agrees_3 (by decide) rfl ?_
  refine g_iconst C (nI 0) dL_agrees_4 (by decide) ?_
  refine g_istore C (L2 := [(4, .int (nI 0)), (3, .int (nI 0)), (2, .int (nI 0)), (0, .ref (gad G 0)), (1, .int (nI (vN V)))]) dL_agrees_5 (by decide) rfl ?_
  have lp_7 : ∀ (fu : Nat) (i : Nat), (i ≤ vZ V) → vZ V - i < fu → gV p l e rm_L_agrees s m args below meth c 0 0 Q G 8 mem 7 [(0, .ref (gad G 0)), (1, .int (nI (vN V))), (2, .int (seF V i)), (3, .int (nI i)), (4, .int (nI i))] [] := by
    intro fu
    induction fu with
    | zero => intro i _ hfu; exact absurd hfu (Nat.not_lt_zero _)
    | succ fu ih_7 =>
      intro i hi hfu_7
      refine g_aload_n C 0 dL_agrees_7 rfl ?_
      rcases Nat.lt_or_ge i (vZ V) with hi2 | hi2
      · refine g_iload C 4 dL_agrees_8 rfl ?_
        refine g_cV1 C (As := [.int (nI i)]) (w := .int (nI (vL V i))) (mem3 := mem) iX9_duty (c_X9_duty l G g mem L.1 (nI i)) wd_471 ob_0 rfl ⟨Nat.le_of_ble_eq_true rfl, Nat.le_of_ble_eq_true rfl⟩ ⟨rfl, rfl⟩ rfl (Nat.le_of_ble_eq_true rfl) dL_agrees_10 (congrArg Value.int ((duty_n g hi2).trans (gd_l g hi2).1)) (rfl) ?_
        refine g_if_lt_f C 64 (nI_pos (by have := vl32 g i hi2; omega)) dL_agrees_13 (by decide) ?_
        refine g_aload_n C 0 dL_agrees_16 rfl ?_
        refine g_iload C 4 dL_agrees_17 rfl ?_
        refine g_cV1 C (As := [.int (nI i)]) (w := .int (nI (vL V i))) (mem3 := mem) iX9_duty (c_X9_duty l G g mem L.1 (nI i)) wd_471 ob_0 rfl ⟨Nat.le_of_ble_eq_true rfl, Nat.le_of_ble_eq_true rfl⟩ ⟨rfl, rfl⟩ rfl (Nat.le_of_ble_eq_true rfl) dL_agrees_19 (congrArg Value.int ((duty_n g hi2).trans (gd_l g hi2).1)) (rfl) ?_
        refine g_istore C (L2 := [(5, .int (nI (vL V i))), (0, .ref (gad G 0)), (1, .int (nI (vN V))), (2, .int (seF V i)), (3, .int (nI i)), (4, .int (nI i))]) dL_agrees_22 (by decide) rfl ?_
        refine g_iload_n C 3 dL_agrees_24 rfl ?_
        refine g_iload C 0 dL_agrees_25 rfl ?_
        refine g_ishr C dL_agrees_27 ?_
        refine g_iconst C (nI 1) dL_agrees_28 (by decide) ?_
        refine g_iand C dL_agrees_29 ?_
        refine g_iconst C (nI 1) dL_agrees_30 (by decide) ?_
        refine g_icmp_eq_f C 46 (se_new g hi2) dL_agrees_31 (by decide) ?_
        refine g_aload_n C 1 dL_agrees_34 rfl ?_
        refine g_iload C 0 dL_agrees_35 rfl ?_
        refine g_iconst C (nI 4) dL_agrees_37 (by decide) ?_
        refine g_cV1 C (As := [.int (nI (vL V i)), .int (nI 4)]) (w := .int (nI i)) (mem3 := mem) iX9_member (c_X9_member l G g mem L.1 (nI (vL V i)) (nI 4)) wd_364 ob_0 rfl ⟨Nat.le_of_ble_eq_true rfl, Nat.le_of_ble_eq_true rfl⟩ ⟨rfl, rfl⟩ rfl (Nat.le_of_ble_eq_true rfl) dL_agrees_38 (congrArg Value.int ((mem_n g (gd_l g hi2).2.1 (w := 4) (by decide) (by omega)).trans (gd_l g hi2).2.2)) (rfl) ?_
        refine g_iload C 5 dL_agrees_41 rfl ?_
        refine g_icmp_eq_t C 48 (rfl) dL_agrees_43 (by decide) ?_
        refine g_iload_n C 3 dL_agrees_48 rfl ?_
        refine g_iconst C (nI 1) dL_agrees_49 (by decide) ?_
        refine g_iload C 0 dL_agrees_50 rfl ?_
        refine g_ishl C dL_agrees_52 ?_
        refine g_ior C dL_agrees_53 ?_
        refine g_top (y := seF V (i + 1)) (rfl) ?_
        refine g_istore_n C (L2 := [(2, .int (seF V (i + 1))), (5, .int (nI (vL V i))), (0, .ref (gad G 0)), (1, .int (nI (vN V))), (3, .int (nI i)), (4, .int (nI i))]) dL_agrees_54 (by decide) rfl ?_
        refine g_iinc C (v := nI (i + 1)) (L2 := [(3, .int (nI (i + 1))), (2, .int (seF V (i + 1))), (5, .int (nI (vL V i))), (0, .ref (gad G 0)), (1, .int (nI (vN V))), (4, .int (nI i))]) 4 dL_agrees_55 rfl (nI_1 _) (by decide) rfl ?_
        refine g_iinc C (v := nI (i + 1)) (L2 := [(4, .int (nI (i + 1))), (3, .int (nI (i + 1))), (2, .int (seF V (i + 1))), (5, .int (nI (vL V i))), (0, .ref (gad G 0)), (1, .int (nI (vN V)))]) 5 dL_agrees_58 rfl (nI_1 _) (by decide) rfl ?_
        refine g_goto C 7 dL_agrees_61 (by decide) ?_
        refine g_loc (L2 := [(0, .ref (gad G 0)), (1, .int (nI (vN V))), (2, .int (seF V (i + 1))), (3, .int (nI (i + 1))), (4, .int (nI (i + 1)))]) [4, 5, 2, 1, 0] rfl ?_
        exact g_eq (ih_7 (i + 1) (hi2) (by omega)) (rfl) (rfl) rfl
      · refine g_iload C 4 dL_agrees_8 rfl ?_
        refine g_cV1 C (As := [.int (nI i)]) (w := .int kNone) (mem3 := mem) iX9_duty (c_X9_duty l G g mem L.1 (nI i)) wd_471 ob_0 rfl ⟨Nat.le_of_ble_eq_true rfl, Nat.le_of_ble_eq_true rfl⟩ ⟨rfl, rfl⟩ rfl (Nat.le_of_ble_eq_true rfl) dL_agrees_10 (congrArg Value.int (duty_out g (by omega) (by omega))) (rfl) ?_
        refine g_if_lt_t C 64 (by decide) dL_agrees_13 (by decide) ?_
        have hin : i = vZ V := by omega
        rw [hin]
        refine g_iconst C (nI 0) dL_agrees_64 (by decide) ?_
        refine g_istore C (L2 := [(4, .int (nI 0)), (0, .ref (gad G 0)), (1, .int (nI (vN V))), (2, .int (seF V (vZ V))), (3, .int (nI (vZ V)))]) dL_agrees_65 (by decide) rfl ?_
        refine g_iconst C (nI 0) dL_agrees_67 (by decide) ?_
        refine g_istore C (L2 := [(5, .int (nI 0)), (4, .int (nI 0)), (0, .ref (gad G 0)), (1, .int (nI (vN V))), (2, .int (seF V (vZ V))), (3, .int (nI (vZ V)))]) dL_agrees_68 (by decide) rfl ?_
        have lp_70 : ∀ (fu : Nat) (m1 : Nat), (m1 ≤ vN V) → vN V - m1 < fu → gV p l e rm_L_agrees s m args below meth c 0 0 Q G 8 mem 70 [(0, .ref (gad G 0)), (1, .int (nI (vN V))), (2, .int (seF V (vZ V))), (3, .int (nI (vZ V))), (4, .int (sumI (fun q => V (36 + 12 * q)) m1)), (5, .int (nI m1))] [] := by
          intro fu
          induction fu with
          | zero => intro m1 _ hfu; exact absurd hfu (Nat.not_lt_zero _)
          | succ fu ih_70 =>
            intro m1 hm hfu_70
            refine g_iload C 5 dL_agrees_70 rfl ?_
            refine g_iload_n C 1 dL_agrees_72 rfl ?_
            refine g_icmp_ge C 210 dL_agrees_73 (by decide) (fun c_73 => ?_) (fun c_73 => ?_)
            · have hin : m1 = vN V := by have q := (nI_leI (a := vN V) (b := m1) (by omega) (by omega)).mp c_73; omega
              rw [hin]
              refine g_iload_n C 3 dL_agrees_210 rfl ?_
              refine g_iload_n C 1 dL_agrees_211 rfl ?_
              refine g_icmp_gt_f C 289 (nI_nlt (by omega) (by omega)) dL_agrees_212 (by decide) ?_
              refine g_iload C 4 dL_agrees_215 rfl ?_
              refine g_aload_n C 0 dL_agrees_217 rfl ?_
              refine g_bipush C (nI 7) dL_agrees_218 (by decide) ?_
              refine g_cV1 C (As := [.int (nI 7)]) (w := .int (V 7)) (mem3 := mem) iX9_about (c_X9_about l G g mem L.1 (nI 7)) wd_401 ob_0 rfl ⟨Nat.le_of_ble_eq_true rfl, Nat.le_of_ble_eq_true rfl⟩ ⟨rfl, rfl⟩ rfl (Nat.le_of_ble_eq_true rfl) dL_agrees_220 (congrArg Value.int (about_n (by decide))) (rfl) ?_
              refine g_icmp_ne_f C 289 (x.2.2.2) dL_agrees_223 (by decide) ?_
              refine g_aload_n C 0 dL_agrees_226 rfl ?_
              refine g_bipush C (nI 6) dL_agrees_227 (by decide) ?_
              refine g_cV1 C (As := [.int (nI 6)]) (w := .int (V 6)) (mem3 := mem) iX9_about (c_X9_about l G g mem L.1 (nI 6)) wd_401 ob_0 rfl ⟨Nat.le_of_ble_eq_true rfl, Nat.le_of_ble_eq_true rfl⟩ ⟨rfl, rfl⟩ rfl (Nat.le_of_ble_eq_true rfl) dL_agrees_229 (congrArg Value.int (about_n (by decide))) (rfl) ?_
              refine g_if_ne C 239 dL_agrees_232 (by decide) (fun c_232 => ?_) (fun c_232 => ?_)
              · refine g_iconst C (nI 0) dL_agrees_239 (by decide) ?_
                refine g_iload_n C 3 dL_agrees_240 rfl ?_
                refine g_if_ne_t C 248 (fun q => c_232 ((ex_z g x hT).mpr q)) dL_agrees_241 (by decide) ?_
                refine g_iconst C (nI 0) dL_agrees_248 (by decide) ?_
                refine g_icmp_ne_f C 289 (by decide) dL_agrees_249 (by decide) ?_
                refine g_aload_n C 0 dL_agrees_252 rfl ?_
                refine g_cV1 C (As := []) (w := .long (seedR V)) (mem3 := mem) iX9_seed (c_X9_seed l G g mem L.1) wd_656 ob_0 rfl ⟨Nat.le_of_ble_eq_true rfl, Nat.le_of_ble_eq_true rfl⟩ ⟨rfl, rfl⟩ rfl (Nat.le_of_ble_eq_true rfl) dL_agrees_253 (rfl) (rfl) ?_
                refine g_ldc2 C wd_657 dL_agrees_256 ?_
                refine g_lcmp C dL_agrees_259 ?_
                refine g_if_ne_t C 267 (seed_nz c_232) dL_agrees_260 (by decide) ?_
                refine g_iconst C (nI 0) dL_agrees_267 (by decide) ?_
                refine g_aload_n C 0 dL_agrees_268 rfl ?_
                refine g_bipush C (nI 6) dL_agrees_269 (by decide) ?_
                refine g_cV1 C (As := [.int (nI 6)]) (w := .int (V 6)) (mem3 := mem) iX9_about (c_X9_about l G g mem L.1 (nI 6)) wd_401 ob_0 rfl ⟨Nat.le_of_ble_eq_true rfl, Nat.le_of_ble_eq_true rfl⟩ ⟨rfl, rfl⟩ rfl (Nat.le_of_ble_eq_true rfl) dL_agrees_271 (congrArg Value.int (about_n (by decide))) (rfl) ?_
                refine g_if_ne_t C 281 (c_232) dL_agrees_274 (by decide) ?_
                refine g_iconst C (nI 0) dL_agrees_281 (by decide) ?_
                refine g_icmp_ne_f C 289 (by decide) dL_agrees_282 (by decide) ?_
                refine g_iconst C (nI 1) dL_agrees_285 (by decide) ?_
                refine g_goto C 290 dL_agrees_286 (by decide) ?_
                refine g_zret C hQ rfl (Or.inr rfl) dL_agrees_290 ?_
                exact ⟨rfl, rfl⟩
              · refine g_iconst C (nI 1) dL_agrees_235 (by decide) ?_
                refine g_goto C 240 dL_agrees_236 (by decide) ?_
                refine g_iload_n C 3 dL_agrees_240 rfl ?_
                refine g_if_ne_f C 248 ((ex_z g x hT).mp c_232) dL_agrees_241 (by decide) ?_
                refine g_iconst C (nI 1) dL_agrees_244 (by decide) ?_
                refine g_goto C 249 dL_agrees_245 (by decide) ?_
                refine g_icmp_ne_f C 289 (by decide) dL_agrees_249 (by decide) ?_
                refine g_aload_n C 0 dL_agrees_252 rfl ?_
                refine g_cV1 C (As := []) (w := .long (seedR V)) (mem3 := mem) iX9_seed (c_X9_seed l G g mem L.1) wd_656 ob_0 rfl ⟨Nat.le_of_ble_eq_true rfl, Nat.le_of_ble_eq_true rfl⟩ ⟨rfl, rfl⟩ rfl (Nat.le_of_ble_eq_true rfl) dL_agrees_253 (rfl) (rfl) ?_
                refine g_ldc2 C wd_657 dL_agrees_256 ?_
                refine g_lcmp C dL_agrees_259 ?_
                refine g_if_ne_f C 267 (seed_z c_232) dL_agrees_260 (by decide) ?_
                refine g_iconst C (nI 1) dL_agrees_263 (by decide) ?_
                refine g_goto C 268 dL_agrees_264 (by decide) ?_
                refine g_aload_n C 0 dL_agrees_268 rfl ?_
                refine g_bipush C (nI 6) dL_agrees_269 (by decide) ?_
                refine g_cV1 C (As := [.int (nI 6)]) (w := .int (V 6)) (mem3 := mem) iX9_about (c_X9_about l G g mem L.1 (nI 6)) wd_401 ob_0 rfl ⟨Nat.le_of_ble_eq_true rfl, Nat.le_of_ble_eq_true rfl⟩ ⟨rfl, rfl⟩ rfl (Nat.le_of_ble_eq_true rfl) dL_agrees_271 (congrArg Value.int (about_n (by decide))) (rfl) ?_
                refine g_if_ne_f C 281 (c_232) dL_agrees_274 (by decide) ?_
                refine g_iconst C (nI 1) dL_agrees_277 (by decide) ?_
                refine g_goto C 282 dL_agrees_278 (by decide) ?_
                refine g_icmp_ne_f C 289 (by decide) dL_agrees_282 (by decide) ?_
                refine g_iconst C (nI 1) dL_agrees_285 (by decide) ?_
                refine g_goto C 290 dL_agrees_286 (by decide) ?_
                refine g_zret C hQ rfl (Or.inr rfl) dL_agrees_290 ?_
                exact ⟨rfl, rfl⟩
            · have hm2 : m1 < vN V := by have q := mt (nI_leI (a := vN V) (b := m1) (by omega) (by omega)).mpr c_73; omega
              refine g_iconst C (nI 0) dL_agrees_76 (by decide) ?_
              refine g_istore C (L2 := [(6, .int (nI 0)), (0, .ref (gad G 0)), (1, .int (nI (vN V))), (2, .int (seF V (vZ V))), (3, .int (nI (vZ V))), (4, .int (sumI (fun q => V (36 + 12 * q)) m1)), (5, .int (nI m1))]) dL_agrees_77 (by decide) rfl ?_
              refine g_iconst C (nI 0) dL_agrees_79 (by decide) ?_
              refine g_istore C (L2 := [(7, .int (nI 0)), (6, .int (nI 0)), (0, .ref (gad G 0)), (1, .int (nI (vN V))), (2, .int (seF V (vZ V))), (3, .int (nI (vZ V))), (4, .int (sumI (fun q => V (36 + 12 * q)) m1)), (5, .int (nI m1))]) dL_agrees_80 (by decide) rfl ?_
              have lp_82 : ∀ (fu : Nat) (bb : Nat), (bb ≤ 200) → 200 - bb < fu → gV p l e rm_L_agrees s m args below meth c 0 0 Q G 8 mem 82 [(0, .ref (gad G 0)), (1, .int (nI (vN V))), (2, .int (seF V (vZ V))), (3, .int (nI (vZ V))), (4, .int (sumI (fun q => V (36 + 12 * q)) m1)), (5, .int (nI m1)), (6, .int (nI (fa_cnt (fun q => vLo V q m1) bb))), (7, .int (nI bb))] [] := by
                intro fu
                induction fu with
                | zero => intro bb _ hfu; exact absurd hfu (Nat.not_lt_zero _)
                | succ fu ih_82 =>
                  intro bb hb hfu_82
                  refine g_iload C 7 dL_agrees_82 rfl ?_
                  refine g_sipush C (nI 200) dL_agrees_84 (by decide) ?_
                  refine g_icmp_ge C 109 dL_agrees_87 (by decide) (fun c_87 => ?_) (fun c_87 => ?_)
                  · have hin3 : bb = 200 := by have q := (nI_leI (a := 200) (b := bb) (by omega) (by omega)).mp c_87; omega
                    rw [hin3]
                    refine g_iload C 4 dL_agrees_109 rfl ?_
                    refine g_aload_n C 0 dL_agrees_111 rfl ?_
                    refine g_iload C 5 dL_agrees_112 rfl ?_
                    refine g_bipush C (nI 6) dL_agrees_114 (by decide) ?_
                    refine g_cV1 C (As := [.int (nI m1), .int (nI 6)]) (w := .int (V (36 + 12 * m1))) (mem3 := mem) iX9_member (c_X9_member l G g mem L.1 (nI m1) (nI 6)) wd_364 ob_0 rfl ⟨Nat.le_of_ble_eq_true rfl, Nat.le_of_ble_eq_true rfl⟩ ⟨rfl, rfl⟩ rfl (Nat.le_of_ble_eq_true rfl) dL_agrees_116 (congrArg Value.int (mem_n g hm2 (w := 6) (by decide) (by omega))) (rfl) ?_
                    refine g_iadd C dL_agrees_119 ?_
                    refine g_top (y := sumI (fun q => V (36 + 12 * q)) (m1 + 1)) (rfl) ?_
                    refine g_istore C (L2 := [(4, .int (sumI (fun q => V (36 + 12 * q)) (m1 + 1))), (0, .ref (gad G 0)), (1, .int (nI (vN V))), (2, .int (seF V (vZ V))), (3, .int (nI (vZ V))), (5, .int (nI m1)), (6, .int (nI (fa_cnt (fun q => vLo V q m1) 200))), (7, .int (nI 200))]) dL_agrees_120 (by decide) rfl ?_
                    refine g_aload_n C 1 dL_agrees_122 rfl ?_
                    refine g_iload C 5 dL_agrees_123 rfl ?_
                    refine g_iconst C (nI 5) dL_agrees_125 (by decide) ?_
                    refine g_cV1 C (As := [.int (nI m1), .int (nI 5)]) (w := .int (nI (fa_cnt (fun q => vLo V q m1) 200))) (mem3 := mem) iX9_member (c_X9_member l G g mem L.1 (nI m1) (nI 5)) wd_364 ob_0 rfl ⟨Nat.le_of_ble_eq_true rfl, Nat.le_of_ble_eq_true rfl⟩ ⟨rfl, rfl⟩ rfl (Nat.le_of_ble_eq_true rfl) dL_agrees_126 (congrArg Value.int (mem_5 g hm2)) (rfl) ?_
                    refine g_iload C 6 dL_agrees_129 rfl ?_
                    refine g_icmp_ne_f C 202 (rfl) dL_agrees_131 (by decide) ?_
                    refine g_aload_n C 1 dL_agrees_134 rfl ?_
                    refine g_iload C 5 dL_agrees_135 rfl ?_
                    refine g_iconst C (nI 4) dL_agrees_137 (by decide) ?_
                    refine g_cV1 C (As := [.int (nI m1), .int (nI 4)]) (w := .int (V (34 + 12 * m1))) (mem3 := mem) iX9_member (c_X9_member l G g mem L.1 (nI m1) (nI 4)) wd_364 ob_0 rfl ⟨Nat.le_of_ble_eq_true rfl, Nat.le_of_ble_eq_true rfl⟩ ⟨rfl, rfl⟩ rfl (Nat.le_of_ble_eq_true rfl) dL_agrees_138 (congrArg Value.int (mem_n g hm2 (w := 4) (by decide) (by omega))) (rfl) ?_
                    refine g_ldc C wd_626 dL_agrees_141 ?_
                    refine g_icmp_ne C 150 dL_agrees_143 (by decide) (fun c_143 => ?_) (fun c_143 => ?_)
                    · refine g_iconst C (nI 0) dL_agrees_150 (by decide) ?_
                      refine g_iload_n C 3 dL_agrees_151 rfl ?_
                      refine g_iload C 5 dL_agrees_152 rfl ?_
                      refine g_ishr C dL_agrees_154 ?_
                      refine g_iconst C (nI 1) dL_agrees_155 (by decide) ?_
                      refine g_iand C dL_agrees_156 ?_
                      refine g_if_ne_t C 164 (hs_1 (rk_in g hm2 c_143)) dL_agrees_157 (by decide) ?_
                      refine g_iconst C (nI 0) dL_agrees_164 (by decide) ?_
                      refine g_icmp_ne_f C 202 (by decide) dL_agrees_165 (by decide) ?_
                      refine g_aload_n C 1 dL_agrees_168 rfl ?_
                      refine g_iload C 5 dL_agrees_169 rfl ?_
                      refine g_bipush C (nI 8) dL_agrees_171 (by decide) ?_
                      refine g_cV1 C (As := [.int (nI m1), .int (nI 8)]) (w := .int (V (38 + 12 * m1))) (mem3 := mem) iX9_member (c_X9_member l G g mem L.1 (nI m1) (nI 8)) wd_364 ob_0 rfl ⟨Nat.le_of_ble_eq_true rfl, Nat.le_of_ble_eq_true rfl⟩ ⟨rfl, rfl⟩ rfl (Nat.le_of_ble_eq_true rfl) dL_agrees_173 (congrArg Value.int (mem_n g hm2 (w := 8) (by decide) (by omega))) (rfl) ?_
                      refine g_if_lt_f C 202 (stg_nn (x.2.1 m1 hm2)) dL_agrees_176 (by decide) ?_
                      refine g_aload_n C 1 dL_agrees_179 rfl ?_
                      refine g_iload C 5 dL_agrees_180 rfl ?_
                      refine g_bipush C (nI 8) dL_agrees_182 (by decide) ?_
                      refine g_cV1 C (As := [.int (nI m1), .int (nI 8)]) (w := .int (V (38 + 12 * m1))) (mem3 := mem) iX9_member (c_X9_member l G g mem L.1 (nI m1) (nI 8)) wd_364 ob_0 rfl ⟨Nat.le_of_ble_eq_true rfl, Nat.le_of_ble_eq_true rfl⟩ ⟨rfl, rfl⟩ rfl (Nat.le_of_ble_eq_true rfl) dL_agrees_184 (congrArg Value.int (mem_n g hm2 (w := 8) (by decide) (by omega))) (rfl) ?_
                      refine g_iconst C (nI 3) dL_agrees_187 (by decide) ?_
                      refine g_icmp_gt_f C 202 (stg_3 (x.2.1 m1 hm2)) dL_agrees_188 (by decide) ?_
                      refine g_aload_n C 1 dL_agrees_191 rfl ?_
                      refine g_iload C 5 dL_agrees_192 rfl ?_
                      refine g_bipush C (nI 7) dL_agrees_194 (by decide) ?_
                      refine g_cV1 C (As := [.int (nI m1), .int (nI 7)]) (w := .int (V (37 + 12 * m1))) (mem3 := mem) iX9_member (c_X9_member l G g mem L.1 (nI m1) (nI 7)) wd_364 ob_0 rfl ⟨Nat.le_of_ble_eq_true rfl, Nat.le_of_ble_eq_true rfl⟩ ⟨rfl, rfl⟩ rfl (Nat.le_of_ble_eq_true rfl) dL_agrees_196 (congrArg Value.int (mem_n g hm2 (w := 7) (by decide) (by omega))) (rfl) ?_
                      refine g_if_ge_t C 204 (by rw [(x.2.2.1 m1 hm2).1]; exact nI_pos' (toN_lt _)) dL_agrees_199 (by decide) ?_
                      refine g_iinc C (v := nI (m1 + 1)) (L2 := [(5, .int (nI (m1 + 1))), (4, .int (sumI (fun q => V (36 + 12 * q)) (m1 + 1))), (0, .ref (gad G 0)), (1, .int (nI (vN V))), (2, .int (seF V (vZ V))), (3, .int (nI (vZ V))), (6, .int (nI (fa_cnt (fun q => vLo V q m1) 200))), (7, .int (nI 200))]) 5 dL_agrees_204 rfl (nI_1 _) (by decide) rfl ?_
                      refine g_goto C 70 dL_agrees_207 (by decide) ?_
                      refine g_loc (L2 := [(0, .ref (gad G 0)), (1, .int (nI (vN V))), (2, .int (seF V (vZ V))), (3, .int (nI (vZ V))), (4, .int (sumI (fun q => V (36 + 12 * q)) (m1 + 1))), (5, .int (nI (m1 + 1)))]) [2, 3, 4, 5, 1, 0] rfl ?_
                      exact g_eq (ih_70 (m1 + 1) (hm2) (by omega)) (rfl) (rfl) rfl
                    · refine g_iconst C (nI 1) dL_agrees_146 (by decide) ?_
                      refine g_goto C 151 dL_agrees_147 (by decide) ?_
                      refine g_iload_n C 3 dL_agrees_151 rfl ?_
                      refine g_iload C 5 dL_agrees_152 rfl ?_
                      refine g_ishr C dL_agrees_154 ?_
                      refine g_iconst C (nI 1) dL_agrees_155 (by decide) ?_
                      refine g_iand C dL_agrees_156 ?_
                      refine g_if_ne_f C 164 (nhs_0 (by omega) (rk_out g hm2 c_143)) dL_agrees_157 (by decide) ?_
                      refine g_iconst C (nI 1) dL_agrees_160 (by decide) ?_
                      refine g_goto C 165 dL_agrees_161 (by decide) ?_
                      refine g_icmp_ne_f C 202 (by decide) dL_agrees_165 (by decide) ?_
                      refine g_aload_n C 1 dL_agrees_168 rfl ?_
                      refine g_iload C 5 dL_agrees_169 rfl ?_
                      refine g_bipush C (nI 8) dL_agrees_171 (by decide) ?_
                      refine g_cV1 C (As := [.int (nI m1), .int (nI 8)]) (w := .int (V (38 + 12 * m1))) (mem3 := mem) iX9_member (c_X9_member l G g mem L.1 (nI m1) (nI 8)) wd_364 ob_0 rfl ⟨Nat.le_of_ble_eq_true rfl, Nat.le_of_ble_eq_true rfl⟩ ⟨rfl, rfl⟩ rfl (Nat.le_of_ble_eq_true rfl) dL_agrees_173 (congrArg Value.int (mem_n g hm2 (w := 8) (by decide) (by omega))) (rfl) ?_
                      refine g_if_lt_f C 202 (stg_nn (x.2.1 m1 hm2)) dL_agrees_176 (by decide) ?_
                      refine g_aload_n C 1 dL_agrees_179 rfl ?_
                      refine g_iload C 5 dL_agrees_180 rfl ?_
                      refine g_bipush C (nI 8) dL_agrees_182 (by decide) ?_
                      refine g_cV1 C (As := [.int (nI m1), .int (nI 8)]) (w := .int (V (38 + 12 * m1))) (mem3 := mem) iX9_member (c_X9_member l G g mem L.1 (nI m1) (nI 8)) wd_364 ob_0 rfl ⟨Nat.le_of_ble_eq_true rfl, Nat.le_of_ble_eq_true rfl⟩ ⟨rfl, rfl⟩ rfl (Nat.le_of_ble_eq_true rfl) dL_agrees_184 (congrArg Value.int (mem_n g hm2 (w := 8) (by decide) (by omega))) (rfl) ?_
                      refine g_iconst C (nI 3) dL_agrees_187 (by decide) ?_
                      refine g_icmp_gt_f C 202 (stg_3 (x.2.1 m1 hm2)) dL_agrees_188 (by decide) ?_
                      refine g_aload_n C 1 dL_agrees_191 rfl ?_
                      refine g_iload C 5 dL_agrees_192 rfl ?_
                      refine g_bipush C (nI 7) dL_agrees_194 (by decide) ?_
                      refine g_cV1 C (As := [.int (nI m1), .int (nI 7)]) (w := .int (V (37 + 12 * m1))) (mem3 := mem) iX9_member (c_X9_member l G g mem L.1 (nI m1) (nI 7)) wd_364 ob_0 rfl ⟨Nat.le_of_ble_eq_true rfl, Nat.le_of_ble_eq_true rfl⟩ ⟨rfl, rfl⟩ rfl (Nat.le_of_ble_eq_true rfl) dL_agrees_196 (congrArg Value.int (mem_n g hm2 (w := 7) (by decide) (by omega))) (rfl) ?_
                      refine g_if_ge_t C 204 (by rw [(x.2.2.1 m1 hm2).1]; exact nI_pos' (toN_lt _)) dL_agrees_199 (by decide) ?_
                      refine g_iinc C (v := nI (m1 + 1)) (L2 := [(5, .int (nI (m1 + 1))), (4, .int (sumI (fun q => V (36 + 12 * q)) (m1 + 1))), (0, .ref (gad G 0)), (1, .int (nI (vN V))), (2, .int (seF V (vZ V))), (3, .int (nI (vZ V))), (6, .int (nI (fa_cnt (fun q => vLo V q m1) 200))), (7, .int (nI 200))]) 5 dL_agrees_204 rfl (nI_1 _) (by decide) rfl ?_
                      refine g_goto C 70 dL_agrees_207 (by decide) ?_
                      refine g_loc (L2 := [(0, .ref (gad G 0)), (1, .int (nI (vN V))), (2, .int (seF V (vZ V))), (3, .int (nI (vZ V))), (4, .int (sumI (fun q => V (36 + 12 * q)) (m1 + 1))), (5, .int (nI (m1 + 1)))]) [2, 3, 4, 5, 1, 0] rfl ?_
                      exact g_eq (ih_70 (m1 + 1) (hm2) (by omega)) (rfl) (rfl) rfl
                  · have hb2 : bb < 200 := by have q := mt (nI_leI (a := 200) (b := bb) (by omega) (by omega)).mpr c_87; omega
                    refine g_iload C 6 dL_agrees_90 rfl ?_
                    refine g_aload_n C 0 dL_agrees_92 rfl ?_
                    refine g_iload C 5 dL_agrees_93 rfl ?_
                    refine g_iload C 7 dL_agrees_95 rfl ?_
                    refine g_cV1 C (As := [.int (nI m1), .int (nI bb)]) (w := .int (if vLo V bb m1 = true then nI 1 else nI 0)) (mem3 := mem) iX9_lost (c_X9_lost l G g mem L.1 (nI m1) (nI bb)) wd_486 ob_0 rfl ⟨Nat.le_of_ble_eq_true rfl, Nat.le_of_ble_eq_true rfl⟩ ⟨rfl, rfl⟩ rfl (Nat.le_of_ble_eq_true rfl) dL_agrees_97 (congrArg Value.int (lost_n g hm2 hb2)) (rfl) ?_
                    refine g_iadd C dL_agrees_100 ?_
                    refine g_top (y := nI (fa_cnt (fun q => vLo V q m1) (bb + 1))) (cnt_lo) ?_
                    refine g_istore C (L2 := [(6, .int (nI (fa_cnt (fun q => vLo V q m1) (bb + 1)))), (0, .ref (gad G 0)), (1, .int (nI (vN V))), (2, .int (seF V (vZ V))), (3, .int (nI (vZ V))), (4, .int (sumI (fun q => V (36 + 12 * q)) m1)), (5, .int (nI m1)), (7, .int (nI bb))]) dL_agrees_101 (by decide) rfl ?_
                    refine g_iinc C (v := nI (bb + 1)) (L2 := [(7, .int (nI (bb + 1))), (6, .int (nI (fa_cnt (fun q => vLo V q m1) (bb + 1)))), (0, .ref (gad G 0)), (1, .int (nI (vN V))), (2, .int (seF V (vZ V))), (3, .int (nI (vZ V))), (4, .int (sumI (fun q => V (36 + 12 * q)) m1)), (5, .int (nI m1))]) 7 dL_agrees_103 rfl (nI_1 _) (by decide) rfl ?_
                    refine g_goto C 82 dL_agrees_106 (by decide) ?_
                    refine g_loc (L2 := [(0, .ref (gad G 0)), (1, .int (nI (vN V))), (2, .int (seF V (vZ V))), (3, .int (nI (vZ V))), (4, .int (sumI (fun q => V (36 + 12 * q)) m1)), (5, .int (nI m1)), (6, .int (nI (fa_cnt (fun q => vLo V q m1) (bb + 1)))), (7, .int (nI (bb + 1)))]) [2, 3, 4, 5, 6, 7, 1, 0] rfl ?_
                    exact g_eq (ih_82 (bb + 1) (hb2) (by omega)) (rfl) (rfl) rfl
              refine g_loc (L2 := [(0, .ref (gad G 0)), (1, .int (nI (vN V))), (2, .int (seF V (vZ V))), (3, .int (nI (vZ V))), (4, .int (sumI (fun q => V (36 + 12 * q)) m1)), (5, .int (nI m1)), (6, .int (nI 0)), (7, .int (nI 0))]) [2, 3, 4, 5, 6, 7, 1, 0] rfl ?_
              exact g_eq (lp_82 (_ + 1) 0 (Nat.zero_le _) (Nat.lt_succ_self _)) (rfl) (gLc rfl (gLc rfl (gLc rfl (gLc rfl (gLc rfl (gLc rfl (gLc (congrArg Value.int (rfl)) (rfl)))))))) rfl
        refine g_loc (L2 := [(0, .ref (gad G 0)), (1, .int (nI (vN V))), (2, .int (seF V (vZ V))), (3, .int (nI (vZ V))), (4, .int (nI 0)), (5, .int (nI 0))]) [2, 3, 4, 5, 1, 0] rfl ?_
        exact g_eq (lp_70 (_ + 1) 0 (Nat.zero_le _) (Nat.lt_succ_self _)) (rfl) (gLc rfl (gLc rfl (gLc rfl (gLc rfl (gLc (congrArg Value.int (rfl)) (rfl)))))) rfl
  refine g_loc (L2 := [(0, .ref (gad G 0)), (1, .int (nI (vN V))), (2, .int (nI 0)), (3, .int (nI 0)), (4, .int (nI 0))]) [3, 4, 2, 1, 0] rfl ?_
  exact g_eq (lp_7 (_ + 1) 0 (Nat.zero_le _) (Nat.lt_succ_self _)) (rfl) (gLc rfl (gLc rfl (gLc (congrArg Value.int (rfl)) (rfl)))) rfl
