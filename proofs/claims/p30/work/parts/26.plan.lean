theorem rpG_los {V : Nat → Int32} {b r : Nat} : rpG V b r = true ↔ (vLv V (vL V r) = true ∧ los V b (vL V r) = false) := by
  unfold rpG los
  cases vLv V (vL V r) <;> cases vLo V b (vL V r) <;> simp
theorem hs_los {T : Nat} {V : Nat → Int32} {b m : Nat} (g : Good T V) (hm : m < vN V) {x : Int32} (hx : x = mk (los V b) (vN V)) : hs x m ↔ los V b m = true := by
  rw [hx]; exact mk_hs (by have := gd_n10 g; omega) hm

def rm_X5_findRepairer : Room := { frames := 2, cells := 0, slots := 0, locals := 42 }
theorem iX5_findRepairer : gIv yX5_findRepairer cX5_findRepairer 5 none 1 := ⟨⟨wd_507, wd_12, by decide +kernel, by decide +kernel, by decide +kernel⟩, wd_505, wd_506⟩
set_option maxRecDepth 100000 in
set_option maxHeartbeats 4000000 in
theorem c_X5_findRepairer (l : Launch) (G : gG) {T : Nat} {V : Nat → Int32} (g : Good T V) (mem : gM) (r : Rel V mem) {b : Nat} (hb : b < 200) (hl : mem 146 2 = mk (los V b) (vN V)) : gMet l yX5_findRepairer cX5_findRepairer 5 none rm_X5_findRepairer G [.ref (gad G 146), .ref (gad G 1)] mem (fun a u => a = none ∧ u = gr mem 146 (if rpK V b < vZ V then upd (upd (upd (mem 146) 5 (msF V (rpK V b))) 7 (nI (rpM V b))) 8 (nI (rpK V b)) else upd (upd (mem 146) 5 (msF V (vZ V))) 7 kNone)) := by
  refine g_of (own := RX5) (L0 := [(0, .ref (gad G 146)), (1, .ref (gad G 1))]) (by decide +kernel) rfl (Nat.le_of_ble_eq_true rfl) rfl ?_
  intro p e s m args below meth c C Q hQ
  have hn10 := gd_n10 g
  have hzn := (gd_z g).2
  refine g_aload_n C 0 dX5_findRepairer_0 rfl ?_
  refine g_iconst C (nI 0) dX5_findRepairer_1 (by decide) ?_
  refine g_put_i C ob_146 5 (by decide) rfl wd_239 rfl rfl dX5_findRepairer_2 ?_
  refine g_iconst C (nI 0) dX5_findRepairer_5 (by decide) ?_
  refine g_istore_n C (L2 := [(2, .int (nI 0)), (0, .ref (gad G 146)), (1, .ref (gad G 1))]) dX5_findRepairer_6 (by decide) rfl ?_
  have lp_7 : ∀ (fu : Nat) (i : Nat), (i ≤ vZ V) → (∀ q, q < i → rpG V b q = false) → vZ V - i < fu → gV p l e rm_X5_findRepairer s m args below meth c 0 0 Q G 5 (gr mem 146 (upd (mem 146) 5 (msF V i))) 7 [(0, .ref (gad G 146)), (1, .ref (gad G 1)), (2, .int (nI i))] [] := by
    intro fu
    induction fu with
    | zero => intro i _ _ hfu; exact absurd hfu (Nat.not_lt_zero _)
    | succ fu ih_7 =>
      intro i hi hno hfu_7
      refine g_iload_n C 2 dX5_findRepairer_7 rfl ?_
      refine g_aload_n C 1 dX5_findRepairer_8 rfl ?_
      refine g_get_r C ob_1 2 (by decide) rfl wd_163 dX5_findRepairer_9 ?_
      refine g_get_i C ob_21 2 (by decide) rfl wd_116 dX5_findRepairer_12 ?_
      refine g_top (y := mem 21 2) (rfl) ?_
      refine g_top (y := nI (vZ V)) (r_z r g) ?_
      refine g_icmp_ge C 87 dX5_findRepairer_15 (by decide) (fun c_15 => ?_) (fun c_15 => ?_)
      · have hin : i = vZ V := by have q := (nI_leI (a := vZ V) (b := i) (by omega) (by omega)).mp c_15; omega
        refine g_aload_n C 0 dX5_findRepairer_87 rfl ?_
        refine g_ldc C wd_511 dX5_findRepairer_88 ?_
        refine g_put_i C ob_146 7 (by decide) rfl wd_242 rfl rfl dX5_findRepairer_90 ?_
        refine g_mem (mem2 := gr mem 146 (upd (upd (mem 146) 5 (msF V i)) 7 ((-1000009) : Int32))) (gr_gr _ _ _ _) ?_
        refine g_vret C hQ rfl dX5_findRepairer_93 ?_
        have hk : rpK V b = vZ V := fa_first_all (hin ▸ hno)
        exact ⟨rfl, by rw [if_neg (by omega), hin]⟩
      · have hi2 : i < vZ V := by have q := mt (nI_leI (a := vZ V) (b := i) (by omega) (by omega)).mpr c_15; omega
        have hLi := (gd_l g hi2).2.1
        refine g_aload_n C 1 dX5_findRepairer_18 rfl ?_
        refine g_get_r C ob_1 2 (by decide) rfl wd_163 dX5_findRepairer_19 ?_
        refine g_iload_n C 2 dX5_findRepairer_22 rfl ?_
        refine g_cV1 C (As := [.int (nI i)]) (w := .int (mem 23 i)) (mem3 := gr mem 146 (upd (mem 146) 5 (msF V i))) iX0_memberAt (c_X0_memberAt_21 l G (gr mem 146 (upd (mem 146) 5 (msF V i))) (r_z (r_gr (by decide) r) g) (by omega) (nI i)) wd_508 ob_21 rfl ⟨Nat.le_of_ble_eq_true rfl, Nat.le_of_ble_eq_true rfl⟩ ⟨rfl, rfl⟩ rfl (Nat.le_of_ble_eq_true rfl) dX5_findRepairer_23 (congrArg Value.int (atI_n (by omega) (by omega))) (rfl) ?_
        refine g_top (y := nI (vL V i)) (r_l r g hi2) ?_
        refine g_istore_n C (L2 := [(3, .int (nI (vL V i))), (0, .ref (gad G 146)), (1, .ref (gad G 1)), (2, .int (nI i))]) dX5_findRepairer_26 (by decide) rfl ?_
        refine g_aload_n C 2 dX5_findRepairer_27 rfl ?_
        refine g_get_r C ob_1 1 (by decide) rfl wd_160 dX5_findRepairer_28 ?_
        refine g_iload_n C 0 dX5_findRepairer_31 rfl ?_
        refine g_cV1 C (As := [.int (nI (vL V i))]) (w := .int (b2i (vLv V (vL V i) = true))) (mem3 := gr mem 146 (upd (mem 146) 5 (msF V i))) iX3_lives (c_X3_lives l G g (gr mem 146 (upd (mem 146) 5 (msF V i))) (r_gr (by decide) r) (hLi)) wd_509 ob_4 rfl ⟨Nat.le_of_ble_eq_true rfl, Nat.le_of_ble_eq_true rfl⟩ ⟨rfl, rfl⟩ rfl (Nat.le_of_ble_eq_true rfl) dX5_findRepairer_32 (rfl) (rfl) ?_
        refine g_istore C (L2 := [(4, .int (b2i (vLv V (vL V i) = true))), (3, .int (nI (vL V i))), (0, .ref (gad G 146)), (1, .ref (gad G 1)), (2, .int (nI i))]) dX5_findRepairer_35 (by decide) rfl ?_
        refine g_iload C 0 dX5_findRepairer_37 rfl ?_
        refine g_ifb_eq C 64 dX5_findRepairer_39 (by decide) (fun c_39 => ?_) (fun c_39 => ?_)
        · refine g_iload C 0 dX5_findRepairer_64 rfl ?_
          refine g_ifb_ne C 81 dX5_findRepairer_66 (by decide) (fun c_66 => ?_) (fun c_66 => ?_)
          · refine g_iinc C (v := nI (i + 1)) (L2 := [(2, .int (nI (i + 1))), (4, .int (b2i (vLv V (vL V i) = true))), (3, .int (nI (vL V i))), (0, .ref (gad G 146)), (1, .ref (gad G 1))]) 4 dX5_findRepairer_81 rfl (nI_1 _) (by decide) rfl ?_
            refine g_goto C 7 dX5_findRepairer_84 (by decide) ?_
            refine g_loc (L2 := [(0, .ref (gad G 146)), (1, .ref (gad G 1)), (2, .int (nI (i + 1)))]) [3, 4, 0] rfl ?_
            exact g_eq (ih_7 (i + 1) (hi2) (fun q hq => (Nat.lt_or_ge q i).elim (fun e2 => hno q e2) (fun e2 => by rw [show q = i by omega]; apply (Bool.not_eq_true _).mp; intro z; have z := rpG_los.mp z; first | exact c_39 z.1 | exact absurd c_50 (by rw [z.2]; decide))) (by omega)) (by first | (rw [ms_t (r := i) (by assumption)]; done) | (rw [upd_upd, ms_f (r := i) (by assumption)]; rfl)) (rfl) rfl
          · refine g_aload_n C 2 dX5_findRepairer_69 rfl ?_
            refine g_dup C dX5_findRepairer_70 rfl ?_
            refine g_get_i C ob_146 5 (by decide) rfl wd_239 dX5_findRepairer_71 ?_
            refine g_top (y := msF V i) (rfl) ?_
            refine g_iconst C (nI 1) dX5_findRepairer_74 (by decide) ?_
            refine g_iload_n C 1 dX5_findRepairer_75 rfl ?_
            refine g_ishl C dX5_findRepairer_76 ?_
            refine g_ior C dX5_findRepairer_77 ?_
            refine g_put_i C ob_146 5 (by decide) rfl wd_239 rfl rfl dX5_findRepairer_78 ?_
            refine g_mem (mem2 := gr mem 146 (upd (upd (mem 146) 5 (msF V i)) 5 ((msF V i) ||| ((nI 1) <<< ((nI (vL V i)) &&& 31))))) (gr_gr _ _ _ _) ?_
            refine g_iinc C (v := nI (i + 1)) (L2 := [(2, .int (nI (i + 1))), (4, .int (b2i (vLv V (vL V i) = true))), (3, .int (nI (vL V i))), (0, .ref (gad G 146)), (1, .ref (gad G 1))]) 4 dX5_findRepairer_81 rfl (nI_1 _) (by decide) rfl ?_
            refine g_goto C 7 dX5_findRepairer_84 (by decide) ?_
            refine g_loc (L2 := [(0, .ref (gad G 146)), (1, .ref (gad G 1)), (2, .int (nI (i + 1)))]) [3, 4, 0] rfl ?_
            exact g_eq (ih_7 (i + 1) (hi2) (fun q hq => (Nat.lt_or_ge q i).elim (fun e2 => hno q e2) (fun e2 => by rw [show q = i by omega]; apply (Bool.not_eq_true _).mp; intro z; have z := rpG_los.mp z; first | exact c_39 z.1 | exact absurd c_50 (by rw [z.2]; decide))) (by omega)) (by first | (rw [ms_t (r := i) (by assumption)]; done) | (rw [upd_upd, ms_f (r := i) (by assumption)]; rfl)) (rfl) rfl
        · refine g_aload_n C 2 dX5_findRepairer_42 rfl ?_
          refine g_get_i C ob_146 2 (by decide) rfl wd_230 dX5_findRepairer_43 ?_
          refine g_top (y := mem 146 2) (rfl) ?_
          refine g_iload_n C 1 dX5_findRepairer_46 rfl ?_
          refine g_cS1 C (As := [.int (mem 146 2), .int (nI (vL V i))]) (w := .int (b2i (hs (mem 146 2) (vL V i)))) (mem3 := gr mem 146 (upd (mem 146) 5 (msF V i))) iX4_has (c_X4_has l G (gr mem 146 (upd (mem 146) 5 (msF V i))) (mem 146 2) (vL V i)) wd_510 rfl ⟨Nat.le_of_ble_eq_true rfl, Nat.le_of_ble_eq_true rfl⟩ ⟨rfl, rfl⟩ rfl (Nat.le_of_ble_eq_true rfl) dX5_findRepairer_47 (rfl) (rfl) ?_
          refine g_ifb_ne C 64 dX5_findRepairer_50 (by decide) (fun c_50 => ?_) (fun c_50 => ?_)
          · have c_50 := (hs_los g hLi hl).mp c_50
            refine g_iload C 0 dX5_findRepairer_64 rfl ?_
            refine g_ifb_ne C 81 dX5_findRepairer_66 (by decide) (fun c_66 => ?_) (fun c_66 => ?_)
            · refine g_iinc C (v := nI (i + 1)) (L2 := [(2, .int (nI (i + 1))), (4, .int (b2i (vLv V (vL V i) = true))), (3, .int (nI (vL V i))), (0, .ref (gad G 146)), (1, .ref (gad G 1))]) 4 dX5_findRepairer_81 rfl (nI_1 _) (by decide) rfl ?_
              refine g_goto C 7 dX5_findRepairer_84 (by decide) ?_
              refine g_loc (L2 := [(0, .ref (gad G 146)), (1, .ref (gad G 1)), (2, .int (nI (i + 1)))]) [3, 4, 0] rfl ?_
              exact g_eq (ih_7 (i + 1) (hi2) (fun q hq => (Nat.lt_or_ge q i).elim (fun e2 => hno q e2) (fun e2 => by rw [show q = i by omega]; apply (Bool.not_eq_true _).mp; intro z; have z := rpG_los.mp z; first | exact c_39 z.1 | exact absurd c_50 (by rw [z.2]; decide))) (by omega)) (by first | (rw [ms_t (r := i) (by assumption)]; done) | (rw [upd_upd, ms_f (r := i) (by assumption)]; rfl)) (rfl) rfl
            · refine g_aload_n C 2 dX5_findRepairer_69 rfl ?_
              refine g_dup C dX5_findRepairer_70 rfl ?_
              refine g_get_i C ob_146 5 (by decide) rfl wd_239 dX5_findRepairer_71 ?_
              refine g_top (y := msF V i) (rfl) ?_
              refine g_iconst C (nI 1) dX5_findRepairer_74 (by decide) ?_
              refine g_iload_n C 1 dX5_findRepairer_75 rfl ?_
              refine g_ishl C dX5_findRepairer_76 ?_
              refine g_ior C dX5_findRepairer_77 ?_
              refine g_put_i C ob_146 5 (by decide) rfl wd_239 rfl rfl dX5_findRepairer_78 ?_
              refine g_mem (mem2 := gr mem 146 (upd (upd (mem 146) 5 (msF V i)) 5 ((msF V i) ||| ((nI 1) <<< ((nI (vL V i)) &&& 31))))) (gr_gr _ _ _ _) ?_
              refine g_iinc C (v := nI (i + 1)) (L2 := [(2, .int (nI (i + 1))), (4, .int (b2i (vLv V (vL V i) = true))), (3, .int (nI (vL V i))), (0, .ref (gad G 146)), (1, .ref (gad G 1))]) 4 dX5_findRepairer_81 rfl (nI_1 _) (by decide) rfl ?_
              refine g_goto C 7 dX5_findRepairer_84 (by decide) ?_
              refine g_loc (L2 := [(0, .ref (gad G 146)), (1, .ref (gad G 1)), (2, .int (nI (i + 1)))]) [3, 4, 0] rfl ?_
              exact g_eq (ih_7 (i + 1) (hi2) (fun q hq => (Nat.lt_or_ge q i).elim (fun e2 => hno q e2) (fun e2 => by rw [show q = i by omega]; apply (Bool.not_eq_true _).mp; intro z; have z := rpG_los.mp z; first | exact c_39 z.1 | exact absurd c_50 (by rw [z.2]; decide))) (by omega)) (by first | (rw [ms_t (r := i) (by assumption)]; done) | (rw [upd_upd, ms_f (r := i) (by assumption)]; rfl)) (rfl) rfl
          · have c_50 := mt (hs_los g hLi hl).mpr c_50
            refine g_aload_n C 2 dX5_findRepairer_53 rfl ?_
            refine g_iload_n C 1 dX5_findRepairer_54 rfl ?_
            refine g_put_i C ob_146 7 (by decide) rfl wd_242 rfl rfl dX5_findRepairer_55 ?_
            refine g_mem (mem2 := gr mem 146 (upd (upd (mem 146) 5 (msF V i)) 7 (nI (vL V i)))) (gr_gr _ _ _ _) ?_
            refine g_aload_n C 2 dX5_findRepairer_58 rfl ?_
            refine g_iload_n C 4 dX5_findRepairer_59 rfl ?_
            refine g_put_i C ob_146 8 (by decide) rfl wd_244 rfl rfl dX5_findRepairer_60 ?_
            refine g_mem (mem2 := gr mem 146 (upd (upd (upd (mem 146) 5 (msF V i)) 7 (nI (vL V i))) 8 (nI i))) (gr_gr _ _ _ _) ?_
            refine g_vret C hQ rfl dX5_findRepairer_63 ?_
            have hk : rpK V b = i := fa_first_is hno (rpG_los.mpr ⟨c_39, (Bool.not_eq_true _).mp c_50⟩) hi2
            exact ⟨rfl, by rw [if_pos (by omega), rpM, hk]⟩
  refine g_loc (L2 := [(0, .ref (gad G 146)), (1, .ref (gad G 1)), (2, .int (nI 0))]) [1, 2, 0] rfl ?_
  exact g_eq (lp_7 (_ + 1) 0 (Nat.zero_le _) (fun q hq => absurd hq (Nat.not_lt_zero q)) (Nat.lt_succ_self _)) (rfl) (rfl) rfl

/-- what hindranceIn does to a memory -/
def HK (V : Nat → Int32) (b : Nat) (mem u : gM) : Prop :=
  ∃ p : Nat → Int32, u = gr mem 146 p ∧ (∀ j, j ≠ 5 → j ≠ 7 → j ≠ 8 → p j = mem 146 j) ∧ (hcd V b = 0 → p 5 = msF V (rpK V b) ∧ p 7 = nI (rpM V b) ∧ p 8 = nI (rpK V b))

def rm_X5_hindranceIn : Room := { frames := 3, cells := 0, slots := 0, locals := 66 }
theorem iX5_hindranceIn : gIv yX5_hindranceIn cX5_hindranceIn 2 (some .int) 1 := ⟨⟨wd_503, wd_12, by decide +kernel, by decide +kernel, by decide +kernel⟩, wd_501, wd_502⟩
set_option maxRecDepth 100000 in
set_option maxHeartbeats 4000000 in
theorem c_X5_hindranceIn (l : Launch) (G : gG) {T : Nat} {V : Nat → Int32} (g : Good T V) (mem : gM) (r : Rel V mem) {b : Nat} (hb : b < 200) (hl : mem 146 2 = mk (los V b) (vN V)) : gMet l yX5_hindranceIn cX5_hindranceIn 2 (some .int) rm_X5_hindranceIn G [.ref (gad G 146), .ref (gad G 1)] mem (fun a u => ∃ r1 : Int32, a = some (.int r1) ∧ (r1 = nI (hcd V b) ∧ HK V b mem u)) := by
  refine g_of (own := RX5) (L0 := [(0, .ref (gad G 146)), (1, .ref (gad G 1))]) (by decide +kernel) rfl (Nat.le_of_ble_eq_true rfl) rfl ?_
  intro p e s m args below meth c C Q hQ
  have hn10 := gd_n10 g
  refine g_aload_n C 1 dX5_hindranceIn_0 rfl ?_
  refine g_get_r C ob_1 2 (by decide) rfl wd_163 dX5_hindranceIn_1 ?_
  refine g_get_i C ob_21 0 (by decide) rfl wd_109 dX5_hindranceIn_4 ?_
  refine g_top (y := V 6) (r_rd r) ?_
  refine g_if_ne C 12 dX5_hindranceIn_7 (by decide) (fun c_7 => ?_) (fun c_7 => ?_)
  · refine g_aload_n C 0 dX5_hindranceIn_12 rfl ?_
    refine g_get_i C ob_146 2 (by decide) rfl wd_230 dX5_hindranceIn_13 ?_
    refine g_top (y := mk (los V b) (vN V)) (hl) ?_
    refine g_if_ne C 21 dX5_hindranceIn_16 (by decide) (fun c_16 => ?_) (fun c_16 => ?_)
    · refine g_aload_n C 0 dX5_hindranceIn_21 rfl ?_
      refine g_aload_n C 1 dX5_hindranceIn_22 rfl ?_
      refine g_cV0 C (As := [.ref (gad G 1)]) (mem3 := gr mem 146 (if rpK V b < vZ V then upd (upd (upd (mem 146) 5 (msF V (rpK V b))) 7 (nI (rpM V b))) 8 (nI (rpK V b)) else upd (upd (mem 146) 5 (msF V (vZ V))) 7 kNone)) iX5_findRepairer (c_X5_findRepairer l G g mem r (hb) (hl)) wd_504 ob_146 rfl ⟨Nat.le_of_ble_eq_true rfl, Nat.le_of_ble_eq_true rfl⟩ ⟨rfl, rfl⟩ rfl (Nat.le_of_ble_eq_true rfl) dX5_hindranceIn_23 (rfl) ?_
      by_cases hk : rpK V b < vZ V
      · rw [if_pos hk]
        refine g_aload_n C 0 dX5_hindranceIn_26 rfl ?_
        refine g_get_i C ob_146 7 (by decide) rfl wd_242 dX5_hindranceIn_27 ?_
        refine g_top (y := nI (rpM V b)) (rfl) ?_
        refine g_ldc C wd_511 dX5_hindranceIn_30 ?_
        refine g_icmp_ne_t C 39 (nN_ne (by have := rp_lt g hk; omega)) dX5_hindranceIn_32 (by decide) ?_
        refine g_iconst C (nI 0) dX5_hindranceIn_39 (by decide) ?_
        refine g_iret C hQ rfl dX5_hindranceIn_40 ?_
        exact ⟨_, rfl, by rw [hcd, if_neg c_7, if_neg c_16, if_pos hk], _, rfl, fun j h5 h7 h8 => by rw [upd_n h8, upd_n h7, upd_n h5], fun _ => ⟨rfl, rfl, rfl⟩⟩
      · rw [if_neg hk]
        refine g_aload_n C 0 dX5_hindranceIn_26 rfl ?_
        refine g_get_i C ob_146 7 (by decide) rfl wd_242 dX5_hindranceIn_27 ?_
        refine g_top (y := kNone) (rfl) ?_
        refine g_ldc C wd_511 dX5_hindranceIn_30 ?_
        refine g_icmp_ne_f C 39 (rfl) dX5_hindranceIn_32 (by decide) ?_
        refine g_iconst C (nI 3) dX5_hindranceIn_35 (by decide) ?_
        refine g_goto C 40 dX5_hindranceIn_36 (by decide) ?_
        refine g_iret C hQ rfl dX5_hindranceIn_40 ?_
        exact ⟨_, rfl, by rw [hcd, if_neg c_7, if_neg c_16, if_neg hk], _, rfl, fun j h5 h7 _ => by rw [upd_n h7, upd_n h5], fun h => absurd (hc_0 h).2.2 hk⟩
    · refine g_iconst C (nI 2) dX5_hindranceIn_19 (by decide) ?_
      refine g_iret C hQ rfl dX5_hindranceIn_20 ?_
      exact ⟨_, rfl, by rw [hcd, if_neg c_7, if_pos c_16], mem 146, (gr_self mem 146).symm, fun _ _ _ _ => rfl, fun h => absurd c_16 (hc_0 h).2.1⟩
  · refine g_iconst C (nI 1) dX5_hindranceIn_10 (by decide) ?_
    refine g_iret C hQ rfl dX5_hindranceIn_11 ?_
    exact ⟨_, rfl, by rw [hcd, if_pos c_7], mem 146, (gr_self mem 146).symm, fun _ _ _ _ => rfl, fun h => absurd (hc_0 h).1 (fun z => z c_7)⟩

def rm_X5_drawWaits : Room := { frames := 1, cells := 0, slots := 0, locals := 22 }
theorem iX5_drawWaits : gIv yX5_drawWaits cX5_drawWaits 5 none 2 := ⟨⟨wd_515, wd_12, by decide +kernel, by decide +kernel, by decide +kernel⟩, wd_513, wd_514⟩
set_option maxRecDepth 100000 in
set_option maxHeartbeats 4000000 in
theorem c_X5_drawWaits (l : Launch) (G : gG) {T : Nat} {V : Nat → Int32} (g : Good T V) (mem : gM) (r : Rel V mem) {b wa : Nat} (hb : b < 200) (hwa : 1 ≤ wa) (hwa1 : wa ≤ 1000) (h0 : mem 146 0 = nI b) (hl : mem 146 2 = mk (los V b) (vN V)) : gMet l yX5_drawWaits cX5_drawWaits 5 none rm_X5_drawWaits G [.ref (gad G 146), .int (V 10), .int (nI wa)] mem (fun a u => a = none ∧ u = gr (gr mem 146 (upd (mem 146) 6 (oI (frF (los V b) (wt V b wa) 10)))) 148 (cpy 10 (fun j => if los V b j = true then nI (wt V b wa j) else mem 148 j) (mem 148))) := by
  refine g_of (own := RX5) (L0 := [(0, .ref (gad G 146)), (1, .int (V 10)), (2, .int (nI wa))]) (by decide +kernel) rfl (Nat.le_of_ble_eq_true rfl) rfl ?_
  intro p e s m args below meth c C Q hQ
  have hn10 := gd_n10 g
  refine g_aload_n C 0 dX5_drawWaits_0 rfl ?_
  refine g_ldc C wd_511 dX5_drawWaits_1 ?_
  refine g_put_i C ob_146 6 (by decide) rfl wd_240 rfl rfl dX5_drawWaits_3 ?_
  refine g_iconst C (nI 0) dX5_drawWaits_6 (by decide) ?_
  refine g_istore_n C (L2 := [(3, .int (nI 0)), (0, .ref (gad G 146)), (1, .int (V 10)), (2, .int (nI wa))]) dX5_drawWaits_7 (by decide) rfl ?_
  have lp_8 : ∀ (fu : Nat) (i : Nat), (i ≤ 10) → 10 - i < fu → gV p l e rm_X5_drawWaits s m args below meth c 0 0 Q G 5 (gr (gr mem 146 (upd (mem 146) 6 (oI (frF (los V b) (wt V b wa) i)))) 148 (cpy i (fun j => if los V b j = true then nI (wt V b wa j) else mem 148 j) (mem 148))) 8 [(0, .ref (gad G 146)), (1, .int (V 10)), (2, .int (nI wa)), (3, .int (nI i))] [] := by
    intro fu
    induction fu with
    | zero => intro i _ hfu; exact absurd hfu (Nat.not_lt_zero _)
    | succ fu ih_8 =>
      intro i hi hfu_8
      refine g_iload_n C 3 dX5_drawWaits_8 rfl ?_
      refine g_bipush C (nI 10) dX5_drawWaits_9 (by decide) ?_
      refine g_icmp_ge C 101 dX5_drawWaits_11 (by decide) (fun c_11 => ?_) (fun c_11 => ?_)
      · have hin : i = 10 := by have q := (nI_leI (a := 10) (b := i) (by omega) (by omega)).mp c_11; omega
        refine g_vret C hQ rfl dX5_drawWaits_101 ?_
        exact ⟨rfl, by rw [hin]⟩
      · have hi2 : i < 10 := by have q := mt (nI_leI (a := 10) (b := i) (by omega) (by omega)).mpr c_11; omega
        refine g_aload_n C 0 dX5_drawWaits_14 rfl ?_
        refine g_get_i C ob_146 2 (by decide) rfl wd_230 dX5_drawWaits_15 ?_
        refine g_top (y := mem 146 2) (rfl) ?_
        refine g_iload_n C 3 dX5_drawWaits_18 rfl ?_
        refine g_cS1 C (As := [.int (mem 146 2), .int (nI i)]) (w := .int (b2i (hs (mem 146 2) i))) (mem3 := gr (gr mem 146 (upd (mem 146) 6 (oI (frF (los V b) (wt V b wa) i)))) 148 (cpy i (fun j => if los V b j = true then nI (wt V b wa j) else mem 148 j) (mem 148))) iX4_has (c_X4_has l G (gr (gr mem 146 (upd (mem 146) 6 (oI (frF (los V b) (wt V b wa) i)))) 148 (cpy i (fun j => if los V b j = true then nI (wt V b wa j) else mem 148 j) (mem 148))) (mem 146 2) i) wd_510 rfl ⟨Nat.le_of_ble_eq_true rfl, Nat.le_of_ble_eq_true rfl⟩ ⟨rfl, rfl⟩ rfl (Nat.le_of_ble_eq_true rfl) dX5_drawWaits_19 (rfl) (rfl) ?_
        refine g_ifb_eq C 95 dX5_drawWaits_22 (by decide) (fun c_22 => ?_) (fun c_22 => ?_)
        · have hlos : los V b i = false := by
            have z := c_22
            rw [hl] at z
            apply (Bool.not_eq_true _).mp
            intro y
            exact z ((mk_hs (by omega) (los_n g hb y (by omega))).mpr y)
          refine g_iinc C (v := nI (i + 1)) (L2 := [(3, .int (nI (i + 1))), (0, .ref (gad G 146)), (1, .int (V 10)), (2, .int (nI wa))]) 3 dX5_drawWaits_95 rfl (nI_1 _) (by decide) rfl ?_
          refine g_goto C 8 dX5_drawWaits_98 (by decide) ?_
          refine g_loc (L2 := [(0, .ref (gad G 146)), (1, .int (V 10)), (2, .int (nI wa)), (3, .int (nI (i + 1)))]) [1, 2, 3, 0] rfl ?_
          exact g_eq (ih_8 (i + 1) (hi2) (by omega)) (by first | rw [fr_no hlos, ← cpy_k (f := fun j => if los V b j = true then nI (wt V b wa j) else mem 148 j) (by rw [hlos]; rfl)] | (rw [upd_upd, fr_0 hlos hfr, ← cpy_s (f := fun j => if los V b j = true then nI (wt V b wa j) else mem 148 j) (x := nI (wt V b wa i)) (by rw [if_pos hlos])]; rfl) | (rw [upd_upd, fr_lt hlos hfr c_87, ← cpy_s (f := fun j => if los V b j = true then nI (wt V b wa j) else mem 148 j) (x := nI (wt V b wa i)) (by rw [if_pos hlos])]; rfl) | (rw [fr_ge hlos hfr c_87, ← cpy_s (f := fun j => if los V b j = true then nI (wt V b wa j) else mem 148 j) (x := nI (wt V b wa i)) (by rw [if_pos hlos])]; rfl)) (rfl) rfl
        · have hlos : los V b i = true := by
            have z := c_22
            rw [hl, hs_bt (by omega), bt_mk _ _ (by omega) i (by omega)] at z
            simp only [Bool.and_eq_true, decide_eq_true_eq] at z
            exact z.2
          refine g_iload_n C 1 dX5_drawWaits_25 rfl ?_
          refine g_sipush C (nI 1000) dX5_drawWaits_26 (by decide) ?_
          refine g_aload_n C 0 dX5_drawWaits_29 rfl ?_
          refine g_get_i C ob_146 0 (by decide) rfl wd_225 dX5_drawWaits_30 ?_
          refine g_top (y := mem 146 0) (rfl) ?_
          refine g_top (y := nI b) (h0) ?_
          refine g_imul_n C (d := 1000 * b) dX5_drawWaits_33 rfl ?_
          refine g_iload_n C 3 dX5_drawWaits_34 rfl ?_
          refine g_iadd_n C (d := (1000 * b) + i) dX5_drawWaits_35 rfl ?_
          refine g_ixor C dX5_drawWaits_36 ?_
          refine g_cS1 C (As := [.int ((V 10) ^^^ (nI ((1000 * b) + i)))]) (w := .int (mixI ((V 10) ^^^ (nI ((1000 * b) + i))))) (mem3 := gr (gr mem 146 (upd (mem 146) 6 (oI (frF (los V b) (wt V b wa) i)))) 148 (cpy i (fun j => if los V b j = true then nI (wt V b wa j) else mem 148 j) (mem 148))) iX4_mixed (c_X4_mixed l G (gr (gr mem 146 (upd (mem 146) 6 (oI (frF (los V b) (wt V b wa) i)))) 148 (cpy i (fun j => if los V b j = true then nI (wt V b wa j) else mem 148 j) (mem 148))) ((V 10) ^^^ (nI ((1000 * b) + i)))) wd_516 rfl ⟨Nat.le_of_ble_eq_true rfl, Nat.le_of_ble_eq_true rfl⟩ ⟨rfl, rfl⟩ rfl (Nat.le_of_ble_eq_true rfl) dX5_drawWaits_37 (rfl) (rfl) ?_
          refine g_istore C (L2 := [(4, .int (mixI ((V 10) ^^^ (nI ((1000 * b) + i))))), (0, .ref (gad G 146)), (1, .int (V 10)), (2, .int (nI wa)), (3, .int (nI i))]) dX5_drawWaits_40 (by decide) rfl ?_
          refine g_aload_n C 1 dX5_drawWaits_42 rfl ?_
          refine g_get_r C ob_146 10 (by decide) rfl wd_248 dX5_drawWaits_43 ?_
          refine g_iload_n C 4 dX5_drawWaits_46 rfl ?_
          refine g_iload C 0 dX5_drawWaits_47 rfl ?_
          refine g_cS1 C (As := [.int (mixI ((V 10) ^^^ (nI ((1000 * b) + i))))]) (w := .int (mixI (mixI ((V 10) ^^^ (nI ((1000 * b) + i)))))) (mem3 := gr (gr mem 146 (upd (mem 146) 6 (oI (frF (los V b) (wt V b wa) i)))) 148 (cpy i (fun j => if los V b j = true then nI (wt V b wa j) else mem 148 j) (mem 148))) iX4_mixed (c_X4_mixed l G (gr (gr mem 146 (upd (mem 146) 6 (oI (frF (los V b) (wt V b wa) i)))) 148 (cpy i (fun j => if los V b j = true then nI (wt V b wa j) else mem 148 j) (mem 148))) (mixI ((V 10) ^^^ (nI ((1000 * b) + i))))) wd_516 rfl ⟨Nat.le_of_ble_eq_true rfl, Nat.le_of_ble_eq_true rfl⟩ ⟨rfl, rfl⟩ rfl (Nat.le_of_ble_eq_true rfl) dX5_drawWaits_49 (rfl) (rfl) ?_
          refine g_iload_n C 3 dX5_drawWaits_52 rfl ?_
          refine g_cS1 C (As := [.int (mixI (mixI ((V 10) ^^^ (nI ((1000 * b) + i))))), .int (nI wa)]) (w := .int (nI (lotN (mixI (mixI ((V 10) ^^^ (nI ((1000 * b) + i))))) wa))) (mem3 := gr (gr mem 146 (upd (mem 146) 6 (oI (frF (los V b) (wt V b wa) i)))) 148 (cpy i (fun j => if los V b j = true then nI (wt V b wa j) else mem 148 j) (mem 148))) iX4_lot (c_X4_lot l G (gr (gr mem 146 (upd (mem 146) 6 (oI (frF (los V b) (wt V b wa) i)))) 148 (cpy i (fun j => if los V b j = true then nI (wt V b wa j) else mem 148 j) (mem 148))) (mixI (mixI ((V 10) ^^^ (nI ((1000 * b) + i))))) (nI wa)) wd_517 rfl ⟨Nat.le_of_ble_eq_true rfl, Nat.le_of_ble_eq_true rfl⟩ ⟨rfl, rfl⟩ rfl (Nat.le_of_ble_eq_true rfl) dX5_drawWaits_53 (congrArg Value.int (lot_n _ (hwa) (by omega))) (rfl) ?_
          refine g_top (y := nI (wt V b wa i)) (rfl) ?_
          refine g_cV0 C (As := [.int (nI i), .int (nI (wt V b wa i))]) (mem3 := gr (gr (gr mem 146 (upd (mem 146) 6 (oI (frF (los V b) (wt V b wa) i)))) 148 (cpy i (fun j => if los V b j = true then nI (wt V b wa j) else mem 148 j) (mem 148))) 148 (upd (cpy i (fun j => if los V b j = true then nI (wt V b wa j) else mem 148 j) (mem 148)) i (nI (wt V b wa i)))) iX6_put (c_X6_put l G (gr (gr mem 146 (upd (mem 146) 6 (oI (frF (los V b) (wt V b wa) i)))) 148 (cpy i (fun j => if los V b j = true then nI (wt V b wa j) else mem 148 j) (mem 148))) ob_147 ar_148 (by decide) (by omega) (nI (wt V b wa i))) wd_518 ob_147 rfl ⟨Nat.le_of_ble_eq_true rfl, Nat.le_of_ble_eq_true rfl⟩ ⟨rfl, rfl⟩ rfl (Nat.le_of_ble_eq_true rfl) dX5_drawWaits_56 (rfl) ?_
          refine g_mem (mem2 := gr (gr mem 146 (upd (mem 146) 6 (oI (frF (los V b) (wt V b wa) i)))) 148 (upd (cpy i (fun j => if los V b j = true then nI (wt V b wa j) else mem 148 j) (mem 148)) i (nI (wt V b wa i)))) (gr_gr _ _ _ _) ?_
          rcases hfr : frF (los V b) (wt V b wa) i with _ | f
          · have hfx := hfr
            refine g_aload_n C 1 dX5_drawWaits_59 rfl ?_
            refine g_get_i C ob_146 6 (by decide) rfl wd_240 dX5_drawWaits_60 ?_
            refine g_top (y := oI none) (rfl) ?_
            refine g_top (y := kNone) (rfl) ?_
            refine g_ldc C wd_511 dX5_drawWaits_63 ?_
            refine g_icmp_eq_t C 90 (rfl) dX5_drawWaits_65 (by decide) ?_
            refine g_aload_n C 1 dX5_drawWaits_90 rfl ?_
            refine g_iload_n C 4 dX5_drawWaits_91 rfl ?_
            refine g_put_i C ob_146 6 (by decide) rfl wd_240 rfl rfl dX5_drawWaits_92 ?_
            refine g_mem (mem2 := gr (gr mem 146 (upd (upd (mem 146) 6 (oI none)) 6 (nI i))) 148 (upd (cpy i (fun j => if los V b j = true then nI (wt V b wa j) else mem 148 j) (mem 148)) i (nI (wt V b wa i)))) ((gr_comm _ (by decide) _ _).trans (congrArg (fun z => gr z 148 (upd (cpy i (fun j => if los V b j = true then nI (wt V b wa j) else mem 148 j) (mem 148)) i (nI (wt V b wa i)))) (gr_gr _ _ _ _))) ?_
            refine g_iinc C (v := nI (i + 1)) (L2 := [(3, .int (nI (i + 1))), (4, .int (mixI ((V 10) ^^^ (nI ((1000 * b) + i))))), (0, .ref (gad G 146)), (1, .int (V 10)), (2, .int (nI wa))]) 4 dX5_drawWaits_95 rfl (nI_1 _) (by decide) rfl ?_
            refine g_goto C 8 dX5_drawWaits_98 (by decide) ?_
            refine g_loc (L2 := [(0, .ref (gad G 146)), (1, .int (V 10)), (2, .int (nI wa)), (3, .int (nI (i + 1)))]) [2, 3, 4, 0] rfl ?_
            exact g_eq (ih_8 (i + 1) (hi2) (by omega)) (by first | rw [fr_no hlos, ← cpy_k (f := fun j => if los V b j = true then nI (wt V b wa j) else mem 148 j) (by rw [hlos]; rfl)] | (rw [upd_upd, fr_0 hlos hfr, ← cpy_s (f := fun j => if los V b j = true then nI (wt V b wa j) else mem 148 j) (x := nI (wt V b wa i)) (by rw [if_pos hlos])]; rfl) | (rw [upd_upd, fr_lt hlos hfr c_87, ← cpy_s (f := fun j => if los V b j = true then nI (wt V b wa j) else mem 148 j) (x := nI (wt V b wa i)) (by rw [if_pos hlos])]; rfl) | (rw [fr_ge hlos hfr c_87, ← cpy_s (f := fun j => if los V b j = true then nI (wt V b wa j) else mem 148 j) (x := nI (wt V b wa i)) (by rw [if_pos hlos])]; rfl)) (rfl) rfl
          · have hfx := (fr_some hfr)
            refine g_aload_n C 1 dX5_drawWaits_59 rfl ?_
            refine g_get_i C ob_146 6 (by decide) rfl wd_240 dX5_drawWaits_60 ?_
            refine g_top (y := nI f) (rfl) ?_
            refine g_top (y := nI f) (rfl) ?_
            refine g_ldc C wd_511 dX5_drawWaits_63 ?_
            refine g_icmp_eq_f C 90 (nN_ne (by omega)) dX5_drawWaits_65 (by decide) ?_
            refine g_aload_n C 1 dX5_drawWaits_68 rfl ?_
            refine g_get_r C ob_146 10 (by decide) rfl wd_248 dX5_drawWaits_69 ?_
            refine g_iload_n C 4 dX5_drawWaits_72 rfl ?_
            refine g_cV1 C (As := [.int (nI i)]) (w := .int (nI (wt V b wa i))) (mem3 := gr (gr mem 146 (upd (mem 146) 6 (nI f))) 148 (upd (cpy i (fun j => if los V b j = true then nI (wt V b wa j) else mem 148 j) (mem 148)) i (nI (wt V b wa i)))) iX6_at (c_X6_at l G (gr (gr mem 146 (upd (mem 146) 6 (nI f))) 148 (upd (cpy i (fun j => if los V b j = true then nI (wt V b wa j) else mem 148 j) (mem 148)) i (nI (wt V b wa i)))) ob_147 ar_148 (by decide) (by omega)) wd_499 ob_147 rfl ⟨Nat.le_of_ble_eq_true rfl, Nat.le_of_ble_eq_true rfl⟩ ⟨rfl, rfl⟩ rfl (Nat.le_of_ble_eq_true rfl) dX5_drawWaits_73 (congrArg Value.int (upd_s _ _ _)) (rfl) ?_
            refine g_aload_n C 1 dX5_drawWaits_76 rfl ?_
            refine g_get_r C ob_146 10 (by decide) rfl wd_248 dX5_drawWaits_77 ?_
            refine g_aload_n C 1 dX5_drawWaits_80 rfl ?_
            refine g_get_i C ob_146 6 (by decide) rfl wd_240 dX5_drawWaits_81 ?_
            refine g_top (y := nI f) (rfl) ?_
            refine g_top (y := nI f) (rfl) ?_
            refine g_cV1 C (As := [.int (nI f)]) (w := .int ((upd (cpy i (fun j => if los V b j = true then nI (wt V b wa j) else mem 148 j) (mem 148)) i (nI (wt V b wa i))) f)) (mem3 := gr (gr mem 146 (upd (mem 146) 6 (nI f))) 148 (upd (cpy i (fun j => if los V b j = true then nI (wt V b wa j) else mem 148 j) (mem 148)) i (nI (wt V b wa i)))) iX6_at (c_X6_at l G (gr (gr mem 146 (upd (mem 146) 6 (nI f))) 148 (upd (cpy i (fun j => if los V b j = true then nI (wt V b wa j) else mem 148 j) (mem 148)) i (nI (wt V b wa i)))) ob_147 ar_148 (by decide) (by omega)) wd_499 ob_147 rfl ⟨Nat.le_of_ble_eq_true rfl, Nat.le_of_ble_eq_true rfl⟩ ⟨rfl, rfl⟩ rfl (Nat.le_of_ble_eq_true rfl) dX5_drawWaits_84 (rfl) (rfl) ?_
            refine g_top (y := nI (wt V b wa f)) (by rw [upd_n (by omega), cpy_in hfx.1, if_pos hfx.2]) ?_
            refine g_icmp_ge C 95 dX5_drawWaits_87 (by decide) (fun c_87 => ?_) (fun c_87 => ?_)
            · have c_87 : ¬ wt V b wa i < wt V b wa f := by have q1 := wt_lt V b i hwa; have q2 := wt_lt V b f hwa; have q := (nI_leI (by omega) (by omega)).mp c_87; omega
              refine g_iinc C (v := nI (i + 1)) (L2 := [(3, .int (nI (i + 1))), (4, .int (mixI ((V 10) ^^^ (nI ((1000 * b) + i))))), (0, .ref (gad G 146)), (1, .int (V 10)), (2, .int (nI wa))]) 4 dX5_drawWaits_95 rfl (nI_1 _) (by decide) rfl ?_
              refine g_goto C 8 dX5_drawWaits_98 (by decide) ?_
              refine g_loc (L2 := [(0, .ref (gad G 146)), (1, .int (V 10)), (2, .int (nI wa)), (3, .int (nI (i + 1)))]) [2, 3, 4, 0] rfl ?_
              exact g_eq (ih_8 (i + 1) (hi2) (by omega)) (by first | rw [fr_no hlos, ← cpy_k (f := fun j => if los V b j = true then nI (wt V b wa j) else mem 148 j) (by rw [hlos]; rfl)] | (rw [upd_upd, fr_0 hlos hfr, ← cpy_s (f := fun j => if los V b j = true then nI (wt V b wa j) else mem 148 j) (x := nI (wt V b wa i)) (by rw [if_pos hlos])]; rfl) | (rw [upd_upd, fr_lt hlos hfr c_87, ← cpy_s (f := fun j => if los V b j = true then nI (wt V b wa j) else mem 148 j) (x := nI (wt V b wa i)) (by rw [if_pos hlos])]; rfl) | (rw [fr_ge hlos hfr c_87, ← cpy_s (f := fun j => if los V b j = true then nI (wt V b wa j) else mem 148 j) (x := nI (wt V b wa i)) (by rw [if_pos hlos])]; rfl)) (rfl) rfl
            · have c_87 : wt V b wa i < wt V b wa f := by have q1 := wt_lt V b i hwa; have q2 := wt_lt V b f hwa; have q := mt (nI_leI (by omega) (by omega)).mpr c_87; omega
              refine g_aload_n C 1 dX5_drawWaits_90 rfl ?_
              refine g_iload_n C 4 dX5_drawWaits_91 rfl ?_
              refine g_put_i C ob_146 6 (by decide) rfl wd_240 rfl rfl dX5_drawWaits_92 ?_
              refine g_mem (mem2 := gr (gr mem 146 (upd (upd (mem 146) 6 (nI f)) 6 (nI i))) 148 (upd (cpy i (fun j => if los V b j = true then nI (wt V b wa j) else mem 148 j) (mem 148)) i (nI (wt V b wa i)))) ((gr_comm _ (by decide) _ _).trans (congrArg (fun z => gr z 148 (upd (cpy i (fun j => if los V b j = true then nI (wt V b wa j) else mem 148 j) (mem 148)) i (nI (wt V b wa i)))) (gr_gr _ _ _ _))) ?_
              refine g_iinc C (v := nI (i + 1)) (L2 := [(3, .int (nI (i + 1))), (4, .int (mixI ((V 10) ^^^ (nI ((1000 * b) + i))))), (0, .ref (gad G 146)), (1, .int (V 10)), (2, .int (nI wa))]) 4 dX5_drawWaits_95 rfl (nI_1 _) (by decide) rfl ?_
              refine g_goto C 8 dX5_drawWaits_98 (by decide) ?_
              refine g_loc (L2 := [(0, .ref (gad G 146)), (1, .int (V 10)), (2, .int (nI wa)), (3, .int (nI (i + 1)))]) [2, 3, 4, 0] rfl ?_
              exact g_eq (ih_8 (i + 1) (hi2) (by omega)) (by first | rw [fr_no hlos, ← cpy_k (f := fun j => if los V b j = true then nI (wt V b wa j) else mem 148 j) (by rw [hlos]; rfl)] | (rw [upd_upd, fr_0 hlos hfr, ← cpy_s (f := fun j => if los V b j = true then nI (wt V b wa j) else mem 148 j) (x := nI (wt V b wa i)) (by rw [if_pos hlos])]; rfl) | (rw [upd_upd, fr_lt hlos hfr c_87, ← cpy_s (f := fun j => if los V b j = true then nI (wt V b wa j) else mem 148 j) (x := nI (wt V b wa i)) (by rw [if_pos hlos])]; rfl) | (rw [fr_ge hlos hfr c_87, ← cpy_s (f := fun j => if los V b j = true then nI (wt V b wa j) else mem 148 j) (x := nI (wt V b wa i)) (by rw [if_pos hlos])]; rfl)) (rfl) rfl
  refine g_loc (L2 := [(0, .ref (gad G 146)), (1, .int (V 10)), (2, .int (nI wa)), (3, .int (nI 0))]) [1, 2, 3, 0] rfl ?_
  exact g_eq (lp_8 (_ + 1) 0 (Nat.zero_le _) (Nat.lt_succ_self _)) (by rw [cpy_0, show mem 148 = (gr mem 146 (upd (mem 146) 6 (oI (frF (los V b) (wt V b wa) 0)))) 148 from rfl, gr_self]; rfl) (rfl) rfl
