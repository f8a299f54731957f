def rm_X8_numberFrom : Room := { frames := 1, cells := 0, slots := 0, locals := 21 }
theorem iX8_numberFrom : gIv yX8_numberFrom cX8_numberFrom 4 (some .int) 1 := ⟨⟨wd_559, wd_30, by decide +kernel, by decide +kernel, by decide +kernel⟩, wd_557, wd_558⟩
set_option maxRecDepth 100000 in
set_option maxHeartbeats 4000000 in
theorem c_X8_numberFrom (l : Launch) (G : gG) (mem : gM) {tx : Nat → Nat} {tl : Nat} (tX : TX tx tl mem) {s0 : Nat} (hs0 : s0 ≤ tl) : gMet l yX8_numberFrom cX8_numberFrom 4 (some .int) rm_X8_numberFrom G [.ref (gad G 143), .int (nI s0)] mem (fun a u => a = some (.int (nI (nfT tx tl s0))) ∧ u = mem) := by
  refine g_of (own := RX8) (L0 := [(0, .ref (gad G 143)), (1, .int (nI s0))]) (by decide +kernel) rfl (Nat.le_of_ble_eq_true rfl) rfl ?_
  intro p e s m args below meth c C Q hQ
  have h60 := tX.2.1
  refine g_iconst C (nI 0) dX8_numberFrom_0 (by decide) ?_
  refine g_istore_n C (L2 := [(2, .int (nI 0)), (0, .ref (gad G 143)), (1, .int (nI s0))]) dX8_numberFrom_1 (by decide) rfl ?_
  refine g_iload_n C 2 dX8_numberFrom_2 rfl ?_
  refine g_istore_n C (L2 := [(3, .int (nI s0)), (2, .int (nI 0)), (0, .ref (gad G 143)), (1, .int (nI s0))]) dX8_numberFrom_3 (by decide) rfl ?_
  have lp_4 : ∀ (fu : Nat) (k : Nat), (s0 + k ≤ tl) → (∀ j, j < k → dgN (tx (s0 + j))) → tl - (s0 + k) < fu → gV p l e rm_X8_numberFrom s m args below meth c 0 0 Q G 4 mem 4 [(0, .ref (gad G 143)), (1, .int (nI s0)), (2, .int (nI (vlT tx s0 k))), (3, .int (nI (s0 + k)))] [] := by
    intro fu
    induction fu with
    | zero => intro k _ _ hfu; exact absurd hfu (Nat.not_lt_zero _)
    | succ fu ih_4 =>
      intro k hk hdg hfu_4
      refine g_iload_n C 3 dX8_numberFrom_4 rfl ?_
      refine g_aload_n C 0 dX8_numberFrom_5 rfl ?_
      refine g_get_i C ob_143 0 (by decide) rfl wd_229 dX8_numberFrom_6 ?_
      refine g_top (y := nI tl) (tX.1) ?_
      refine g_icmp_ge C 49 dX8_numberFrom_9 (by decide) (fun c_9 => ?_) (fun c_9 => ?_)
      · have hxl : tl ≤ s0 + k := by have q := (nI_leI (a := tl) (b := s0 + k) (by omega) (by omega)).mp c_9; omega
        have hxe : ¬ (s0 + k < tl ∧ dgN (tx (s0 + k))) := fun q => absurd q.1 (by omega)
        refine g_iload_n C 2 dX8_numberFrom_49 rfl ?_
        refine g_iret C hQ rfl dX8_numberFrom_50 ?_
        exact ⟨by rw [nf_is hk hdg hxe], rfl⟩
      · have hlt : s0 + k < tl := by have q := mt (nI_leI (a := tl) (b := s0 + k) (by omega) (by omega)).mpr c_9; omega
        have hcb := tX.2.2 _ hlt
        refine g_aload_n C 0 dX8_numberFrom_12 rfl ?_
        refine g_get_r C ob_143 1 (by decide) rfl wd_231 dX8_numberFrom_13 ?_
        refine g_iload_n C 3 dX8_numberFrom_16 rfl ?_
        refine g_cV1 C (As := [.int (nI (s0 + k))]) (w := .int (mem 145 (s0 + k))) (mem3 := mem) iX6_at (c_X6_at l G mem ob_144 ar_145 (by decide) (by omega)) wd_548 ob_144 rfl ⟨Nat.le_of_ble_eq_true rfl, Nat.le_of_ble_eq_true rfl⟩ ⟨rfl, rfl⟩ rfl (Nat.le_of_ble_eq_true rfl) dX8_numberFrom_17 (rfl) (rfl) ?_
        refine g_top (y := nI (tx (s0 + k))) (hcb.1) ?_
        refine g_cS1 C (As := [.int (nI (tx (s0 + k)))]) (w := .int (b2i (dgN (tx (s0 + k))))) (mem3 := mem) iX8_isDigit (c_X8_isDigit l G mem (nI (tx (s0 + k)))) wd_549 rfl ⟨Nat.le_of_ble_eq_true rfl, Nat.le_of_ble_eq_true rfl⟩ ⟨rfl, rfl⟩ rfl (Nat.le_of_ble_eq_true rfl) dX8_numberFrom_20 (congrArg Value.int (b2i_congr (dg_n (c := tx (s0 + k)) (by omega)))) (rfl) ?_
        refine g_ifb_eq C 49 dX8_numberFrom_23 (by decide) (fun c_23 => ?_) (fun c_23 => ?_)
        · have hxe : ¬ (s0 + k < tl ∧ dgN (tx (s0 + k))) := fun q => c_23 q.2
          refine g_iload_n C 2 dX8_numberFrom_49 rfl ?_
          refine g_iret C hQ rfl dX8_numberFrom_50 ?_
          exact ⟨by rw [nf_is hk hdg hxe], rfl⟩
        · have hd1 := c_23.1
          have hd2 := c_23.2
          refine g_iload_n C 2 dX8_numberFrom_26 rfl ?_
          refine g_bipush C (nI 10) dX8_numberFrom_27 (by decide) ?_
          refine g_imul_n C (d := (vlT tx s0 k) * 10) dX8_numberFrom_29 rfl ?_
          refine g_aload_n C 0 dX8_numberFrom_30 rfl ?_
          refine g_get_r C ob_143 1 (by decide) rfl wd_231 dX8_numberFrom_31 ?_
          refine g_iload_n C 3 dX8_numberFrom_34 rfl ?_
          refine g_cV1 C (As := [.int (nI (s0 + k))]) (w := .int (mem 145 (s0 + k))) (mem3 := mem) iX6_at (c_X6_at l G mem ob_144 ar_145 (by decide) (by omega)) wd_548 ob_144 rfl ⟨Nat.le_of_ble_eq_true rfl, Nat.le_of_ble_eq_true rfl⟩ ⟨rfl, rfl⟩ rfl (Nat.le_of_ble_eq_true rfl) dX8_numberFrom_35 (rfl) (rfl) ?_
          refine g_top (y := nI (tx (s0 + k))) (hcb.1) ?_
          refine g_iadd_n C (d := ((vlT tx s0 k) * 10) + (tx (s0 + k))) dX8_numberFrom_38 rfl ?_
          refine g_bipush C (nI 48) dX8_numberFrom_39 (by decide) ?_
          refine g_isub C dX8_numberFrom_41 ?_
          refine g_top (y := nI (10 * vlT tx s0 k + (tx (s0 + k) - 48))) ((pk_sub (by omega)).trans (congrArg nI (by omega))) ?_
          refine g_istore_n C (L2 := [(2, .int (nI (10 * vlT tx s0 k + (tx (s0 + k) - 48)))), (0, .ref (gad G 143)), (1, .int (nI s0)), (3, .int (nI (s0 + k)))]) dX8_numberFrom_42 (by decide) rfl ?_
          refine g_iinc C (v := nI (s0 + k + 1)) (L2 := [(3, .int (nI (s0 + k + 1))), (2, .int (nI (10 * vlT tx s0 k + (tx (s0 + k) - 48)))), (0, .ref (gad G 143)), (1, .int (nI s0))]) 3 dX8_numberFrom_43 rfl (nI_1 _) (by decide) rfl ?_
          refine g_goto C 4 dX8_numberFrom_46 (by decide) ?_
          refine g_loc (L2 := [(0, .ref (gad G 143)), (1, .int (nI s0)), (2, .int (nI (10 * vlT tx s0 k + (tx (s0 + k) - 48)))), (3, .int (nI (s0 + k + 1)))]) [2, 3, 1, 0] rfl ?_
          exact g_eq (ih_4 (k + 1) (hlt) (all_s (P := fun j => dgN (tx (s0 + j))) hdg c_23) (by omega)) (rfl) (gLc rfl (gLc rfl (gLc (congrArg Value.int (rfl)) (gLc (congrArg Value.int (rfl)) (rfl))))) rfl
  refine g_loc (L2 := [(0, .ref (gad G 143)), (1, .int (nI s0)), (2, .int (nI 0)), (3, .int (nI s0))]) [2, 3, 1, 0] rfl ?_
  exact g_eq (lp_4 (_ + 1) 0 (hs0) (fun j hj => absurd hj (Nat.not_lt_zero j)) (Nat.lt_succ_self _)) (rfl) (gLc rfl (gLc rfl (gLc (congrArg Value.int (rfl)) (gLc (congrArg Value.int (rfl)) (rfl))))) rfl

def rm_X8_wrongSignPlace : Room := { frames := 1, cells := 0, slots := 0, locals := 21 }
theorem iX8_wrongSignPlace : gIv yX8_wrongSignPlace cX8_wrongSignPlace 6 (some .int) 1 := ⟨⟨wd_547, wd_30, by decide +kernel, by decide +kernel, by decide +kernel⟩, wd_545, wd_546⟩
set_option maxRecDepth 100000 in
set_option maxHeartbeats 4000000 in
theorem c_X8_wrongSignPlace (l : Launch) (G : gG) (mem : gM) {tx : Nat → Nat} {tl : Nat} (tX : TX tx tl mem) {n : Nat} (hn : n ≤ 10) : gMet l yX8_wrongSignPlace cX8_wrongSignPlace 6 (some .int) rm_X8_wrongSignPlace G [.ref (gad G 143), .int (nI n)] mem (fun a u => ∃ rr : Int32, a = some (.int rr) ∧ (((okT n tx tl → rr = (-1 : Int32)) ∧ (¬ okT n tx tl → rr = nI (wsT n tx tl))) ∧ u = mem)) := by
  refine g_of (own := RX8) (L0 := [(0, .ref (gad G 143)), (1, .int (nI n))]) (by decide +kernel) rfl (Nat.le_of_ble_eq_true rfl) rfl ?_
  intro p e s m args below meth c C Q hQ
  have h60 := tX.2.1
  refine g_iconst C (nI 0) dX8_wrongSignPlace_0 (by decide) ?_
  refine g_istore_n C (L2 := [(2, .int (nI 0)), (0, .ref (gad G 143)), (1, .int (nI n))]) dX8_wrongSignPlace_1 (by decide) rfl ?_
  refine g_iconst C (nI 0) dX8_wrongSignPlace_2 (by decide) ?_
  refine g_istore_n C (L2 := [(3, .int (nI 0)), (2, .int (nI 0)), (0, .ref (gad G 143)), (1, .int (nI n))]) dX8_wrongSignPlace_3 (by decide) rfl ?_
  refine g_iconst C (nI 0) dX8_wrongSignPlace_4 (by decide) ?_
  refine g_istore C (L2 := [(4, .int (nI 0)), (3, .int (nI 0)), (2, .int (nI 0)), (0, .ref (gad G 143)), (1, .int (nI n))]) dX8_wrongSignPlace_5 (by decide) rfl ?_
  have lp_7 : ∀ (fu : Nat) (i : Nat) (b : Bool) (d : Nat), (i ≤ tl) → (auS n tx i = some (b, d)) → tl - i < fu → gV p l e rm_X8_wrongSignPlace s m args below meth c 0 0 Q G 6 mem 7 [(0, .ref (gad G 143)), (1, .int (nI n)), (2, .int (b2i (b = true))), (3, .int (nI d)), (4, .int (nI i))] [] := by
    intro fu
    induction fu with
    | zero => intro i b d _ _ hfu; exact absurd hfu (Nat.not_lt_zero _)
    | succ fu ih_7 =>
      intro i b d hi hau hfu_7
      have hdi : d ≤ i := au_d hau
      refine g_iload C 4 dX8_wrongSignPlace_7 rfl ?_
      rcases b with _ | _
      · refine g_aload_n C 0 dX8_wrongSignPlace_9 rfl ?_
        refine g_get_i C ob_143 0 (by decide) rfl wd_229 dX8_wrongSignPlace_10 ?_
        refine g_top (y := nI tl) (tX.1) ?_
        refine g_icmp_ge C 106 dX8_wrongSignPlace_13 (by decide) (fun c_13 => ?_) (fun c_13 => ?_)
        · have hin : i = tl := by have q := (nI_leI (a := tl) (b := i) (by omega) (by omega)).mp c_13; omega
          rw [hin] at hau
          refine g_iload_n C 2 dX8_wrongSignPlace_106 rfl ?_
          refine g_ifb_eq_t C 118 (by decide) dX8_wrongSignPlace_107 (by decide) ?_
          refine g_aload_n C 0 dX8_wrongSignPlace_118 rfl ?_
          refine g_get_i C ob_143 0 (by decide) rfl wd_229 dX8_wrongSignPlace_119 ?_
          refine g_top (y := nI tl) (tX.1) ?_
          refine g_iret C hQ rfl dX8_wrongSignPlace_122 ?_
          have hw := ws_end hau (fun q => absurd q.1 (by decide))
          exact ⟨_, rfl, ⟨fun q => absurd q hw.1, fun _ => by rw [hw.2]⟩, rfl⟩
        · have hi2 : i < tl := by have q := mt (nI_leI (a := tl) (b := i) (by omega) (by omega)).mpr c_13; omega
          have hcb := tX.2.2 i hi2
          refine g_aload_n C 0 dX8_wrongSignPlace_16 rfl ?_
          refine g_get_r C ob_143 1 (by decide) rfl wd_231 dX8_wrongSignPlace_17 ?_
          refine g_iload C 4 dX8_wrongSignPlace_20 rfl ?_
          refine g_cV1 C (As := [.int (nI i)]) (w := .int (mem 145 i)) (mem3 := mem) iX6_at (c_X6_at l G mem ob_144 ar_145 (by decide) (by omega)) wd_548 ob_144 rfl ⟨Nat.le_of_ble_eq_true rfl, Nat.le_of_ble_eq_true rfl⟩ ⟨rfl, rfl⟩ rfl (Nat.le_of_ble_eq_true rfl) dX8_wrongSignPlace_22 (rfl) (rfl) ?_
          refine g_top (y := nI (tx i)) (hcb.1) ?_
          refine g_istore C (L2 := [(5, .int (nI (tx i))), (0, .ref (gad G 143)), (1, .int (nI n)), (2, .int (b2i (false = true))), (3, .int (nI d)), (4, .int (nI i))]) dX8_wrongSignPlace_25 (by decide) rfl ?_
          refine g_iload C 0 dX8_wrongSignPlace_27 rfl ?_
          refine g_cS1 C (As := [.int (nI (tx i))]) (w := .int (b2i (dgN (tx i)))) (mem3 := mem) iX8_isDigit (c_X8_isDigit l G mem (nI (tx i))) wd_549 rfl ⟨Nat.le_of_ble_eq_true rfl, Nat.le_of_ble_eq_true rfl⟩ ⟨rfl, rfl⟩ rfl (Nat.le_of_ble_eq_true rfl) dX8_wrongSignPlace_29 (congrArg Value.int (b2i_congr (dg_n (c := tx i) (by omega)))) (rfl) ?_
          refine g_ifb_eq C 62 dX8_wrongSignPlace_32 (by decide) (fun c_32 => ?_) (fun c_32 => ?_)
          · have hno : ¬ (dgN (tx i) ∧ d < 3) := fun q => c_32 q.1
            refine g_iload C 0 dX8_wrongSignPlace_62 rfl ?_
            refine g_iload_n C 3 dX8_wrongSignPlace_64 rfl ?_
            refine g_ifb_eq_t C 73 (by decide) dX8_wrongSignPlace_65 (by decide) ?_
            refine g_bipush C (nI 58) dX8_wrongSignPlace_73 (by decide) ?_
            refine g_icmp_ne C 97 dX8_wrongSignPlace_75 (by decide) (fun c_75 => ?_) (fun c_75 => ?_)
            · have hc9 : ¬ tx i = 58 := fun q => c_75 (by rw [q])
              refine g_iload C 5 dX8_wrongSignPlace_97 rfl ?_
              refine g_iret C hQ rfl dX8_wrongSignPlace_99 ?_
              have hw := ws_in hi2 hau (au_fn hno (by first | exact fun q => hc9 q.1 | exact fun q => hd0 q.2))
              exact ⟨_, rfl, ⟨fun q => absurd q hw.1, fun _ => by rw [hw.2]⟩, rfl⟩
            · have hc9 : tx i = 58 := (nI_iff (by omega) (by decide)).mp c_75
              refine g_iload_n C 4 dX8_wrongSignPlace_78 rfl ?_
              refine g_if_le C 97 dX8_wrongSignPlace_79 (by decide) (fun c_79 => ?_) (fun c_79 => ?_)
              · have hd0 : ¬ 0 < d := by have q := (nI_leI (b := 0) (by omega) (by decide)).mp c_79; omega
                refine g_iload C 5 dX8_wrongSignPlace_97 rfl ?_
                refine g_iret C hQ rfl dX8_wrongSignPlace_99 ?_
                have hw := ws_in hi2 hau (au_fn hno (by first | exact fun q => hc9 q.1 | exact fun q => hd0 q.2))
                exact ⟨_, rfl, ⟨fun q => absurd q hw.1, fun _ => by rw [hw.2]⟩, rfl⟩
              · have hd0 : 0 < d := by have q := mt (nI_leI (b := 0) (by omega) (by decide)).mpr c_79; omega
                refine g_iload_n C 3 dX8_wrongSignPlace_82 rfl ?_
                refine g_ifb_ne_f C 90 (by decide) dX8_wrongSignPlace_83 (by decide) ?_
                refine g_iconst C (nI 1) dX8_wrongSignPlace_86 (by decide) ?_
                refine g_goto C 91 dX8_wrongSignPlace_87 (by decide) ?_
                refine g_istore_n C (L2 := [(2, .int (nI 1)), (5, .int (nI (tx i))), (0, .ref (gad G 143)), (1, .int (nI n)), (3, .int (nI d)), (4, .int (nI i))]) dX8_wrongSignPlace_91 (by decide) rfl ?_
                refine g_iconst C (nI 0) dX8_wrongSignPlace_92 (by decide) ?_
                refine g_istore_n C (L2 := [(3, .int (nI 0)), (2, .int (nI 1)), (5, .int (nI (tx i))), (0, .ref (gad G 143)), (1, .int (nI n)), (4, .int (nI i))]) dX8_wrongSignPlace_93 (by decide) rfl ?_
                refine g_goto C 100 dX8_wrongSignPlace_94 (by decide) ?_
                refine g_iinc C (v := nI (i + 1)) (L2 := [(4, .int (nI (i + 1))), (3, .int (nI 0)), (2, .int (nI 1)), (5, .int (nI (tx i))), (0, .ref (gad G 143)), (1, .int (nI n))]) 5 dX8_wrongSignPlace_100 rfl (nI_1 _) (by decide) rfl ?_
                refine g_goto C 7 dX8_wrongSignPlace_103 (by decide) ?_
                refine g_loc (L2 := [(0, .ref (gad G 143)), (1, .int (nI n)), (2, .int (nI 1)), (3, .int (nI 0)), (4, .int (nI (i + 1)))]) [4, 5, 2, 1, 0] rfl ?_
                exact g_eq (ih_7 (i + 1) true 0 (hi2) (by rw [au_s hau, au_fs hc9 hd0]) (by omega)) (rfl) (gLc rfl (gLc rfl (gLc (congrArg Value.int (by decide)) (rfl)))) rfl
          · have hd1 := c_32.1
            have hd2 := c_32.2
            refine g_iload_n C 3 dX8_wrongSignPlace_35 rfl ?_
            refine g_ifb_eq_t C 51 (by decide) dX8_wrongSignPlace_36 (by decide) ?_
            refine g_iload_n C 4 dX8_wrongSignPlace_51 rfl ?_
            refine g_iconst C (nI 3) dX8_wrongSignPlace_52 (by decide) ?_
            refine g_icmp_ge C 62 dX8_wrongSignPlace_53 (by decide) (fun c_53 => ?_) (fun c_53 => ?_)
            · have hxd : 3 ≤ d := by have q := (nI_leI (a := 3) (b := d) (by omega) (by omega)).mp c_53; omega
              have hno : ¬ (dgN (tx i) ∧ d < 3) := fun q => absurd q.2 (by omega)
              refine g_iload C 0 dX8_wrongSignPlace_62 rfl ?_
              refine g_iload_n C 3 dX8_wrongSignPlace_64 rfl ?_
              refine g_ifb_eq_t C 73 (by decide) dX8_wrongSignPlace_65 (by decide) ?_
              refine g_bipush C (nI 58) dX8_wrongSignPlace_73 (by decide) ?_
              refine g_icmp_ne C 97 dX8_wrongSignPlace_75 (by decide) (fun c_75 => ?_) (fun c_75 => ?_)
              · have hc9 : ¬ tx i = 58 := fun q => c_75 (by rw [q])
                refine g_iload C 5 dX8_wrongSignPlace_97 rfl ?_
                refine g_iret C hQ rfl dX8_wrongSignPlace_99 ?_
                have hw := ws_in hi2 hau (au_fn hno (by first | exact fun q => hc9 q.1 | exact fun q => hd0 q.2))
                exact ⟨_, rfl, ⟨fun q => absurd q hw.1, fun _ => by rw [hw.2]⟩, rfl⟩
              · have hc9 : tx i = 58 := (nI_iff (by omega) (by decide)).mp c_75
                refine g_iload_n C 4 dX8_wrongSignPlace_78 rfl ?_
                refine g_if_le C 97 dX8_wrongSignPlace_79 (by decide) (fun c_79 => ?_) (fun c_79 => ?_)
                · have hd0 : ¬ 0 < d := by have q := (nI_leI (b := 0) (by omega) (by decide)).mp c_79; omega
                  refine g_iload C 5 dX8_wrongSignPlace_97 rfl ?_
                  refine g_iret C hQ rfl dX8_wrongSignPlace_99 ?_
                  have hw := ws_in hi2 hau (au_fn hno (by first | exact fun q => hc9 q.1 | exact fun q => hd0 q.2))
                  exact ⟨_, rfl, ⟨fun q => absurd q hw.1, fun _ => by rw [hw.2]⟩, rfl⟩
                · have hd0 : 0 < d := by have q := mt (nI_leI (b := 0) (by omega) (by decide)).mpr c_79; omega
                  refine g_iload_n C 3 dX8_wrongSignPlace_82 rfl ?_
                  refine g_ifb_ne_f C 90 (by decide) dX8_wrongSignPlace_83 (by decide) ?_
                  refine g_iconst C (nI 1) dX8_wrongSignPlace_86 (by decide) ?_
                  refine g_goto C 91 dX8_wrongSignPlace_87 (by decide) ?_
                  refine g_istore_n C (L2 := [(2, .int (nI 1)), (5, .int (nI (tx i))), (0, .ref (gad G 143)), (1, .int (nI n)), (3, .int (nI d)), (4, .int (nI i))]) dX8_wrongSignPlace_91 (by decide) rfl ?_
                  refine g_iconst C (nI 0) dX8_wrongSignPlace_92 (by decide) ?_
                  refine g_istore_n C (L2 := [(3, .int (nI 0)), (2, .int (nI 1)), (5, .int (nI (tx i))), (0, .ref (gad G 143)), (1, .int (nI n)), (4, .int (nI i))]) dX8_wrongSignPlace_93 (by decide) rfl ?_
                  refine g_goto C 100 dX8_wrongSignPlace_94 (by decide) ?_
                  refine g_iinc C (v := nI (i + 1)) (L2 := [(4, .int (nI (i + 1))), (3, .int (nI 0)), (2, .int (nI 1)), (5, .int (nI (tx i))), (0, .ref (gad G 143)), (1, .int (nI n))]) 5 dX8_wrongSignPlace_100 rfl (nI_1 _) (by decide) rfl ?_
                  refine g_goto C 7 dX8_wrongSignPlace_103 (by decide) ?_
                  refine g_loc (L2 := [(0, .ref (gad G 143)), (1, .int (nI n)), (2, .int (nI 1)), (3, .int (nI 0)), (4, .int (nI (i + 1)))]) [4, 5, 2, 1, 0] rfl ?_
                  exact g_eq (ih_7 (i + 1) true 0 (hi2) (by rw [au_s hau, au_fs hc9 hd0]) (by omega)) (rfl) (gLc rfl (gLc rfl (gLc (congrArg Value.int (by decide)) (rfl)))) rfl
            · have hd3 : d < 3 := by have q := mt (nI_leI (a := 3) (b := d) (by omega) (by omega)).mpr c_53; omega
              refine g_iinc C (v := nI (d + 1)) (L2 := [(3, .int (nI (d + 1))), (5, .int (nI (tx i))), (0, .ref (gad G 143)), (1, .int (nI n)), (2, .int (b2i (false = true))), (4, .int (nI i))]) 4 dX8_wrongSignPlace_56 rfl (nI_1 _) (by decide) rfl ?_
              refine g_goto C 100 dX8_wrongSignPlace_59 (by decide) ?_
              refine g_iinc C (v := nI (i + 1)) (L2 := [(4, .int (nI (i + 1))), (3, .int (nI (d + 1))), (5, .int (nI (tx i))), (0, .ref (gad G 143)), (1, .int (nI n)), (2, .int (b2i (false = true)))]) 5 dX8_wrongSignPlace_100 rfl (nI_1 _) (by decide) rfl ?_
              refine g_goto C 7 dX8_wrongSignPlace_103 (by decide) ?_
              refine g_loc (L2 := [(0, .ref (gad G 143)), (1, .int (nI n)), (2, .int (b2i (false = true))), (3, .int (nI (d + 1))), (4, .int (nI (i + 1)))]) [3, 4, 5, 1, 0] rfl ?_
              exact g_eq (ih_7 (i + 1) false (d + 1) (hi2) (by rw [au_s hau, au_fd c_32 hd3]) (by omega)) (rfl) (rfl) rfl
      · refine g_aload_n C 0 dX8_wrongSignPlace_9 rfl ?_
        refine g_get_i C ob_143 0 (by decide) rfl wd_229 dX8_wrongSignPlace_10 ?_
        refine g_top (y := nI tl) (tX.1) ?_
        refine g_icmp_ge C 106 dX8_wrongSignPlace_13 (by decide) (fun c_13 => ?_) (fun c_13 => ?_)
        · have hin : i = tl := by have q := (nI_leI (a := tl) (b := i) (by omega) (by omega)).mp c_13; omega
          rw [hin] at hau
          refine g_iload_n C 2 dX8_wrongSignPlace_106 rfl ?_
          refine g_ifb_eq_f C 118 (by decide) dX8_wrongSignPlace_107 (by decide) ?_
          refine g_iload_n C 3 dX8_wrongSignPlace_110 rfl ?_
          refine g_if_le C 118 dX8_wrongSignPlace_111 (by decide) (fun c_111 => ?_) (fun c_111 => ?_)
          · have hd0 : ¬ 0 < d := by have q := (nI_leI (b := 0) (by omega) (by decide)).mp c_111; omega
            refine g_aload_n C 0 dX8_wrongSignPlace_118 rfl ?_
            refine g_get_i C ob_143 0 (by decide) rfl wd_229 dX8_wrongSignPlace_119 ?_
            refine g_top (y := nI tl) (tX.1) ?_
            refine g_iret C hQ rfl dX8_wrongSignPlace_122 ?_
            have hw := ws_end hau (fun q => hd0 q.2)
            exact ⟨_, rfl, ⟨fun q => absurd q hw.1, fun _ => by rw [hw.2]⟩, rfl⟩
          · have hd0 : 0 < d := by have q := mt (nI_leI (b := 0) (by omega) (by decide)).mpr c_111; omega
            refine g_iconst C (((-1) : Int32)) dX8_wrongSignPlace_114 (by decide) ?_
            refine g_goto C 122 dX8_wrongSignPlace_115 (by decide) ?_
            refine g_iret C hQ rfl dX8_wrongSignPlace_122 ?_
            exact ⟨_, rfl, ⟨fun _ => rfl, fun q => absurd ⟨d, hau, hd0⟩ q⟩, rfl⟩
        · have hi2 : i < tl := by have q := mt (nI_leI (a := tl) (b := i) (by omega) (by omega)).mpr c_13; omega
          have hcb := tX.2.2 i hi2
          refine g_aload_n C 0 dX8_wrongSignPlace_16 rfl ?_
          refine g_get_r C ob_143 1 (by decide) rfl wd_231 dX8_wrongSignPlace_17 ?_
          refine g_iload C 4 dX8_wrongSignPlace_20 rfl ?_
          refine g_cV1 C (As := [.int (nI i)]) (w := .int (mem 145 i)) (mem3 := mem) iX6_at (c_X6_at l G mem ob_144 ar_145 (by decide) (by omega)) wd_548 ob_144 rfl ⟨Nat.le_of_ble_eq_true rfl, Nat.le_of_ble_eq_true rfl⟩ ⟨rfl, rfl⟩ rfl (Nat.le_of_ble_eq_true rfl) dX8_wrongSignPlace_22 (rfl) (rfl) ?_
          refine g_top (y := nI (tx i)) (hcb.1) ?_
          refine g_istore C (L2 := [(5, .int (nI (tx i))), (0, .ref (gad G 143)), (1, .int (nI n)), (2, .int (b2i (true = true))), (3, .int (nI d)), (4, .int (nI i))]) dX8_wrongSignPlace_25 (by decide) rfl ?_
          refine g_iload C 0 dX8_wrongSignPlace_27 rfl ?_
          refine g_cS1 C (As := [.int (nI (tx i))]) (w := .int (b2i (dgN (tx i)))) (mem3 := mem) iX8_isDigit (c_X8_isDigit l G mem (nI (tx i))) wd_549 rfl ⟨Nat.le_of_ble_eq_true rfl, Nat.le_of_ble_eq_true rfl⟩ ⟨rfl, rfl⟩ rfl (Nat.le_of_ble_eq_true rfl) dX8_wrongSignPlace_29 (congrArg Value.int (b2i_congr (dg_n (c := tx i) (by omega)))) (rfl) ?_
          refine g_ifb_eq C 62 dX8_wrongSignPlace_32 (by decide) (fun c_32 => ?_) (fun c_32 => ?_)
          · have hno : ¬ (48 ≤ tx i ∧ tx i - 48 < n) := fun q => c_32 ⟨q.1, by omega⟩
            refine g_iload C 0 dX8_wrongSignPlace_62 rfl ?_
            refine g_iload_n C 3 dX8_wrongSignPlace_64 rfl ?_
            refine g_ifb_eq_f C 73 (by decide) dX8_wrongSignPlace_65 (by decide) ?_
            refine g_bipush C (nI 59) dX8_wrongSignPlace_68 (by decide) ?_
            refine g_goto C 75 dX8_wrongSignPlace_70 (by decide) ?_
            refine g_icmp_ne C 97 dX8_wrongSignPlace_75 (by decide) (fun c_75 => ?_) (fun c_75 => ?_)
            · have hc9 : ¬ tx i = 59 := fun q => c_75 (by rw [q])
              refine g_iload C 5 dX8_wrongSignPlace_97 rfl ?_
              refine g_iret C hQ rfl dX8_wrongSignPlace_99 ?_
              have hw := ws_in hi2 hau (au_tn hno (by first | exact fun q => hc9 q.1 | exact fun q => hd0 q.2))
              exact ⟨_, rfl, ⟨fun q => absurd q hw.1, fun _ => by rw [hw.2]⟩, rfl⟩
            · have hc9 : tx i = 59 := (nI_iff (by omega) (by decide)).mp c_75
              refine g_iload_n C 4 dX8_wrongSignPlace_78 rfl ?_
              refine g_if_le C 97 dX8_wrongSignPlace_79 (by decide) (fun c_79 => ?_) (fun c_79 => ?_)
              · have hd0 : ¬ 0 < d := by have q := (nI_leI (b := 0) (by omega) (by decide)).mp c_79; omega
                refine g_iload C 5 dX8_wrongSignPlace_97 rfl ?_
                refine g_iret C hQ rfl dX8_wrongSignPlace_99 ?_
                have hw := ws_in hi2 hau (au_tn hno (by first | exact fun q => hc9 q.1 | exact fun q => hd0 q.2))
                exact ⟨_, rfl, ⟨fun q => absurd q hw.1, fun _ => by rw [hw.2]⟩, rfl⟩
              · have hd0 : 0 < d := by have q := mt (nI_leI (b := 0) (by omega) (by decide)).mpr c_79; omega
                refine g_iload_n C 3 dX8_wrongSignPlace_82 rfl ?_
                refine g_ifb_ne_t C 90 (by decide) dX8_wrongSignPlace_83 (by decide) ?_
                refine g_iconst C (nI 0) dX8_wrongSignPlace_90 (by decide) ?_
                refine g_istore_n C (L2 := [(2, .int (nI 0)), (5, .int (nI (tx i))), (0, .ref (gad G 143)), (1, .int (nI n)), (3, .int (nI d)), (4, .int (nI i))]) dX8_wrongSignPlace_91 (by decide) rfl ?_
                refine g_iconst C (nI 0) dX8_wrongSignPlace_92 (by decide) ?_
                refine g_istore_n C (L2 := [(3, .int (nI 0)), (2, .int (nI 0)), (5, .int (nI (tx i))), (0, .ref (gad G 143)), (1, .int (nI n)), (4, .int (nI i))]) dX8_wrongSignPlace_93 (by decide) rfl ?_
                refine g_goto C 100 dX8_wrongSignPlace_94 (by decide) ?_
                refine g_iinc C (v := nI (i + 1)) (L2 := [(4, .int (nI (i + 1))), (3, .int (nI 0)), (2, .int (nI 0)), (5, .int (nI (tx i))), (0, .ref (gad G 143)), (1, .int (nI n))]) 5 dX8_wrongSignPlace_100 rfl (nI_1 _) (by decide) rfl ?_
                refine g_goto C 7 dX8_wrongSignPlace_103 (by decide) ?_
                refine g_loc (L2 := [(0, .ref (gad G 143)), (1, .int (nI n)), (2, .int (nI 0)), (3, .int (nI 0)), (4, .int (nI (i + 1)))]) [4, 5, 2, 1, 0] rfl ?_
                exact g_eq (ih_7 (i + 1) false 0 (hi2) (by rw [au_s hau, au_ts hn hc9 hd0]) (by omega)) (rfl) (gLc rfl (gLc rfl (gLc (congrArg Value.int (by decide)) (rfl)))) rfl
          · have hd1 := c_32.1
            have hd2 := c_32.2
            refine g_iload_n C 3 dX8_wrongSignPlace_35 rfl ?_
            refine g_ifb_eq_f C 51 (by decide) dX8_wrongSignPlace_36 (by decide) ?_
            refine g_iload C 0 dX8_wrongSignPlace_39 rfl ?_
            refine g_bipush C (nI 48) dX8_wrongSignPlace_41 (by decide) ?_
            refine g_isub C dX8_wrongSignPlace_43 ?_
            refine g_top (pk_sub (by omega)) ?_
            refine g_iload_n C 2 dX8_wrongSignPlace_44 rfl ?_
            refine g_icmp_ge C 62 dX8_wrongSignPlace_45 (by decide) (fun c_45 => ?_) (fun c_45 => ?_)
            · have hxn : n ≤ tx i - 48 := by have q := (nI_leI (a := n) (b := tx i - 48) (by omega) (by omega)).mp c_45; omega
              have hno : ¬ (48 ≤ tx i ∧ tx i - 48 < n) := by omega
              refine g_iload C 0 dX8_wrongSignPlace_62 rfl ?_
              refine g_iload_n C 3 dX8_wrongSignPlace_64 rfl ?_
              refine g_ifb_eq_f C 73 (by decide) dX8_wrongSignPlace_65 (by decide) ?_
              refine g_bipush C (nI 59) dX8_wrongSignPlace_68 (by decide) ?_
              refine g_goto C 75 dX8_wrongSignPlace_70 (by decide) ?_
              refine g_icmp_ne C 97 dX8_wrongSignPlace_75 (by decide) (fun c_75 => ?_) (fun c_75 => ?_)
              · have hc9 : ¬ tx i = 59 := fun q => c_75 (by rw [q])
                refine g_iload C 5 dX8_wrongSignPlace_97 rfl ?_
                refine g_iret C hQ rfl dX8_wrongSignPlace_99 ?_
                have hw := ws_in hi2 hau (au_tn hno (by first | exact fun q => hc9 q.1 | exact fun q => hd0 q.2))
                exact ⟨_, rfl, ⟨fun q => absurd q hw.1, fun _ => by rw [hw.2]⟩, rfl⟩
              · have hc9 : tx i = 59 := (nI_iff (by omega) (by decide)).mp c_75
                refine g_iload_n C 4 dX8_wrongSignPlace_78 rfl ?_
                refine g_if_le C 97 dX8_wrongSignPlace_79 (by decide) (fun c_79 => ?_) (fun c_79 => ?_)
                · have hd0 : ¬ 0 < d := by have q := (nI_leI (b := 0) (by omega) (by decide)).mp c_79; omega
                  refine g_iload C 5 dX8_wrongSignPlace_97 rfl ?_
                  refine g_iret C hQ rfl dX8_wrongSignPlace_99 ?_
                  have hw := ws_in hi2 hau (au_tn hno (by first | exact fun q => hc9 q.1 | exact fun q => hd0 q.2))
                  exact ⟨_, rfl, ⟨fun q => absurd q hw.1, fun _ => by rw [hw.2]⟩, rfl⟩
                · have hd0 : 0 < d := by have q := mt (nI_leI (b := 0) (by omega) (by decide)).mpr c_79; omega
                  refine g_iload_n C 3 dX8_wrongSignPlace_82 rfl ?_
                  refine g_ifb_ne_t C 90 (by decide) dX8_wrongSignPlace_83 (by decide) ?_
                  refine g_iconst C (nI 0) dX8_wrongSignPlace_90 (by decide) ?_
                  refine g_istore_n C (L2 := [(2, .int (nI 0)), (5, .int (nI (tx i))), (0, .ref (gad G 143)), (1, .int (nI n)), (3, .int (nI d)), (4, .int (nI i))]) dX8_wrongSignPlace_91 (by decide) rfl ?_
                  refine g_iconst C (nI 0) dX8_wrongSignPlace_92 (by decide) ?_
                  refine g_istore_n C (L2 := [(3, .int (nI 0)), (2, .int (nI 0)), (5, .int (nI (tx i))), (0, .ref (gad G 143)), (1, .int (nI n)), (4, .int (nI i))]) dX8_wrongSignPlace_93 (by decide) rfl ?_
                  refine g_goto C 100 dX8_wrongSignPlace_94 (by decide) ?_
                  refine g_iinc C (v := nI (i + 1)) (L2 := [(4, .int (nI (i + 1))), (3, .int (nI 0)), (2, .int (nI 0)), (5, .int (nI (tx i))), (0, .ref (gad G 143)), (1, .int (nI n))]) 5 dX8_wrongSignPlace_100 rfl (nI_1 _) (by decide) rfl ?_
                  refine g_goto C 7 dX8_wrongSignPlace_103 (by decide) ?_
                  refine g_loc (L2 := [(0, .ref (gad G 143)), (1, .int (nI n)), (2, .int (nI 0)), (3, .int (nI 0)), (4, .int (nI (i + 1)))]) [4, 5, 2, 1, 0] rfl ?_
                  exact g_eq (ih_7 (i + 1) false 0 (hi2) (by rw [au_s hau, au_ts hn hc9 hd0]) (by omega)) (rfl) (gLc rfl (gLc rfl (gLc (congrArg Value.int (by decide)) (rfl)))) rfl
            · have hm : tx i - 48 < n := by have q := mt (nI_leI (a := n) (b := tx i - 48) (by omega) (by omega)).mpr c_45; omega
              refine g_goto C 56 dX8_wrongSignPlace_48 (by decide) ?_
              refine g_iinc C (v := nI (d + 1)) (L2 := [(3, .int (nI (d + 1))), (5, .int (nI (tx i))), (0, .ref (gad G 143)), (1, .int (nI n)), (2, .int (b2i (true = true))), (4, .int (nI i))]) 4 dX8_wrongSignPlace_56 rfl (nI_1 _) (by decide) rfl ?_
              refine g_goto C 100 dX8_wrongSignPlace_59 (by decide) ?_
              refine g_iinc C (v := nI (i + 1)) (L2 := [(4, .int (nI (i + 1))), (3, .int (nI (d + 1))), (5, .int (nI (tx i))), (0, .ref (gad G 143)), (1, .int (nI n)), (2, .int (b2i (true = true)))]) 5 dX8_wrongSignPlace_100 rfl (nI_1 _) (by decide) rfl ?_
              refine g_goto C 7 dX8_wrongSignPlace_103 (by decide) ?_
              refine g_loc (L2 := [(0, .ref (gad G 143)), (1, .int (nI n)), (2, .int (b2i (true = true))), (3, .int (nI (d + 1))), (4, .int (nI (i + 1)))]) [3, 4, 5, 1, 0] rfl ?_
              exact g_eq (ih_7 (i + 1) true (d + 1) (hi2) (by rw [au_s hau, au_td hd1 hm]) (by omega)) (rfl) (rfl) rfl
  refine g_loc (L2 := [(0, .ref (gad G 143)), (1, .int (nI n)), (2, .int (nI 0)), (3, .int (nI 0)), (4, .int (nI 0))]) [3, 4, 2, 1, 0] rfl ?_
  exact g_eq (lp_7 (_ + 1) 0 false 0 (Nat.zero_le _) (rfl) (Nat.lt_succ_self _)) (rfl) (gLc rfl (gLc rfl (gLc (congrArg Value.int (by decide)) (rfl)))) rfl

def rm_X8_greatBlockPlace : Room := { frames := 2, cells := 0, slots := 0, locals := 44 }
theorem iX8_greatBlockPlace : gIv yX8_greatBlockPlace cX8_greatBlockPlace 4 (some .int) 0 := ⟨⟨wd_555, wd_30, by decide +kernel, by decide +kernel, by decide +kernel⟩, wd_553, wd_554⟩
set_option maxRecDepth 100000 in
set_option maxHeartbeats 4000000 in
theorem c_X8_greatBlockPlace (l : Launch) (G : gG) (mem : gM) {tx : Nat → Nat} {tl : Nat} (tX : TX tx tl mem) {n : Nat} (hn : n ≤ 10) {s1 : Bool × Nat} (hok : auS n tx tl = some s1) : gMet l yX8_greatBlockPlace cX8_greatBlockPlace 4 (some .int) rm_X8_greatBlockPlace G [.ref (gad G 143)] mem (fun a u => a = some (.int (wrT tx tl tl)) ∧ u = mem) := by
  refine g_of (own := RX8) (L0 := [(0, .ref (gad G 143))]) (by decide +kernel) rfl (Nat.le_of_ble_eq_true rfl) rfl ?_
  intro p e s m args below meth c C Q hQ
  have h60 := tX.2.1
  refine g_iconst C (nI 0) dX8_greatBlockPlace_0 (by decide) ?_
  refine g_istore_n C (L2 := [(1, .int (nI 0)), (0, .ref (gad G 143))]) dX8_greatBlockPlace_1 (by decide) rfl ?_
  refine g_iconst C (nI 0) dX8_greatBlockPlace_2 (by decide) ?_
  refine g_istore_n C (L2 := [(2, .int (nI 0)), (1, .int (nI 0)), (0, .ref (gad G 143))]) dX8_greatBlockPlace_3 (by decide) rfl ?_
  have lp_4 : ∀ (fu : Nat) (i : Nat), (i ≤ tl) → (∀ k, k < i → gbT tx tl k = false) → tl - i < fu → gV p l e rm_X8_greatBlockPlace s m args below meth c 0 0 Q G 4 mem 4 [(0, .ref (gad G 143)), (1, .int (nI (gsT tx i))), (2, .int (nI i))] [] := by
    intro fu
    induction fu with
    | zero => intro i _ _ hfu; exact absurd hfu (Nat.not_lt_zero _)
    | succ fu ih_4 =>
      intro i hi hgb hfu_4
      have hgs := gs_le (tx := tx) i
      refine g_iload_n C 2 dX8_greatBlockPlace_4 rfl ?_
      refine g_aload_n C 0 dX8_greatBlockPlace_5 rfl ?_
      refine g_get_i C ob_143 0 (by decide) rfl wd_229 dX8_greatBlockPlace_6 ?_
      refine g_top (y := nI tl) (tX.1) ?_
      refine g_icmp_ge C 59 dX8_greatBlockPlace_9 (by decide) (fun c_9 => ?_) (fun c_9 => ?_)
      · have hin : i = tl := by have q := (nI_leI (a := tl) (b := i) (by omega) (by omega)).mp c_9; omega
        rw [hin] at hgb
        refine g_iconst C (((-1) : Int32)) dX8_greatBlockPlace_59 (by decide) ?_
        refine g_iret C hQ rfl dX8_greatBlockPlace_60 ?_
        exact ⟨by rw [wrT, fa_first_all hgb, if_neg (Nat.lt_irrefl _)], rfl⟩
      · have hi2 : i < tl := by have q := mt (nI_leI (a := tl) (b := i) (by omega) (by omega)).mpr c_9; omega
        have hcb := tX.2.2 i hi2
        obtain ⟨⟨b1, d1⟩, hau⟩ := au_live hok (Nat.le_of_lt hi2)
        obtain ⟨t1, hau1⟩ := au_live hok (j := i + 1) hi2
        refine g_aload_n C 0 dX8_greatBlockPlace_12 rfl ?_
        refine g_get_r C ob_143 1 (by decide) rfl wd_231 dX8_greatBlockPlace_13 ?_
        refine g_iload_n C 2 dX8_greatBlockPlace_16 rfl ?_
        refine g_cV1 C (As := [.int (nI i)]) (w := .int (mem 145 i)) (mem3 := mem) iX6_at (c_X6_at l G mem ob_144 ar_145 (by decide) (by omega)) wd_548 ob_144 rfl ⟨Nat.le_of_ble_eq_true rfl, Nat.le_of_ble_eq_true rfl⟩ ⟨rfl, rfl⟩ rfl (Nat.le_of_ble_eq_true rfl) dX8_greatBlockPlace_17 (rfl) (rfl) ?_
        refine g_top (y := nI (tx i)) (hcb.1) ?_
        refine g_istore_n C (L2 := [(3, .int (nI (tx i))), (0, .ref (gad G 143)), (1, .int (nI (gsT tx i))), (2, .int (nI i))]) dX8_greatBlockPlace_20 (by decide) rfl ?_
        refine g_iload_n C 0 dX8_greatBlockPlace_21 rfl ?_
        refine g_bipush C (nI 59) dX8_greatBlockPlace_22 (by decide) ?_
        refine g_icmp_ne C 34 dX8_greatBlockPlace_24 (by decide) (fun c_24 => ?_) (fun c_24 => ?_)
        · have hc9 : ¬ tx i = 59 := fun q => c_24 (by rw [q])
          refine g_iload_n C 0 dX8_greatBlockPlace_34 rfl ?_
          refine g_bipush C (nI 58) dX8_greatBlockPlace_35 (by decide) ?_
          refine g_icmp_ne C 53 dX8_greatBlockPlace_37 (by decide) (fun c_37 => ?_) (fun c_37 => ?_)
          · have hc8 : ¬ tx i = 58 := fun q => c_37 (by rw [q])
            refine g_iinc C (v := nI (i + 1)) (L2 := [(2, .int (nI (i + 1))), (3, .int (nI (tx i))), (0, .ref (gad G 143)), (1, .int (nI (gsT tx i)))]) 3 dX8_greatBlockPlace_53 rfl (nI_1 _) (by decide) rfl ?_
            refine g_goto C 4 dX8_greatBlockPlace_56 (by decide) ?_
            refine g_loc (L2 := [(0, .ref (gad G 143)), (1, .int (nI (gsT tx i))), (2, .int (nI (i + 1)))]) [2, 3, 0] rfl ?_
            exact g_eq (ih_4 (i + 1) (hi2) (all_s (P := fun k => gbT tx tl k = false) hgb (by first | exact hgt | exact gb_n (by omega))) (by omega)) (rfl) (gLc rfl (gLc (congrArg Value.int (by first | (rw [gs_y hc9]; done) | (rw [gs_n hc9]; done))) (rfl))) rfl
          · have hc8 : tx i = 58 := (nI_iff (by omega) (by decide)).mp c_37
            obtain ⟨rfl, -⟩ := au_c58 hn hau hau1 hc8
            have hnf := nf_col (tl := tl) hn hau hi2 hc8
            have hnf3 := hnf.2
            rw [← hnf.1] at hnf3
            refine g_aload_n C 1 dX8_greatBlockPlace_40 rfl ?_
            refine g_iload_n C 2 dX8_greatBlockPlace_41 rfl ?_
            refine g_cV1 C (As := [.int (nI (gsT tx i))]) (w := .int (nI (nfT tx tl (gsT tx i)))) (mem3 := mem) iX8_numberFrom (c_X8_numberFrom l G mem tX (s0 := gsT tx i) (by omega)) wd_556 ob_143 rfl ⟨Nat.le_of_ble_eq_true rfl, Nat.le_of_ble_eq_true rfl⟩ ⟨rfl, rfl⟩ rfl (Nat.le_of_ble_eq_true rfl) dX8_greatBlockPlace_42 (rfl) (rfl) ?_
            refine g_sipush C (nI 200) dX8_greatBlockPlace_45 (by decide) ?_
            refine g_icmp_lt C 53 dX8_greatBlockPlace_48 (by decide) (fun c_48 => ?_) (fun c_48 => ?_)
            · have hgt : gbT tx tl i = false := decide_eq_false fun q => absurd ((nI_ltI (by omega) (by decide)).mp c_48) (by omega)
              refine g_iinc C (v := nI (i + 1)) (L2 := [(2, .int (nI (i + 1))), (3, .int (nI (tx i))), (0, .ref (gad G 143)), (1, .int (nI (gsT tx i)))]) 3 dX8_greatBlockPlace_53 rfl (nI_1 _) (by decide) rfl ?_
              refine g_goto C 4 dX8_greatBlockPlace_56 (by decide) ?_
              refine g_loc (L2 := [(0, .ref (gad G 143)), (1, .int (nI (gsT tx i))), (2, .int (nI (i + 1)))]) [2, 3, 0] rfl ?_
              exact g_eq (ih_4 (i + 1) (hi2) (all_s (P := fun k => gbT tx tl k = false) hgb (by first | exact hgt | exact gb_n (by omega))) (by omega)) (rfl) (gLc rfl (gLc (congrArg Value.int (by first | (rw [gs_y hc9]; done) | (rw [gs_n hc9]; done))) (rfl))) rfl
            · have hgt : gbT tx tl i = true := decide_eq_true ⟨hc8, by have q := mt (nI_ltI (a := nfT tx tl (gsT tx i)) (b := 200) (by omega) (by decide)).mpr c_48; omega⟩
              refine g_iload_n C 2 dX8_greatBlockPlace_51 rfl ?_
              refine g_iret C hQ rfl dX8_greatBlockPlace_52 ?_
              exact ⟨by rw [wrT, fa_first_is hgb hgt hi2, if_pos hi2], rfl⟩
        · have hc9 : tx i = 59 := (nI_iff (by omega) (by decide)).mp c_24
          refine g_iload_n C 3 dX8_greatBlockPlace_27 rfl ?_
          refine g_iconst C (nI 1) dX8_greatBlockPlace_28 (by decide) ?_
          refine g_iadd_n C (d := i + 1) dX8_greatBlockPlace_29 rfl ?_
          refine g_istore_n C (L2 := [(1, .int (nI (i + 1))), (3, .int (nI (tx i))), (0, .ref (gad G 143)), (2, .int (nI i))]) dX8_greatBlockPlace_30 (by decide) rfl ?_
          refine g_goto C 53 dX8_greatBlockPlace_31 (by decide) ?_
          refine g_iinc C (v := nI (i + 1)) (L2 := [(2, .int (nI (i + 1))), (1, .int (nI (i + 1))), (3, .int (nI (tx i))), (0, .ref (gad G 143))]) 3 dX8_greatBlockPlace_53 rfl (nI_1 _) (by decide) rfl ?_
          refine g_goto C 4 dX8_greatBlockPlace_56 (by decide) ?_
          refine g_loc (L2 := [(0, .ref (gad G 143)), (1, .int (nI (i + 1))), (2, .int (nI (i + 1)))]) [3, 1, 0] rfl ?_
          exact g_eq (ih_4 (i + 1) (hi2) (all_s (P := fun k => gbT tx tl k = false) hgb (by first | exact hgt | exact gb_n (by omega))) (by omega)) (rfl) (gLc rfl (gLc (congrArg Value.int (by first | (rw [gs_y hc9]; done) | (rw [gs_n hc9]; done))) (rfl))) rfl
  refine g_loc (L2 := [(0, .ref (gad G 143)), (1, .int (nI 0)), (2, .int (nI 0))]) [2, 1, 0] rfl ?_
  exact g_eq (lp_4 (_ + 1) 0 (Nat.zero_le _) (fun k hk => absurd hk (Nat.not_lt_zero k)) (Nat.lt_succ_self _)) (rfl) (gLc rfl (gLc (congrArg Value.int (rfl)) (rfl))) rfl

def rm_X8_errorPlace : Room := { frames := 3, cells := 0, slots := 0, locals := 67 }
theorem iX8_errorPlace : gIv yX8_errorPlace cX8_errorPlace 3 (some .int) 1 := ⟨⟨wd_543, wd_30, by decide +kernel, by decide +kernel, by decide +kernel⟩, wd_541, wd_542⟩
set_option maxRecDepth 100000 in
set_option maxHeartbeats 4000000 in
theorem c_X8_errorPlace (l : Launch) (G : gG) (mem : gM) {tx : Nat → Nat} {tl : Nat} (tX : TX tx tl mem) {n : Nat} (hn : n ≤ 10) : gMet l yX8_errorPlace cX8_errorPlace 3 (some .int) rm_X8_errorPlace G [.ref (gad G 143), .int (nI n)] mem (fun a u => ∃ rr : Int32, a = some (.int rr) ∧ (epI n tx tl rr ∧ u = mem)) := by
  refine g_of (own := RX8) (L0 := [(0, .ref (gad G 143)), (1, .int (nI n))]) (by decide +kernel) rfl (Nat.le_of_ble_eq_true rfl) rfl ?_
  intro p e s m args below meth c C Q hQ
  have h60 := tX.2.1
  have hsk := fa_first_le (skT n tx) tl
  refine g_aload_n C 0 dX8_errorPlace_0 rfl ?_
  refine g_iload_n C 1 dX8_errorPlace_1 rfl ?_
  refine g_cVr C (As := [.int (nI n)]) iX8_wrongSignPlace (c_X8_wrongSignPlace l G mem tX hn) wd_544 ob_143 rfl ⟨Nat.le_of_ble_eq_true rfl, Nat.le_of_ble_eq_true rfl⟩ ⟨rfl, rfl⟩ rfl (Nat.le_of_ble_eq_true rfl) dX8_errorPlace_2 (fun r2 u0 hq => ?_)
  obtain ⟨⟨hw1, hw2⟩, hu⟩ := hq
  rw [hu]
  refine g_istore_n C (L2 := [(2, .int r2), (0, .ref (gad G 143)), (1, .int (nI n))]) dX8_errorPlace_5 (by decide) rfl ?_
  refine g_iload_n C 0 dX8_errorPlace_6 rfl ?_
  refine g_if_lt C 14 dX8_errorPlace_7 (by decide) (fun c_7 => ?_) (fun c_7 => ?_)
  · have hok : okT n tx tl := Classical.byContradiction fun q => absurd c_7 (by rw [hw2 q]; exact nI_pos (by unfold wsT; omega))
    obtain ⟨d1, hau, hd1⟩ := id hok
    refine g_aload_n C 1 dX8_errorPlace_14 rfl ?_
    refine g_cV1 C (As := []) (w := .int (wrT tx tl tl)) (mem3 := mem) iX8_greatBlockPlace (c_X8_greatBlockPlace l G mem tX hn hau) wd_552 ob_143 rfl ⟨Nat.le_of_ble_eq_true rfl, Nat.le_of_ble_eq_true rfl⟩ ⟨rfl, rfl⟩ rfl (Nat.le_of_ble_eq_true rfl) dX8_errorPlace_15 (rfl) (rfl) ?_
    refine g_iret C hQ rfl dX8_errorPlace_18 ?_
    first
      | exact ⟨_, rfl, ⟨fun _ => rfl, fun q => absurd hok q⟩, rfl⟩
      | exact ⟨_, rfl, ⟨fun q => absurd q hok, hw2⟩, rfl⟩
  · have hok : ¬ okT n tx tl := fun q => c_7 (by rw [hw1 q]; decide)
    refine g_iload_n C 0 dX8_errorPlace_10 rfl ?_
    refine g_goto C 18 dX8_errorPlace_11 (by decide) ?_
    refine g_iret C hQ rfl dX8_errorPlace_18 ?_
    first
      | exact ⟨_, rfl, ⟨fun _ => rfl, fun q => absurd hok q⟩, rfl⟩
      | exact ⟨_, rfl, ⟨fun q => absurd q hok, hw2⟩, rfl⟩

def rm_X8_enterLosses : Room := { frames := 2, cells := 0, slots := 0, locals := 44 }
theorem iX8_enterLosses : gIv yX8_enterLosses cX8_enterLosses 8 (some .int) 1 := ⟨⟨wd_563, wd_30, by decide +kernel, by decide +kernel, by decide +kernel⟩, wd_561, wd_562⟩
set_option maxRecDepth 100000 in
set_option maxHeartbeats 4000000 in
theorem c_X8_enterLosses (l : Launch) (G : gG) {T : Nat} {V : Nat → Int32} (g : Good T V) (mem : gM) (r : Rel V mem) {tx : Nat → Nat} {tl : Nat} (tX : TX tx tl mem) {s1 : Bool × Nat} (hok : auS (vN V) tx tl = some s1) (hgb : ∀ k, k < tl → gbT tx tl k = false) : gMet l yX8_enterLosses cX8_enterLosses 8 (some .int) rm_X8_enterLosses G [.ref (gad G 143), .ref (gad G 24)] mem (fun a u => ∃ rr : Int32, a = some (.int rr) ∧ (rr = nI (apL V (lsT (vN V) tx tl tl)).2 ∧ Rel (apL V (lsT (vN V) tx tl tl)).1 u ∧ ∀ k, k ≠ 25 → u k = mem k)) := by
  refine g_of (own := RX8) (L0 := [(0, .ref (gad G 143)), (1, .ref (gad G 24))]) (by decide +kernel) rfl (Nat.le_of_ble_eq_true rfl) rfl ?_
  intro p e s m args below meth c C Q hQ
  have h60 := tX.2.1
  have hn10 := gd_n10 g
  have hz10 : vZ V ≤ 10 := by have := (gd_z g).2; omega
  refine g_iconst C (nI 0) dX8_enterLosses_0 (by decide) ?_
  refine g_istore_n C (L2 := [(2, .int (nI 0)), (0, .ref (gad G 143)), (1, .ref (gad G 24))]) dX8_enterLosses_1 (by decide) rfl ?_
  refine g_aload_n C 1 dX8_enterLosses_2 rfl ?_
  refine g_iconst C (nI 0) dX8_enterLosses_3 (by decide) ?_
  refine g_cV1 C (As := [.int (nI 0)]) (w := .int (nI (nfT tx tl 0))) (mem3 := mem) iX8_numberFrom (c_X8_numberFrom l G mem tX (s0 := 0) (Nat.zero_le _)) wd_556 ob_143 rfl ⟨Nat.le_of_ble_eq_true rfl, Nat.le_of_ble_eq_true rfl⟩ ⟨rfl, rfl⟩ rfl (Nat.le_of_ble_eq_true rfl) dX8_enterLosses_4 (rfl) (rfl) ?_
  refine g_istore_n C (L2 := [(3, .int (nI (nfT tx tl 0))), (2, .int (nI 0)), (0, .ref (gad G 143)), (1, .ref (gad G 24))]) dX8_enterLosses_7 (by decide) rfl ?_
  refine g_iconst C (nI 0) dX8_enterLosses_8 (by decide) ?_
  refine g_istore C (L2 := [(4, .int (nI 0)), (3, .int (nI (nfT tx tl 0))), (2, .int (nI 0)), (0, .ref (gad G 143)), (1, .ref (gad G 24))]) dX8_enterLosses_9 (by decide) rfl ?_
  refine g_iconst C (nI 0) dX8_enterLosses_11 (by decide) ?_
  refine g_istore C (L2 := [(5, .int (nI 0)), (4, .int (nI 0)), (3, .int (nI (nfT tx tl 0))), (2, .int (nI 0)), (0, .ref (gad G 143)), (1, .ref (gad G 24))]) dX8_enterLosses_12 (by decide) rfl ?_
  have lp_14 : ∀ (fu : Nat) (i : Nat) (M1 : gM) (b : Bool) (d : Nat), (i ≤ tl) → (auS (vN V) tx i = some (b, d)) → (Rel (apL V (lsT (vN V) tx tl i)).1 M1) → (∀ k, k ≠ 25 → M1 k = mem k) → tl - i < fu → gV p l e rm_X8_enterLosses s m args below meth c 0 0 Q G 8 M1 14 [(0, .ref (gad G 143)), (1, .ref (gad G 24)), (2, .int (nI ((apL V (lsT (vN V) tx tl i)).2))), (3, .int (nI (nfT tx tl (gsT tx i)))), (4, .int (b2i (b = true))), (5, .int (nI i))] [] := by
    intro fu
    induction fu with
    | zero => intro i M1 b d _ _ _ _ hfu; exact absurd hfu (Nat.not_lt_zero _)
    | succ fu ih_14 =>
      intro i M1 b d hi hau r1 hfr hfu_14
      have tX1 : TX tx tl M1 := ⟨by rw [hfr 143 (by decide)]; exact tX.1, tX.2.1, fun i hi => by rw [hfr 145 (by decide)]; exact tX.2.2 i hi⟩
      refine g_iload C 5 dX8_enterLosses_14 rfl ?_
      refine g_aload_n C 0 dX8_enterLosses_16 rfl ?_
      refine g_get_i C ob_143 0 (by decide) rfl wd_229 dX8_enterLosses_17 ?_
      refine g_top (y := nI tl) (tX1.1) ?_
      refine g_icmp_ge C 120 dX8_enterLosses_20 (by decide) (fun c_20 => ?_) (fun c_20 => ?_)
      · have hin : i = tl := by have q := (nI_leI (a := tl) (b := i) (by omega) (by omega)).mp c_20; omega
        rw [hin] at r1
        refine g_iload_n C 2 dX8_enterLosses_120 rfl ?_
        refine g_iret C hQ rfl dX8_enterLosses_121 ?_
        exact ⟨_, rfl, by rw [hin], r1, hfr⟩
      · have hi2 : i < tl := by have q := mt (nI_leI (a := tl) (b := i) (by omega) (by omega)).mpr c_20; omega
        have hcb := tX1.2.2 i hi2
        obtain ⟨t1, hau1⟩ := au_live hok (j := i + 1) hi2
        refine g_aload_n C 0 dX8_enterLosses_23 rfl ?_
        refine g_get_r C ob_143 1 (by decide) rfl wd_231 dX8_enterLosses_24 ?_
        refine g_iload C 5 dX8_enterLosses_27 rfl ?_
        refine g_cV1 C (As := [.int (nI i)]) (w := .int (M1 145 i)) (mem3 := M1) iX6_at (c_X6_at l G M1 ob_144 ar_145 (by decide) (by omega)) wd_548 ob_144 rfl ⟨Nat.le_of_ble_eq_true rfl, Nat.le_of_ble_eq_true rfl⟩ ⟨rfl, rfl⟩ rfl (Nat.le_of_ble_eq_true rfl) dX8_enterLosses_29 (rfl) (rfl) ?_
        refine g_top (y := nI (tx i)) (hcb.1) ?_
        refine g_istore C (L2 := [(6, .int (nI (tx i))), (0, .ref (gad G 143)), (1, .ref (gad G 24)), (2, .int (nI ((apL V (lsT (vN V) tx tl i)).2))), (3, .int (nI (nfT tx tl (gsT tx i)))), (4, .int (b2i (b = true))), (5, .int (nI i))]) dX8_enterLosses_32 (by decide) rfl ?_
        refine g_iload C 0 dX8_enterLosses_34 rfl ?_
        refine g_bipush C (nI 58) dX8_enterLosses_36 (by decide) ?_
        refine g_icmp_ne C 47 dX8_enterLosses_38 (by decide) (fun c_38 => ?_) (fun c_38 => ?_)
        · have hc8 : ¬ tx i = 58 := fun q => c_38 (by rw [q])
          refine g_iload C 0 dX8_enterLosses_47 rfl ?_
          refine g_bipush C (nI 59) dX8_enterLosses_49 (by decide) ?_
          refine g_icmp_ne C 69 dX8_enterLosses_51 (by decide) (fun c_51 => ?_) (fun c_51 => ?_)
          · have hc9 : ¬ tx i = 59 := fun q => c_51 (by rw [q])
            have hoth := au_oth hau hau1 hc8 hc9
            refine g_iload C 5 dX8_enterLosses_69 rfl ?_
            refine g_ifb_eq C 114 dX8_enterLosses_71 (by decide) (fun c_71 => ?_) (fun c_71 => ?_)
            · have hb0 : b = false := Bool.eq_false_iff.mpr c_71
              have hls : lsT (vN V) tx tl (i + 1) = lsT (vN V) tx tl i := ls_f (d := d) (by rw [hau, hb0])
              refine g_iinc C (v := nI (i + 1)) (L2 := [(5, .int (nI (i + 1))), (6, .int (nI (tx i))), (0, .ref (gad G 143)), (1, .ref (gad G 24)), (2, .int (nI ((apL V (lsT (vN V) tx tl i)).2))), (3, .int (nI (nfT tx tl (gsT tx i)))), (4, .int (b2i (b = true)))]) 6 dX8_enterLosses_114 rfl (nI_1 _) (by decide) rfl ?_
              refine g_goto C 14 dX8_enterLosses_117 (by decide) ?_
              refine g_loc (L2 := [(0, .ref (gad G 143)), (1, .ref (gad G 24)), (2, .int (nI ((apL V (lsT (vN V) tx tl i)).2))), (3, .int (nI (nfT tx tl (gsT tx i)))), (4, .int (b2i (b = true))), (5, .int (nI (i + 1)))]) [2, 3, 4, 5, 6, 0] rfl ?_
              exact g_eq (ih_14 (i + 1) M1 b (d + 1) (hi2) (hoth.1) (by rw [hls]; exact r1) (hfr) (by omega)) (rfl) (gLc rfl (gLc rfl (gLc (congrArg Value.int (by rw [hls])) (gLc (congrArg Value.int (by rw [gs_n hc9])) (rfl))))) rfl
            · obtain ⟨h48, hml⟩ := hoth.2 c_71
              have haut : auS (vN V) tx i = some (true, d) := by rw [hau, c_71]
              have hls : lsT (vN V) tx tl (i + 1) = lsT (vN V) tx tl i ++ [(nfT tx tl (gsT tx i), tx i - 48)] := ls_y haut h48 hml
              have hb2 := ls_blk hn10 haut (fun k hk => hgb k (by omega))
              refine g_aload_n C 2 dX8_enterLosses_74 rfl ?_
              refine g_iload_n C 4 dX8_enterLosses_75 rfl ?_
              refine g_cV1 C (As := [.int (nI (nfT tx tl (gsT tx i)))]) (w := .int (M1 25 (nfT tx tl (gsT tx i)))) (mem3 := M1) iX6_at (c_X6_at l G M1 ob_24 ar_25 (by decide) (hb2)) wd_548 ob_24 rfl ⟨Nat.le_of_ble_eq_true rfl, Nat.le_of_ble_eq_true rfl⟩ ⟨rfl, rfl⟩ rfl (Nat.le_of_ble_eq_true rfl) dX8_enterLosses_76 (rfl) (rfl) ?_
              refine g_top (y := (apL V (lsT (vN V) tx tl i)).1 (150 + nfT tx tl (gsT tx i))) (r_lo r1 hb2) ?_
              refine g_istore C (L2 := [(7, .int ((apL V (lsT (vN V) tx tl i)).1 (150 + nfT tx tl (gsT tx i)))), (6, .int (nI (tx i))), (0, .ref (gad G 143)), (1, .ref (gad G 24)), (2, .int (nI ((apL V (lsT (vN V) tx tl i)).2))), (3, .int (nI (nfT tx tl (gsT tx i)))), (4, .int (b2i (b = true))), (5, .int (nI i))]) dX8_enterLosses_79 (by decide) rfl ?_
              refine g_aload_n C 3 dX8_enterLosses_81 rfl ?_
              refine g_iload_n C 5 dX8_enterLosses_82 rfl ?_
              refine g_iload C 0 dX8_enterLosses_83 rfl ?_
              refine g_iconst C (nI 1) dX8_enterLosses_85 (by decide) ?_
              refine g_iload C 1 dX8_enterLosses_86 rfl ?_
              refine g_bipush C (nI 48) dX8_enterLosses_88 (by decide) ?_
              refine g_isub C dX8_enterLosses_90 ?_
              refine g_top (pk_sub (by omega)) ?_
              refine g_ishl C dX8_enterLosses_91 ?_
              refine g_ior C dX8_enterLosses_92 ?_
              refine g_cV0 C (As := [.int (nI (nfT tx tl (gsT tx i))), .int (((apL V (lsT (vN V) tx tl i)).1 (150 + nfT tx tl (gsT tx i))) ||| ((nI 1) <<< ((nI ((tx i) - 48)) &&& 31)))]) (mem3 := gr M1 25 (upd (M1 25) (nfT tx tl (gsT tx i)) (((apL V (lsT (vN V) tx tl i)).1 (150 + nfT tx tl (gsT tx i))) ||| ((nI 1) <<< ((nI ((tx i) - 48)) &&& 31))))) iX6_put (c_X6_put l G M1 ob_24 ar_25 (by decide) (hb2) (((apL V (lsT (vN V) tx tl i)).1 (150 + nfT tx tl (gsT tx i))) ||| ((nI 1) <<< ((nI ((tx i) - 48)) &&& 31)))) wd_527 ob_24 rfl ⟨Nat.le_of_ble_eq_true rfl, Nat.le_of_ble_eq_true rfl⟩ ⟨rfl, rfl⟩ rfl (Nat.le_of_ble_eq_true rfl) dX8_enterLosses_93 (rfl) ?_
              refine g_iload_n C 4 dX8_enterLosses_96 rfl ?_
              refine g_aload_n C 3 dX8_enterLosses_97 rfl ?_
              refine g_iload_n C 5 dX8_enterLosses_98 rfl ?_
              refine g_cV1 C (As := [.int (nI (nfT tx tl (gsT tx i)))]) (w := .int (((apL V (lsT (vN V) tx tl i)).1 (150 + nfT tx tl (gsT tx i))) ||| ((nI 1) <<< ((nI ((tx i) - 48)) &&& 31)))) (mem3 := gr M1 25 (upd (M1 25) (nfT tx tl (gsT tx i)) (((apL V (lsT (vN V) tx tl i)).1 (150 + nfT tx tl (gsT tx i))) ||| ((nI 1) <<< ((nI ((tx i) - 48)) &&& 31))))) iX6_at (c_X6_at l G (gr M1 25 (upd (M1 25) (nfT tx tl (gsT tx i)) (((apL V (lsT (vN V) tx tl i)).1 (150 + nfT tx tl (gsT tx i))) ||| ((nI 1) <<< ((nI ((tx i) - 48)) &&& 31))))) ob_24 ar_25 (by decide) (hb2)) wd_548 ob_24 rfl ⟨Nat.le_of_ble_eq_true rfl, Nat.le_of_ble_eq_true rfl⟩ ⟨rfl, rfl⟩ rfl (Nat.le_of_ble_eq_true rfl) dX8_enterLosses_99 (congrArg Value.int (upd_s _ _ _)) (rfl) ?_
              refine g_iload C 0 dX8_enterLosses_102 rfl ?_
              refine g_icmp_ne C 111 dX8_enterLosses_104 (by decide) (fun c_104 => ?_) (fun c_104 => ?_)
              · refine g_iconst C (nI 1) dX8_enterLosses_111 (by decide) ?_
                refine g_iadd_n C (d := ((apL V (lsT (vN V) tx tl i)).2) + 1) dX8_enterLosses_112 rfl ?_
                refine g_istore_n C (L2 := [(2, .int (nI (((apL V (lsT (vN V) tx tl i)).2) + 1))), (7, .int ((apL V (lsT (vN V) tx tl i)).1 (150 + nfT tx tl (gsT tx i)))), (6, .int (nI (tx i))), (0, .ref (gad G 143)), (1, .ref (gad G 24)), (3, .int (nI (nfT tx tl (gsT tx i)))), (4, .int (b2i (b = true))), (5, .int (nI i))]) dX8_enterLosses_113 (by decide) rfl ?_
                refine g_iinc C (v := nI (i + 1)) (L2 := [(5, .int (nI (i + 1))), (2, .int (nI (((apL V (lsT (vN V) tx tl i)).2) + 1))), (7, .int ((apL V (lsT (vN V) tx tl i)).1 (150 + nfT tx tl (gsT tx i)))), (6, .int (nI (tx i))), (0, .ref (gad G 143)), (1, .ref (gad G 24)), (3, .int (nI (nfT tx tl (gsT tx i)))), (4, .int (b2i (b = true)))]) 7 dX8_enterLosses_114 rfl (nI_1 _) (by decide) rfl ?_
                refine g_goto C 14 dX8_enterLosses_117 (by decide) ?_
                refine g_loc (L2 := [(0, .ref (gad G 143)), (1, .ref (gad G 24)), (2, .int (nI (((apL V (lsT (vN V) tx tl i)).2) + 1))), (3, .int (nI (nfT tx tl (gsT tx i)))), (4, .int (b2i (b = true))), (5, .int (nI (i + 1)))]) [4, 5, 1, 6, 7, 0] rfl ?_
                exact g_eq (ih_14 (i + 1) (gr M1 25 (upd (M1 25) (nfT tx tl (gsT tx i)) (((apL V (lsT (vN V) tx tl i)).1 (150 + nfT tx tl (gsT tx i))) ||| ((nI 1) <<< ((nI ((tx i) - 48)) &&& 31))))) b (d + 1) (hi2) (hoth.1) (by rw [hls, ap_1]; exact rs_lo (j := nfT tx tl (gsT tx i)) r1 hb2 (by rw [ap_vN]; exact hn10) (by rw [ap_vZ]; exact hz10) _) (fun k hk => by rw [gr_n hk]; exact hfr k hk) (by omega)) (rfl) (gLc rfl (gLc rfl (gLc (congrArg Value.int (by first | (rw [hls, ap_2y ((or_bt (by omega)).mp c_104)]; rfl) | (rw [hls, ap_2n (mt (or_bt (by omega)).mpr c_104)]; done) | (rw [hls, ap_2n (mt (or_bt (by omega)).mpr c_104)]; rfl))) (gLc (congrArg Value.int (by rw [gs_n hc9])) (rfl))))) rfl
              · refine g_iconst C (nI 0) dX8_enterLosses_107 (by decide) ?_
                refine g_goto C 112 dX8_enterLosses_108 (by decide) ?_
                refine g_iadd_n C (d := ((apL V (lsT (vN V) tx tl i)).2) + 0) dX8_enterLosses_112 rfl ?_
                refine g_istore_n C (L2 := [(2, .int (nI (((apL V (lsT (vN V) tx tl i)).2) + 0))), (7, .int ((apL V (lsT (vN V) tx tl i)).1 (150 + nfT tx tl (gsT tx i)))), (6, .int (nI (tx i))), (0, .ref (gad G 143)), (1, .ref (gad G 24)), (3, .int (nI (nfT tx tl (gsT tx i)))), (4, .int (b2i (b = true))), (5, .int (nI i))]) dX8_enterLosses_113 (by decide) rfl ?_
                refine g_iinc C (v := nI (i + 1)) (L2 := [(5, .int (nI (i + 1))), (2, .int (nI (((apL V (lsT (vN V) tx tl i)).2) + 0))), (7, .int ((apL V (lsT (vN V) tx tl i)).1 (150 + nfT tx tl (gsT tx i)))), (6, .int (nI (tx i))), (0, .ref (gad G 143)), (1, .ref (gad G 24)), (3, .int (nI (nfT tx tl (gsT tx i)))), (4, .int (b2i (b = true)))]) 7 dX8_enterLosses_114 rfl (nI_1 _) (by decide) rfl ?_
                refine g_goto C 14 dX8_enterLosses_117 (by decide) ?_
                refine g_loc (L2 := [(0, .ref (gad G 143)), (1, .ref (gad G 24)), (2, .int (nI (((apL V (lsT (vN V) tx tl i)).2) + 0))), (3, .int (nI (nfT tx tl (gsT tx i)))), (4, .int (b2i (b = true))), (5, .int (nI (i + 1)))]) [4, 5, 1, 6, 7, 0] rfl ?_
                exact g_eq (ih_14 (i + 1) (gr M1 25 (upd (M1 25) (nfT tx tl (gsT tx i)) (((apL V (lsT (vN V) tx tl i)).1 (150 + nfT tx tl (gsT tx i))) ||| ((nI 1) <<< ((nI ((tx i) - 48)) &&& 31))))) b (d + 1) (hi2) (hoth.1) (by rw [hls, ap_1]; exact rs_lo (j := nfT tx tl (gsT tx i)) r1 hb2 (by rw [ap_vN]; exact hn10) (by rw [ap_vZ]; exact hz10) _) (fun k hk => by rw [gr_n hk]; exact hfr k hk) (by omega)) (rfl) (gLc rfl (gLc rfl (gLc (congrArg Value.int (by first | (rw [hls, ap_2y ((or_bt (by omega)).mp c_104)]; rfl) | (rw [hls, ap_2n (mt (or_bt (by omega)).mpr c_104)]; done) | (rw [hls, ap_2n (mt (or_bt (by omega)).mpr c_104)]; rfl))) (gLc (congrArg Value.int (by rw [gs_n hc9])) (rfl))))) rfl
          · have hc9 : tx i = 59 := (nI_iff (by omega) (by decide)).mp c_51
            obtain ⟨hb0, hau2⟩ := au_c59 hau hau1 hn10 hc9
            have hls : lsT (vN V) tx tl (i + 1) = lsT (vN V) tx tl i := ls_n (d := d) (by rw [hau, hb0]) (by omega)
            refine g_iconst C (nI 0) dX8_enterLosses_54 (by decide) ?_
            refine g_istore C (L2 := [(4, .int (nI 0)), (6, .int (nI (tx i))), (0, .ref (gad G 143)), (1, .ref (gad G 24)), (2, .int (nI ((apL V (lsT (vN V) tx tl i)).2))), (3, .int (nI (nfT tx tl (gsT tx i)))), (5, .int (nI i))]) dX8_enterLosses_55 (by decide) rfl ?_
            refine g_aload_n C 2 dX8_enterLosses_57 rfl ?_
            refine g_iload C 6 dX8_enterLosses_58 rfl ?_
            refine g_iconst C (nI 1) dX8_enterLosses_60 (by decide) ?_
            refine g_iadd_n C (d := i + 1) dX8_enterLosses_61 rfl ?_
            refine g_cV1 C (As := [.int (nI (i + 1))]) (w := .int (nI (nfT tx tl (i + 1)))) (mem3 := M1) iX8_numberFrom (c_X8_numberFrom l G M1 tX1 (s0 := i + 1) (hi2)) wd_556 ob_143 rfl ⟨Nat.le_of_ble_eq_true rfl, Nat.le_of_ble_eq_true rfl⟩ ⟨rfl, rfl⟩ rfl (Nat.le_of_ble_eq_true rfl) dX8_enterLosses_62 (rfl) (rfl) ?_
            refine g_istore_n C (L2 := [(3, .int (nI (nfT tx tl (i + 1)))), (4, .int (nI 0)), (6, .int (nI (tx i))), (0, .ref (gad G 143)), (1, .ref (gad G 24)), (2, .int (nI ((apL V (lsT (vN V) tx tl i)).2))), (5, .int (nI i))]) dX8_enterLosses_65 (by decide) rfl ?_
            refine g_goto C 114 dX8_enterLosses_66 (by decide) ?_
            refine g_iinc C (v := nI (i + 1)) (L2 := [(5, .int (nI (i + 1))), (3, .int (nI (nfT tx tl (i + 1)))), (4, .int (nI 0)), (6, .int (nI (tx i))), (0, .ref (gad G 143)), (1, .ref (gad G 24)), (2, .int (nI ((apL V (lsT (vN V) tx tl i)).2)))]) 6 dX8_enterLosses_114 rfl (nI_1 _) (by decide) rfl ?_
            refine g_goto C 14 dX8_enterLosses_117 (by decide) ?_
            refine g_loc (L2 := [(0, .ref (gad G 143)), (1, .ref (gad G 24)), (2, .int (nI ((apL V (lsT (vN V) tx tl i)).2))), (3, .int (nI (nfT tx tl (i + 1)))), (4, .int (nI 0)), (5, .int (nI (i + 1)))]) [4, 5, 6, 1, 2, 0] rfl ?_
            exact g_eq (ih_14 (i + 1) M1 false 0 (hi2) (hau2) (by rw [hls]; exact r1) (hfr) (by omega)) (rfl) (gLc rfl (gLc rfl (gLc (congrArg Value.int (by rw [hls])) (gLc (congrArg Value.int (by rw [gs_y hc9])) (gLc (congrArg Value.int (by decide)) (rfl)))))) rfl
        · have hc8 : tx i = 58 := (nI_iff (by omega) (by decide)).mp c_38
          obtain ⟨hb0, hau2⟩ := au_c58 hn10 hau hau1 hc8
          have hls : lsT (vN V) tx tl (i + 1) = lsT (vN V) tx tl i := ls_f (d := d) (by rw [hau, hb0])
          refine g_iconst C (nI 1) dX8_enterLosses_41 (by decide) ?_
          refine g_istore C (L2 := [(4, .int (nI 1)), (6, .int (nI (tx i))), (0, .ref (gad G 143)), (1, .ref (gad G 24)), (2, .int (nI ((apL V (lsT (vN V) tx tl i)).2))), (3, .int (nI (nfT tx tl (gsT tx i)))), (5, .int (nI i))]) dX8_enterLosses_42 (by decide) rfl ?_
          refine g_goto C 114 dX8_enterLosses_44 (by decide) ?_
          refine g_iinc C (v := nI (i + 1)) (L2 := [(5, .int (nI (i + 1))), (4, .int (nI 1)), (6, .int (nI (tx i))), (0, .ref (gad G 143)), (1, .ref (gad G 24)), (2, .int (nI ((apL V (lsT (vN V) tx tl i)).2))), (3, .int (nI (nfT tx tl (gsT tx i))))]) 6 dX8_enterLosses_114 rfl (nI_1 _) (by decide) rfl ?_
          refine g_goto C 14 dX8_enterLosses_117 (by decide) ?_
          refine g_loc (L2 := [(0, .ref (gad G 143)), (1, .ref (gad G 24)), (2, .int (nI ((apL V (lsT (vN V) tx tl i)).2))), (3, .int (nI (nfT tx tl (gsT tx i)))), (4, .int (nI 1)), (5, .int (nI (i + 1)))]) [3, 4, 5, 6, 1, 0] rfl ?_
          exact g_eq (ih_14 (i + 1) M1 true 0 (hi2) (hau2) (by rw [hls]; exact r1) (hfr) (by omega)) (rfl) (gLc rfl (gLc rfl (gLc (congrArg Value.int (by rw [hls])) (gLc (congrArg Value.int (by rw [gs_n (by omega)])) (gLc (congrArg Value.int (by decide)) (rfl)))))) rfl
  refine g_loc (L2 := [(0, .ref (gad G 143)), (1, .ref (gad G 24)), (2, .int (nI 0)), (3, .int (nI (nfT tx tl 0))), (4, .int (nI 0)), (5, .int (nI 0))]) [4, 5, 3, 2, 1, 0] rfl ?_
  exact g_eq (lp_14 (_ + 1) 0 mem false 0 (Nat.zero_le _) (rfl) (r) (fun _ _ => rfl) (Nat.lt_succ_self _)) (rfl) (gLc rfl (gLc rfl (gLc (congrArg Value.int (rfl)) (gLc (congrArg Value.int (rfl)) (gLc (congrArg Value.int (by decide)) (rfl)))))) rfl

/-- what the class's read answers and leaves -/
def RDX (T : Nat) (V : Nat → Int32) (Vs : Nat → Nat → Int32) (h : Nat) (tx : Nat → Nat) (tl : Nat) (mem u : gM) (r : Int32) : Prop :=
  (rdOK (vN V) tx tl → r = nI (apL V (lsT (vN V) tx tl tl)).2 ∧ Rel (apL V (lsT (vN V) tx tl tl)).1 u ∧ (∃ o, HX T (pushV h Vs V) (pushN h) o u) ∧ u 143 0 = nI 0 ∧ ∀ k, 154 ≤ k → u k = mem k) ∧
  (¬ rdOK (vN V) tx tl → (∃ e, epI (vN V) tx tl e ∧ r = (-100 : Int32) - e) ∧ u = mem)

def rm_X9_read : Room := { frames := 5, cells := 0, slots := 0, locals := 126 }
theorem iX9_read : gIv yX9_read cX9_read 3 (some .int) 0 := ⟨⟨wd_539, wd_23, by decide +kernel, by decide +kernel, by decide +kernel⟩, wd_537, wd_538⟩
set_option maxRecDepth 100000 in
set_option maxHeartbeats 4000000 in
theorem c_X9_read (l : Launch) (G : gG) {T : Nat} {V : Nat → Int32} (g : Good T V) (mem : gM) (r : Rel V mem) {Vs : Nat → Nat → Int32} {h o : Nat} (hx : HX T Vs h o mem) {tx : Nat → Nat} {tl : Nat} (tX : TX tx tl mem) : gMet l yX9_read cX9_read 3 (some .int) rm_X9_read G [.ref (gad G 0)] mem (fun a u => ∃ rr : Int32, a = some (.int rr) ∧ RDX T V Vs h tx tl mem u rr) := by
  refine g_of (own := RX9) (L0 := [(0, .ref (gad G 0))]) (by decide +kernel) rfl (Nat.le_of_ble_eq_true rfl) rfl ?_
  intro p e s m args below meth c C Q hQ
  have hn10 := gd_n10 g
  have hz10 : vZ V ≤ 10 := by have := (gd_z g).2; omega
  have h60 := tX.2.1
  refine g_aload_n C 0 dX9_read_0 rfl ?_
  refine g_get_r C ob_0 2 (by decide) rfl wd_301 dX9_read_1 ?_
  refine g_aload_n C 0 dX9_read_4 rfl ?_
  refine g_get_r C ob_0 0 (by decide) rfl wd_299 dX9_read_5 ?_
  refine g_get_r C ob_1 1 (by decide) rfl wd_181 dX9_read_8 ?_
  refine g_get_i C ob_4 0 (by decide) rfl wd_72 dX9_read_11 ?_
  refine g_top (y := nI (vN V)) (r_n r g) ?_
  refine g_cVr C (As := [.int (nI (vN V))]) iX8_errorPlace (c_X8_errorPlace l G mem tX hn10) wd_540 ob_143 rfl ⟨Nat.le_of_ble_eq_true rfl, Nat.le_of_ble_eq_true rfl⟩ ⟨rfl, rfl⟩ rfl (Nat.le_of_ble_eq_true rfl) dX9_read_14 (fun r2 u0 hq => ?_)
  obtain ⟨hep, hu⟩ := hq
  rw [hu]
  refine g_istore_n C (L2 := [(1, .int r2), (0, .ref (gad G 0))]) dX9_read_17 (by decide) rfl ?_
  refine g_iload_n C 0 dX9_read_18 rfl ?_
  refine g_if_lt C 27 dX9_read_19 (by decide) (fun c_19 => ?_) (fun c_19 => ?_)
  · have hrd := (ep_neg h60 hep).mp c_19
    obtain ⟨⟨d1, hau, hd1⟩, hgf⟩ := id hrd
    refine g_aload_n C 1 dX9_read_27 rfl ?_
    refine g_get_r C ob_0 1 (by decide) rfl wd_300 dX9_read_28 ?_
    refine g_aload_n C 1 dX9_read_31 rfl ?_
    refine g_get_r C ob_0 0 (by decide) rfl wd_299 dX9_read_32 ?_
    refine g_cVq C (As := [.ref (gad G 1)]) iX1_keep (c_X1_keep l G g mem r hx) wd_327 ob_29 rfl ⟨Nat.le_of_ble_eq_true rfl, Nat.le_of_ble_eq_true rfl⟩ ⟨rfl, rfl⟩ rfl (Nat.le_of_ble_eq_true rfl) dX9_read_35 (fun ku0 hq => ?_)
    obtain ⟨hkf, o2, hx2⟩ := hq
    have rk : Rel V ku0 := RelS.keep r (fun k _ h2 => hkf k (Or.inl (by omega)))
    have tXk : TX tx tl ku0 := ⟨by rw [hkf 143 (by omega)]; exact tX.1, tX.2.1, fun i hi => by rw [hkf 145 (by omega)]; exact tX.2.2 i hi⟩
    refine g_aload_n C 1 dX9_read_38 rfl ?_
    refine g_get_r C ob_0 2 (by decide) rfl wd_301 dX9_read_39 ?_
    refine g_aload_n C 1 dX9_read_42 rfl ?_
    refine g_get_r C ob_0 0 (by decide) rfl wd_299 dX9_read_43 ?_
    refine g_get_r C ob_1 3 (by decide) rfl wd_187 dX9_read_46 ?_
    refine g_cVr C (As := [.ref (gad G 24)]) iX8_enterLosses (c_X8_enterLosses l G g ku0 rk tXk hau (wr_none hgf).1) wd_560 ob_143 rfl ⟨Nat.le_of_ble_eq_true rfl, Nat.le_of_ble_eq_true rfl⟩ ⟨rfl, rfl⟩ rfl (Nat.le_of_ble_eq_true rfl) dX9_read_49 (fun r3 u1 hq => ?_)
    obtain ⟨rfl, re, hfe⟩ := hq
    refine g_istore_n C (L2 := [(2, .int (nI ((apL V (lsT (vN V) tx tl tl)).2))), (1, .int r2), (0, .ref (gad G 0))]) dX9_read_52 (by decide) rfl ?_
    refine g_aload_n C 2 dX9_read_53 rfl ?_
    refine g_get_r C ob_0 2 (by decide) rfl wd_301 dX9_read_54 ?_
    refine g_cV1 C (As := []) (w := .int (nI tl)) (mem3 := gr u1 143 (upd (u1 143) 0 (nI 0))) iX8_empty (c_X8_empty l G u1 (tl := tl) ((congrFun (hfe 143 (by decide)) 0).trans tXk.1)) wd_532 ob_143 rfl ⟨Nat.le_of_ble_eq_true rfl, Nat.le_of_ble_eq_true rfl⟩ ⟨rfl, rfl⟩ rfl (Nat.le_of_ble_eq_true rfl) dX9_read_57 (rfl) (rfl) ?_
    refine g_pop C dX9_read_60 rfl ?_
    refine g_iload_n C 0 dX9_read_61 rfl ?_
    refine g_iret C hQ rfl dX9_read_62 ?_
    exact ⟨_, rfl, fun _ => ⟨rfl, r_gr (by decide) re, ⟨_, hx_gr (by decide) (hx_keep hx2 fun k h1 h2 => hfe k (by omega))⟩, rfl, fun k hk => by rw [gr_n (by omega), hfe k (by omega), hkf k (by omega)]⟩, fun q => absurd hrd q⟩
  · have hrd := mt (ep_neg h60 hep).mpr c_19
    refine g_bipush C (((-100) : Int32)) dX9_read_22 (by decide) ?_
    refine g_iload_n C 0 dX9_read_24 rfl ?_
    refine g_isub C dX9_read_25 ?_
    refine g_iret C hQ rfl dX9_read_26 ?_
    exact ⟨_, rfl, fun q => absurd q hrd, fun _ => ⟨⟨r2, hep, rfl⟩, rfl⟩⟩
