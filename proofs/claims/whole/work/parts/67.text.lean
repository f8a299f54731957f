/-! reading the text: the sign at a place, -1 behind the last -/
def sgI (tx : Nat → Nat) (tl p : Nat) : Int32 := if p < tl then nI (tx p) else (-1 : Int32)
abbrev dgP (x : Int32) : Prop := nI 48 ≤ x ∧ x ≤ nI 57

def rm_X8_isDigit : Room := { frames := 0, cells := 0, slots := 0, locals := 0 }
theorem iX8_isDigit : gIs yX8_isDigit cX8_isDigit 1 (some .boolean) 1 := ⟨⟨wd_551, wd_30, by decide +kernel, by decide +kernel, by decide +kernel⟩, wd_550⟩
set_option maxRecDepth 100000 in
set_option maxHeartbeats 4000000 in
theorem c_X8_isDigit (l : Launch) (G : gG) (mem : gM) (x : Int32) : gMet l yX8_isDigit cX8_isDigit 1 (some .boolean) rm_X8_isDigit G [.int x] mem (fun a u => a = some (.int (b2i (dgP x))) ∧ u = mem) := by
  refine g_of (own := RX8) (L0 := [(0, .int x)]) (by decide +kernel) rfl (Nat.le_of_ble_eq_true rfl) rfl ?_
  intro p e s m args below meth c C Q hQ
  refine g_iload_n C 0 dX8_isDigit_0 rfl ?_
  refine g_bipush C (nI 48) dX8_isDigit_1 (by decide) ?_
  refine g_icmp_lt C 16 dX8_isDigit_3 (by decide) (fun c_3 => ?_) (fun c_3 => ?_)
  · refine g_iconst C (nI 0) dX8_isDigit_16 (by decide) ?_
    refine g_zret C hQ rfl (Or.inl rfl) dX8_isDigit_17 ?_
    first
      | exact ⟨by rw [b2i_t (P := dgP x) ⟨Int32.not_lt.mp c_3, Int32.not_lt.mp c_9⟩]; rfl, rfl⟩
      | exact ⟨by rw [b2i_f (P := dgP x) (fun q => absurd c_3 (Int32.not_lt.mpr q.1))]; rfl, rfl⟩
      | exact ⟨by rw [b2i_f (P := dgP x) (fun q => absurd c_9 (Int32.not_lt.mpr q.2))]; rfl, rfl⟩
  · refine g_iload_n C 0 dX8_isDigit_6 rfl ?_
    refine g_bipush C (nI 57) dX8_isDigit_7 (by decide) ?_
    refine g_icmp_gt C 16 dX8_isDigit_9 (by decide) (fun c_9 => ?_) (fun c_9 => ?_)
    · refine g_iconst C (nI 0) dX8_isDigit_16 (by decide) ?_
      refine g_zret C hQ rfl (Or.inl rfl) dX8_isDigit_17 ?_
      first
        | exact ⟨by rw [b2i_t (P := dgP x) ⟨Int32.not_lt.mp c_3, Int32.not_lt.mp c_9⟩]; rfl, rfl⟩
        | exact ⟨by rw [b2i_f (P := dgP x) (fun q => absurd c_3 (Int32.not_lt.mpr q.1))]; rfl, rfl⟩
        | exact ⟨by rw [b2i_f (P := dgP x) (fun q => absurd c_9 (Int32.not_lt.mpr q.2))]; rfl, rfl⟩
    · refine g_iconst C (nI 1) dX8_isDigit_12 (by decide) ?_
      refine g_goto C 17 dX8_isDigit_13 (by decide) ?_
      refine g_zret C hQ rfl (Or.inr rfl) dX8_isDigit_17 ?_
      first
        | exact ⟨by rw [b2i_t (P := dgP x) ⟨Int32.not_lt.mp c_3, Int32.not_lt.mp c_9⟩]; rfl, rfl⟩
        | exact ⟨by rw [b2i_f (P := dgP x) (fun q => absurd c_3 (Int32.not_lt.mpr q.1))]; rfl, rfl⟩
        | exact ⟨by rw [b2i_f (P := dgP x) (fun q => absurd c_9 (Int32.not_lt.mpr q.2))]; rfl, rfl⟩

def rm_X10_sign : Room := { frames := 0, cells := 0, slots := 0, locals := 0 }
theorem iX10_sign : gIv yX10_sign cX10_sign 1 (some .int) 0 := ⟨⟨wd_900, wd_32, by decide +kernel, by decide +kernel, by decide +kernel⟩, wd_899, wd_14⟩
set_option maxRecDepth 100000 in
set_option maxHeartbeats 4000000 in
theorem c_X10_sign (l : Launch) (G : gG) (mem : gM) {tx : Nat → Nat} {tl p1 : Nat} (tX : TXM tx tl mem) (hp : mem 154 8 = nI p1) (hp2 : p1 < 2 ^ 30) : gMet l yX10_sign cX10_sign 1 (some .int) rm_X10_sign G [.ref (gad G 154)] mem (fun a u => a = some (.int (sgI tx tl p1)) ∧ u = mem) := by
  refine g_of (own := RX10) (L0 := [(0, .ref (gad G 154))]) (by decide +kernel) rfl (Nat.le_of_ble_eq_true rfl) rfl ?_
  intro p e s m args below meth c C Q hQ
  have h60 := tX.2.1
  refine g_aload_n C 0 dX10_sign_0 rfl ?_
  refine g_get_i C ob_154 8 (by decide) rfl wd_711 dX10_sign_1 ?_
  refine g_top (y := nI p1) (hp) ?_
  refine g_aload_n C 0 dX10_sign_4 rfl ?_
  refine g_get_i C ob_154 7 (by decide) rfl wd_710 dX10_sign_5 ?_
  refine g_top (y := nI tl) (tX.1) ?_
  refine g_icmp_ge C 23 dX10_sign_8 (by decide) (fun c_8 => ?_) (fun c_8 => ?_)
  · have c_8 : ¬ p1 < tl := by have q := (nI_leI (a := tl) (b := p1) (by omega) (by omega)).mp c_8; omega
    refine g_iconst C (((-1) : Int32)) dX10_sign_23 (by decide) ?_
    refine g_iret C hQ rfl dX10_sign_24 ?_
    first
      | exact ⟨by rw [sgI, if_pos c_8, ← (tX.2.2 p1 c_8).1], rfl⟩
      | exact ⟨by rw [sgI, if_neg c_8], rfl⟩
  · have c_8 : p1 < tl := by have q := mt (nI_leI (a := tl) (b := p1) (by omega) (by omega)).mpr c_8; omega
    refine g_aload_n C 0 dX10_sign_11 rfl ?_
    refine g_get_r C ob_154 6 (by decide) rfl wd_709 dX10_sign_12 ?_
    refine g_aload_n C 0 dX10_sign_15 rfl ?_
    refine g_get_i C ob_154 8 (by decide) rfl wd_711 dX10_sign_16 ?_
    refine g_top (y := nI p1) (hp) ?_
    refine g_iald_n C (j := p1) ar_158 rfl (by omega) (by decide) dX10_sign_19 ?_
    refine g_goto C 24 dX10_sign_20 (by decide) ?_
    refine g_iret C hQ rfl dX10_sign_24 ?_
    first
      | exact ⟨by rw [sgI, if_pos c_8, ← (tX.2.2 p1 c_8).1], rfl⟩
      | exact ⟨by rw [sgI, if_neg c_8], rfl⟩
