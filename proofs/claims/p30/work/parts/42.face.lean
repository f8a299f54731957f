def rm_X9_isMember : Room := { frames := 0, cells := 0, slots := 0, locals := 0 }
theorem iX9_isMember : gIv yX9_isMember cX9_isMember 2 (some .boolean) 1 := ⟨⟨wd_356, wd_4, by decide +kernel, by decide +kernel, by decide +kernel⟩, wd_355, wd_0⟩
set_option maxRecDepth 100000 in
set_option maxHeartbeats 4000000 in
theorem c_X9_isMember (l : Launch) (G : gG) {T : Nat} {V : Nat → Int32} (g : Good T V) (mem : gM) (r : Rel V mem) (x : Int32) : gMet l yX9_isMember cX9_isMember 2 (some .boolean) rm_X9_isMember G [.ref (gad G 0), .int x] mem (fun a u => a = some (.int (b2i (memP V x))) ∧ u = mem) := by
  refine g_of (own := RX9) (L0 := [(0, .ref (gad G 0)), (1, .int x)]) (by decide +kernel) rfl (Nat.le_of_ble_eq_true rfl) rfl ?_
  intro p e s m args below meth c C Q hQ
  refine g_iload_n C 1 dX9_isMember_0 rfl ?_
  refine g_if_lt C 22 dX9_isMember_1 (by decide) (fun c_1 => ?_) (fun c_1 => ?_)
  · refine g_iconst C (nI 0) dX9_isMember_22 (by decide) ?_
    refine g_zret C hQ rfl (Or.inl rfl) dX9_isMember_23 ?_
    first
      | exact ⟨by rw [b2i_f (P := memP V x) (fun q => absurd c_1 (Int32.not_lt.mpr q.1))]; rfl, rfl⟩
      | exact ⟨by rw [b2i_t (P := memP V x) ⟨Int32.not_lt.mp c_1, Int32.not_le.mp c_15⟩]; rfl, rfl⟩
      | exact ⟨by rw [b2i_f (P := memP V x) (fun q => absurd q.2 (Int32.not_lt.mpr c_15))]; rfl, rfl⟩
  · refine g_iload_n C 1 dX9_isMember_4 rfl ?_
    refine g_aload_n C 0 dX9_isMember_5 rfl ?_
    refine g_get_r C ob_0 0 (by decide) rfl wd_279 dX9_isMember_6 ?_
    refine g_get_r C ob_1 1 (by decide) rfl wd_161 dX9_isMember_9 ?_
    refine g_get_i C ob_4 0 (by decide) rfl wd_52 dX9_isMember_12 ?_
    refine g_top (y := nI (vN V)) (r_n r g) ?_
    refine g_icmp_ge C 22 dX9_isMember_15 (by decide) (fun c_15 => ?_) (fun c_15 => ?_)
    · refine g_iconst C (nI 0) dX9_isMember_22 (by decide) ?_
      refine g_zret C hQ rfl (Or.inl rfl) dX9_isMember_23 ?_
      first
        | exact ⟨by rw [b2i_f (P := memP V x) (fun q => absurd c_1 (Int32.not_lt.mpr q.1))]; rfl, rfl⟩
        | exact ⟨by rw [b2i_t (P := memP V x) ⟨Int32.not_lt.mp c_1, Int32.not_le.mp c_15⟩]; rfl, rfl⟩
        | exact ⟨by rw [b2i_f (P := memP V x) (fun q => absurd q.2 (Int32.not_lt.mpr c_15))]; rfl, rfl⟩
    · refine g_iconst C (nI 1) dX9_isMember_18 (by decide) ?_
      refine g_goto C 23 dX9_isMember_19 (by decide) ?_
      refine g_zret C hQ rfl (Or.inr rfl) dX9_isMember_23 ?_
      first
        | exact ⟨by rw [b2i_f (P := memP V x) (fun q => absurd c_1 (Int32.not_lt.mpr q.1))]; rfl, rfl⟩
        | exact ⟨by rw [b2i_t (P := memP V x) ⟨Int32.not_lt.mp c_1, Int32.not_le.mp c_15⟩]; rfl, rfl⟩
        | exact ⟨by rw [b2i_f (P := memP V x) (fun q => absurd q.2 (Int32.not_lt.mpr c_15))]; rfl, rfl⟩

def rm_X9_isBlock : Room := { frames := 0, cells := 0, slots := 0, locals := 0 }
theorem iX9_isBlock : gIs yX9_isBlock cX9_isBlock 1 (some .boolean) 1 := ⟨⟨wd_485, wd_4, by decide +kernel, by decide +kernel, by decide +kernel⟩, wd_484⟩
set_option maxRecDepth 100000 in
set_option maxHeartbeats 4000000 in
theorem c_X9_isBlock (l : Launch) (G : gG) (mem : gM) (x : Int32) : gMet l yX9_isBlock cX9_isBlock 1 (some .boolean) rm_X9_isBlock G [.int x] mem (fun a u => a = some (.int (b2i (blkP x))) ∧ u = mem) := by
  refine g_of (own := RX9) (L0 := [(0, .int x)]) (by decide +kernel) rfl (Nat.le_of_ble_eq_true rfl) rfl ?_
  intro p e s m args below meth c C Q hQ
  refine g_iload_n C 0 dX9_isBlock_0 rfl ?_
  refine g_if_lt C 15 dX9_isBlock_1 (by decide) (fun c_1 => ?_) (fun c_1 => ?_)
  · refine g_iconst C (nI 0) dX9_isBlock_15 (by decide) ?_
    refine g_zret C hQ rfl (Or.inl rfl) dX9_isBlock_16 ?_
    first
      | exact ⟨by rw [b2i_t (P := blkP x) ⟨Int32.not_lt.mp c_1, Int32.not_le.mp c_8⟩]; rfl, rfl⟩
      | exact ⟨by rw [b2i_f (P := blkP x) (fun q => absurd c_1 (Int32.not_lt.mpr q.1))]; rfl, rfl⟩
      | exact ⟨by rw [b2i_f (P := blkP x) (fun q => absurd q.2 (Int32.not_lt.mpr c_8))]; rfl, rfl⟩
  · refine g_iload_n C 0 dX9_isBlock_4 rfl ?_
    refine g_sipush C (nI 200) dX9_isBlock_5 (by decide) ?_
    refine g_icmp_ge C 15 dX9_isBlock_8 (by decide) (fun c_8 => ?_) (fun c_8 => ?_)
    · refine g_iconst C (nI 0) dX9_isBlock_15 (by decide) ?_
      refine g_zret C hQ rfl (Or.inl rfl) dX9_isBlock_16 ?_
      first
        | exact ⟨by rw [b2i_t (P := blkP x) ⟨Int32.not_lt.mp c_1, Int32.not_le.mp c_8⟩]; rfl, rfl⟩
        | exact ⟨by rw [b2i_f (P := blkP x) (fun q => absurd c_1 (Int32.not_lt.mpr q.1))]; rfl, rfl⟩
        | exact ⟨by rw [b2i_f (P := blkP x) (fun q => absurd q.2 (Int32.not_lt.mpr c_8))]; rfl, rfl⟩
    · refine g_iconst C (nI 1) dX9_isBlock_11 (by decide) ?_
      refine g_goto C 16 dX9_isBlock_12 (by decide) ?_
      refine g_zret C hQ rfl (Or.inr rfl) dX9_isBlock_16 ?_
      first
        | exact ⟨by rw [b2i_t (P := blkP x) ⟨Int32.not_lt.mp c_1, Int32.not_le.mp c_8⟩]; rfl, rfl⟩
        | exact ⟨by rw [b2i_f (P := blkP x) (fun q => absurd c_1 (Int32.not_lt.mpr q.1))]; rfl, rfl⟩
        | exact ⟨by rw [b2i_f (P := blkP x) (fun q => absurd q.2 (Int32.not_lt.mpr c_8))]; rfl, rfl⟩

def rm_X9_isWeight : Room := { frames := 0, cells := 0, slots := 0, locals := 0 }
theorem iX9_isWeight : gIs yX9_isWeight cX9_isWeight 1 (some .boolean) 1 := ⟨⟨wd_301, wd_4, by decide +kernel, by decide +kernel, by decide +kernel⟩, wd_300⟩
set_option maxRecDepth 100000 in
set_option maxHeartbeats 4000000 in
theorem c_X9_isWeight (l : Launch) (G : gG) (mem : gM) (x : Int32) : gMet l yX9_isWeight cX9_isWeight 1 (some .boolean) rm_X9_isWeight G [.int x] mem (fun a u => a = some (.int (b2i (wOK x))) ∧ u = mem) := by
  refine g_of (own := RX9) (L0 := [(0, .int x)]) (by decide +kernel) rfl (Nat.le_of_ble_eq_true rfl) rfl ?_
  intro p e s m args below meth c C Q hQ
  refine g_iload_n C 0 dX9_isWeight_0 rfl ?_
  refine g_iconst C (nI 1) dX9_isWeight_1 (by decide) ?_
  refine g_icmp_lt C 15 dX9_isWeight_2 (by decide) (fun c_2 => ?_) (fun c_2 => ?_)
  · refine g_iconst C (nI 0) dX9_isWeight_15 (by decide) ?_
    refine g_zret C hQ rfl (Or.inl rfl) dX9_isWeight_16 ?_
    first
      | exact ⟨by rw [b2i_t (P := wOK x) ⟨Int32.not_lt.mp c_2, Int32.not_lt.mp c_8⟩]; rfl, rfl⟩
      | exact ⟨by rw [b2i_f (P := wOK x) (fun q => absurd c_2 (Int32.not_lt.mpr q.1))]; rfl, rfl⟩
      | exact ⟨by rw [b2i_f (P := wOK x) (fun q => absurd c_8 (Int32.not_lt.mpr q.2))]; rfl, rfl⟩
  · refine g_iload_n C 0 dX9_isWeight_5 rfl ?_
    refine g_bipush C (nI 9) dX9_isWeight_6 (by decide) ?_
    refine g_icmp_gt C 15 dX9_isWeight_8 (by decide) (fun c_8 => ?_) (fun c_8 => ?_)
    · refine g_iconst C (nI 0) dX9_isWeight_15 (by decide) ?_
      refine g_zret C hQ rfl (Or.inl rfl) dX9_isWeight_16 ?_
      first
        | exact ⟨by rw [b2i_t (P := wOK x) ⟨Int32.not_lt.mp c_2, Int32.not_lt.mp c_8⟩]; rfl, rfl⟩
        | exact ⟨by rw [b2i_f (P := wOK x) (fun q => absurd c_2 (Int32.not_lt.mpr q.1))]; rfl, rfl⟩
        | exact ⟨by rw [b2i_f (P := wOK x) (fun q => absurd c_8 (Int32.not_lt.mpr q.2))]; rfl, rfl⟩
    · refine g_iconst C (nI 1) dX9_isWeight_11 (by decide) ?_
      refine g_goto C 16 dX9_isWeight_12 (by decide) ?_
      refine g_zret C hQ rfl (Or.inr rfl) dX9_isWeight_16 ?_
      first
        | exact ⟨by rw [b2i_t (P := wOK x) ⟨Int32.not_lt.mp c_2, Int32.not_lt.mp c_8⟩]; rfl, rfl⟩
        | exact ⟨by rw [b2i_f (P := wOK x) (fun q => absurd c_2 (Int32.not_lt.mpr q.1))]; rfl, rfl⟩
        | exact ⟨by rw [b2i_f (P := wOK x) (fun q => absurd c_8 (Int32.not_lt.mpr q.2))]; rfl, rfl⟩

def rm_X9_isPosition : Room := { frames := 0, cells := 0, slots := 0, locals := 0 }
theorem iX9_isPosition : gIs yX9_isPosition cX9_isPosition 1 (some .boolean) 1 := ⟨⟨wd_304, wd_4, by decide +kernel, by decide +kernel, by decide +kernel⟩, wd_303⟩
set_option maxRecDepth 100000 in
set_option maxHeartbeats 4000000 in
theorem c_X9_isPosition (l : Launch) (G : gG) (mem : gM) (x : Int32) : gMet l yX9_isPosition cX9_isPosition 1 (some .boolean) rm_X9_isPosition G [.int x] mem (fun a u => a = some (.int (b2i (pOK x))) ∧ u = mem) := by
  refine g_of (own := RX9) (L0 := [(0, .int x)]) (by decide +kernel) rfl (Nat.le_of_ble_eq_true rfl) rfl ?_
  intro p e s m args below meth c C Q hQ
  refine g_iload_n C 0 dX9_isPosition_0 rfl ?_
  refine g_if_lt C 15 dX9_isPosition_1 (by decide) (fun c_1 => ?_) (fun c_1 => ?_)
  · refine g_iconst C (nI 0) dX9_isPosition_15 (by decide) ?_
    refine g_zret C hQ rfl (Or.inl rfl) dX9_isPosition_16 ?_
    first
      | exact ⟨by rw [b2i_t (P := pOK x) ⟨Int32.not_lt.mp c_1, Int32.not_lt.mp c_8⟩]; rfl, rfl⟩
      | exact ⟨by rw [b2i_f (P := pOK x) (fun q => absurd c_1 (Int32.not_lt.mpr q.1))]; rfl, rfl⟩
      | exact ⟨by rw [b2i_f (P := pOK x) (fun q => absurd c_8 (Int32.not_lt.mpr q.2))]; rfl, rfl⟩
  · refine g_iload_n C 0 dX9_isPosition_4 rfl ?_
    refine g_sipush C (nI 1000) dX9_isPosition_5 (by decide) ?_
    refine g_icmp_gt C 15 dX9_isPosition_8 (by decide) (fun c_8 => ?_) (fun c_8 => ?_)
    · refine g_iconst C (nI 0) dX9_isPosition_15 (by decide) ?_
      refine g_zret C hQ rfl (Or.inl rfl) dX9_isPosition_16 ?_
      first
        | exact ⟨by rw [b2i_t (P := pOK x) ⟨Int32.not_lt.mp c_1, Int32.not_lt.mp c_8⟩]; rfl, rfl⟩
        | exact ⟨by rw [b2i_f (P := pOK x) (fun q => absurd c_1 (Int32.not_lt.mpr q.1))]; rfl, rfl⟩
        | exact ⟨by rw [b2i_f (P := pOK x) (fun q => absurd c_8 (Int32.not_lt.mpr q.2))]; rfl, rfl⟩
    · refine g_iconst C (nI 1) dX9_isPosition_11 (by decide) ?_
      refine g_goto C 16 dX9_isPosition_12 (by decide) ?_
      refine g_zret C hQ rfl (Or.inr rfl) dX9_isPosition_16 ?_
      first
        | exact ⟨by rw [b2i_t (P := pOK x) ⟨Int32.not_lt.mp c_1, Int32.not_lt.mp c_8⟩]; rfl, rfl⟩
        | exact ⟨by rw [b2i_f (P := pOK x) (fun q => absurd c_1 (Int32.not_lt.mpr q.1))]; rfl, rfl⟩
        | exact ⟨by rw [b2i_f (P := pOK x) (fun q => absurd c_8 (Int32.not_lt.mpr q.2))]; rfl, rfl⟩

def rm_X9_isSettingValue : Room := { frames := 0, cells := 0, slots := 0, locals := 0 }
theorem iX9_isSettingValue : gIs yX9_isSettingValue cX9_isSettingValue 2 (some .boolean) 2 := ⟨⟨wd_390, wd_4, by decide +kernel, by decide +kernel, by decide +kernel⟩, wd_389⟩
set_option maxRecDepth 100000 in
set_option maxHeartbeats 4000000 in
theorem c_X9_isSettingValue (l : Launch) (G : gG) (mem : gM) (x y : Int32) : gMet l yX9_isSettingValue cX9_isSettingValue 2 (some .boolean) rm_X9_isSettingValue G [.int x, .int y] mem (fun a u => a = some (.int (b2i (setP x y))) ∧ u = mem) := by
  refine g_of (own := RX9) (L0 := [(0, .int x), (1, .int y)]) (by decide +kernel) rfl (Nat.le_of_ble_eq_true rfl) rfl ?_
  intro p e s m args below meth c C Q hQ
  refine g_iload_n C 0 dX9_isSettingValue_0 rfl ?_
  refine g_if_lt C 42 dX9_isSettingValue_1 (by decide) (fun c_1 => ?_) (fun c_1 => ?_)
  · refine g_iconst C (nI 0) dX9_isSettingValue_42 (by decide) ?_
    refine g_zret C hQ rfl (Or.inl rfl) dX9_isSettingValue_43 ?_
    first
      | exact ⟨by rw [b2i_f (P := setP x y) (fun q => absurd c_1 (Int32.not_lt.mpr q.1.1))]; rfl, rfl⟩
      | exact ⟨by rw [b2i_t (P := setP x y) ⟨⟨Int32.not_lt.mp c_1, Int32.not_le.mp c_9⟩, Int32.not_lt.mp c_26, Int32.not_lt.mp c_35⟩]; rfl, rfl⟩
      | exact ⟨by rw [b2i_f (P := setP x y) (fun q => absurd q.1.2 (Int32.not_lt.mpr c_9))]; rfl, rfl⟩
      | exact ⟨by rw [b2i_f (P := setP x y) (fun q => absurd c_26 (Int32.not_lt.mpr q.2.1))]; rfl, rfl⟩
      | exact ⟨by rw [b2i_f (P := setP x y) (fun q => absurd c_35 (Int32.not_lt.mpr q.2.2))]; rfl, rfl⟩
  · refine g_iload_n C 0 dX9_isSettingValue_4 rfl ?_
    refine g_gets C C.Z.1 wd_391 dX9_isSettingValue_5 ?_
    refine g_tlen C C.Z.1 dX9_isSettingValue_8 ?_
    refine g_icmp_ge C 42 dX9_isSettingValue_9 (by decide) (fun c_9 => ?_) (fun c_9 => ?_)
    · refine g_iconst C (nI 0) dX9_isSettingValue_42 (by decide) ?_
      refine g_zret C hQ rfl (Or.inl rfl) dX9_isSettingValue_43 ?_
      first
        | exact ⟨by rw [b2i_f (P := setP x y) (fun q => absurd c_1 (Int32.not_lt.mpr q.1.1))]; rfl, rfl⟩
        | exact ⟨by rw [b2i_t (P := setP x y) ⟨⟨Int32.not_lt.mp c_1, Int32.not_le.mp c_9⟩, Int32.not_lt.mp c_26, Int32.not_lt.mp c_35⟩]; rfl, rfl⟩
        | exact ⟨by rw [b2i_f (P := setP x y) (fun q => absurd q.1.2 (Int32.not_lt.mpr c_9))]; rfl, rfl⟩
        | exact ⟨by rw [b2i_f (P := setP x y) (fun q => absurd c_26 (Int32.not_lt.mpr q.2.1))]; rfl, rfl⟩
        | exact ⟨by rw [b2i_f (P := setP x y) (fun q => absurd c_35 (Int32.not_lt.mpr q.2.2))]; rfl, rfl⟩
    · have hin : vp_in x 5 := vp_in_iff.mpr ⟨by have := Int32.le_iff_toInt_le.mp (Int32.not_lt.mp c_1); simpa using this, by have := Int32.lt_iff_toInt_lt.mp (Int32.not_le.mp c_9); rw [nI_toInt (by decide)] at this; exact this⟩
      refine g_iload_n C 0 dX9_isSettingValue_12 rfl ?_
      refine g_gets C C.Z.2.1 wd_393 dX9_isSettingValue_13 ?_
      refine g_tlen C C.Z.2.1 dX9_isSettingValue_16 ?_
      refine g_icmp_ge_f C 42 (c_9) dX9_isSettingValue_17 (by decide) ?_
      refine g_iload_n C 1 dX9_isSettingValue_20 rfl ?_
      refine g_gets C C.Z.1 wd_391 dX9_isSettingValue_21 ?_
      refine g_iload_n C 0 dX9_isSettingValue_24 rfl ?_
      refine g_tld C C.Z.1 (hin) dX9_isSettingValue_25 ?_
      refine g_icmp_lt C 42 dX9_isSettingValue_26 (by decide) (fun c_26 => ?_) (fun c_26 => ?_)
      · refine g_iconst C (nI 0) dX9_isSettingValue_42 (by decide) ?_
        refine g_zret C hQ rfl (Or.inl rfl) dX9_isSettingValue_43 ?_
        first
          | exact ⟨by rw [b2i_f (P := setP x y) (fun q => absurd c_1 (Int32.not_lt.mpr q.1.1))]; rfl, rfl⟩
          | exact ⟨by rw [b2i_t (P := setP x y) ⟨⟨Int32.not_lt.mp c_1, Int32.not_le.mp c_9⟩, Int32.not_lt.mp c_26, Int32.not_lt.mp c_35⟩]; rfl, rfl⟩
          | exact ⟨by rw [b2i_f (P := setP x y) (fun q => absurd q.1.2 (Int32.not_lt.mpr c_9))]; rfl, rfl⟩
          | exact ⟨by rw [b2i_f (P := setP x y) (fun q => absurd c_26 (Int32.not_lt.mpr q.2.1))]; rfl, rfl⟩
          | exact ⟨by rw [b2i_f (P := setP x y) (fun q => absurd c_35 (Int32.not_lt.mpr q.2.2))]; rfl, rfl⟩
      · refine g_iload_n C 1 dX9_isSettingValue_29 rfl ?_
        refine g_gets C C.Z.2.1 wd_393 dX9_isSettingValue_30 ?_
        refine g_iload_n C 0 dX9_isSettingValue_33 rfl ?_
        refine g_tld C C.Z.2.1 (hin) dX9_isSettingValue_34 ?_
        refine g_icmp_gt C 42 dX9_isSettingValue_35 (by decide) (fun c_35 => ?_) (fun c_35 => ?_)
        · refine g_iconst C (nI 0) dX9_isSettingValue_42 (by decide) ?_
          refine g_zret C hQ rfl (Or.inl rfl) dX9_isSettingValue_43 ?_
          first
            | exact ⟨by rw [b2i_f (P := setP x y) (fun q => absurd c_1 (Int32.not_lt.mpr q.1.1))]; rfl, rfl⟩
            | exact ⟨by rw [b2i_t (P := setP x y) ⟨⟨Int32.not_lt.mp c_1, Int32.not_le.mp c_9⟩, Int32.not_lt.mp c_26, Int32.not_lt.mp c_35⟩]; rfl, rfl⟩
            | exact ⟨by rw [b2i_f (P := setP x y) (fun q => absurd q.1.2 (Int32.not_lt.mpr c_9))]; rfl, rfl⟩
            | exact ⟨by rw [b2i_f (P := setP x y) (fun q => absurd c_26 (Int32.not_lt.mpr q.2.1))]; rfl, rfl⟩
            | exact ⟨by rw [b2i_f (P := setP x y) (fun q => absurd c_35 (Int32.not_lt.mpr q.2.2))]; rfl, rfl⟩
        · refine g_iconst C (nI 1) dX9_isSettingValue_38 (by decide) ?_
          refine g_goto C 43 dX9_isSettingValue_39 (by decide) ?_
          refine g_zret C hQ rfl (Or.inr rfl) dX9_isSettingValue_43 ?_
          first
            | exact ⟨by rw [b2i_f (P := setP x y) (fun q => absurd c_1 (Int32.not_lt.mpr q.1.1))]; rfl, rfl⟩
            | exact ⟨by rw [b2i_t (P := setP x y) ⟨⟨Int32.not_lt.mp c_1, Int32.not_le.mp c_9⟩, Int32.not_lt.mp c_26, Int32.not_lt.mp c_35⟩]; rfl, rfl⟩
            | exact ⟨by rw [b2i_f (P := setP x y) (fun q => absurd q.1.2 (Int32.not_lt.mpr c_9))]; rfl, rfl⟩
            | exact ⟨by rw [b2i_f (P := setP x y) (fun q => absurd c_26 (Int32.not_lt.mpr q.2.1))]; rfl, rfl⟩
            | exact ⟨by rw [b2i_f (P := setP x y) (fun q => absurd c_35 (Int32.not_lt.mpr q.2.2))]; rfl, rfl⟩

def rm_X9_areEnough : Room := { frames := 1, cells := 0, slots := 0, locals := 21 }
theorem iX9_areEnough : gIv yX9_areEnough cX9_areEnough 2 (some .boolean) 1 := ⟨⟨wd_435, wd_4, by decide +kernel, by decide +kernel, by decide +kernel⟩, wd_434, wd_1⟩
set_option maxRecDepth 100000 in
set_option maxHeartbeats 4000000 in
theorem c_X9_areEnough (l : Launch) (G : gG) {T : Nat} {V : Nat → Int32} (g : Good T V) (mem : gM) (r : Rel V mem) (p1 : Nat → Bool) : gMet l yX9_areEnough cX9_areEnough 2 (some .boolean) rm_X9_areEnough G [.ref (gad G 0), .int (mk p1 (vN V))] mem (fun a u => a = some (.int (b2i (toN (V 2) ≤ fa_cnt p1 (vN V)))) ∧ u = mem) := by
  refine g_of (own := RX9) (L0 := [(0, .ref (gad G 0)), (1, .int (mk p1 (vN V)))]) (by decide +kernel) rfl (Nat.le_of_ble_eq_true rfl) rfl ?_
  intro p e s m args below meth c C Q hQ
  have hn10 := gd_n10 g
  have hc10 := fa_cnt_le p1 (vN V)
  have hl2 := gd_least g
  refine g_iload_n C 1 dX9_areEnough_0 rfl ?_
  refine g_cS1 C (As := [.int (mk p1 (vN V))]) (w := .int (bcI (mk p1 (vN V)))) (mem3 := mem) iJ6_bitCount_0f7a4 (c_bc l G mem (mk p1 (vN V))) wd_436 rfl ⟨Nat.le_of_ble_eq_true rfl, Nat.le_of_ble_eq_true rfl⟩ ⟨rfl, rfl⟩ rfl (Nat.le_of_ble_eq_true rfl) dX9_areEnough_1 (rfl) (rfl) ?_
  refine g_top (y := nI (fa_cnt p1 (vN V))) (bc_mk hn10) ?_
  refine g_aload_n C 0 dX9_areEnough_4 rfl ?_
  refine g_get_r C ob_0 0 (by decide) rfl wd_279 dX9_areEnough_5 ?_
  refine g_get_r C ob_1 0 (by decide) rfl wd_158 dX9_areEnough_8 ?_
  refine g_iconst C (nI 2) dX9_areEnough_11 (by decide) ?_
  refine g_cV1 C (As := [.int (nI 2)]) (w := .int (mem 3 2)) (mem3 := mem) iX6_at (c_X6_at l G mem ob_2 ar_3 (by decide) (by omega)) wd_368 ob_2 rfl ⟨Nat.le_of_ble_eq_true rfl, Nat.le_of_ble_eq_true rfl⟩ ⟨rfl, rfl⟩ rfl (Nat.le_of_ble_eq_true rfl) dX9_areEnough_12 (rfl) (rfl) ?_
  refine g_top (y := nI (toN (V 2))) ((r_set r (by decide)).trans (gd_least g).1) ?_
  refine g_icmp_lt C 22 dX9_areEnough_15 (by decide) (fun c_15 => ?_) (fun c_15 => ?_)
  · refine g_iconst C (nI 0) dX9_areEnough_22 (by decide) ?_
    refine g_zret C hQ rfl (Or.inl rfl) dX9_areEnough_23 ?_
    first
      | exact ⟨by rw [b2i_f (P := toN (V 2) ≤ fa_cnt p1 (vN V)) (by have q := (nI_ltI (by omega) (by omega)).mp c_15; omega)]; rfl, rfl⟩
      | exact ⟨by rw [b2i_t (P := toN (V 2) ≤ fa_cnt p1 (vN V)) (by have q := mt (nI_ltI (by omega) (by omega)).mpr c_15; omega)]; rfl, rfl⟩
  · refine g_iconst C (nI 1) dX9_areEnough_18 (by decide) ?_
    refine g_goto C 23 dX9_areEnough_19 (by decide) ?_
    refine g_zret C hQ rfl (Or.inr rfl) dX9_areEnough_23 ?_
    first
      | exact ⟨by rw [b2i_f (P := toN (V 2) ≤ fa_cnt p1 (vN V)) (by have q := (nI_ltI (by omega) (by omega)).mp c_15; omega)]; rfl, rfl⟩
      | exact ⟨by rw [b2i_t (P := toN (V 2) ≤ fa_cnt p1 (vN V)) (by have q := mt (nI_ltI (by omega) (by omega)).mpr c_15; omega)]; rfl, rfl⟩

def rm_X9_join : Room := { frames := 5, cells := 0, slots := 0, locals := 126 }
theorem iX9_join : gIv yX9_join cX9_join 3 (some .int) 2 := ⟨⟨wd_298, wd_4, by decide +kernel, by decide +kernel, by decide +kernel⟩, wd_296, wd_297⟩
set_option maxRecDepth 100000 in
set_option maxHeartbeats 4000000 in
theorem c_X9_join (l : Launch) (G : gG) {T : Nat} {V : Nat → Int32} (g : Good T V) (mem : gM) (r : Rel V mem) {Vs : Nat → Nat → Int32} {h o : Nat} (hx : HX T Vs h o mem) (x y : Int32) : gMet l yX9_join cX9_join 3 (some .int) rm_X9_join G [.ref (gad G 0), .int x, .int y] mem (fun a u => ∃ rr : Int32, a = some (.int rr) ∧ AX T V Vs h mem u ((wOK x ∧ pOK y) ∧ vN V < 10) (nI (vN V)) (if wOK x ∧ pOK y then kFull else kBad) (jnV V x y) rr) := by
  refine g_of (own := RX9) (L0 := [(0, .ref (gad G 0)), (1, .int x), (2, .int y)]) (by decide +kernel) rfl (Nat.le_of_ble_eq_true rfl) rfl ?_
  intro p e s m args below meth c C Q hQ
  have hn10 := gd_n10 g
  have hz10 : vZ V ≤ 10 := by have := (gd_z g).2; omega
  refine g_iload_n C 1 dX9_join_0 rfl ?_
  refine g_cS1 C (As := [.int x]) (w := .int (b2i (wOK x))) (mem3 := mem) iX9_isWeight (c_X9_isWeight l G mem x) wd_299 rfl ⟨Nat.le_of_ble_eq_true rfl, Nat.le_of_ble_eq_true rfl⟩ ⟨rfl, rfl⟩ rfl (Nat.le_of_ble_eq_true rfl) dX9_join_1 (rfl) (rfl) ?_
  refine g_ifb_eq C 14 dX9_join_4 (by decide) (fun c_4 => ?_) (fun c_4 => ?_)
  · refine g_ldc C wd_305 dX9_join_14 ?_
    refine g_iret C hQ rfl dX9_join_16 ?_
    first
      | exact ⟨_, rfl, fun q => absurd q (fun q => c_4 q.1.1), fun _ => ⟨(if_neg (fun z => c_4 z.1)).symm, XP_same r hx⟩⟩
      | exact ⟨_, rfl, fun q => absurd q (fun q => c_11 q.1.2), fun _ => ⟨(if_neg (fun z => c_11 z.2)).symm, XP_same r hx⟩⟩
  · refine g_iload_n C 2 dX9_join_7 rfl ?_
    refine g_cS1 C (As := [.int y]) (w := .int (b2i (pOK y))) (mem3 := mem) iX9_isPosition (c_X9_isPosition l G mem y) wd_302 rfl ⟨Nat.le_of_ble_eq_true rfl, Nat.le_of_ble_eq_true rfl⟩ ⟨rfl, rfl⟩ rfl (Nat.le_of_ble_eq_true rfl) dX9_join_8 (rfl) (rfl) ?_
    refine g_ifb_ne C 17 dX9_join_11 (by decide) (fun c_11 => ?_) (fun c_11 => ?_)
    · refine g_aload_n C 0 dX9_join_17 rfl ?_
      refine g_get_r C ob_0 0 (by decide) rfl wd_279 dX9_join_18 ?_
      refine g_get_r C ob_1 1 (by decide) rfl wd_161 dX9_join_21 ?_
      refine g_get_i C ob_4 0 (by decide) rfl wd_52 dX9_join_24 ?_
      refine g_top (y := nI (vN V)) (r_n r g) ?_
      refine g_bipush C (nI 10) dX9_join_27 (by decide) ?_
      refine g_icmp_lt C 35 dX9_join_29 (by decide) (fun c_29 => ?_) (fun c_29 => ?_)
      · have c_29 : vN V < 10 := (nI_ltI (by omega) (by decide)).mp c_29
        refine g_aload_n C 0 dX9_join_35 rfl ?_
        refine g_get_r C ob_0 1 (by decide) rfl wd_280 dX9_join_36 ?_
        refine g_aload_n C 0 dX9_join_39 rfl ?_
        refine g_get_r C ob_0 0 (by decide) rfl wd_279 dX9_join_40 ?_
        refine g_cVq C (As := [.ref (gad G 1)]) iX1_keep (c_X1_keep l G g mem r hx) wd_307 ob_29 rfl ⟨Nat.le_of_ble_eq_true rfl, Nat.le_of_ble_eq_true rfl⟩ ⟨rfl, rfl⟩ rfl (Nat.le_of_ble_eq_true rfl) dX9_join_43 (fun ku0 hq => ?_)
        obtain ⟨hkf, o2, hx2⟩ := hq
        have rk : Rel V ku0 := RelS.keep r (fun k _ h2 => hkf k (Or.inl (by omega)))
        refine g_aload_n C 0 dX9_join_46 rfl ?_
        refine g_get_r C ob_0 0 (by decide) rfl wd_279 dX9_join_47 ?_
        refine g_get_r C ob_1 1 (by decide) rfl wd_161 dX9_join_50 ?_
        refine g_iload_n C 1 dX9_join_53 rfl ?_
        refine g_iload_n C 2 dX9_join_54 rfl ?_
        refine g_cV1 C (As := [.int x, .int y]) (w := .int (nI (vN V))) (mem3 := gr (gr (gr ku0 6 (upd (ku0 6) (vN V) x)) 8 (upd (ku0 8) (vN V) y)) 4 (upd (upd (ku0 4) 1 (ku0 4 1 ||| bit (vN V))) 0 (nI (vN V + 1)))) iX3_enter (c_X3_enter l G ku0 (r_n rk g) c_29 x y) wd_344 ob_4 rfl ⟨Nat.le_of_ble_eq_true rfl, Nat.le_of_ble_eq_true rfl⟩ ⟨rfl, rfl⟩ rfl (Nat.le_of_ble_eq_true rfl) dX9_join_55 (rfl) (rfl) ?_
        refine g_iret C hQ rfl dX9_join_58 ?_
        exact ⟨_, rfl, fun _ => ⟨rfl, rs_join g rk c_29 _ _, ⟨_, (hx_lo (by decide) (hx_lo (by decide) (hx_lo (by decide) hx2)))⟩, fun k hk => by rw [gr_n (by omega), gr_n (by omega), gr_n (by omega), hkf k (by omega)]⟩, fun q => absurd (⟨⟨c_4, c_11⟩, c_29⟩) q⟩
      · have c_29 : ¬ vN V < 10 := fun q => c_29 (nI_lt q (by decide))
        refine g_ldc C wd_306 dX9_join_32 ?_
        refine g_iret C hQ rfl dX9_join_34 ?_
        exact ⟨_, rfl, fun q => absurd q (fun q => c_29 q.2), fun _ => ⟨(if_pos ⟨c_4, c_11⟩).symm, XP_same r hx⟩⟩
    · refine g_ldc C wd_305 dX9_join_14 ?_
      refine g_iret C hQ rfl dX9_join_16 ?_
      first
        | exact ⟨_, rfl, fun q => absurd q (fun q => c_4 q.1.1), fun _ => ⟨(if_neg (fun z => c_4 z.1)).symm, XP_same r hx⟩⟩
        | exact ⟨_, rfl, fun q => absurd q (fun q => c_11 q.1.2), fun _ => ⟨(if_neg (fun z => c_11 z.2)).symm, XP_same r hx⟩⟩

def rm_X9_change : Room := { frames := 5, cells := 0, slots := 0, locals := 126 }
theorem iX9_change : gIv yX9_change cX9_change 4 (some .int) 3 := ⟨⟨wd_625, wd_4, by decide +kernel, by decide +kernel, by decide +kernel⟩, wd_623, wd_624⟩
set_option maxRecDepth 100000 in
set_option maxHeartbeats 4000000 in
theorem c_X9_change (l : Launch) (G : gG) {T : Nat} {V : Nat → Int32} (g : Good T V) (mem : gM) (r : Rel V mem) {Vs : Nat → Nat → Int32} {h o : Nat} (hx : HX T Vs h o mem) (x y z : Int32) : gMet l yX9_change cX9_change 4 (some .int) rm_X9_change G [.ref (gad G 0), .int x, .int y, .int z] mem (fun a u => ∃ rr : Int32, a = some (.int rr) ∧ AX T V Vs h mem u (memP V x ∧ ((y = 0 ∧ wOK z) ∨ (y = nI 1 ∧ pOK z))) (V (chI x y)) (kBad) (upd V (chI x y) z) rr) := by
  refine g_of (own := RX9) (L0 := [(0, .ref (gad G 0)), (1, .int x), (2, .int y), (3, .int z)]) (by decide +kernel) rfl (Nat.le_of_ble_eq_true rfl) rfl ?_
  intro p e s m args below meth c C Q hQ
  have hn10 := gd_n10 g
  have hz10 : vZ V ≤ 10 := by have := (gd_z g).2; omega
  refine g_aload_n C 0 dX9_change_0 rfl ?_
  refine g_iload_n C 1 dX9_change_1 rfl ?_
  refine g_cV1 C (As := [.int x]) (w := .int (b2i (memP V x))) (mem3 := mem) iX9_isMember (c_X9_isMember l G g mem r x) wd_353 ob_0 rfl ⟨Nat.le_of_ble_eq_true rfl, Nat.le_of_ble_eq_true rfl⟩ ⟨rfl, rfl⟩ rfl (Nat.le_of_ble_eq_true rfl) dX9_change_2 (rfl) (rfl) ?_
  refine g_ifb_ne C 11 dX9_change_5 (by decide) (fun c_5 => ?_) (fun c_5 => ?_)
  · obtain ⟨j, hj, rfl⟩ := memP_ex g c_5
    have ej : toN (nI j) = j := toN_nI (by omega)
    refine g_iload_n C 2 dX9_change_11 rfl ?_
    refine g_if_ne C 49 dX9_change_12 (by decide) (fun c_12 => ?_) (fun c_12 => ?_)
    · refine g_iload_n C 2 dX9_change_49 rfl ?_
      refine g_iconst C (nI 1) dX9_change_50 (by decide) ?_
      refine g_icmp_ne C 88 dX9_change_51 (by decide) (fun c_51 => ?_) (fun c_51 => ?_)
      · refine g_ldc C wd_305 dX9_change_88 ?_
        refine g_iret C hQ rfl dX9_change_90 ?_
        refine ⟨_, rfl, fun q => ?_, fun _ => ⟨rfl, XP_same r hx⟩⟩
        exfalso
        rcases q.2 with q | q
        · first | exact c_12 q.1 | exact c_19 q.2
        · first | exact c_51 q.1 | exact c_58 q.2
      · refine g_iload_n C 3 dX9_change_54 rfl ?_
        refine g_cS1 C (As := [.int z]) (w := .int (b2i (pOK z))) (mem3 := mem) iX9_isPosition (c_X9_isPosition l G mem z) wd_302 rfl ⟨Nat.le_of_ble_eq_true rfl, Nat.le_of_ble_eq_true rfl⟩ ⟨rfl, rfl⟩ rfl (Nat.le_of_ble_eq_true rfl) dX9_change_55 (rfl) (rfl) ?_
        refine g_ifb_eq C 88 dX9_change_58 (by decide) (fun c_58 => ?_) (fun c_58 => ?_)
        · refine g_ldc C wd_305 dX9_change_88 ?_
          refine g_iret C hQ rfl dX9_change_90 ?_
          refine ⟨_, rfl, fun q => ?_, fun _ => ⟨rfl, XP_same r hx⟩⟩
          exfalso
          rcases q.2 with q | q
          · first | exact c_12 q.1 | exact c_19 q.2
          · first | exact c_51 q.1 | exact c_58 q.2
        · refine g_aload_n C 0 dX9_change_61 rfl ?_
          refine g_get_r C ob_0 1 (by decide) rfl wd_280 dX9_change_62 ?_
          refine g_aload_n C 0 dX9_change_65 rfl ?_
          refine g_get_r C ob_0 0 (by decide) rfl wd_279 dX9_change_66 ?_
          refine g_cVq C (As := [.ref (gad G 1)]) iX1_keep (c_X1_keep l G g mem r hx) wd_307 ob_29 rfl ⟨Nat.le_of_ble_eq_true rfl, Nat.le_of_ble_eq_true rfl⟩ ⟨rfl, rfl⟩ rfl (Nat.le_of_ble_eq_true rfl) dX9_change_69 (fun ku0 hq => ?_)
          obtain ⟨hkf, o2, hx2⟩ := hq
          have rk : Rel V ku0 := RelS.keep r (fun k _ h2 => hkf k (Or.inl (by omega)))
          refine g_aload_n C 0 dX9_change_72 rfl ?_
          refine g_get_r C ob_0 0 (by decide) rfl wd_279 dX9_change_73 ?_
          refine g_get_r C ob_1 1 (by decide) rfl wd_161 dX9_change_76 ?_
          refine g_get_r C ob_4 3 (by decide) rfl wd_62 dX9_change_79 ?_
          refine g_iload_n C 1 dX9_change_82 rfl ?_
          refine g_iload_n C 3 dX9_change_83 rfl ?_
          refine g_cV1 C (As := [.int (nI j), .int z]) (w := .int (ku0 8 j)) (mem3 := gr ku0 8 (upd (ku0 8) j z)) iX6_swap (c_X6_swap l G ku0 ob_7 ar_8 (by decide) (by omega) z) wd_395 ob_7 rfl ⟨Nat.le_of_ble_eq_true rfl, Nat.le_of_ble_eq_true rfl⟩ ⟨rfl, rfl⟩ rfl (Nat.le_of_ble_eq_true rfl) dX9_change_84 (rfl) (rfl) ?_
          refine g_top (y := V (31 + 12 * j)) (r_p rk hj) ?_
          refine g_iret C hQ rfl dX9_change_87 ?_
          have ec : chI (nI j) y = 31 + 12 * j := by rw [c_51]; show 30 + 12 * toN (nI j) + 1 = _; rw [ej]; omega
          exact ⟨_, rfl, fun _ => ⟨by rw [ec], (by rw [ec]; exact rs_p rk hj hn10 hz10 _), ⟨_, (hx_lo (by decide) hx2)⟩, fun k hk => by rw [gr_n (by omega), hkf k (by omega)]⟩, fun q => absurd (⟨c_5, Or.inr ⟨c_51, c_58⟩⟩) q⟩
    · refine g_iload_n C 3 dX9_change_15 rfl ?_
      refine g_cS1 C (As := [.int z]) (w := .int (b2i (wOK z))) (mem3 := mem) iX9_isWeight (c_X9_isWeight l G mem z) wd_299 rfl ⟨Nat.le_of_ble_eq_true rfl, Nat.le_of_ble_eq_true rfl⟩ ⟨rfl, rfl⟩ rfl (Nat.le_of_ble_eq_true rfl) dX9_change_16 (rfl) (rfl) ?_
      refine g_ifb_eq C 49 dX9_change_19 (by decide) (fun c_19 => ?_) (fun c_19 => ?_)
      · refine g_iload_n C 2 dX9_change_49 rfl ?_
        refine g_iconst C (nI 1) dX9_change_50 (by decide) ?_
        refine g_icmp_ne C 88 dX9_change_51 (by decide) (fun c_51 => ?_) (fun c_51 => ?_)
        · refine g_ldc C wd_305 dX9_change_88 ?_
          refine g_iret C hQ rfl dX9_change_90 ?_
          refine ⟨_, rfl, fun q => ?_, fun _ => ⟨rfl, XP_same r hx⟩⟩
          exfalso
          rcases q.2 with q | q
          · first | exact c_12 q.1 | exact c_19 q.2
          · first | exact c_51 q.1 | exact c_58 q.2
        · refine g_iload_n C 3 dX9_change_54 rfl ?_
          refine g_cS1 C (As := [.int z]) (w := .int (b2i (pOK z))) (mem3 := mem) iX9_isPosition (c_X9_isPosition l G mem z) wd_302 rfl ⟨Nat.le_of_ble_eq_true rfl, Nat.le_of_ble_eq_true rfl⟩ ⟨rfl, rfl⟩ rfl (Nat.le_of_ble_eq_true rfl) dX9_change_55 (rfl) (rfl) ?_
          refine g_ifb_eq C 88 dX9_change_58 (by decide) (fun c_58 => ?_) (fun c_58 => ?_)
          · refine g_ldc C wd_305 dX9_change_88 ?_
            refine g_iret C hQ rfl dX9_change_90 ?_
            refine ⟨_, rfl, fun q => ?_, fun _ => ⟨rfl, XP_same r hx⟩⟩
            exfalso
            rcases q.2 with q | q
            · first | exact c_12 q.1 | exact c_19 q.2
            · first | exact c_51 q.1 | exact c_58 q.2
          · refine g_aload_n C 0 dX9_change_61 rfl ?_
            refine g_get_r C ob_0 1 (by decide) rfl wd_280 dX9_change_62 ?_
            refine g_aload_n C 0 dX9_change_65 rfl ?_
            refine g_get_r C ob_0 0 (by decide) rfl wd_279 dX9_change_66 ?_
            refine g_cVq C (As := [.ref (gad G 1)]) iX1_keep (c_X1_keep l G g mem r hx) wd_307 ob_29 rfl ⟨Nat.le_of_ble_eq_true rfl, Nat.le_of_ble_eq_true rfl⟩ ⟨rfl, rfl⟩ rfl (Nat.le_of_ble_eq_true rfl) dX9_change_69 (fun ku0 hq => ?_)
            obtain ⟨hkf, o2, hx2⟩ := hq
            have rk : Rel V ku0 := RelS.keep r (fun k _ h2 => hkf k (Or.inl (by omega)))
            refine g_aload_n C 0 dX9_change_72 rfl ?_
            refine g_get_r C ob_0 0 (by decide) rfl wd_279 dX9_change_73 ?_
            refine g_get_r C ob_1 1 (by decide) rfl wd_161 dX9_change_76 ?_
            refine g_get_r C ob_4 3 (by decide) rfl wd_62 dX9_change_79 ?_
            refine g_iload_n C 1 dX9_change_82 rfl ?_
            refine g_iload_n C 3 dX9_change_83 rfl ?_
            refine g_cV1 C (As := [.int (nI j), .int z]) (w := .int (ku0 8 j)) (mem3 := gr ku0 8 (upd (ku0 8) j z)) iX6_swap (c_X6_swap l G ku0 ob_7 ar_8 (by decide) (by omega) z) wd_395 ob_7 rfl ⟨Nat.le_of_ble_eq_true rfl, Nat.le_of_ble_eq_true rfl⟩ ⟨rfl, rfl⟩ rfl (Nat.le_of_ble_eq_true rfl) dX9_change_84 (rfl) (rfl) ?_
            refine g_top (y := V (31 + 12 * j)) (r_p rk hj) ?_
            refine g_iret C hQ rfl dX9_change_87 ?_
            have ec : chI (nI j) y = 31 + 12 * j := by rw [c_51]; show 30 + 12 * toN (nI j) + 1 = _; rw [ej]; omega
            exact ⟨_, rfl, fun _ => ⟨by rw [ec], (by rw [ec]; exact rs_p rk hj hn10 hz10 _), ⟨_, (hx_lo (by decide) hx2)⟩, fun k hk => by rw [gr_n (by omega), hkf k (by omega)]⟩, fun q => absurd (⟨c_5, Or.inr ⟨c_51, c_58⟩⟩) q⟩
      · refine g_aload_n C 0 dX9_change_22 rfl ?_
        refine g_get_r C ob_0 1 (by decide) rfl wd_280 dX9_change_23 ?_
        refine g_aload_n C 0 dX9_change_26 rfl ?_
        refine g_get_r C ob_0 0 (by decide) rfl wd_279 dX9_change_27 ?_
        refine g_cVq C (As := [.ref (gad G 1)]) iX1_keep (c_X1_keep l G g mem r hx) wd_307 ob_29 rfl ⟨Nat.le_of_ble_eq_true rfl, Nat.le_of_ble_eq_true rfl⟩ ⟨rfl, rfl⟩ rfl (Nat.le_of_ble_eq_true rfl) dX9_change_30 (fun ku0 hq => ?_)
        obtain ⟨hkf, o2, hx2⟩ := hq
        have rk : Rel V ku0 := RelS.keep r (fun k _ h2 => hkf k (Or.inl (by omega)))
        refine g_aload_n C 0 dX9_change_33 rfl ?_
        refine g_get_r C ob_0 0 (by decide) rfl wd_279 dX9_change_34 ?_
        refine g_get_r C ob_1 1 (by decide) rfl wd_161 dX9_change_37 ?_
        refine g_get_r C ob_4 2 (by decide) rfl wd_59 dX9_change_40 ?_
        refine g_iload_n C 1 dX9_change_43 rfl ?_
        refine g_iload_n C 3 dX9_change_44 rfl ?_
        refine g_cV1 C (As := [.int (nI j), .int z]) (w := .int (ku0 6 j)) (mem3 := gr ku0 6 (upd (ku0 6) j z)) iX6_swap (c_X6_swap l G ku0 ob_5 ar_6 (by decide) (by omega) z) wd_395 ob_5 rfl ⟨Nat.le_of_ble_eq_true rfl, Nat.le_of_ble_eq_true rfl⟩ ⟨rfl, rfl⟩ rfl (Nat.le_of_ble_eq_true rfl) dX9_change_45 (rfl) (rfl) ?_
        refine g_top (y := V (30 + 12 * j)) (r_w rk hj) ?_
        refine g_iret C hQ rfl dX9_change_48 ?_
        have ec : chI (nI j) y = 30 + 12 * j := by rw [c_12]; show 30 + 12 * toN (nI j) + 0 = _; rw [ej, Nat.add_zero]
        exact ⟨_, rfl, fun _ => ⟨by rw [ec], (by rw [ec]; exact rs_w rk hj hn10 hz10 _), ⟨_, (hx_lo (by decide) hx2)⟩, fun k hk => by rw [gr_n (by omega), hkf k (by omega)]⟩, fun q => absurd (⟨c_5, Or.inl ⟨c_12, c_19⟩⟩) q⟩
  · refine g_ldc C wd_305 dX9_change_8 ?_
    refine g_iret C hQ rfl dX9_change_10 ?_
    exact ⟨_, rfl, fun q => absurd q (fun q => c_5 q.1), fun _ => ⟨rfl, XP_same r hx⟩⟩

def rm_X9_live : Room := { frames := 5, cells := 0, slots := 0, locals := 126 }
theorem iX9_live : gIv yX9_live cX9_live 5 (some .int) 2 := ⟨⟨wd_352, wd_4, by decide +kernel, by decide +kernel, by decide +kernel⟩, wd_350, wd_351⟩
set_option maxRecDepth 100000 in
set_option maxHeartbeats 4000000 in
theorem c_X9_live (l : Launch) (G : gG) {T : Nat} {V : Nat → Int32} (g : Good T V) (mem : gM) (r : Rel V mem) {Vs : Nat → Nat → Int32} {h o : Nat} (hx : HX T Vs h o mem) (x z : Int32) : gMet l yX9_live cX9_live 5 (some .int) rm_X9_live G [.ref (gad G 0), .int x, .int z] mem (fun a u => ∃ rr : Int32, a = some (.int rr) ∧ AX T V Vs h mem u (memP V x) (V (32 + 12 * toN x)) (kBad) (upd V (32 + 12 * toN x) (if z = 0 then nI 0 else nI 1)) rr) := by
  refine g_of (own := RX9) (L0 := [(0, .ref (gad G 0)), (1, .int x), (2, .int z)]) (by decide +kernel) rfl (Nat.le_of_ble_eq_true rfl) rfl ?_
  intro p e s m args below meth c C Q hQ
  have hn10 := gd_n10 g
  have hz10 : vZ V ≤ 10 := by have := (gd_z g).2; omega
  refine g_aload_n C 0 dX9_live_0 rfl ?_
  refine g_iload_n C 1 dX9_live_1 rfl ?_
  refine g_cV1 C (As := [.int x]) (w := .int (b2i (memP V x))) (mem3 := mem) iX9_isMember (c_X9_isMember l G g mem r x) wd_353 ob_0 rfl ⟨Nat.le_of_ble_eq_true rfl, Nat.le_of_ble_eq_true rfl⟩ ⟨rfl, rfl⟩ rfl (Nat.le_of_ble_eq_true rfl) dX9_live_2 (rfl) (rfl) ?_
  refine g_ifb_ne C 11 dX9_live_5 (by decide) (fun c_5 => ?_) (fun c_5 => ?_)
  · obtain ⟨j, hj, rfl⟩ := memP_ex g c_5
    have ej : toN (nI j) = j := toN_nI (by omega)
    refine g_aload_n C 0 dX9_live_11 rfl ?_
    refine g_get_r C ob_0 1 (by decide) rfl wd_280 dX9_live_12 ?_
    refine g_aload_n C 0 dX9_live_15 rfl ?_
    refine g_get_r C ob_0 0 (by decide) rfl wd_279 dX9_live_16 ?_
    refine g_cVq C (As := [.ref (gad G 1)]) iX1_keep (c_X1_keep l G g mem r hx) wd_307 ob_29 rfl ⟨Nat.le_of_ble_eq_true rfl, Nat.le_of_ble_eq_true rfl⟩ ⟨rfl, rfl⟩ rfl (Nat.le_of_ble_eq_true rfl) dX9_live_19 (fun ku0 hq => ?_)
    obtain ⟨hkf, o2, hx2⟩ := hq
    have rk : Rel V ku0 := RelS.keep r (fun k _ h2 => hkf k (Or.inl (by omega)))
    refine g_aload_n C 0 dX9_live_22 rfl ?_
    refine g_get_r C ob_0 0 (by decide) rfl wd_279 dX9_live_23 ?_
    refine g_get_r C ob_1 1 (by decide) rfl wd_161 dX9_live_26 ?_
    refine g_iload_n C 1 dX9_live_29 rfl ?_
    refine g_cV1 C (As := [.int (nI j)]) (w := .int (b2i (vLv V j = true))) (mem3 := ku0) iX3_lives (c_X3_lives l G g ku0 rk (hj)) wd_357 ob_4 rfl ⟨Nat.le_of_ble_eq_true rfl, Nat.le_of_ble_eq_true rfl⟩ ⟨rfl, rfl⟩ rfl (Nat.le_of_ble_eq_true rfl) dX9_live_30 (rfl) (rfl) ?_
    refine g_ifb_eq C 40 dX9_live_33 (by decide) (fun c_33 => ?_) (fun c_33 => ?_)
    · have hv : V (32 + 12 * j) = nI 0 := (gd_lv g hj).elim id (fun q => absurd (decide_eq_true q) c_33)
      refine g_iconst C (nI 0) dX9_live_40 (by decide) ?_
      refine g_istore_n C (L2 := [(3, .int (nI 0)), (0, .ref (gad G 0)), (1, .int (nI j)), (2, .int z)]) dX9_live_41 (by decide) rfl ?_
      refine g_iconst C (nI 1) dX9_live_42 (by decide) ?_
      refine g_iload_n C 2 dX9_live_43 rfl ?_
      refine g_ishl C dX9_live_44 ?_
      refine g_istore C (L2 := [(4, .int ((nI 1) <<< ((nI j) &&& 31))), (3, .int (nI 0)), (0, .ref (gad G 0)), (1, .int (nI j)), (2, .int z)]) dX9_live_45 (by decide) rfl ?_
      refine g_aload_n C 2 dX9_live_47 rfl ?_
      refine g_get_r C ob_0 0 (by decide) rfl wd_279 dX9_live_48 ?_
      refine g_get_r C ob_1 1 (by decide) rfl wd_161 dX9_live_51 ?_
      refine g_iload_n C 4 dX9_live_54 rfl ?_
      refine g_if_eq C 74 dX9_live_55 (by decide) (fun c_55 => ?_) (fun c_55 => ?_)
      · refine g_aload_n C 2 dX9_live_74 rfl ?_
        refine g_get_r C ob_0 0 (by decide) rfl wd_279 dX9_live_75 ?_
        refine g_get_r C ob_1 1 (by decide) rfl wd_161 dX9_live_78 ?_
        refine g_get_i C ob_4 1 (by decide) rfl wd_57 dX9_live_81 ?_
        refine g_iload C 0 dX9_live_84 rfl ?_
        refine g_iconst C (((-1) : Int32)) dX9_live_86 (by decide) ?_
        refine g_ixor C dX9_live_87 ?_
        refine g_iand C dX9_live_88 ?_
        refine g_put_i C ob_4 1 (by decide) rfl wd_57 rfl rfl dX9_live_89 ?_
        refine g_iload_n C 1 dX9_live_92 rfl ?_
        refine g_iret C hQ rfl dX9_live_93 ?_
        first
          | exact ⟨_, rfl, fun _ => ⟨by rw [ej, hv], (by rw [ej, if_pos c_55]; exact rs_off rk hj hn10 hz10), ⟨_, (hx_lo (by decide) hx2)⟩, fun k hk => by rw [gr_n (by omega), hkf k (by omega)]⟩, fun q => absurd (c_5) q⟩
          | exact ⟨_, rfl, fun _ => ⟨by rw [ej, hv], (by rw [ej, if_neg c_55]; exact rs_on rk hj hn10 hz10), ⟨_, (hx_lo (by decide) hx2)⟩, fun k hk => by rw [gr_n (by omega), hkf k (by omega)]⟩, fun q => absurd (c_5) q⟩
      · refine g_aload_n C 2 dX9_live_58 rfl ?_
        refine g_get_r C ob_0 0 (by decide) rfl wd_279 dX9_live_59 ?_
        refine g_get_r C ob_1 1 (by decide) rfl wd_161 dX9_live_62 ?_
        refine g_get_i C ob_4 1 (by decide) rfl wd_57 dX9_live_65 ?_
        refine g_iload C 0 dX9_live_68 rfl ?_
        refine g_ior C dX9_live_70 ?_
        refine g_goto C 89 dX9_live_71 (by decide) ?_
        refine g_put_i C ob_4 1 (by decide) rfl wd_57 rfl rfl dX9_live_89 ?_
        refine g_iload_n C 1 dX9_live_92 rfl ?_
        refine g_iret C hQ rfl dX9_live_93 ?_
        first
          | exact ⟨_, rfl, fun _ => ⟨by rw [ej, hv], (by rw [ej, if_pos c_55]; exact rs_off rk hj hn10 hz10), ⟨_, (hx_lo (by decide) hx2)⟩, fun k hk => by rw [gr_n (by omega), hkf k (by omega)]⟩, fun q => absurd (c_5) q⟩
          | exact ⟨_, rfl, fun _ => ⟨by rw [ej, hv], (by rw [ej, if_neg c_55]; exact rs_on rk hj hn10 hz10), ⟨_, (hx_lo (by decide) hx2)⟩, fun k hk => by rw [gr_n (by omega), hkf k (by omega)]⟩, fun q => absurd (c_5) q⟩
    · have hv : V (32 + 12 * j) = nI 1 := of_decide_eq_true c_33
      refine g_iconst C (nI 1) dX9_live_36 (by decide) ?_
      refine g_goto C 41 dX9_live_37 (by decide) ?_
      refine g_istore_n C (L2 := [(3, .int (nI 1)), (0, .ref (gad G 0)), (1, .int (nI j)), (2, .int z)]) dX9_live_41 (by decide) rfl ?_
      refine g_iconst C (nI 1) dX9_live_42 (by decide) ?_
      refine g_iload_n C 2 dX9_live_43 rfl ?_
      refine g_ishl C dX9_live_44 ?_
      refine g_istore C (L2 := [(4, .int ((nI 1) <<< ((nI j) &&& 31))), (3, .int (nI 1)), (0, .ref (gad G 0)), (1, .int (nI j)), (2, .int z)]) dX9_live_45 (by decide) rfl ?_
      refine g_aload_n C 2 dX9_live_47 rfl ?_
      refine g_get_r C ob_0 0 (by decide) rfl wd_279 dX9_live_48 ?_
      refine g_get_r C ob_1 1 (by decide) rfl wd_161 dX9_live_51 ?_
      refine g_iload_n C 4 dX9_live_54 rfl ?_
      refine g_if_eq C 74 dX9_live_55 (by decide) (fun c_55 => ?_) (fun c_55 => ?_)
      · refine g_aload_n C 2 dX9_live_74 rfl ?_
        refine g_get_r C ob_0 0 (by decide) rfl wd_279 dX9_live_75 ?_
        refine g_get_r C ob_1 1 (by decide) rfl wd_161 dX9_live_78 ?_
        refine g_get_i C ob_4 1 (by decide) rfl wd_57 dX9_live_81 ?_
        refine g_iload C 0 dX9_live_84 rfl ?_
        refine g_iconst C (((-1) : Int32)) dX9_live_86 (by decide) ?_
        refine g_ixor C dX9_live_87 ?_
        refine g_iand C dX9_live_88 ?_
        refine g_put_i C ob_4 1 (by decide) rfl wd_57 rfl rfl dX9_live_89 ?_
        refine g_iload_n C 1 dX9_live_92 rfl ?_
        refine g_iret C hQ rfl dX9_live_93 ?_
        first
          | exact ⟨_, rfl, fun _ => ⟨by rw [ej, hv], (by rw [ej, if_pos c_55]; exact rs_off rk hj hn10 hz10), ⟨_, (hx_lo (by decide) hx2)⟩, fun k hk => by rw [gr_n (by omega), hkf k (by omega)]⟩, fun q => absurd (c_5) q⟩
          | exact ⟨_, rfl, fun _ => ⟨by rw [ej, hv], (by rw [ej, if_neg c_55]; exact rs_on rk hj hn10 hz10), ⟨_, (hx_lo (by decide) hx2)⟩, fun k hk => by rw [gr_n (by omega), hkf k (by omega)]⟩, fun q => absurd (c_5) q⟩
      · refine g_aload_n C 2 dX9_live_58 rfl ?_
        refine g_get_r C ob_0 0 (by decide) rfl wd_279 dX9_live_59 ?_
        refine g_get_r C ob_1 1 (by decide) rfl wd_161 dX9_live_62 ?_
        refine g_get_i C ob_4 1 (by decide) rfl wd_57 dX9_live_65 ?_
        refine g_iload C 0 dX9_live_68 rfl ?_
        refine g_ior C dX9_live_70 ?_
        refine g_goto C 89 dX9_live_71 (by decide) ?_
        refine g_put_i C ob_4 1 (by decide) rfl wd_57 rfl rfl dX9_live_89 ?_
        refine g_iload_n C 1 dX9_live_92 rfl ?_
        refine g_iret C hQ rfl dX9_live_93 ?_
        first
          | exact ⟨_, rfl, fun _ => ⟨by rw [ej, hv], (by rw [ej, if_pos c_55]; exact rs_off rk hj hn10 hz10), ⟨_, (hx_lo (by decide) hx2)⟩, fun k hk => by rw [gr_n (by omega), hkf k (by omega)]⟩, fun q => absurd (c_5) q⟩
          | exact ⟨_, rfl, fun _ => ⟨by rw [ej, hv], (by rw [ej, if_neg c_55]; exact rs_on rk hj hn10 hz10), ⟨_, (hx_lo (by decide) hx2)⟩, fun k hk => by rw [gr_n (by omega), hkf k (by omega)]⟩, fun q => absurd (c_5) q⟩
  · refine g_ldc C wd_305 dX9_live_8 ?_
    refine g_iret C hQ rfl dX9_live_10 ?_
    exact ⟨_, rfl, fun q => absurd q (c_5), fun _ => ⟨rfl, XP_same r hx⟩⟩

def rm_X9_set : Room := { frames := 5, cells := 0, slots := 0, locals := 126 }
theorem iX9_set : gIv yX9_set cX9_set 3 (some .int) 2 := ⟨⟨wd_387, wd_4, by decide +kernel, by decide +kernel, by decide +kernel⟩, wd_385, wd_386⟩
set_option maxRecDepth 100000 in
set_option maxHeartbeats 4000000 in
theorem c_X9_set (l : Launch) (G : gG) {T : Nat} {V : Nat → Int32} (g : Good T V) (mem : gM) (r : Rel V mem) {Vs : Nat → Nat → Int32} {h o : Nat} (hx : HX T Vs h o mem) (x y : Int32) : gMet l yX9_set cX9_set 3 (some .int) rm_X9_set G [.ref (gad G 0), .int x, .int y] mem (fun a u => ∃ rr : Int32, a = some (.int rr) ∧ AX T V Vs h mem u (setP x y) (V (toN x)) (kBad) (upd V (toN x) y) rr) := by
  refine g_of (own := RX9) (L0 := [(0, .ref (gad G 0)), (1, .int x), (2, .int y)]) (by decide +kernel) rfl (Nat.le_of_ble_eq_true rfl) rfl ?_
  intro p e s m args below meth c C Q hQ
  have hn10 := gd_n10 g
  have hz10 : vZ V ≤ 10 := by have := (gd_z g).2; omega
  refine g_iload_n C 1 dX9_set_0 rfl ?_
  refine g_iload_n C 2 dX9_set_1 rfl ?_
  refine g_cS1 C (As := [.int x, .int y]) (w := .int (b2i (setP x y))) (mem3 := mem) iX9_isSettingValue (c_X9_isSettingValue l G mem x y) wd_388 rfl ⟨Nat.le_of_ble_eq_true rfl, Nat.le_of_ble_eq_true rfl⟩ ⟨rfl, rfl⟩ rfl (Nat.le_of_ble_eq_true rfl) dX9_set_2 (rfl) (rfl) ?_
  refine g_ifb_ne C 11 dX9_set_5 (by decide) (fun c_5 => ?_) (fun c_5 => ?_)
  · obtain ⟨j, hj, rfl⟩ := lt_ex (by decide) c_5.1
    have ej : toN (nI j) = j := toN_nI (by omega)
    refine g_aload_n C 0 dX9_set_11 rfl ?_
    refine g_get_r C ob_0 1 (by decide) rfl wd_280 dX9_set_12 ?_
    refine g_aload_n C 0 dX9_set_15 rfl ?_
    refine g_get_r C ob_0 0 (by decide) rfl wd_279 dX9_set_16 ?_
    refine g_cVq C (As := [.ref (gad G 1)]) iX1_keep (c_X1_keep l G g mem r hx) wd_307 ob_29 rfl ⟨Nat.le_of_ble_eq_true rfl, Nat.le_of_ble_eq_true rfl⟩ ⟨rfl, rfl⟩ rfl (Nat.le_of_ble_eq_true rfl) dX9_set_19 (fun ku0 hq => ?_)
    obtain ⟨hkf, o2, hx2⟩ := hq
    have rk : Rel V ku0 := RelS.keep r (fun k _ h2 => hkf k (Or.inl (by omega)))
    refine g_aload_n C 0 dX9_set_22 rfl ?_
    refine g_get_r C ob_0 0 (by decide) rfl wd_279 dX9_set_23 ?_
    refine g_get_r C ob_1 0 (by decide) rfl wd_158 dX9_set_26 ?_
    refine g_iload_n C 1 dX9_set_29 rfl ?_
    refine g_iload_n C 2 dX9_set_30 rfl ?_
    refine g_cV1 C (As := [.int (nI j), .int y]) (w := .int (ku0 3 j)) (mem3 := gr ku0 3 (upd (ku0 3) j y)) iX6_swap (c_X6_swap l G ku0 ob_2 ar_3 (by decide) (by omega) y) wd_395 ob_2 rfl ⟨Nat.le_of_ble_eq_true rfl, Nat.le_of_ble_eq_true rfl⟩ ⟨rfl, rfl⟩ rfl (Nat.le_of_ble_eq_true rfl) dX9_set_31 (rfl) (rfl) ?_
    refine g_top (y := V j) (r_set rk hj) ?_
    refine g_iret C hQ rfl dX9_set_34 ?_
    exact ⟨_, rfl, fun _ => ⟨by rw [ej], (by rw [ej]; exact rs_set rk hj hn10 hz10 _), ⟨_, (hx_lo (by decide) hx2)⟩, fun k hk => by rw [gr_n (by omega), hkf k (by omega)]⟩, fun q => absurd (c_5) q⟩
  · refine g_ldc C wd_305 dX9_set_8 ?_
    refine g_iret C hQ rfl dX9_set_10 ?_
    exact ⟨_, rfl, fun q => absurd q (c_5), fun _ => ⟨rfl, XP_same r hx⟩⟩

def rm_X9_commit : Room := { frames := 5, cells := 0, slots := 0, locals := 126 }
theorem iX9_commit : gIv yX9_commit cX9_commit 4 (some .int) 2 := ⟨⟨wd_416, wd_4, by decide +kernel, by decide +kernel, by decide +kernel⟩, wd_414, wd_415⟩
set_option maxRecDepth 100000 in
set_option maxHeartbeats 4000000 in
theorem c_X9_commit (l : Launch) (G : gG) {T : Nat} {V : Nat → Int32} (g : Good T V) (mem : gM) (r : Rel V mem) {Vs : Nat → Nat → Int32} {h o : Nat} (hx : HX T Vs h o mem) (x y : Int32) : gMet l yX9_commit cX9_commit 4 (some .int) rm_X9_commit G [.ref (gad G 0), .int x, .int y] mem (fun a u => ∃ rr : Int32, a = some (.int rr) ∧ AX T V Vs h mem u (memP V x ∧ vLv V (toN x) = true) (if V (38 + 12 * toN x) = 0 then nI 0 else nI 1) (if memP V x then kState else kBad) (cmV V (toN x) y) rr) := by
  refine g_of (own := RX9) (L0 := [(0, .ref (gad G 0)), (1, .int x), (2, .int y)]) (by decide +kernel) rfl (Nat.le_of_ble_eq_true rfl) rfl ?_
  intro p e s m args below meth c C Q hQ
  have hn10 := gd_n10 g
  have hz10 : vZ V ≤ 10 := by have := (gd_z g).2; omega
  refine g_aload_n C 0 dX9_commit_0 rfl ?_
  refine g_iload_n C 1 dX9_commit_1 rfl ?_
  refine g_cV1 C (As := [.int x]) (w := .int (b2i (memP V x))) (mem3 := mem) iX9_isMember (c_X9_isMember l G g mem r x) wd_353 ob_0 rfl ⟨Nat.le_of_ble_eq_true rfl, Nat.le_of_ble_eq_true rfl⟩ ⟨rfl, rfl⟩ rfl (Nat.le_of_ble_eq_true rfl) dX9_commit_2 (rfl) (rfl) ?_
  refine g_ifb_ne C 11 dX9_commit_5 (by decide) (fun c_5 => ?_) (fun c_5 => ?_)
  · obtain ⟨j, hj, rfl⟩ := memP_ex g c_5
    have ej : toN (nI j) = j := toN_nI (by omega)
    refine g_aload_n C 0 dX9_commit_11 rfl ?_
    refine g_get_r C ob_0 0 (by decide) rfl wd_279 dX9_commit_12 ?_
    refine g_get_r C ob_1 1 (by decide) rfl wd_161 dX9_commit_15 ?_
    refine g_iload_n C 1 dX9_commit_18 rfl ?_
    refine g_cV1 C (As := [.int (nI j)]) (w := .int (b2i (vLv V j = true))) (mem3 := mem) iX3_lives (c_X3_lives l G g mem r (hj)) wd_357 ob_4 rfl ⟨Nat.le_of_ble_eq_true rfl, Nat.le_of_ble_eq_true rfl⟩ ⟨rfl, rfl⟩ rfl (Nat.le_of_ble_eq_true rfl) dX9_commit_19 (rfl) (rfl) ?_
    refine g_ifb_ne C 28 dX9_commit_22 (by decide) (fun c_22 => ?_) (fun c_22 => ?_)
    · refine g_aload_n C 0 dX9_commit_28 rfl ?_
      refine g_get_r C ob_0 1 (by decide) rfl wd_280 dX9_commit_29 ?_
      refine g_aload_n C 0 dX9_commit_32 rfl ?_
      refine g_get_r C ob_0 0 (by decide) rfl wd_279 dX9_commit_33 ?_
      refine g_cVq C (As := [.ref (gad G 1)]) iX1_keep (c_X1_keep l G g mem r hx) wd_307 ob_29 rfl ⟨Nat.le_of_ble_eq_true rfl, Nat.le_of_ble_eq_true rfl⟩ ⟨rfl, rfl⟩ rfl (Nat.le_of_ble_eq_true rfl) dX9_commit_36 (fun ku0 hq => ?_)
      obtain ⟨hkf, o2, hx2⟩ := hq
      have rk : Rel V ku0 := RelS.keep r (fun k _ h2 => hkf k (Or.inl (by omega)))
      refine g_aload_n C 0 dX9_commit_39 rfl ?_
      refine g_get_r C ob_0 0 (by decide) rfl wd_279 dX9_commit_40 ?_
      refine g_get_r C ob_1 1 (by decide) rfl wd_161 dX9_commit_43 ?_
      refine g_get_r C ob_4 8 (by decide) rfl wd_75 dX9_commit_46 ?_
      refine g_iload_n C 1 dX9_commit_49 rfl ?_
      refine g_iload_n C 2 dX9_commit_50 rfl ?_
      refine g_cV0 C (As := [.int (nI j), .int y]) (mem3 := gr ku0 18 (upd (ku0 18) j y)) iX6_put (c_X6_put l G ku0 ob_17 ar_18 (by decide) (by omega) y) wd_418 ob_17 rfl ⟨Nat.le_of_ble_eq_true rfl, Nat.le_of_ble_eq_true rfl⟩ ⟨rfl, rfl⟩ rfl (Nat.le_of_ble_eq_true rfl) dX9_commit_51 (rfl) ?_
      refine g_aload_n C 0 dX9_commit_54 rfl ?_
      refine g_get_r C ob_0 0 (by decide) rfl wd_279 dX9_commit_55 ?_
      refine g_get_r C ob_1 1 (by decide) rfl wd_161 dX9_commit_58 ?_
      refine g_get_r C ob_4 7 (by decide) rfl wd_73 dX9_commit_61 ?_
      refine g_iload_n C 1 dX9_commit_64 rfl ?_
      refine g_iconst C (nI 1) dX9_commit_65 (by decide) ?_
      refine g_cV1 C (As := [.int (nI j), .int (nI 1)]) (w := .int (ku0 16 j)) (mem3 := gr (gr ku0 18 (upd (ku0 18) j y)) 16 (upd (ku0 16) j (nI 1))) iX6_swap (c_X6_swap l G (gr ku0 18 (upd (ku0 18) j y)) ob_15 ar_16 (by decide) (by omega) (nI 1)) wd_395 ob_15 rfl ⟨Nat.le_of_ble_eq_true rfl, Nat.le_of_ble_eq_true rfl⟩ ⟨rfl, rfl⟩ rfl (Nat.le_of_ble_eq_true rfl) dX9_commit_66 (rfl) (rfl) ?_
      refine g_top (y := V (38 + 12 * j)) (r_st rk hj) ?_
      refine g_istore_n C (L2 := [(3, .int (V (38 + 12 * j))), (0, .ref (gad G 0)), (1, .int (nI j)), (2, .int y)]) dX9_commit_69 (by decide) rfl ?_
      refine g_iload_n C 0 dX9_commit_70 rfl ?_
      refine g_if_ne C 78 dX9_commit_71 (by decide) (fun c_71 => ?_) (fun c_71 => ?_)
      · refine g_iconst C (nI 1) dX9_commit_78 (by decide) ?_
        refine g_iret C hQ rfl dX9_commit_79 ?_
        first
          | exact ⟨_, rfl, fun _ => ⟨by rw [ej, if_pos c_71], (by rw [ej, gr_comm _ (by decide)]; exact rs_to (rs_st rk hj hn10 hz10 _) (by rw [vN_upd (by omega)]; exact hj) (by rw [vN_upd (by omega)]; exact hn10) (by rw [vZ_upd (by omega)]; exact hz10) _), ⟨_, (hx_lo (by decide) (hx_lo (by decide) hx2))⟩, fun k hk => by rw [gr_n (by omega), gr_n (by omega), hkf k (by omega)]⟩, fun q => absurd (⟨c_5, by rw [ej]; exact c_22⟩) q⟩
          | exact ⟨_, rfl, fun _ => ⟨by rw [ej, if_neg c_71], (by rw [ej, gr_comm _ (by decide)]; exact rs_to (rs_st rk hj hn10 hz10 _) (by rw [vN_upd (by omega)]; exact hj) (by rw [vN_upd (by omega)]; exact hn10) (by rw [vZ_upd (by omega)]; exact hz10) _), ⟨_, (hx_lo (by decide) (hx_lo (by decide) hx2))⟩, fun k hk => by rw [gr_n (by omega), gr_n (by omega), hkf k (by omega)]⟩, fun q => absurd (⟨c_5, by rw [ej]; exact c_22⟩) q⟩
      · refine g_iconst C (nI 0) dX9_commit_74 (by decide) ?_
        refine g_goto C 79 dX9_commit_75 (by decide) ?_
        refine g_iret C hQ rfl dX9_commit_79 ?_
        first
          | exact ⟨_, rfl, fun _ => ⟨by rw [ej, if_pos c_71], (by rw [ej, gr_comm _ (by decide)]; exact rs_to (rs_st rk hj hn10 hz10 _) (by rw [vN_upd (by omega)]; exact hj) (by rw [vN_upd (by omega)]; exact hn10) (by rw [vZ_upd (by omega)]; exact hz10) _), ⟨_, (hx_lo (by decide) (hx_lo (by decide) hx2))⟩, fun k hk => by rw [gr_n (by omega), gr_n (by omega), hkf k (by omega)]⟩, fun q => absurd (⟨c_5, by rw [ej]; exact c_22⟩) q⟩
          | exact ⟨_, rfl, fun _ => ⟨by rw [ej, if_neg c_71], (by rw [ej, gr_comm _ (by decide)]; exact rs_to (rs_st rk hj hn10 hz10 _) (by rw [vN_upd (by omega)]; exact hj) (by rw [vN_upd (by omega)]; exact hn10) (by rw [vZ_upd (by omega)]; exact hz10) _), ⟨_, (hx_lo (by decide) (hx_lo (by decide) hx2))⟩, fun k hk => by rw [gr_n (by omega), gr_n (by omega), hkf k (by omega)]⟩, fun q => absurd (⟨c_5, by rw [ej]; exact c_22⟩) q⟩
    · refine g_ldc C wd_417 dX9_commit_25 ?_
      refine g_iret C hQ rfl dX9_commit_27 ?_
      exact ⟨_, rfl, fun q => absurd q (fun q => c_22 (ej ▸ q.2)), fun _ => ⟨(if_pos c_5).symm, XP_same r hx⟩⟩
  · refine g_ldc C wd_305 dX9_commit_8 ?_
    refine g_iret C hQ rfl dX9_commit_10 ?_
    exact ⟨_, rfl, fun q => absurd q (fun q => c_5 q.1), fun _ => ⟨(if_neg c_5).symm, XP_same r hx⟩⟩

def rm_X9_reveal : Room := { frames := 5, cells := 0, slots := 0, locals := 126 }
theorem iX9_reveal : gIv yX9_reveal cX9_reveal 4 (some .int) 2 := ⟨⟨wd_422, wd_4, by decide +kernel, by decide +kernel, by decide +kernel⟩, wd_420, wd_421⟩
set_option maxRecDepth 100000 in
set_option maxHeartbeats 4000000 in
theorem c_X9_reveal (l : Launch) (G : gG) {T : Nat} {V : Nat → Int32} (g : Good T V) (mem : gM) (r : Rel V mem) {Vs : Nat → Nat → Int32} {h o : Nat} (hx : HX T Vs h o mem) (x y : Int32) : gMet l yX9_reveal cX9_reveal 4 (some .int) rm_X9_reveal G [.ref (gad G 0), .int x, .int y] mem (fun a u => ∃ rr : Int32, a = some (.int rr) ∧ AX T V Vs h mem u ((memP V x ∧ vLv V (toN x) = true) ∧ ¬ V (38 + 12 * toN x) = 0) (if mixI y = V (39 + 12 * toN x) then nI 1 else nI 0) (if memP V x then kState else kBad) (rvV V (toN x) y) rr) := by
  refine g_of (own := RX9) (L0 := [(0, .ref (gad G 0)), (1, .int x), (2, .int y)]) (by decide +kernel) rfl (Nat.le_of_ble_eq_true rfl) rfl ?_
  intro p e s m args below meth c C Q hQ
  have hn10 := gd_n10 g
  have hz10 : vZ V ≤ 10 := by have := (gd_z g).2; omega
  refine g_aload_n C 0 dX9_reveal_0 rfl ?_
  refine g_iload_n C 1 dX9_reveal_1 rfl ?_
  refine g_cV1 C (As := [.int x]) (w := .int (b2i (memP V x))) (mem3 := mem) iX9_isMember (c_X9_isMember l G g mem r x) wd_353 ob_0 rfl ⟨Nat.le_of_ble_eq_true rfl, Nat.le_of_ble_eq_true rfl⟩ ⟨rfl, rfl⟩ rfl (Nat.le_of_ble_eq_true rfl) dX9_reveal_2 (rfl) (rfl) ?_
  refine g_ifb_ne C 11 dX9_reveal_5 (by decide) (fun c_5 => ?_) (fun c_5 => ?_)
  · obtain ⟨j, hj, rfl⟩ := memP_ex g c_5
    have ej : toN (nI j) = j := toN_nI (by omega)
    refine g_aload_n C 0 dX9_reveal_11 rfl ?_
    refine g_get_r C ob_0 0 (by decide) rfl wd_279 dX9_reveal_12 ?_
    refine g_get_r C ob_1 1 (by decide) rfl wd_161 dX9_reveal_15 ?_
    refine g_iload_n C 1 dX9_reveal_18 rfl ?_
    refine g_cV1 C (As := [.int (nI j)]) (w := .int (b2i (vLv V j = true))) (mem3 := mem) iX3_lives (c_X3_lives l G g mem r (hj)) wd_357 ob_4 rfl ⟨Nat.le_of_ble_eq_true rfl, Nat.le_of_ble_eq_true rfl⟩ ⟨rfl, rfl⟩ rfl (Nat.le_of_ble_eq_true rfl) dX9_reveal_19 (rfl) (rfl) ?_
    refine g_ifb_eq C 42 dX9_reveal_22 (by decide) (fun c_22 => ?_) (fun c_22 => ?_)
    · refine g_ldc C wd_417 dX9_reveal_42 ?_
      refine g_iret C hQ rfl dX9_reveal_44 ?_
      first
        | exact ⟨_, rfl, fun q => absurd q (fun q => c_22 (ej ▸ q.1.2)), fun _ => ⟨(if_pos c_5).symm, XP_same r hx⟩⟩
        | exact ⟨_, rfl, fun q => absurd q (fun q => q.2 (by rw [ej]; exact c_39)), fun _ => ⟨(if_pos c_5).symm, XP_same r hx⟩⟩
    · refine g_aload_n C 0 dX9_reveal_25 rfl ?_
      refine g_get_r C ob_0 0 (by decide) rfl wd_279 dX9_reveal_26 ?_
      refine g_get_r C ob_1 1 (by decide) rfl wd_161 dX9_reveal_29 ?_
      refine g_get_r C ob_4 7 (by decide) rfl wd_73 dX9_reveal_32 ?_
      refine g_iload_n C 1 dX9_reveal_35 rfl ?_
      refine g_cV1 C (As := [.int (nI j)]) (w := .int (mem 16 j)) (mem3 := mem) iX6_at (c_X6_at l G mem ob_15 ar_16 (by decide) (by omega)) wd_368 ob_15 rfl ⟨Nat.le_of_ble_eq_true rfl, Nat.le_of_ble_eq_true rfl⟩ ⟨rfl, rfl⟩ rfl (Nat.le_of_ble_eq_true rfl) dX9_reveal_36 (rfl) (rfl) ?_
      refine g_top (y := V (38 + 12 * j)) (r_st r hj) ?_
      refine g_if_ne C 45 dX9_reveal_39 (by decide) (fun c_39 => ?_) (fun c_39 => ?_)
      · refine g_aload_n C 0 dX9_reveal_45 rfl ?_
        refine g_get_r C ob_0 1 (by decide) rfl wd_280 dX9_reveal_46 ?_
        refine g_aload_n C 0 dX9_reveal_49 rfl ?_
        refine g_get_r C ob_0 0 (by decide) rfl wd_279 dX9_reveal_50 ?_
        refine g_cVq C (As := [.ref (gad G 1)]) iX1_keep (c_X1_keep l G g mem r hx) wd_307 ob_29 rfl ⟨Nat.le_of_ble_eq_true rfl, Nat.le_of_ble_eq_true rfl⟩ ⟨rfl, rfl⟩ rfl (Nat.le_of_ble_eq_true rfl) dX9_reveal_53 (fun ku0 hq => ?_)
        obtain ⟨hkf, o2, hx2⟩ := hq
        have rk : Rel V ku0 := RelS.keep r (fun k _ h2 => hkf k (Or.inl (by omega)))
        refine g_iload_n C 2 dX9_reveal_56 rfl ?_
        refine g_cS1 C (As := [.int y]) (w := .int (mixI y)) (mem3 := ku0) iX4_mixed (c_X4_mixed l G ku0 y) wd_409 rfl ⟨Nat.le_of_ble_eq_true rfl, Nat.le_of_ble_eq_true rfl⟩ ⟨rfl, rfl⟩ rfl (Nat.le_of_ble_eq_true rfl) dX9_reveal_57 (rfl) (rfl) ?_
        refine g_aload_n C 0 dX9_reveal_60 rfl ?_
        refine g_get_r C ob_0 0 (by decide) rfl wd_279 dX9_reveal_61 ?_
        refine g_get_r C ob_1 1 (by decide) rfl wd_161 dX9_reveal_64 ?_
        refine g_get_r C ob_4 8 (by decide) rfl wd_75 dX9_reveal_67 ?_
        refine g_iload_n C 1 dX9_reveal_70 rfl ?_
        refine g_cV1 C (As := [.int (nI j)]) (w := .int (ku0 18 j)) (mem3 := ku0) iX6_at (c_X6_at l G ku0 ob_17 ar_18 (by decide) (by omega)) wd_368 ob_17 rfl ⟨Nat.le_of_ble_eq_true rfl, Nat.le_of_ble_eq_true rfl⟩ ⟨rfl, rfl⟩ rfl (Nat.le_of_ble_eq_true rfl) dX9_reveal_71 (rfl) (rfl) ?_
        refine g_top (y := V (39 + 12 * j)) (r_to rk hj) ?_
        refine g_icmp_ne C 81 dX9_reveal_74 (by decide) (fun c_74 => ?_) (fun c_74 => ?_)
        · refine g_iconst C (nI 0) dX9_reveal_81 (by decide) ?_
          refine g_istore_n C (L2 := [(3, .int (nI 0)), (0, .ref (gad G 0)), (1, .int (nI j)), (2, .int y)]) dX9_reveal_82 (by decide) rfl ?_
          refine g_aload_n C 1 dX9_reveal_83 rfl ?_
          refine g_get_r C ob_0 0 (by decide) rfl wd_279 dX9_reveal_84 ?_
          refine g_get_r C ob_1 1 (by decide) rfl wd_161 dX9_reveal_87 ?_
          refine g_get_r C ob_4 9 (by decide) rfl wd_78 dX9_reveal_90 ?_
          refine g_iload_n C 2 dX9_reveal_93 rfl ?_
          refine g_iload_n C 3 dX9_reveal_94 rfl ?_
          refine g_cV0 C (As := [.int (nI j), .int y]) (mem3 := gr ku0 20 (upd (ku0 20) j y)) iX6_put (c_X6_put l G ku0 ob_19 ar_20 (by decide) (by omega) y) wd_418 ob_19 rfl ⟨Nat.le_of_ble_eq_true rfl, Nat.le_of_ble_eq_true rfl⟩ ⟨rfl, rfl⟩ rfl (Nat.le_of_ble_eq_true rfl) dX9_reveal_95 (rfl) ?_
          refine g_aload_n C 1 dX9_reveal_98 rfl ?_
          refine g_get_r C ob_0 0 (by decide) rfl wd_279 dX9_reveal_99 ?_
          refine g_get_r C ob_1 1 (by decide) rfl wd_161 dX9_reveal_102 ?_
          refine g_get_r C ob_4 7 (by decide) rfl wd_73 dX9_reveal_105 ?_
          refine g_iload_n C 2 dX9_reveal_108 rfl ?_
          refine g_iload_n C 0 dX9_reveal_109 rfl ?_
          refine g_if_eq_t C 117 (by decide) dX9_reveal_110 (by decide) ?_
          refine g_iconst C (nI 3) dX9_reveal_117 (by decide) ?_
          refine g_cV0 C (As := [.int (nI j), .int (nI 3)]) (mem3 := gr (gr ku0 20 (upd (ku0 20) j y)) 16 (upd (ku0 16) j (nI 3))) iX6_put (c_X6_put l G (gr ku0 20 (upd (ku0 20) j y)) ob_15 ar_16 (by decide) (by omega) (nI 3)) wd_418 ob_15 rfl ⟨Nat.le_of_ble_eq_true rfl, Nat.le_of_ble_eq_true rfl⟩ ⟨rfl, rfl⟩ rfl (Nat.le_of_ble_eq_true rfl) dX9_reveal_118 (rfl) ?_
          refine g_iload_n C 0 dX9_reveal_121 rfl ?_
          refine g_if_eq_t C 129 (by decide) dX9_reveal_122 (by decide) ?_
          refine g_iconst C (nI 0) dX9_reveal_129 (by decide) ?_
          refine g_iret C hQ rfl dX9_reveal_130 ?_
          first
            | exact ⟨_, rfl, fun _ => ⟨by rw [ej, if_pos c_74], (by rw [ej, rvV, if_pos c_74, gr_comm _ (by decide)]; exact rs_se (rs_st rk hj hn10 hz10 _) (by rw [vN_upd (by omega)]; exact hj) (by rw [vN_upd (by omega)]; exact hn10) (by rw [vZ_upd (by omega)]; exact hz10) _), ⟨_, (hx_lo (by decide) (hx_lo (by decide) hx2))⟩, fun k hk => by rw [gr_n (by omega), gr_n (by omega), hkf k (by omega)]⟩, fun q => absurd (⟨⟨c_5, by rw [ej]; exact c_22⟩, by rw [ej]; exact c_39⟩) q⟩
            | exact ⟨_, rfl, fun _ => ⟨by rw [ej, if_neg c_74], (by rw [ej, rvV, if_neg c_74, gr_comm _ (by decide)]; exact rs_se (rs_st rk hj hn10 hz10 _) (by rw [vN_upd (by omega)]; exact hj) (by rw [vN_upd (by omega)]; exact hn10) (by rw [vZ_upd (by omega)]; exact hz10) _), ⟨_, (hx_lo (by decide) (hx_lo (by decide) hx2))⟩, fun k hk => by rw [gr_n (by omega), gr_n (by omega), hkf k (by omega)]⟩, fun q => absurd (⟨⟨c_5, by rw [ej]; exact c_22⟩, by rw [ej]; exact c_39⟩) q⟩
        · refine g_iconst C (nI 1) dX9_reveal_77 (by decide) ?_
          refine g_goto C 82 dX9_reveal_78 (by decide) ?_
          refine g_istore_n C (L2 := [(3, .int (nI 1)), (0, .ref (gad G 0)), (1, .int (nI j)), (2, .int y)]) dX9_reveal_82 (by decide) rfl ?_
          refine g_aload_n C 1 dX9_reveal_83 rfl ?_
          refine g_get_r C ob_0 0 (by decide) rfl wd_279 dX9_reveal_84 ?_
          refine g_get_r C ob_1 1 (by decide) rfl wd_161 dX9_reveal_87 ?_
          refine g_get_r C ob_4 9 (by decide) rfl wd_78 dX9_reveal_90 ?_
          refine g_iload_n C 2 dX9_reveal_93 rfl ?_
          refine g_iload_n C 3 dX9_reveal_94 rfl ?_
          refine g_cV0 C (As := [.int (nI j), .int y]) (mem3 := gr ku0 20 (upd (ku0 20) j y)) iX6_put (c_X6_put l G ku0 ob_19 ar_20 (by decide) (by omega) y) wd_418 ob_19 rfl ⟨Nat.le_of_ble_eq_true rfl, Nat.le_of_ble_eq_true rfl⟩ ⟨rfl, rfl⟩ rfl (Nat.le_of_ble_eq_true rfl) dX9_reveal_95 (rfl) ?_
          refine g_aload_n C 1 dX9_reveal_98 rfl ?_
          refine g_get_r C ob_0 0 (by decide) rfl wd_279 dX9_reveal_99 ?_
          refine g_get_r C ob_1 1 (by decide) rfl wd_161 dX9_reveal_102 ?_
          refine g_get_r C ob_4 7 (by decide) rfl wd_73 dX9_reveal_105 ?_
          refine g_iload_n C 2 dX9_reveal_108 rfl ?_
          refine g_iload_n C 0 dX9_reveal_109 rfl ?_
          refine g_if_eq_f C 117 (by decide) dX9_reveal_110 (by decide) ?_
          refine g_iconst C (nI 2) dX9_reveal_113 (by decide) ?_
          refine g_goto C 118 dX9_reveal_114 (by decide) ?_
          refine g_cV0 C (As := [.int (nI j), .int (nI 2)]) (mem3 := gr (gr ku0 20 (upd (ku0 20) j y)) 16 (upd (ku0 16) j (nI 2))) iX6_put (c_X6_put l G (gr ku0 20 (upd (ku0 20) j y)) ob_15 ar_16 (by decide) (by omega) (nI 2)) wd_418 ob_15 rfl ⟨Nat.le_of_ble_eq_true rfl, Nat.le_of_ble_eq_true rfl⟩ ⟨rfl, rfl⟩ rfl (Nat.le_of_ble_eq_true rfl) dX9_reveal_118 (rfl) ?_
          refine g_iload_n C 0 dX9_reveal_121 rfl ?_
          refine g_if_eq_f C 129 (by decide) dX9_reveal_122 (by decide) ?_
          refine g_iconst C (nI 1) dX9_reveal_125 (by decide) ?_
          refine g_goto C 130 dX9_reveal_126 (by decide) ?_
          refine g_iret C hQ rfl dX9_reveal_130 ?_
          first
            | exact ⟨_, rfl, fun _ => ⟨by rw [ej, if_pos c_74], (by rw [ej, rvV, if_pos c_74, gr_comm _ (by decide)]; exact rs_se (rs_st rk hj hn10 hz10 _) (by rw [vN_upd (by omega)]; exact hj) (by rw [vN_upd (by omega)]; exact hn10) (by rw [vZ_upd (by omega)]; exact hz10) _), ⟨_, (hx_lo (by decide) (hx_lo (by decide) hx2))⟩, fun k hk => by rw [gr_n (by omega), gr_n (by omega), hkf k (by omega)]⟩, fun q => absurd (⟨⟨c_5, by rw [ej]; exact c_22⟩, by rw [ej]; exact c_39⟩) q⟩
            | exact ⟨_, rfl, fun _ => ⟨by rw [ej, if_neg c_74], (by rw [ej, rvV, if_neg c_74, gr_comm _ (by decide)]; exact rs_se (rs_st rk hj hn10 hz10 _) (by rw [vN_upd (by omega)]; exact hj) (by rw [vN_upd (by omega)]; exact hn10) (by rw [vZ_upd (by omega)]; exact hz10) _), ⟨_, (hx_lo (by decide) (hx_lo (by decide) hx2))⟩, fun k hk => by rw [gr_n (by omega), gr_n (by omega), hkf k (by omega)]⟩, fun q => absurd (⟨⟨c_5, by rw [ej]; exact c_22⟩, by rw [ej]; exact c_39⟩) q⟩
      · refine g_ldc C wd_417 dX9_reveal_42 ?_
        refine g_iret C hQ rfl dX9_reveal_44 ?_
        first
          | exact ⟨_, rfl, fun q => absurd q (fun q => c_22 (ej ▸ q.1.2)), fun _ => ⟨(if_pos c_5).symm, XP_same r hx⟩⟩
          | exact ⟨_, rfl, fun q => absurd q (fun q => q.2 (by rw [ej]; exact c_39)), fun _ => ⟨(if_pos c_5).symm, XP_same r hx⟩⟩
  · refine g_ldc C wd_305 dX9_reveal_8 ?_
    refine g_iret C hQ rfl dX9_reveal_10 ?_
    exact ⟨_, rfl, fun q => absurd q (fun q => c_5 q.1.1), fun _ => ⟨(if_neg c_5).symm, XP_same r hx⟩⟩

def rm_X9_lose : Room := { frames := 5, cells := 0, slots := 0, locals := 126 }
theorem iX9_lose : gIv yX9_lose cX9_lose 3 (some .int) 2 := ⟨⟨wd_482, wd_4, by decide +kernel, by decide +kernel, by decide +kernel⟩, wd_480, wd_481⟩
set_option maxRecDepth 100000 in
set_option maxHeartbeats 4000000 in
theorem c_X9_lose (l : Launch) (G : gG) {T : Nat} {V : Nat → Int32} (g : Good T V) (mem : gM) (r : Rel V mem) {Vs : Nat → Nat → Int32} {h o : Nat} (hx : HX T Vs h o mem) (x y : Int32) : gMet l yX9_lose cX9_lose 3 (some .int) rm_X9_lose G [.ref (gad G 0), .int x, .int y] mem (fun a u => ∃ rr : Int32, a = some (.int rr) ∧ AX T V Vs h mem u (memP V x ∧ blkP y) (nI (fa_cnt (bt (V (150 + toN y) ||| bit (toN x))) 10)) (kBad) (upd V (150 + toN y) (V (150 + toN y) ||| bit (toN x))) rr) := by
  refine g_of (own := RX9) (L0 := [(0, .ref (gad G 0)), (1, .int x), (2, .int y)]) (by decide +kernel) rfl (Nat.le_of_ble_eq_true rfl) rfl ?_
  intro p e s m args below meth c C Q hQ
  have hn10 := gd_n10 g
  have hz10 : vZ V ≤ 10 := by have := (gd_z g).2; omega
  refine g_aload_n C 0 dX9_lose_0 rfl ?_
  refine g_iload_n C 1 dX9_lose_1 rfl ?_
  refine g_cV1 C (As := [.int x]) (w := .int (b2i (memP V x))) (mem3 := mem) iX9_isMember (c_X9_isMember l G g mem r x) wd_353 ob_0 rfl ⟨Nat.le_of_ble_eq_true rfl, Nat.le_of_ble_eq_true rfl⟩ ⟨rfl, rfl⟩ rfl (Nat.le_of_ble_eq_true rfl) dX9_lose_2 (rfl) (rfl) ?_
  refine g_ifb_eq C 15 dX9_lose_5 (by decide) (fun c_5 => ?_) (fun c_5 => ?_)
  · refine g_ldc C wd_305 dX9_lose_15 ?_
    refine g_iret C hQ rfl dX9_lose_17 ?_
    first
      | exact ⟨_, rfl, fun q => absurd q (fun q => c_5 q.1), fun _ => ⟨rfl, XP_same r hx⟩⟩
      | exact ⟨_, rfl, fun q => absurd q (fun q => c_12 q.2), fun _ => ⟨rfl, XP_same r hx⟩⟩
  · obtain ⟨j, hj, rfl⟩ := memP_ex g c_5
    have ej : toN (nI j) = j := toN_nI (by omega)
    refine g_iload_n C 2 dX9_lose_8 rfl ?_
    refine g_cS1 C (As := [.int y]) (w := .int (b2i (blkP y))) (mem3 := mem) iX9_isBlock (c_X9_isBlock l G mem y) wd_483 rfl ⟨Nat.le_of_ble_eq_true rfl, Nat.le_of_ble_eq_true rfl⟩ ⟨rfl, rfl⟩ rfl (Nat.le_of_ble_eq_true rfl) dX9_lose_9 (rfl) (rfl) ?_
    refine g_ifb_ne C 18 dX9_lose_12 (by decide) (fun c_12 => ?_) (fun c_12 => ?_)
    · obtain ⟨b, hb, rfl⟩ := blkP_ex c_12
      have eb : toN (nI b) = b := toN_nI (by omega)
      refine g_aload_n C 0 dX9_lose_18 rfl ?_
      refine g_get_r C ob_0 1 (by decide) rfl wd_280 dX9_lose_19 ?_
      refine g_aload_n C 0 dX9_lose_22 rfl ?_
      refine g_get_r C ob_0 0 (by decide) rfl wd_279 dX9_lose_23 ?_
      refine g_cVq C (As := [.ref (gad G 1)]) iX1_keep (c_X1_keep l G g mem r hx) wd_307 ob_29 rfl ⟨Nat.le_of_ble_eq_true rfl, Nat.le_of_ble_eq_true rfl⟩ ⟨rfl, rfl⟩ rfl (Nat.le_of_ble_eq_true rfl) dX9_lose_26 (fun ku0 hq => ?_)
      obtain ⟨hkf, o2, hx2⟩ := hq
      have rk : Rel V ku0 := RelS.keep r (fun k _ h2 => hkf k (Or.inl (by omega)))
      refine g_aload_n C 0 dX9_lose_29 rfl ?_
      refine g_get_r C ob_0 0 (by decide) rfl wd_279 dX9_lose_30 ?_
      refine g_get_r C ob_1 3 (by decide) rfl wd_167 dX9_lose_33 ?_
      refine g_iload_n C 2 dX9_lose_36 rfl ?_
      refine g_aload_n C 0 dX9_lose_37 rfl ?_
      refine g_get_r C ob_0 0 (by decide) rfl wd_279 dX9_lose_38 ?_
      refine g_get_r C ob_1 3 (by decide) rfl wd_167 dX9_lose_41 ?_
      refine g_iload_n C 2 dX9_lose_44 rfl ?_
      refine g_cV1 C (As := [.int (nI b)]) (w := .int (ku0 25 b)) (mem3 := ku0) iX6_at (c_X6_at l G ku0 ob_24 ar_25 (by decide) (by omega)) wd_368 ob_24 rfl ⟨Nat.le_of_ble_eq_true rfl, Nat.le_of_ble_eq_true rfl⟩ ⟨rfl, rfl⟩ rfl (Nat.le_of_ble_eq_true rfl) dX9_lose_45 (rfl) (rfl) ?_
      refine g_top (y := V (150 + b)) (r_lo rk hb) ?_
      refine g_iconst C (nI 1) dX9_lose_48 (by decide) ?_
      refine g_iload_n C 1 dX9_lose_49 rfl ?_
      refine g_ishl C dX9_lose_50 ?_
      refine g_ior C dX9_lose_51 ?_
      refine g_cV0 C (As := [.int (nI b), .int ((V (150 + b)) ||| ((nI 1) <<< ((nI j) &&& 31)))]) (mem3 := gr ku0 25 (upd (ku0 25) b ((V (150 + b)) ||| ((nI 1) <<< ((nI j) &&& 31))))) iX6_put (c_X6_put l G ku0 ob_24 ar_25 (by decide) (by omega) ((V (150 + b)) ||| ((nI 1) <<< ((nI j) &&& 31)))) wd_418 ob_24 rfl ⟨Nat.le_of_ble_eq_true rfl, Nat.le_of_ble_eq_true rfl⟩ ⟨rfl, rfl⟩ rfl (Nat.le_of_ble_eq_true rfl) dX9_lose_52 (rfl) ?_
      refine g_aload_n C 0 dX9_lose_55 rfl ?_
      refine g_get_r C ob_0 0 (by decide) rfl wd_279 dX9_lose_56 ?_
      refine g_get_r C ob_1 3 (by decide) rfl wd_167 dX9_lose_59 ?_
      refine g_iload_n C 2 dX9_lose_62 rfl ?_
      refine g_cV1 C (As := [.int (nI b)]) (w := .int ((V (150 + b)) ||| ((nI 1) <<< ((nI j) &&& 31)))) (mem3 := gr ku0 25 (upd (ku0 25) b ((V (150 + b)) ||| ((nI 1) <<< ((nI j) &&& 31))))) iX6_at (c_X6_at l G (gr ku0 25 (upd (ku0 25) b ((V (150 + b)) ||| ((nI 1) <<< ((nI j) &&& 31))))) ob_24 ar_25 (by decide) (by omega)) wd_368 ob_24 rfl ⟨Nat.le_of_ble_eq_true rfl, Nat.le_of_ble_eq_true rfl⟩ ⟨rfl, rfl⟩ rfl (Nat.le_of_ble_eq_true rfl) dX9_lose_63 (congrArg Value.int (upd_s _ _ _)) (rfl) ?_
      refine g_cS1 C (As := [.int ((V (150 + b)) ||| ((nI 1) <<< ((nI j) &&& 31)))]) (w := .int (bcI ((V (150 + b)) ||| ((nI 1) <<< ((nI j) &&& 31))))) (mem3 := gr ku0 25 (upd (ku0 25) b ((V (150 + b)) ||| ((nI 1) <<< ((nI j) &&& 31))))) iJ6_bitCount_0f7a4 (c_bc l G (gr ku0 25 (upd (ku0 25) b ((V (150 + b)) ||| ((nI 1) <<< ((nI j) &&& 31))))) ((V (150 + b)) ||| ((nI 1) <<< ((nI j) &&& 31)))) wd_436 rfl ⟨Nat.le_of_ble_eq_true rfl, Nat.le_of_ble_eq_true rfl⟩ ⟨rfl, rfl⟩ rfl (Nat.le_of_ble_eq_true rfl) dX9_lose_66 (rfl) (rfl) ?_
      refine g_iret C hQ rfl dX9_lose_69 ?_
      exact ⟨_, rfl, fun _ => ⟨by rw [ej, eb]; exact bc_bt g (fun i h1 h2 => by rw [b_or, gd_lo g hb h1 h2, show nI 1 <<< (nI j &&& 31) = bit j from rfl, bt_bit (by omega) h2, decide_eq_false (by omega)]; rfl), (by rw [ej, eb]; exact rs_lo rk hb hn10 hz10 _), ⟨_, (hx_lo (by decide) hx2)⟩, fun k hk => by rw [gr_n (by omega), hkf k (by omega)]⟩, fun q => absurd (⟨c_5, c_12⟩) q⟩
    · refine g_ldc C wd_305 dX9_lose_15 ?_
      refine g_iret C hQ rfl dX9_lose_17 ?_
      first
        | exact ⟨_, rfl, fun q => absurd q (fun q => c_5 q.1), fun _ => ⟨rfl, XP_same r hx⟩⟩
        | exact ⟨_, rfl, fun q => absurd q (fun q => c_12 q.2), fun _ => ⟨rfl, XP_same r hx⟩⟩
