/-! what each constructor makes: shapes and ints, from its own place on -/
def mZ : gM := fun _ _ => 0
def set5 : Nat → Int32 := upd (upd (upd (upd (upd (fun _ => 0) 0 (nI 100)) 1 (nI 50)) 2 (nI 2)) 3 (nI 5)) 4 (nI 3)
def mX7 : gM := fun k => if k = 2 then set5 else fun _ => 0
def mX1 : gM := fun k => if k < 2 then fun _ => 0 else mX7 ((k - 2) % 28)
def mX9 : gM := fun k => if k < 1 then fun _ => 0 else if k < 29 then mX7 (k - 1) else if k < 143 then mX1 (k - 29) else fun _ => 0
def shRow (n : Nat) : List gSh := [.inr (.inl (5, [some 1])), .inl n]
def rmRow (n : Nat) : Room := { frames := 1, cells := 1, slots := n, locals := 12 }

def shX0 : List gSh := [.inr (.inl (0, [none, none, none, some 1])), .inr (.inl (5, [some 2])), .inl 10]

def shX1 : List gSh := [.inr (.inl (1, [none, none, some 1])), .inr (.inr [2, 30, 58, 86]), .inr (.inl (6, [some 3, some 5, some 22, some 25, some 27])), .inr (.inl (5, [some 4])), .inl 5, .inr (.inl (3, [none, none, some 6, some 8, some 10, some 12, some 14, some 16, some 18, some 20])), .inr (.inl (5, [some 7])), .inl 10, .inr (.inl (5, [some 9])), .inl 10, .inr (.inl (5, [some 11])), .inl 10, .inr (.inl (5, [some 13])), .inl 10, .inr (.inl (5, [some 15])), .inl 10, .inr (.inl (5, [some 17])), .inl 10, .inr (.inl (5, [some 19])), .inl 10, .inr (.inl (5, [some 21])), .inl 10, .inr (.inl (0, [none, none, none, some 23])), .inr (.inl (5, [some 24])), .inl 10, .inr (.inl (5, [some 26])), .inl 200, .inr (.inl (2, [none, none, none, some 28])), .inr (.inl (5, [some 29])), .inl 140, .inr (.inl (6, [some 31, some 33, some 50, some 53, some 55])), .inr (.inl (5, [some 32])), .inl 5, .inr (.inl (3, [none, none, some 34, some 36, some 38, some 40, some 42, some 44, some 46, some 48])), .inr (.inl (5, [some 35])), .inl 10, .inr (.inl (5, [some 37])), .inl 10, .inr (.inl (5, [some 39])), .inl 10, .inr (.inl (5, [some 41])), .inl 10, .inr (.inl (5, [some 43])), .inl 10, .inr (.inl (5, [some 45])), .inl 10, .inr (.inl (5, [some 47])), .inl 10, .inr (.inl (5, [some 49])), .inl 10, .inr (.inl (0, [none, none, none, some 51])), .inr (.inl (5, [some 52])), .inl 10, .inr (.inl (5, [some 54])), .inl 200, .inr (.inl (2, [none, none, none, some 56])), .inr (.inl (5, [some 57])), .inl 140, .inr (.inl (6, [some 59, some 61, some 78, some 81, some 83])), .inr (.inl (5, [some 60])), .inl 5, .inr (.inl (3, [none, none, some 62, some 64, some 66, some 68, some 70, some 72, some 74, some 76])), .inr (.inl (5, [some 63])), .inl 10, .inr (.inl (5, [some 65])), .inl 10, .inr (.inl (5, [some 67])), .inl 10, .inr (.inl (5, [some 69])), .inl 10, .inr (.inl (5, [some 71])), .inl 10, .inr (.inl (5, [some 73])), .inl 10, .inr (.inl (5, [some 75])), .inl 10, .inr (.inl (5, [some 77])), .inl 10, .inr (.inl (0, [none, none, none, some 79])), .inr (.inl (5, [some 80])), .inl 10, .inr (.inl (5, [some 82])), .inl 200, .inr (.inl (2, [none, none, none, some 84])), .inr (.inl (5, [some 85])), .inl 140, .inr (.inl (6, [some 87, some 89, some 106, some 109, some 111])), .inr (.inl (5, [some 88])), .inl 5, .inr (.inl (3, [none, none, some 90, some 92, some 94, some 96, some 98, some 100, some 102, some 104])), .inr (.inl (5, [some 91])), .inl 10, .inr (.inl (5, [some 93])), .inl 10, .inr (.inl (5, [some 95])), .inl 10, .inr (.inl (5, [some 97])), .inl 10, .inr (.inl (5, [some 99])), .inl 10, .inr (.inl (5, [some 101])), .inl 10, .inr (.inl (5, [some 103])), .inl 10, .inr (.inl (5, [some 105])), .inl 10, .inr (.inl (0, [none, none, none, some 107])), .inr (.inl (5, [some 108])), .inl 10, .inr (.inl (5, [some 110])), .inl 200, .inr (.inl (2, [none, none, none, some 112])), .inr (.inl (5, [some 113])), .inl 140]

def shX2 : List gSh := [.inr (.inl (2, [none, none, none, some 1])), .inr (.inl (5, [some 2])), .inl 140]

def shX3 : List gSh := [.inr (.inl (3, [none, none, some 1, some 3, some 5, some 7, some 9, some 11, some 13, some 15])), .inr (.inl (5, [some 2])), .inl 10, .inr (.inl (5, [some 4])), .inl 10, .inr (.inl (5, [some 6])), .inl 10, .inr (.inl (5, [some 8])), .inl 10, .inr (.inl (5, [some 10])), .inl 10, .inr (.inl (5, [some 12])), .inl 10, .inr (.inl (5, [some 14])), .inl 10, .inr (.inl (5, [some 16])), .inl 10]

def shX5 : List gSh := [.inr (.inl (4, [none, none, none, none, none, none, none, none, none, none, some 1, some 3])), .inr (.inl (5, [some 2])), .inl 10, .inr (.inl (5, [some 4])), .inl 10]

def shX7 : List gSh := [.inr (.inl (6, [some 1, some 3, some 20, some 23, some 25])), .inr (.inl (5, [some 2])), .inl 5, .inr (.inl (3, [none, none, some 4, some 6, some 8, some 10, some 12, some 14, some 16, some 18])), .inr (.inl (5, [some 5])), .inl 10, .inr (.inl (5, [some 7])), .inl 10, .inr (.inl (5, [some 9])), .inl 10, .inr (.inl (5, [some 11])), .inl 10, .inr (.inl (5, [some 13])), .inl 10, .inr (.inl (5, [some 15])), .inl 10, .inr (.inl (5, [some 17])), .inl 10, .inr (.inl (5, [some 19])), .inl 10, .inr (.inl (0, [none, none, none, some 21])), .inr (.inl (5, [some 22])), .inl 10, .inr (.inl (5, [some 24])), .inl 200, .inr (.inl (2, [none, none, none, some 26])), .inr (.inl (5, [some 27])), .inl 140]

def shX8 : List gSh := [.inr (.inl (7, [none, some 1])), .inr (.inl (5, [some 2])), .inl 60]

def shX9 : List gSh := [.inr (.inl (8, [some 1, some 29, some 143, some 146, some 151])), .inr (.inl (6, [some 2, some 4, some 21, some 24, some 26])), .inr (.inl (5, [some 3])), .inl 5, .inr (.inl (3, [none, none, some 5, some 7, some 9, some 11, some 13, some 15, some 17, some 19])), .inr (.inl (5, [some 6])), .inl 10, .inr (.inl (5, [some 8])), .inl 10, .inr (.inl (5, [some 10])), .inl 10, .inr (.inl (5, [some 12])), .inl 10, .inr (.inl (5, [some 14])), .inl 10, .inr (.inl (5, [some 16])), .inl 10, .inr (.inl (5, [some 18])), .inl 10, .inr (.inl (5, [some 20])), .inl 10, .inr (.inl (0, [none, none, none, some 22])), .inr (.inl (5, [some 23])), .inl 10, .inr (.inl (5, [some 25])), .inl 200, .inr (.inl (2, [none, none, none, some 27])), .inr (.inl (5, [some 28])), .inl 140, .inr (.inl (1, [none, none, some 30])), .inr (.inr [31, 59, 87, 115]), .inr (.inl (6, [some 32, some 34, some 51, some 54, some 56])), .inr (.inl (5, [some 33])), .inl 5, .inr (.inl (3, [none, none, some 35, some 37, some 39, some 41, some 43, some 45, some 47, some 49])), .inr (.inl (5, [some 36])), .inl 10, .inr (.inl (5, [some 38])), .inl 10, .inr (.inl (5, [some 40])), .inl 10, .inr (.inl (5, [some 42])), .inl 10, .inr (.inl (5, [some 44])), .inl 10, .inr (.inl (5, [some 46])), .inl 10, .inr (.inl (5, [some 48])), .inl 10, .inr (.inl (5, [some 50])), .inl 10, .inr (.inl (0, [none, none, none, some 52])), .inr (.inl (5, [some 53])), .inl 10, .inr (.inl (5, [some 55])), .inl 200, .inr (.inl (2, [none, none, none, some 57])), .inr (.inl (5, [some 58])), .inl 140, .inr (.inl (6, [some 60, some 62, some 79, some 82, some 84])), .inr (.inl (5, [some 61])), .inl 5, .inr (.inl (3, [none, none, some 63, some 65, some 67, some 69, some 71, some 73, some 75, some 77])), .inr (.inl (5, [some 64])), .inl 10, .inr (.inl (5, [some 66])), .inl 10, .inr (.inl (5, [some 68])), .inl 10, .inr (.inl (5, [some 70])), .inl 10, .inr (.inl (5, [some 72])), .inl 10, .inr (.inl (5, [some 74])), .inl 10, .inr (.inl (5, [some 76])), .inl 10, .inr (.inl (5, [some 78])), .inl 10, .inr (.inl (0, [none, none, none, some 80])), .inr (.inl (5, [some 81])), .inl 10, .inr (.inl (5, [some 83])), .inl 200, .inr (.inl (2, [none, none, none, some 85])), .inr (.inl (5, [some 86])), .inl 140, .inr (.inl (6, [some 88, some 90, some 107, some 110, some 112])), .inr (.inl (5, [some 89])), .inl 5, .inr (.inl (3, [none, none, some 91, some 93, some 95, some 97, some 99, some 101, some 103, some 105])), .inr (.inl (5, [some 92])), .inl 10, .inr (.inl (5, [some 94])), .inl 10, .inr (.inl (5, [some 96])), .inl 10, .inr (.inl (5, [some 98])), .inl 10, .inr (.inl (5, [some 100])), .inl 10, .inr (.inl (5, [some 102])), .inl 10, .inr (.inl (5, [some 104])), .inl 10, .inr (.inl (5, [some 106])), .inl 10, .inr (.inl (0, [none, none, none, some 108])), .inr (.inl (5, [some 109])), .inl 10, .inr (.inl (5, [some 111])), .inl 200, .inr (.inl (2, [none, none, none, some 113])), .inr (.inl (5, [some 114])), .inl 140, .inr (.inl (6, [some 116, some 118, some 135, some 138, some 140])), .inr (.inl (5, [some 117])), .inl 5, .inr (.inl (3, [none, none, some 119, some 121, some 123, some 125, some 127, some 129, some 131, some 133])), .inr (.inl (5, [some 120])), .inl 10, .inr (.inl (5, [some 122])), .inl 10, .inr (.inl (5, [some 124])), .inl 10, .inr (.inl (5, [some 126])), .inl 10, .inr (.inl (5, [some 128])), .inl 10, .inr (.inl (5, [some 130])), .inl 10, .inr (.inl (5, [some 132])), .inl 10, .inr (.inl (5, [some 134])), .inl 10, .inr (.inl (0, [none, none, none, some 136])), .inr (.inl (5, [some 137])), .inl 10, .inr (.inl (5, [some 139])), .inl 200, .inr (.inl (2, [none, none, none, some 141])), .inr (.inl (5, [some 142])), .inl 140, .inr (.inl (7, [none, some 144])), .inr (.inl (5, [some 145])), .inl 60, .inr (.inl (4, [none, none, none, none, none, none, none, none, none, none, some 147, some 149])), .inr (.inl (5, [some 148])), .inl 10, .inr (.inl (5, [some 150])), .inl 10, .inr (.inl (0, [none, none, none, some 152])), .inr (.inl (5, [some 153])), .inl 10]

theorem nf_X0 : ∀ j, j < 4 → defaultValue (tyX0 j) = vp_V [.int 0, .int 0, .int 0, .null] j := fun j hj => by
  match j, hj with
  | 0, _ => rfl
  | 1, _ => rfl
  | 2, _ => rfl
  | 3, _ => rfl
  | j + 4, hj => exact absurd hj (by omega)

theorem nf_X1 : ∀ j, j < 3 → defaultValue (tyX1 j) = vp_V [.int 0, .int 0, .null] j := fun j hj => by
  match j, hj with
  | 0, _ => rfl
  | 1, _ => rfl
  | 2, _ => rfl
  | j + 3, hj => exact absurd hj (by omega)

theorem nf_X2 : ∀ j, j < 4 → defaultValue (tyX2 j) = vp_V [.int 0, .int 0, .int 0, .null] j := fun j hj => by
  match j, hj with
  | 0, _ => rfl
  | 1, _ => rfl
  | 2, _ => rfl
  | 3, _ => rfl
  | j + 4, hj => exact absurd hj (by omega)

theorem nf_X3 : ∀ j, j < 10 → defaultValue (tyX3 j) = vp_V [.int 0, .int 0, .null, .null, .null, .null, .null, .null, .null, .null] j := fun j hj => by
  match j, hj with
  | 0, _ => rfl
  | 1, _ => rfl
  | 2, _ => rfl
  | 3, _ => rfl
  | 4, _ => rfl
  | 5, _ => rfl
  | 6, _ => rfl
  | 7, _ => rfl
  | 8, _ => rfl
  | 9, _ => rfl
  | j + 10, hj => exact absurd hj (by omega)

theorem nf_X5 : ∀ j, j < 12 → defaultValue (tyX5 j) = vp_V [.int 0, .int 0, .int 0, .int 0, .int 0, .int 0, .int 0, .int 0, .int 0, .int 0, .null, .null] j := fun j hj => by
  match j, hj with
  | 0, _ => rfl
  | 1, _ => rfl
  | 2, _ => rfl
  | 3, _ => rfl
  | 4, _ => rfl
  | 5, _ => rfl
  | 6, _ => rfl
  | 7, _ => rfl
  | 8, _ => rfl
  | 9, _ => rfl
  | 10, _ => rfl
  | 11, _ => rfl
  | j + 12, hj => exact absurd hj (by omega)

theorem nf_X6 : ∀ j, j < 1 → defaultValue (tyX6 j) = vp_V [.null] j := fun j hj => by
  match j, hj with
  | 0, _ => rfl
  | j + 1, hj => exact absurd hj (by omega)

theorem nf_X7 : ∀ j, j < 5 → defaultValue (tyX7 j) = vp_V [.null, .null, .null, .null, .null] j := fun j hj => by
  match j, hj with
  | 0, _ => rfl
  | 1, _ => rfl
  | 2, _ => rfl
  | 3, _ => rfl
  | 4, _ => rfl
  | j + 5, hj => exact absurd hj (by omega)

theorem nf_X8 : ∀ j, j < 2 → defaultValue (tyX8 j) = vp_V [.int 0, .null] j := fun j hj => by
  match j, hj with
  | 0, _ => rfl
  | 1, _ => rfl
  | j + 2, hj => exact absurd hj (by omega)

theorem nf_X9 : ∀ j, j < 5 → defaultValue (tyX9 j) = vp_V [.null, .null, .null, .null, .null] j := fun j hj => by
  match j, hj with
  | 0, _ => rfl
  | 1, _ => rfl
  | 2, _ => rfl
  | 3, _ => rfl
  | 4, _ => rfl
  | j + 5, hj => exact absurd hj (by omega)

theorem iX6_init : gIn yX6_init cX6_init 2 1 := ⟨wd_35, wd_6, ⟨by decide +kernel, by decide +kernel, by decide +kernel⟩, wd_34, rfl⟩
set_option maxRecDepth 100000 in
set_option maxHeartbeats 4000000 in
theorem c_X6_init (l : Launch) (D : va_G) (cI : ClassId) {n : Nat} (h0n : 0 < n) (hn : n < 2 ^ 27) : nMet l yX6_init cX6_init 2 (rmRow n) D cI [.int (nI n)] 5 [.null] mZ (shRow n) False 1 n := by
  refine n_of (own := RX6) (by decide +kernel) rfl rfl (fun _ => Nat.le_of_ble_eq_true rfl) ?_
  intro p e s m args below meth c A h0 C hin2 Q hQ
  refine n_aload_n C 0 dX6_init_0 rfl ?_
  refine n_obj C wd_36 wd_23 wd_24 (Nat.le_of_ble_eq_true rfl) (Nat.le_of_ble_eq_true rfl) dX6_init_1 ?_
  refine n_aload_n C 0 dX6_init_4 rfl ?_
  refine n_iload_n C 1 dX6_init_5 rfl ?_
  refine n_le_f C 13 (fun q => by have z := (nI_leI (a := n) (b := 0) (by omega) (by decide)).mp q; omega) dX6_init_6 (by decide) ?_
  refine n_iload_n C 1 dX6_init_9 rfl ?_
  refine n_goto C 14 dX6_init_10 (by decide) ?_
  refine n_newi C (N := n) (mc2 := 1) (ms2 := n) wd_41 (by omega) rfl (Nat.zero_add _) ⟨Nat.le_refl _, Nat.le_refl _⟩ dX6_init_14 (fun q0 => ?_)
  refine n_putF C hin2 (ci := 5) (N := 1) (T := TX6) (fs2 := [.ref q0]) (w2 := ([(h0, .inr (5, [.ref q0]))] ++ [(q0, .inl (cI, (n, .inl (fun _ => 0))))])) 0 rfl rfl wi_X6 tyX6 tyX6_ok nmX6 0 (by decide) wd_37 rfl rfl (tv := (.array .int)) (by decide +kernel) rfl rfl (Nat.le_of_ble_eq_true rfl) rfl rfl dX6_init_16 ?_
  exact n_vret C hQ (fun k => if k < 1 then h0 else q0) 0 rfl rfl (fun z => z.elim) dX6_init_19

def rm_X0_init : Room := { frames := 2, cells := 2, slots := 11, locals := 33 }
theorem iX0_init : gIn yX0_init cX0_init 1 0 := ⟨wd_104, wd_8, ⟨by decide +kernel, by decide +kernel, by decide +kernel⟩, wd_103, rfl⟩
set_option maxRecDepth 100000 in
set_option maxHeartbeats 4000000 in
theorem c_X0_init (l : Launch) (D : va_G) (cI : ClassId) : nMet l yX0_init cX0_init 1 rm_X0_init D cI [] 0 [.int 0, .int 0, .int 0, .null] mZ shX0 False 2 11 := by
  refine n_of (own := RX0) (by decide +kernel) rfl rfl (fun _ => Nat.le_of_ble_eq_true rfl) ?_
  intro p e s m args below meth c A h0 C hin2 Q hQ
  refine n_aload_n C 0 dX0_init_0 rfl ?_
  refine n_obj C wd_105 wd_23 wd_24 (Nat.le_of_ble_eq_true rfl) (Nat.le_of_ble_eq_true rfl) dX0_init_1 ?_
  refine n_aload_n C 0 dX0_init_4 rfl ?_
  refine n_new C (ci := 5) (N := 1) (T := TX6) (mc2 := 1) (ms2 := 1) rfl wi_X6 tyX6 tyX6_ok wd_106 wd_32 wd_6 (fs := [.null]) nf_X6 rfl rfl ⟨Nat.le_of_ble_eq_true rfl, Nat.le_of_ble_eq_true rfl⟩ dX0_init_5 (fun q0 => ?_)
  refine n_dup C dX0_init_8 rfl ?_
  refine n_bipush C (nI 10) dX0_init_9 (by decide) ?_
  refine n_call C (As := [.int (nI 10)]) (mc2 := 2) (ms2 := 11) iX6_init (c_X6_init l D cI (n := 10) (by decide) (by decide)) wd_107 rfl ⟨Nat.le_of_ble_eq_true rfl, Nat.le_of_ble_eq_true rfl⟩ ⟨rfl, rfl⟩ rfl (Nat.le_of_ble_eq_true rfl) rfl rfl ⟨Nat.le_of_ble_eq_true rfl, Nat.le_of_ble_eq_true rfl⟩ dX0_init_11 (fun ad1 cS1 ead1 hSad1 => ?_)
  subst ead1
  refine n_putF C hin2 (ci := 0) (N := 4) (T := TX0) (fs2 := [.int 0, .int 0, .int 0, .ref (ad1 0)]) (w2 := ([(h0, .inr (0, [.int 0, .int 0, .int 0, .ref (ad1 0)]))] ++ gL cI cS1 ad1 mZ 0 (shRow 10))) 0 rfl rfl wi_X0 tyX0 tyX0_ok nmX0 3 (by decide) wd_118 rfl rfl (tv := (.object "RepairDuty$Row")) (by decide +kernel) rfl rfl (Nat.le_of_ble_eq_true rfl) rfl rfl dX0_init_14 ?_
  exact n_vret C hQ (fun k => if k < 1 then h0 else ad1 (k - 1)) 0 rfl rfl (fun z => z.elim) dX0_init_17

def rm_X2_init : Room := { frames := 2, cells := 2, slots := 141, locals := 33 }
theorem iX2_init : gIn yX2_init cX2_init 1 0 := ⟨wd_132, wd_9, ⟨by decide +kernel, by decide +kernel, by decide +kernel⟩, wd_131, rfl⟩
set_option maxRecDepth 100000 in
set_option maxHeartbeats 4000000 in
theorem c_X2_init (l : Launch) (D : va_G) (cI : ClassId) : nMet l yX2_init cX2_init 1 rm_X2_init D cI [] 2 [.int 0, .int 0, .int 0, .null] mZ shX2 False 2 141 := by
  refine n_of (own := RX2) (by decide +kernel) rfl rfl (fun _ => Nat.le_of_ble_eq_true rfl) ?_
  intro p e s m args below meth c A h0 C hin2 Q hQ
  refine n_aload_n C 0 dX2_init_0 rfl ?_
  refine n_obj C wd_133 wd_23 wd_24 (Nat.le_of_ble_eq_true rfl) (Nat.le_of_ble_eq_true rfl) dX2_init_1 ?_
  refine n_aload_n C 0 dX2_init_4 rfl ?_
  refine n_new C (ci := 5) (N := 1) (T := TX6) (mc2 := 1) (ms2 := 1) rfl wi_X6 tyX6 tyX6_ok wd_134 wd_32 wd_6 (fs := [.null]) nf_X6 rfl rfl ⟨Nat.le_of_ble_eq_true rfl, Nat.le_of_ble_eq_true rfl⟩ dX2_init_5 (fun q0 => ?_)
  refine n_dup C dX2_init_8 rfl ?_
  refine n_sipush C (nI 140) dX2_init_9 (by decide) ?_
  refine n_call C (As := [.int (nI 140)]) (mc2 := 2) (ms2 := 141) iX6_init (c_X6_init l D cI (n := 140) (by decide) (by decide)) wd_135 rfl ⟨Nat.le_of_ble_eq_true rfl, Nat.le_of_ble_eq_true rfl⟩ ⟨rfl, rfl⟩ rfl (Nat.le_of_ble_eq_true rfl) rfl rfl ⟨Nat.le_of_ble_eq_true rfl, Nat.le_of_ble_eq_true rfl⟩ dX2_init_12 (fun ad1 cS1 ead1 hSad1 => ?_)
  subst ead1
  refine n_putF C hin2 (ci := 2) (N := 4) (T := TX2) (fs2 := [.int 0, .int 0, .int 0, .ref (ad1 0)]) (w2 := ([(h0, .inr (2, [.int 0, .int 0, .int 0, .ref (ad1 0)]))] ++ gL cI cS1 ad1 mZ 0 (shRow 140))) 0 rfl rfl wi_X2 tyX2 tyX2_ok nmX2 3 (by decide) wd_142 rfl rfl (tv := (.object "RepairDuty$Row")) (by decide +kernel) rfl rfl (Nat.le_of_ble_eq_true rfl) rfl rfl dX2_init_15 ?_
  exact n_vret C hQ (fun k => if k < 1 then h0 else ad1 (k - 1)) 0 rfl rfl (fun z => z.elim) dX2_init_18

def rm_X3_init : Room := { frames := 2, cells := 16, slots := 88, locals := 33 }
theorem iX3_init : gIn yX3_init cX3_init 1 0 := ⟨wd_46, wd_7, ⟨by decide +kernel, by decide +kernel, by decide +kernel⟩, wd_45, rfl⟩
set_option maxRecDepth 100000 in
set_option maxHeartbeats 4000000 in
theorem c_X3_init (l : Launch) (D : va_G) (cI : ClassId) : nMet l yX3_init cX3_init 1 rm_X3_init D cI [] 3 [.int 0, .int 0, .null, .null, .null, .null, .null, .null, .null, .null] mZ shX3 False 16 88 := by
  refine n_of (own := RX3) (by decide +kernel) rfl rfl (fun _ => Nat.le_of_ble_eq_true rfl) ?_
  intro p e s m args below meth c A h0 C hin2 Q hQ
  refine n_aload_n C 0 dX3_init_0 rfl ?_
  refine n_obj C wd_47 wd_23 wd_24 (Nat.le_of_ble_eq_true rfl) (Nat.le_of_ble_eq_true rfl) dX3_init_1 ?_
  refine n_aload_n C 0 dX3_init_4 rfl ?_
  refine n_new C (ci := 5) (N := 1) (T := TX6) (mc2 := 1) (ms2 := 1) rfl wi_X6 tyX6 tyX6_ok wd_48 wd_32 wd_6 (fs := [.null]) nf_X6 rfl rfl ⟨Nat.le_of_ble_eq_true rfl, Nat.le_of_ble_eq_true rfl⟩ dX3_init_5 (fun q0 => ?_)
  refine n_dup C dX3_init_8 rfl ?_
  refine n_bipush C (nI 10) dX3_init_9 (by decide) ?_
  refine n_call C (As := [.int (nI 10)]) (mc2 := 2) (ms2 := 11) iX6_init (c_X6_init l D cI (n := 10) (by decide) (by decide)) wd_49 rfl ⟨Nat.le_of_ble_eq_true rfl, Nat.le_of_ble_eq_true rfl⟩ ⟨rfl, rfl⟩ rfl (Nat.le_of_ble_eq_true rfl) rfl rfl ⟨Nat.le_of_ble_eq_true rfl, Nat.le_of_ble_eq_true rfl⟩ dX3_init_11 (fun ad1 cS1 ead1 hSad1 => ?_)
  subst ead1
  refine n_putF C hin2 (ci := 3) (N := 10) (T := TX3) (fs2 := [.int 0, .int 0, .ref (ad1 0), .null, .null, .null, .null, .null, .null, .null]) (w2 := ([(h0, .inr (3, [.int 0, .int 0, .ref (ad1 0), .null, .null, .null, .null, .null, .null, .null]))] ++ gL cI cS1 ad1 mZ 0 (shRow 10))) 0 rfl rfl wi_X3 tyX3 tyX3_ok nmX3 2 (by decide) wd_58 rfl rfl (tv := (.object "RepairDuty$Row")) (by decide +kernel) rfl rfl (Nat.le_of_ble_eq_true rfl) rfl rfl dX3_init_14 ?_
  refine n_aload_n C 0 dX3_init_17 rfl ?_
  refine n_new C (ci := 5) (N := 1) (T := TX6) (mc2 := 3) (ms2 := 12) rfl wi_X6 tyX6 tyX6_ok wd_48 wd_32 wd_6 (fs := [.null]) nf_X6 rfl rfl ⟨Nat.le_of_ble_eq_true rfl, Nat.le_of_ble_eq_true rfl⟩ dX3_init_18 (fun q2 => ?_)
  refine n_dup C dX3_init_21 rfl ?_
  refine n_bipush C (nI 10) dX3_init_22 (by decide) ?_
  refine n_call C (As := [.int (nI 10)]) (mc2 := 4) (ms2 := 22) iX6_init (c_X6_init l D cI (n := 10) (by decide) (by decide)) wd_49 rfl ⟨Nat.le_of_ble_eq_true rfl, Nat.le_of_ble_eq_true rfl⟩ ⟨rfl, rfl⟩ rfl (Nat.le_of_ble_eq_true rfl) rfl rfl ⟨Nat.le_of_ble_eq_true rfl, Nat.le_of_ble_eq_true rfl⟩ dX3_init_24 (fun ad3 cS3 ead3 hSad3 => ?_)
  subst ead3
  refine n_putF C hin2 (ci := 3) (N := 10) (T := TX3) (fs2 := [.int 0, .int 0, .ref (ad1 0), .ref (ad3 0), .null, .null, .null, .null, .null, .null]) (w2 := (([(h0, .inr (3, [.int 0, .int 0, .ref (ad1 0), .ref (ad3 0), .null, .null, .null, .null, .null, .null]))] ++ gL cI cS1 ad1 mZ 0 (shRow 10)) ++ gL cI cS3 ad3 mZ 0 (shRow 10))) 0 rfl rfl wi_X3 tyX3 tyX3_ok nmX3 3 (by decide) wd_61 rfl rfl (tv := (.object "RepairDuty$Row")) (by decide +kernel) rfl rfl (Nat.le_of_ble_eq_true rfl) rfl rfl dX3_init_27 ?_
  refine n_aload_n C 0 dX3_init_30 rfl ?_
  refine n_new C (ci := 5) (N := 1) (T := TX6) (mc2 := 5) (ms2 := 23) rfl wi_X6 tyX6 tyX6_ok wd_48 wd_32 wd_6 (fs := [.null]) nf_X6 rfl rfl ⟨Nat.le_of_ble_eq_true rfl, Nat.le_of_ble_eq_true rfl⟩ dX3_init_31 (fun q4 => ?_)
  refine n_dup C dX3_init_34 rfl ?_
  refine n_bipush C (nI 10) dX3_init_35 (by decide) ?_
  refine n_call C (As := [.int (nI 10)]) (mc2 := 6) (ms2 := 33) iX6_init (c_X6_init l D cI (n := 10) (by decide) (by decide)) wd_49 rfl ⟨Nat.le_of_ble_eq_true rfl, Nat.le_of_ble_eq_true rfl⟩ ⟨rfl, rfl⟩ rfl (Nat.le_of_ble_eq_true rfl) rfl rfl ⟨Nat.le_of_ble_eq_true rfl, Nat.le_of_ble_eq_true rfl⟩ dX3_init_37 (fun ad5 cS5 ead5 hSad5 => ?_)
  subst ead5
  refine n_putF C hin2 (ci := 3) (N := 10) (T := TX3) (fs2 := [.int 0, .int 0, .ref (ad1 0), .ref (ad3 0), .ref (ad5 0), .null, .null, .null, .null, .null]) (w2 := ((([(h0, .inr (3, [.int 0, .int 0, .ref (ad1 0), .ref (ad3 0), .ref (ad5 0), .null, .null, .null, .null, .null]))] ++ gL cI cS1 ad1 mZ 0 (shRow 10)) ++ gL cI cS3 ad3 mZ 0 (shRow 10)) ++ gL cI cS5 ad5 mZ 0 (shRow 10))) 0 rfl rfl wi_X3 tyX3 tyX3_ok nmX3 4 (by decide) wd_63 rfl rfl (tv := (.object "RepairDuty$Row")) (by decide +kernel) rfl rfl (Nat.le_of_ble_eq_true rfl) rfl rfl dX3_init_40 ?_
  refine n_aload_n C 0 dX3_init_43 rfl ?_
  refine n_new C (ci := 5) (N := 1) (T := TX6) (mc2 := 7) (ms2 := 34) rfl wi_X6 tyX6 tyX6_ok wd_48 wd_32 wd_6 (fs := [.null]) nf_X6 rfl rfl ⟨Nat.le_of_ble_eq_true rfl, Nat.le_of_ble_eq_true rfl⟩ dX3_init_44 (fun q6 => ?_)
  refine n_dup C dX3_init_47 rfl ?_
  refine n_bipush C (nI 10) dX3_init_48 (by decide) ?_
  refine n_call C (As := [.int (nI 10)]) (mc2 := 8) (ms2 := 44) iX6_init (c_X6_init l D cI (n := 10) (by decide) (by decide)) wd_49 rfl ⟨Nat.le_of_ble_eq_true rfl, Nat.le_of_ble_eq_true rfl⟩ ⟨rfl, rfl⟩ rfl (Nat.le_of_ble_eq_true rfl) rfl rfl ⟨Nat.le_of_ble_eq_true rfl, Nat.le_of_ble_eq_true rfl⟩ dX3_init_50 (fun ad7 cS7 ead7 hSad7 => ?_)
  subst ead7
  refine n_putF C hin2 (ci := 3) (N := 10) (T := TX3) (fs2 := [.int 0, .int 0, .ref (ad1 0), .ref (ad3 0), .ref (ad5 0), .ref (ad7 0), .null, .null, .null, .null]) (w2 := (((([(h0, .inr (3, [.int 0, .int 0, .ref (ad1 0), .ref (ad3 0), .ref (ad5 0), .ref (ad7 0), .null, .null, .null, .null]))] ++ gL cI cS1 ad1 mZ 0 (shRow 10)) ++ gL cI cS3 ad3 mZ 0 (shRow 10)) ++ gL cI cS5 ad5 mZ 0 (shRow 10)) ++ gL cI cS7 ad7 mZ 0 (shRow 10))) 0 rfl rfl wi_X3 tyX3 tyX3_ok nmX3 5 (by decide) wd_66 rfl rfl (tv := (.object "RepairDuty$Row")) (by decide +kernel) rfl rfl (Nat.le_of_ble_eq_true rfl) rfl rfl dX3_init_53 ?_
  refine n_aload_n C 0 dX3_init_56 rfl ?_
  refine n_new C (ci := 5) (N := 1) (T := TX6) (mc2 := 9) (ms2 := 45) rfl wi_X6 tyX6 tyX6_ok wd_48 wd_32 wd_6 (fs := [.null]) nf_X6 rfl rfl ⟨Nat.le_of_ble_eq_true rfl, Nat.le_of_ble_eq_true rfl⟩ dX3_init_57 (fun q8 => ?_)
  refine n_dup C dX3_init_60 rfl ?_
  refine n_bipush C (nI 10) dX3_init_61 (by decide) ?_
  refine n_call C (As := [.int (nI 10)]) (mc2 := 10) (ms2 := 55) iX6_init (c_X6_init l D cI (n := 10) (by decide) (by decide)) wd_49 rfl ⟨Nat.le_of_ble_eq_true rfl, Nat.le_of_ble_eq_true rfl⟩ ⟨rfl, rfl⟩ rfl (Nat.le_of_ble_eq_true rfl) rfl rfl ⟨Nat.le_of_ble_eq_true rfl, Nat.le_of_ble_eq_true rfl⟩ dX3_init_63 (fun ad9 cS9 ead9 hSad9 => ?_)
  subst ead9
  refine n_putF C hin2 (ci := 3) (N := 10) (T := TX3) (fs2 := [.int 0, .int 0, .ref (ad1 0), .ref (ad3 0), .ref (ad5 0), .ref (ad7 0), .ref (ad9 0), .null, .null, .null]) (w2 := ((((([(h0, .inr (3, [.int 0, .int 0, .ref (ad1 0), .ref (ad3 0), .ref (ad5 0), .ref (ad7 0), .ref (ad9 0), .null, .null, .null]))] ++ gL cI cS1 ad1 mZ 0 (shRow 10)) ++ gL cI cS3 ad3 mZ 0 (shRow 10)) ++ gL cI cS5 ad5 mZ 0 (shRow 10)) ++ gL cI cS7 ad7 mZ 0 (shRow 10)) ++ gL cI cS9 ad9 mZ 0 (shRow 10))) 0 rfl rfl wi_X3 tyX3 tyX3_ok nmX3 6 (by decide) wd_69 rfl rfl (tv := (.object "RepairDuty$Row")) (by decide +kernel) rfl rfl (Nat.le_of_ble_eq_true rfl) rfl rfl dX3_init_66 ?_
  refine n_aload_n C 0 dX3_init_69 rfl ?_
  refine n_new C (ci := 5) (N := 1) (T := TX6) (mc2 := 11) (ms2 := 56) rfl wi_X6 tyX6 tyX6_ok wd_48 wd_32 wd_6 (fs := [.null]) nf_X6 rfl rfl ⟨Nat.le_of_ble_eq_true rfl, Nat.le_of_ble_eq_true rfl⟩ dX3_init_70 (fun q10 => ?_)
  refine n_dup C dX3_init_73 rfl ?_
  refine n_bipush C (nI 10) dX3_init_74 (by decide) ?_
  refine n_call C (As := [.int (nI 10)]) (mc2 := 12) (ms2 := 66) iX6_init (c_X6_init l D cI (n := 10) (by decide) (by decide)) wd_49 rfl ⟨Nat.le_of_ble_eq_true rfl, Nat.le_of_ble_eq_true rfl⟩ ⟨rfl, rfl⟩ rfl (Nat.le_of_ble_eq_true rfl) rfl rfl ⟨Nat.le_of_ble_eq_true rfl, Nat.le_of_ble_eq_true rfl⟩ dX3_init_76 (fun ad11 cS11 ead11 hSad11 => ?_)
  subst ead11
  refine n_putF C hin2 (ci := 3) (N := 10) (T := TX3) (fs2 := [.int 0, .int 0, .ref (ad1 0), .ref (ad3 0), .ref (ad5 0), .ref (ad7 0), .ref (ad9 0), .ref (ad11 0), .null, .null]) (w2 := (((((([(h0, .inr (3, [.int 0, .int 0, .ref (ad1 0), .ref (ad3 0), .ref (ad5 0), .ref (ad7 0), .ref (ad9 0), .ref (ad11 0), .null, .null]))] ++ gL cI cS1 ad1 mZ 0 (shRow 10)) ++ gL cI cS3 ad3 mZ 0 (shRow 10)) ++ gL cI cS5 ad5 mZ 0 (shRow 10)) ++ gL cI cS7 ad7 mZ 0 (shRow 10)) ++ gL cI cS9 ad9 mZ 0 (shRow 10)) ++ gL cI cS11 ad11 mZ 0 (shRow 10))) 0 rfl rfl wi_X3 tyX3 tyX3_ok nmX3 7 (by decide) wd_72 rfl rfl (tv := (.object "RepairDuty$Row")) (by decide +kernel) rfl rfl (Nat.le_of_ble_eq_true rfl) rfl rfl dX3_init_79 ?_
  refine n_aload_n C 0 dX3_init_82 rfl ?_
  refine n_new C (ci := 5) (N := 1) (T := TX6) (mc2 := 13) (ms2 := 67) rfl wi_X6 tyX6 tyX6_ok wd_48 wd_32 wd_6 (fs := [.null]) nf_X6 rfl rfl ⟨Nat.le_of_ble_eq_true rfl, Nat.le_of_ble_eq_true rfl⟩ dX3_init_83 (fun q12 => ?_)
  refine n_dup C dX3_init_86 rfl ?_
  refine n_bipush C (nI 10) dX3_init_87 (by decide) ?_
  refine n_call C (As := [.int (nI 10)]) (mc2 := 14) (ms2 := 77) iX6_init (c_X6_init l D cI (n := 10) (by decide) (by decide)) wd_49 rfl ⟨Nat.le_of_ble_eq_true rfl, Nat.le_of_ble_eq_true rfl⟩ ⟨rfl, rfl⟩ rfl (Nat.le_of_ble_eq_true rfl) rfl rfl ⟨Nat.le_of_ble_eq_true rfl, Nat.le_of_ble_eq_true rfl⟩ dX3_init_89 (fun ad13 cS13 ead13 hSad13 => ?_)
  subst ead13
  refine n_putF C hin2 (ci := 3) (N := 10) (T := TX3) (fs2 := [.int 0, .int 0, .ref (ad1 0), .ref (ad3 0), .ref (ad5 0), .ref (ad7 0), .ref (ad9 0), .ref (ad11 0), .ref (ad13 0), .null]) (w2 := ((((((([(h0, .inr (3, [.int 0, .int 0, .ref (ad1 0), .ref (ad3 0), .ref (ad5 0), .ref (ad7 0), .ref (ad9 0), .ref (ad11 0), .ref (ad13 0), .null]))] ++ gL cI cS1 ad1 mZ 0 (shRow 10)) ++ gL cI cS3 ad3 mZ 0 (shRow 10)) ++ gL cI cS5 ad5 mZ 0 (shRow 10)) ++ gL cI cS7 ad7 mZ 0 (shRow 10)) ++ gL cI cS9 ad9 mZ 0 (shRow 10)) ++ gL cI cS11 ad11 mZ 0 (shRow 10)) ++ gL cI cS13 ad13 mZ 0 (shRow 10))) 0 rfl rfl wi_X3 tyX3 tyX3_ok nmX3 8 (by decide) wd_74 rfl rfl (tv := (.object "RepairDuty$Row")) (by decide +kernel) rfl rfl (Nat.le_of_ble_eq_true rfl) rfl rfl dX3_init_92 ?_
  refine n_aload_n C 0 dX3_init_95 rfl ?_
  refine n_new C (ci := 5) (N := 1) (T := TX6) (mc2 := 15) (ms2 := 78) rfl wi_X6 tyX6 tyX6_ok wd_48 wd_32 wd_6 (fs := [.null]) nf_X6 rfl rfl ⟨Nat.le_of_ble_eq_true rfl, Nat.le_of_ble_eq_true rfl⟩ dX3_init_96 (fun q14 => ?_)
  refine n_dup C dX3_init_99 rfl ?_
  refine n_bipush C (nI 10) dX3_init_100 (by decide) ?_
  refine n_call C (As := [.int (nI 10)]) (mc2 := 16) (ms2 := 88) iX6_init (c_X6_init l D cI (n := 10) (by decide) (by decide)) wd_49 rfl ⟨Nat.le_of_ble_eq_true rfl, Nat.le_of_ble_eq_true rfl⟩ ⟨rfl, rfl⟩ rfl (Nat.le_of_ble_eq_true rfl) rfl rfl ⟨Nat.le_of_ble_eq_true rfl, Nat.le_of_ble_eq_true rfl⟩ dX3_init_102 (fun ad15 cS15 ead15 hSad15 => ?_)
  subst ead15
  refine n_putF C hin2 (ci := 3) (N := 10) (T := TX3) (fs2 := [.int 0, .int 0, .ref (ad1 0), .ref (ad3 0), .ref (ad5 0), .ref (ad7 0), .ref (ad9 0), .ref (ad11 0), .ref (ad13 0), .ref (ad15 0)]) (w2 := (((((((([(h0, .inr (3, [.int 0, .int 0, .ref (ad1 0), .ref (ad3 0), .ref (ad5 0), .ref (ad7 0), .ref (ad9 0), .ref (ad11 0), .ref (ad13 0), .ref (ad15 0)]))] ++ gL cI cS1 ad1 mZ 0 (shRow 10)) ++ gL cI cS3 ad3 mZ 0 (shRow 10)) ++ gL cI cS5 ad5 mZ 0 (shRow 10)) ++ gL cI cS7 ad7 mZ 0 (shRow 10)) ++ gL cI cS9 ad9 mZ 0 (shRow 10)) ++ gL cI cS11 ad11 mZ 0 (shRow 10)) ++ gL cI cS13 ad13 mZ 0 (shRow 10)) ++ gL cI cS15 ad15 mZ 0 (shRow 10))) 0 rfl rfl wi_X3 tyX3 tyX3_ok nmX3 9 (by decide) wd_76 rfl rfl (tv := (.object "RepairDuty$Row")) (by decide +kernel) rfl rfl (Nat.le_of_ble_eq_true rfl) rfl rfl dX3_init_105 ?_
  exact n_vret C hQ (fun k => if k < 1 then h0 else if k < 3 then ad1 (k - 1) else if k < 5 then ad3 (k - 3) else if k < 7 then ad5 (k - 5) else if k < 9 then ad7 (k - 7) else if k < 11 then ad9 (k - 9) else if k < 13 then ad11 (k - 11) else if k < 15 then ad13 (k - 13) else ad15 (k - 15)) 0 rfl rfl (fun z => z.elim) dX3_init_108

def rm_X5_init : Room := { frames := 2, cells := 4, slots := 22, locals := 33 }
theorem iX5_init : gIn yX5_init cX5_init 1 0 := ⟨wd_221, wd_12, ⟨by decide +kernel, by decide +kernel, by decide +kernel⟩, wd_220, rfl⟩
set_option maxRecDepth 100000 in
set_option maxHeartbeats 4000000 in
theorem c_X5_init (l : Launch) (D : va_G) (cI : ClassId) : nMet l yX5_init cX5_init 1 rm_X5_init D cI [] 4 [.int 0, .int 0, .int 0, .int 0, .int 0, .int 0, .int 0, .int 0, .int 0, .int 0, .null, .null] mZ shX5 False 4 22 := by
  refine n_of (own := RX5) (by decide +kernel) rfl rfl (fun _ => Nat.le_of_ble_eq_true rfl) ?_
  intro p e s m args below meth c A h0 C hin2 Q hQ
  refine n_aload_n C 0 dX5_init_0 rfl ?_
  refine n_obj C wd_222 wd_23 wd_24 (Nat.le_of_ble_eq_true rfl) (Nat.le_of_ble_eq_true rfl) dX5_init_1 ?_
  refine n_aload_n C 0 dX5_init_4 rfl ?_
  refine n_new C (ci := 5) (N := 1) (T := TX6) (mc2 := 1) (ms2 := 1) rfl wi_X6 tyX6 tyX6_ok wd_223 wd_32 wd_6 (fs := [.null]) nf_X6 rfl rfl ⟨Nat.le_of_ble_eq_true rfl, Nat.le_of_ble_eq_true rfl⟩ dX5_init_5 (fun q0 => ?_)
  refine n_dup C dX5_init_8 rfl ?_
  refine n_bipush C (nI 10) dX5_init_9 (by decide) ?_
  refine n_call C (As := [.int (nI 10)]) (mc2 := 2) (ms2 := 11) iX6_init (c_X6_init l D cI (n := 10) (by decide) (by decide)) wd_224 rfl ⟨Nat.le_of_ble_eq_true rfl, Nat.le_of_ble_eq_true rfl⟩ ⟨rfl, rfl⟩ rfl (Nat.le_of_ble_eq_true rfl) rfl rfl ⟨Nat.le_of_ble_eq_true rfl, Nat.le_of_ble_eq_true rfl⟩ dX5_init_11 (fun ad1 cS1 ead1 hSad1 => ?_)
  subst ead1
  refine n_putF C hin2 (ci := 4) (N := 12) (T := TX5) (fs2 := [.int 0, .int 0, .int 0, .int 0, .int 0, .int 0, .int 0, .int 0, .int 0, .int 0, .ref (ad1 0), .null]) (w2 := ([(h0, .inr (4, [.int 0, .int 0, .int 0, .int 0, .int 0, .int 0, .int 0, .int 0, .int 0, .int 0, .ref (ad1 0), .null]))] ++ gL cI cS1 ad1 mZ 0 (shRow 10))) 0 rfl rfl wi_X5 tyX5 tyX5_ok nmX5 10 (by decide) wd_248 rfl rfl (tv := (.object "RepairDuty$Row")) (by decide +kernel) rfl rfl (Nat.le_of_ble_eq_true rfl) rfl rfl dX5_init_14 ?_
  refine n_aload_n C 0 dX5_init_17 rfl ?_
  refine n_new C (ci := 5) (N := 1) (T := TX6) (mc2 := 3) (ms2 := 12) rfl wi_X6 tyX6 tyX6_ok wd_223 wd_32 wd_6 (fs := [.null]) nf_X6 rfl rfl ⟨Nat.le_of_ble_eq_true rfl, Nat.le_of_ble_eq_true rfl⟩ dX5_init_18 (fun q2 => ?_)
  refine n_dup C dX5_init_21 rfl ?_
  refine n_bipush C (nI 10) dX5_init_22 (by decide) ?_
  refine n_call C (As := [.int (nI 10)]) (mc2 := 4) (ms2 := 22) iX6_init (c_X6_init l D cI (n := 10) (by decide) (by decide)) wd_224 rfl ⟨Nat.le_of_ble_eq_true rfl, Nat.le_of_ble_eq_true rfl⟩ ⟨rfl, rfl⟩ rfl (Nat.le_of_ble_eq_true rfl) rfl rfl ⟨Nat.le_of_ble_eq_true rfl, Nat.le_of_ble_eq_true rfl⟩ dX5_init_24 (fun ad3 cS3 ead3 hSad3 => ?_)
  subst ead3
  refine n_putF C hin2 (ci := 4) (N := 12) (T := TX5) (fs2 := [.int 0, .int 0, .int 0, .int 0, .int 0, .int 0, .int 0, .int 0, .int 0, .int 0, .ref (ad1 0), .ref (ad3 0)]) (w2 := (([(h0, .inr (4, [.int 0, .int 0, .int 0, .int 0, .int 0, .int 0, .int 0, .int 0, .int 0, .int 0, .ref (ad1 0), .ref (ad3 0)]))] ++ gL cI cS1 ad1 mZ 0 (shRow 10)) ++ gL cI cS3 ad3 mZ 0 (shRow 10))) 0 rfl rfl wi_X5 tyX5 tyX5_ok nmX5 11 (by decide) wd_250 rfl rfl (tv := (.object "RepairDuty$Row")) (by decide +kernel) rfl rfl (Nat.le_of_ble_eq_true rfl) rfl rfl dX5_init_27 ?_
  exact n_vret C hQ (fun k => if k < 1 then h0 else if k < 3 then ad1 (k - 1) else ad3 (k - 3)) 0 rfl rfl (fun z => z.elim) dX5_init_30

def rm_X8_init : Room := { frames := 2, cells := 2, slots := 61, locals := 33 }
theorem iX8_init : gIn yX8_init cX8_init 1 0 := ⟨wd_205, wd_11, ⟨by decide +kernel, by decide +kernel, by decide +kernel⟩, wd_204, rfl⟩
set_option maxRecDepth 100000 in
set_option maxHeartbeats 4000000 in
theorem c_X8_init (l : Launch) (D : va_G) (cI : ClassId) : nMet l yX8_init cX8_init 1 rm_X8_init D cI [] 7 [.int 0, .null] mZ shX8 False 2 61 := by
  refine n_of (own := RX8) (by decide +kernel) rfl rfl (fun _ => Nat.le_of_ble_eq_true rfl) ?_
  intro p e s m args below meth c A h0 C hin2 Q hQ
  refine n_aload_n C 0 dX8_init_0 rfl ?_
  refine n_obj C wd_206 wd_23 wd_24 (Nat.le_of_ble_eq_true rfl) (Nat.le_of_ble_eq_true rfl) dX8_init_1 ?_
  refine n_aload_n C 0 dX8_init_4 rfl ?_
  refine n_new C (ci := 5) (N := 1) (T := TX6) (mc2 := 1) (ms2 := 1) rfl wi_X6 tyX6 tyX6_ok wd_207 wd_32 wd_6 (fs := [.null]) nf_X6 rfl rfl ⟨Nat.le_of_ble_eq_true rfl, Nat.le_of_ble_eq_true rfl⟩ dX8_init_5 (fun q0 => ?_)
  refine n_dup C dX8_init_8 rfl ?_
  refine n_bipush C (nI 60) dX8_init_9 (by decide) ?_
  refine n_call C (As := [.int (nI 60)]) (mc2 := 2) (ms2 := 61) iX6_init (c_X6_init l D cI (n := 60) (by decide) (by decide)) wd_208 rfl ⟨Nat.le_of_ble_eq_true rfl, Nat.le_of_ble_eq_true rfl⟩ ⟨rfl, rfl⟩ rfl (Nat.le_of_ble_eq_true rfl) rfl rfl ⟨Nat.le_of_ble_eq_true rfl, Nat.le_of_ble_eq_true rfl⟩ dX8_init_11 (fun ad1 cS1 ead1 hSad1 => ?_)
  subst ead1
  refine n_putF C hin2 (ci := 7) (N := 2) (T := TX8) (fs2 := [.int 0, .ref (ad1 0)]) (w2 := ([(h0, .inr (7, [.int 0, .ref (ad1 0)]))] ++ gL cI cS1 ad1 mZ 0 (shRow 60))) 0 rfl rfl wi_X8 tyX8 tyX8_ok nmX8 1 (by decide) wd_211 rfl rfl (tv := (.object "RepairDuty$Row")) (by decide +kernel) rfl rfl (Nat.le_of_ble_eq_true rfl) rfl rfl dX8_init_14 ?_
  exact n_vret C hQ (fun k => if k < 1 then h0 else ad1 (k - 1)) 0 rfl rfl (fun z => z.elim) dX8_init_17
