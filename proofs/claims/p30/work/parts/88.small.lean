/-! the law's small methods -/
theorem cnt_add {p : Nat → Bool} {n : Nat} : nI (fa_cnt p n) + (if p n = true then nI 1 else nI 0) = nI (fa_cnt p (n + 1)) := by
  cases q : p n
  · rw [if_neg (by decide), fa_cnt_no q, nI_add, Nat.add_zero]
  · rw [if_pos rfl, fa_cnt_yes q, nI_add]
theorem sh_bt (x : Int32) {m : Nat} (hm : m < 32) : (x >>> (nI m &&& 31)) &&& nI 1 = if bt x m = true then nI 1 else nI 0 := sh1_eq hm

abbrev gT1 (t N : Nat) (f : Nat → Int32) (A : Nat → Prop) (U : State) (H : Heap) : Prop := va_T .int t N (fun j => .int (f j)) A U H
section CELL
variable {p : Program} {l : Launch} {e : Env} {R : Room} {s : State} {m : MethodId} {args : Array Value} {below : List Frame} {meth : Method} {c : Code} {mc ms : Nat} {Q : State → Prop} {G : gG} {own : String} {cc : ByteArray} {ret : Option FieldType} {nL : Nat} {mem : gM} {pc : Nat} {L : List (Nat × Value)} {st : List Value}
theorem g_tlenT (C : gC G own cc ret nL p R s m args meth c mc ms) {t N : Nat} {f : Nat → Int32} (hz : gT1 t N f (gA G) s s.heap) (hd : decode cc pc = .ok (.arraylength, 1)) (h : gV p l e R s m args below meth c mc ms Q G nL mem (pc + 1) L (.int (nI N) :: st)) : gV p l e R s m args below meth c mc ms Q G nL mem pc L (.ref t :: st) :=
  fun H locs ls hP hS hl => va_tlen C.1 C.2.1 hz hS rfl hd (h H locs ls hP hS hl)
theorem g_tldT (C : gC G own cc ret nL p R s m args meth c mc ms) {t N j : Nat} {f : Nat → Int32} (hz : gT1 t N f (gA G) s s.heap) (hj : j < N) (hn : N < 2 ^ 31) (hd : decode cc pc = .ok (.iaload, 1)) (h : gV p l e R s m args below meth c mc ms Q G nL mem (pc + 1) L (.int (f j) :: st)) : gV p l e R s m args below meth c mc ms Q G nL mem pc L (.int (nI j) :: .ref t :: st) :=
  fun H locs ls hP hS hl => va_ti C.1 C.2.1 hz hS (vp_in_nI hj hn) rfl hd (by rw [nI_clamp (Nat.lt_trans hj hn)]; exact h H locs ls hP hS hl)
theorem g_cSf (C : gC G own cc ret nL p R s m args meth c mc ms) {y : MethodName} {b2 : ByteArray} {maxL2 n idx : Nat} {ret2 : Option FieldType} {rm2 : Room} {As rest : List Value} {v : Value} {P : gM → Prop} (I : gIs y b2 maxL2 ret2 n) (hM : gMet l y b2 maxL2 ret2 rm2 G As mem (fun a u => a = some v ∧ P u)) (hw : Cond.methodLink own idx y ∈ wG) (hn : As.length = n) (hR : rm2.frames + 1 ≤ R.frames ∧ 8 + (maxL2 + 11) + rm2.locals ≤ R.locals) (hz : rm2.cells = 0 ∧ rm2.slots = 0) (hst : st = As.reverse ++ rest) (hcat : (rest.map fun v => v.category).sum ≤ 8) (hd : decode cc pc = .ok (.invokestatic idx, 3)) (h : ∀ (u : gM), P u → gV p l e R s m args below meth c mc ms Q G nL u (pc + 3) L (v :: rest)) : gV p l e R s m args below meth c mc ms Q G nL mem pc L st :=
  g_callS C I hM hw hn hR hz hst hcat hd fun a u q => by obtain ⟨rfl, hP⟩ := q; exact h u hP
end CELL

def rm_L_many : Room := { frames := 0, cells := 0, slots := 0, locals := 0 }
theorem iL_many : gIs yL_many cL_many 3 (some .int) 1 := ⟨⟨wd_664, wd_3, by decide +kernel, by decide +kernel, by decide +kernel⟩, wd_663⟩
set_option maxRecDepth 100000 in
set_option maxHeartbeats 4000000 in
theorem c_L_many (l : Launch) (G : gG) (mem : gM) (x : Int32) : gMet l yL_many cL_many 3 (some .int) rm_L_many G [.int x] mem (fun a u => a = some (.int (nI (fa_cnt (bt x) 10))) ∧ u = mem) := by
  refine g_of (own := RL) (L0 := [(0, .int x)]) (by decide +kernel) rfl (Nat.le_of_ble_eq_true rfl) rfl ?_
  intro p e s m args below meth c C Q hQ
  refine g_iconst C (nI 0) dL_many_0 (by decide) ?_
  refine g_istore_n C (L2 := [(1, .int (nI 0)), (0, .int x)]) dL_many_1 (by decide) rfl ?_
  refine g_iconst C (nI 0) dL_many_2 (by decide) ?_
  refine g_istore_n C (L2 := [(2, .int (nI 0)), (1, .int (nI 0)), (0, .int x)]) dL_many_3 (by decide) rfl ?_
  have lp_4 : ∀ (fu : Nat) (i : Nat), (i ≤ 10) → 10 - i < fu → gV p l e rm_L_many s m args below meth c 0 0 Q G 3 mem 4 [(0, .int x), (1, .int (nI (fa_cnt (bt x) i))), (2, .int (nI i))] [] := by
    intro fu
    induction fu with
    | zero => intro i _ hfu; exact absurd hfu (Nat.not_lt_zero _)
    | succ fu ih_4 =>
      intro i hi hfu_4
      refine g_iload_n C 2 dL_many_4 rfl ?_
      refine g_bipush C (nI 10) dL_many_5 (by decide) ?_
      refine g_icmp_ge C 24 dL_many_7 (by decide) (fun c_7 => ?_) (fun c_7 => ?_)
      · have hin : i = 10 := by have q := (nI_leI (a := 10) (b := i) (by omega) (by omega)).mp c_7; omega
        refine g_iload_n C 1 dL_many_24 rfl ?_
        refine g_iret C hQ rfl dL_many_25 ?_
        exact ⟨by rw [hin], rfl⟩
      · have hi2 : i < 10 := by have q := mt (nI_leI (a := 10) (b := i) (by omega) (by omega)).mpr c_7; omega
        refine g_iload_n C 1 dL_many_10 rfl ?_
        refine g_iload_n C 0 dL_many_11 rfl ?_
        refine g_iload_n C 2 dL_many_12 rfl ?_
        refine g_ishr C dL_many_13 ?_
        refine g_iconst C (nI 1) dL_many_14 (by decide) ?_
        refine g_iand C dL_many_15 ?_
        refine g_top (y := if bt x i = true then nI 1 else nI 0) (sh_bt x (by omega)) ?_
        refine g_iadd C dL_many_16 ?_
        refine g_top (y := nI (fa_cnt (bt x) (i + 1))) (cnt_add) ?_
        refine g_istore_n C (L2 := [(1, .int (nI (fa_cnt (bt x) (i + 1)))), (0, .int x), (2, .int (nI i))]) dL_many_17 (by decide) rfl ?_
        refine g_iinc C (v := nI (i + 1)) (L2 := [(2, .int (nI (i + 1))), (1, .int (nI (fa_cnt (bt x) (i + 1)))), (0, .int x)]) 2 dL_many_18 rfl (nI_1 _) (by decide) rfl ?_
        refine g_goto C 4 dL_many_21 (by decide) ?_
        refine g_loc (L2 := [(0, .int x), (1, .int (nI (fa_cnt (bt x) (i + 1)))), (2, .int (nI (i + 1)))]) [2, 1, 0] rfl ?_
        exact g_eq (ih_4 (i + 1) (hi2) (by omega)) (rfl) (rfl) rfl
  refine g_loc (L2 := [(0, .int x), (1, .int (nI 0)), (2, .int (nI 0))]) [2, 1, 0] rfl ?_
  exact g_eq (lp_4 (_ + 1) 0 (Nat.zero_le _) (Nat.lt_succ_self _)) (rfl) (gLc rfl (gLc (congrArg Value.int (rfl)) (rfl))) rfl

/-- up's answer -/
def upN (x : Int32) (k : Nat) : Nat := toN (x &&& (2147483647 : Int32)) % k
theorem up_lt (x : Int32) {k : Nat} (h : 0 < k) : upN x k < k := Nat.mod_lt _ h
theorem up_pos (x : Int32) : x &&& (2147483647 : Int32) = nI (toN (x &&& (2147483647 : Int32))) := nI_toN (by
  have hb : (x &&& (2147483647 : Int32)).toBitVec.msb = false := by
    rw [Int32.toBitVec_and, BitVec.msb_and]
    rw [show (2147483647 : Int32).toBitVec.msb = false by decide]
    exact Bool.and_false _
  rw [← Int32.toInt_toBitVec, BitVec.toInt_eq_msb_cond, hb]
  simp)
theorem toN_lt (x : Int32) : toN x < 2 ^ 31 := by
  have := Int32.toInt_lt x
  show x.toInt.toNat < _
  omega
theorem up_eq (x : Int32) {k : Nat} (h0 : 0 < k) (h : k < 2 ^ 31) : (x &&& (2147483647 : Int32)) - (x &&& (2147483647 : Int32)) / nI k * nI k = nI (upN x k) := by
  rw [up_pos x]
  have e : toN (nI (toN (x &&& (2147483647 : Int32)))) = toN (x &&& (2147483647 : Int32)) := by rw [← up_pos x]
  exact (pk_rem (toN_lt _) h0 h).trans rfl

def rm_L_up : Room := { frames := 0, cells := 0, slots := 0, locals := 0 }
theorem iL_up : gIs yL_up cL_up 2 (some .int) 2 := ⟨⟨wd_616, wd_3, by decide +kernel, by decide +kernel, by decide +kernel⟩, wd_615⟩
set_option maxRecDepth 100000 in
set_option maxHeartbeats 4000000 in
theorem c_L_up (l : Launch) (G : gG) (mem : gM) (x : Int32) {k : Nat} (h0 : 0 < k) (hk : k < 2 ^ 31) : gMet l yL_up cL_up 2 (some .int) rm_L_up G [.int x, .int (nI k)] mem (fun a u => a = some (.int (nI (upN x k))) ∧ u = mem) := by
  refine g_of (own := RL) (L0 := [(0, .int x), (1, .int (nI k))]) (by decide +kernel) rfl (Nat.le_of_ble_eq_true rfl) rfl ?_
  intro p e s m args below meth c C Q hQ
  refine g_iload_n C 0 dL_up_0 rfl ?_
  refine g_ldc C wd_617 dL_up_1 ?_
  refine g_iand C dL_up_3 ?_
  refine g_iload_n C 1 dL_up_4 rfl ?_
  refine g_irem C (fun q => absurd ((nI_iff (b := 0) hk (by decide)).mp q) (by omega)) dL_up_5 ?_
  refine g_iret C hQ rfl dL_up_6 ?_
  exact ⟨by rw [up_eq x h0 hk], rfl⟩

def rm_L_cell : Room := { frames := 0, cells := 0, slots := 0, locals := 0 }
theorem iL_cell : gIs yL_cell cL_cell 2 (some .int) 2 := ⟨⟨wd_612, wd_3, by decide +kernel, by decide +kernel, by decide +kernel⟩, wd_611⟩
/-- a contract over a script that lies outside of the world -/
def gMetS (l : Launch) (y : MethodName) (bc : ByteArray) (maxL : Nat) (ret : Option FieldType) (rm : Room) (G : gG) (b N : Nat) (xs : Nat → Int32) (As : List Value) (m : gM) (post : Option Value → gM → Prop) : Prop :=
  Met l y (Cond.code y bc maxL ret :: wG) rm (va_Pc As (fun U => gB G m U ∧ va_T .int b N (fun j => .int (xs j)) (gA G) U U.heap)) (gQ G post) 0 0 (gA G)
set_option maxRecDepth 100000 in
set_option maxHeartbeats 4000000 in
theorem c_L_cell (l : Launch) (G : gG) (mem : gM) {b N k : Nat} {xs : Nat → Int32} (hN : N ≤ 260) (hk0 : k < 100) : gMetS l yL_cell cL_cell 2 (some .int) rm_L_cell G b N xs [.ref b, .int (nI k)] mem (fun a u => ∃ r : Int32, a = some (.int r) ∧ u = mem) := by
  refine Met.ofW (cc := cL_cell) (maxL := 2) (ret := (some .int)) (by decide +kernel) rfl ?_
  intro p e s m args below meth c s₁ B hml hv
  obtain ⟨rfl, ⟨hP, hK, hD, hZ⟩, hX⟩ := hv
  have hts := atoms_spec (ws := Cond.code yL_cell cL_cell 2 (some .int) :: wG) B.pre
  have hown : s.vm.findClass RL = some m.cls := findClass_of_methodNamed B.named
  have hl := lv_entry [.ref b, .int (nI k)] (n := 2) (Nat.le_of_ble_eq_true rfl)
  rw [lg_entry_eq]
  have C : gC G RL cL_cell (some .int) 2 p rm_L_cell s m _ meth c 0 0 := ⟨B.exec, B.bytes, B.returns, hml, hown, fun w hw => hts w (List.mem_cons_of_mem _ hw), B.notSynchronized, hK, gD_any hD, hZ, Nat.zero_le _, Nat.zero_le _⟩
  have Z : gT1 b N xs (gA G) s s.heap := hX
  refine (?_ : gV p l e rm_L_cell s m _ below meth c 0 0 (MQ below (gQ G fun a u => ∃ r : Int32, a = some (.int r) ∧ u = mem) _ s 0 0 (gA G)) G 2 mem 0 [(0, .ref b), (1, .int (nI k))] []) _ _ _ hP va_S.rf hl
  generalize hQ : MQ below (gQ G fun a u => ∃ r : Int32, a = some (.int r) ∧ u = mem) _ s 0 0 (gA G) = Q
  have hQ := hQ.symm
  refine g_iload_n C 1 dL_cell_0 rfl ?_
  refine g_aload_n C 0 dL_cell_1 rfl ?_
  refine g_tlenT C Z dL_cell_2 ?_
  refine g_icmp_ge C 12 dL_cell_3 (by decide) (fun c_3 => ?_) (fun c_3 => ?_)
  · refine g_ldc C wd_613 dL_cell_12 ?_
    refine g_iload_n C 1 dL_cell_14 rfl ?_
    refine g_iconst C (nI 3) dL_cell_15 (by decide) ?_
    refine g_iadd_n C (d := k + 3) dL_cell_16 rfl ?_
    refine g_imul C dL_cell_17 ?_
    refine g_iret C hQ rfl dL_cell_18 ?_
    exact ⟨_, rfl, rfl⟩
  · have hk : k < N := by have q := mt (nI_leI (a := N) (b := k) (by omega) (by omega)).mpr c_3; omega
    refine g_aload_n C 0 dL_cell_6 rfl ?_
    refine g_iload_n C 1 dL_cell_7 rfl ?_
    refine g_tldT C Z hk (by omega) dL_cell_8 ?_
    refine g_goto C 18 dL_cell_9 (by decide) ?_
    refine g_iret C hQ rfl dL_cell_18 ?_
    exact ⟨_, rfl, rfl⟩
