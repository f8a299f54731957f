set_option maxRecDepth 100000 in
set_option maxHeartbeats 4000000 in
/-- YOUR PART: from the entry, for every script of at most 260 ints, the law comes to its end with true ('hflags': the launch's flags, for a law that throws: no stack traces) -/
theorem whole_start {p : Program} {e : Env} {s : State} {m : MethodId} {below : List Frame} {meth : Method} {c : Code} (l : Launch) (hflags : l.flags = flags0) {b L : Nat} {xs : Nat → Int32} (hL : L ≤ 260) (C0 : lw_At p s m meth c b L xs) : W p l e room_1 s m #[Value.ref b] below meth c s.heap [] 0 0 (lw_Z below #[Value.ref b] s) (entryFrame m ([Value.ref b] : List Value).toArray 15) := by
  obtain ⟨hx, hb, hr, hml, hown, hts, hX, hbl, hlocks, hgv⟩ := id C0
  have hd0 := Drawn.sameBut.refl s.drawn lw_cs
  refine W.base ?_
  have hw : ∀ w ∈ wG, w.before #[Value.ref b] s = true := fun w h => hts w (wG_in h)
  obtain ⟨D, hKc⟩ := known_all hw
  obtain ⟨cI, kI, cmp, f1, f2, f3⟩ := Cond.arrayClass_spec (hw (.arrayClass .int) wd_41)
  have hK : va_K D vwCl [(cI, .int)] s := ⟨hKc, fun k q hk => by
    have hz : k < 1 := (List.getElem?_eq_some_iff.mp hk).1
    rw [show k = 0 by omega] at hk
    cases hk
    exact ⟨fun n z => ⟨fun k h => (by cases h), kI, f2, cmp, f3⟩, f1⟩⟩
  obtain ⟨t1, z1⟩ := lst_0 hgv hts
  obtain ⟨t2, z2⟩ := lst_1 hgv hts
  obtain ⟨t3, z3⟩ := lst_2 hgv hts
  have C : nC D cI (fun q => (s.setDrawn s.drawn).heap.size ≤ q) RL cL_law ret 15 p (s.setDrawn s.drawn) m #[Value.ref b] meth c := ⟨hx, hb, hr, hml, hown, dr_words hw _, hlocks, hK, fun _ h => h, nst_all (dr_words hts _)⟩
  have hl := lv_entry ([.ref b]) (n := 15) (Nat.le_of_ble_eq_true rfl)
  rw [lg_entry_eq]
  generalize (lg_sl ([.ref b]) ++ List.replicate (15 - (lg_sl ([.ref b])).length) Slot.unset).toArray = ls at hl ⊢
  have hl : lv_has ls 15 [(0, .ref b)] := hl
  refine law_make C (fun a1 c1 h1 => ?_) s.heap [] ls (fun k q h => by simp at h) ⟨fun i j p q h => by simp at h, fun k q h => by simp at h⟩ va_S.rf hl
  exact law_enter C hL hX hbl z1 z2 z3 (fun H locs ls hf => va_forget hf (W.widen (k := 600000) (n := 7302250) (Nat.le_of_ble_eq_true rfl) (Nat.le_of_ble_eq_true rfl) (lw_ret hd0 hx hb hr hlocks dL_law_812))) a1 c1 h1
