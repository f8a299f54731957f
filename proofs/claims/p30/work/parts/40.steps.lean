theorem rs_w {V : Nat → Int32} {mem : gM} (r : Rel V mem) {j : Nat} (hj : j < vN V) (hn10 : vN V ≤ 10) (hz10 : vZ V ≤ 10) (x : Int32) : Rel (upd V (30 + 12 * j) x) (gr mem 6 (upd (mem 6) j x)) := by
  have e5 : upd V (30 + 12 * j) x 5 = V 5 := upd_n (by omega)
  have e11 : upd V (30 + 12 * j) x 11 = V 11 := upd_n (by omega)
  have hn : vN (upd V (30 + 12 * j) x) = vN V := congrArg toN e5
  have hz : vZ (upd V (30 + 12 * j) x) = vZ V := congrArg toN e11
  have hlv : ∀ m, m < vN V → vLv (upd V (30 + 12 * j) x) m = vLv V m := fun m hm => by unfold vLv; rw [upd_n (by omega)]
  obtain ⟨r1, ⟨r2, r3⟩, r4, r5, ⟨r6, r7, r8⟩, r9, r10, ⟨r11, r12, r13⟩, r14⟩ := r
  refine ⟨fun k hk => ?_, ⟨?_, ?_⟩, fun m hm => ?_, fun m h1 h2 => ?_, ⟨?_, ?_, ?_⟩, fun q hq => ?_, fun q hq => ?_, ⟨?_, ?_, ?_⟩, fun q hq => ?_⟩
  · rw [upd_n (by omega)]; exact r1 k hk
  · rw [e5]; exact r2
  · rw [hn, mk_cong hlv]; exact r3
  · rw [hn] at hm
    obtain ⟨a0, a1, a2, a3, a4, a5, a6, a7⟩ := r4 m hm
    refine ⟨?_, ?_, ?_, ?_, ?_, ?_, ?_, ?_⟩
    · show upd (mem 6) j x m = _
      by_cases e : m = j
      · rw [e, upd_s, upd_s]
      · rw [upd_n e, upd_n (by omega)]; exact a0
    · rw [upd_n (by omega)]; exact a1
    · rw [upd_n (by omega)]; exact a2
    · rw [upd_n (by omega)]; exact a3
    · rw [upd_n (by omega)]; exact a4
    · rw [upd_n (by omega)]; exact a5
    · rw [upd_n (by omega)]; exact a6
    · rw [upd_n (by omega)]; exact a7
  · rw [hn] at h1
    obtain ⟨a0, a1, a2, a3, a4, a5⟩ := r5 m h1 h2
    exact ⟨a0, a1, a2, a3, a4, a5⟩
  · rw [upd_n (by omega)]; exact r6
  · rw [upd_n (by omega)]; exact r7
  · rw [upd_n (by omega)]; exact r8
  · rw [hz] at hq; rw [upd_n (by omega)]; exact r9 q hq
  · rw [upd_n (by omega)]; exact r10 q hq
  · rw [upd_n (by omega)]; exact r11
  · rw [upd_n (by omega)]; exact r12
  · rw [upd_n (by omega)]; exact r13
  · rw [upd_n (by omega)]; exact r14 q hq
theorem rs_p {V : Nat → Int32} {mem : gM} (r : Rel V mem) {j : Nat} (hj : j < vN V) (hn10 : vN V ≤ 10) (hz10 : vZ V ≤ 10) (x : Int32) : Rel (upd V (31 + 12 * j) x) (gr mem 8 (upd (mem 8) j x)) := by
  have e5 : upd V (31 + 12 * j) x 5 = V 5 := upd_n (by omega)
  have e11 : upd V (31 + 12 * j) x 11 = V 11 := upd_n (by omega)
  have hn : vN (upd V (31 + 12 * j) x) = vN V := congrArg toN e5
  have hz : vZ (upd V (31 + 12 * j) x) = vZ V := congrArg toN e11
  have hlv : ∀ m, m < vN V → vLv (upd V (31 + 12 * j) x) m = vLv V m := fun m hm => by unfold vLv; rw [upd_n (by omega)]
  obtain ⟨r1, ⟨r2, r3⟩, r4, r5, ⟨r6, r7, r8⟩, r9, r10, ⟨r11, r12, r13⟩, r14⟩ := r
  refine ⟨fun k hk => ?_, ⟨?_, ?_⟩, fun m hm => ?_, fun m h1 h2 => ?_, ⟨?_, ?_, ?_⟩, fun q hq => ?_, fun q hq => ?_, ⟨?_, ?_, ?_⟩, fun q hq => ?_⟩
  · rw [upd_n (by omega)]; exact r1 k hk
  · rw [e5]; exact r2
  · rw [hn, mk_cong hlv]; exact r3
  · rw [hn] at hm
    obtain ⟨a0, a1, a2, a3, a4, a5, a6, a7⟩ := r4 m hm
    refine ⟨?_, ?_, ?_, ?_, ?_, ?_, ?_, ?_⟩
    · rw [upd_n (by omega)]; exact a0
    · show upd (mem 8) j x m = _
      by_cases e : m = j
      · rw [e, upd_s, upd_s]
      · rw [upd_n e, upd_n (by omega)]; exact a1
    · rw [upd_n (by omega)]; exact a2
    · rw [upd_n (by omega)]; exact a3
    · rw [upd_n (by omega)]; exact a4
    · rw [upd_n (by omega)]; exact a5
    · rw [upd_n (by omega)]; exact a6
    · rw [upd_n (by omega)]; exact a7
  · rw [hn] at h1
    obtain ⟨a0, a1, a2, a3, a4, a5⟩ := r5 m h1 h2
    exact ⟨a0, a1, a2, a3, a4, a5⟩
  · rw [upd_n (by omega)]; exact r6
  · rw [upd_n (by omega)]; exact r7
  · rw [upd_n (by omega)]; exact r8
  · rw [hz] at hq; rw [upd_n (by omega)]; exact r9 q hq
  · rw [upd_n (by omega)]; exact r10 q hq
  · rw [upd_n (by omega)]; exact r11
  · rw [upd_n (by omega)]; exact r12
  · rw [upd_n (by omega)]; exact r13
  · rw [upd_n (by omega)]; exact r14 q hq
theorem rs_cr {V : Nat → Int32} {mem : gM} (r : Rel V mem) {j : Nat} (hj : j < vN V) (hn10 : vN V ≤ 10) (hz10 : vZ V ≤ 10) (x : Int32) : Rel (upd V (33 + 12 * j) x) (gr mem 10 (upd (mem 10) j x)) := by
  have e5 : upd V (33 + 12 * j) x 5 = V 5 := upd_n (by omega)
  have e11 : upd V (33 + 12 * j) x 11 = V 11 := upd_n (by omega)
  have hn : vN (upd V (33 + 12 * j) x) = vN V := congrArg toN e5
  have hz : vZ (upd V (33 + 12 * j) x) = vZ V := congrArg toN e11
  have hlv : ∀ m, m < vN V → vLv (upd V (33 + 12 * j) x) m = vLv V m := fun m hm => by unfold vLv; rw [upd_n (by omega)]
  obtain ⟨r1, ⟨r2, r3⟩, r4, r5, ⟨r6, r7, r8⟩, r9, r10, ⟨r11, r12, r13⟩, r14⟩ := r
  refine ⟨fun k hk => ?_, ⟨?_, ?_⟩, fun m hm => ?_, fun m h1 h2 => ?_, ⟨?_, ?_, ?_⟩, fun q hq => ?_, fun q hq => ?_, ⟨?_, ?_, ?_⟩, fun q hq => ?_⟩
  · rw [upd_n (by omega)]; exact r1 k hk
  · rw [e5]; exact r2
  · rw [hn, mk_cong hlv]; exact r3
  · rw [hn] at hm
    obtain ⟨a0, a1, a2, a3, a4, a5, a6, a7⟩ := r4 m hm
    refine ⟨?_, ?_, ?_, ?_, ?_, ?_, ?_, ?_⟩
    · rw [upd_n (by omega)]; exact a0
    · rw [upd_n (by omega)]; exact a1
    · show upd (mem 10) j x m = _
      by_cases e : m = j
      · rw [e, upd_s, upd_s]
      · rw [upd_n e, upd_n (by omega)]; exact a2
    · rw [upd_n (by omega)]; exact a3
    · rw [upd_n (by omega)]; exact a4
    · rw [upd_n (by omega)]; exact a5
    · rw [upd_n (by omega)]; exact a6
    · rw [upd_n (by omega)]; exact a7
  · rw [hn] at h1
    obtain ⟨a0, a1, a2, a3, a4, a5⟩ := r5 m h1 h2
    exact ⟨(upd_n (by omega)).trans a0, a1, a2, a3, a4, a5⟩
  · rw [upd_n (by omega)]; exact r6
  · rw [upd_n (by omega)]; exact r7
  · rw [upd_n (by omega)]; exact r8
  · rw [hz] at hq; rw [upd_n (by omega)]; exact r9 q hq
  · rw [upd_n (by omega)]; exact r10 q hq
  · rw [upd_n (by omega)]; exact r11
  · rw [upd_n (by omega)]; exact r12
  · rw [upd_n (by omega)]; exact r13
  · rw [upd_n (by omega)]; exact r14 q hq
theorem rs_mk {V : Nat → Int32} {mem : gM} (r : Rel V mem) {j : Nat} (hj : j < vN V) (hn10 : vN V ≤ 10) (hz10 : vZ V ≤ 10) (x : Int32) : Rel (upd V (36 + 12 * j) x) (gr mem 12 (upd (mem 12) j x)) := by
  have e5 : upd V (36 + 12 * j) x 5 = V 5 := upd_n (by omega)
  have e11 : upd V (36 + 12 * j) x 11 = V 11 := upd_n (by omega)
  have hn : vN (upd V (36 + 12 * j) x) = vN V := congrArg toN e5
  have hz : vZ (upd V (36 + 12 * j) x) = vZ V := congrArg toN e11
  have hlv : ∀ m, m < vN V → vLv (upd V (36 + 12 * j) x) m = vLv V m := fun m hm => by unfold vLv; rw [upd_n (by omega)]
  obtain ⟨r1, ⟨r2, r3⟩, r4, r5, ⟨r6, r7, r8⟩, r9, r10, ⟨r11, r12, r13⟩, r14⟩ := r
  refine ⟨fun k hk => ?_, ⟨?_, ?_⟩, fun m hm => ?_, fun m h1 h2 => ?_, ⟨?_, ?_, ?_⟩, fun q hq => ?_, fun q hq => ?_, ⟨?_, ?_, ?_⟩, fun q hq => ?_⟩
  · rw [upd_n (by omega)]; exact r1 k hk
  · rw [e5]; exact r2
  · rw [hn, mk_cong hlv]; exact r3
  · rw [hn] at hm
    obtain ⟨a0, a1, a2, a3, a4, a5, a6, a7⟩ := r4 m hm
    refine ⟨?_, ?_, ?_, ?_, ?_, ?_, ?_, ?_⟩
    · rw [upd_n (by omega)]; exact a0
    · rw [upd_n (by omega)]; exact a1
    · rw [upd_n (by omega)]; exact a2
    · show upd (mem 12) j x m = _
      by_cases e : m = j
      · rw [e, upd_s, upd_s]
      · rw [upd_n e, upd_n (by omega)]; exact a3
    · rw [upd_n (by omega)]; exact a4
    · rw [upd_n (by omega)]; exact a5
    · rw [upd_n (by omega)]; exact a6
    · rw [upd_n (by omega)]; exact a7
  · rw [hn] at h1
    obtain ⟨a0, a1, a2, a3, a4, a5⟩ := r5 m h1 h2
    exact ⟨a0, (upd_n (by omega)).trans a1, a2, a3, a4, a5⟩
  · rw [upd_n (by omega)]; exact r6
  · rw [upd_n (by omega)]; exact r7
  · rw [upd_n (by omega)]; exact r8
  · rw [hz] at hq; rw [upd_n (by omega)]; exact r9 q hq
  · rw [upd_n (by omega)]; exact r10 q hq
  · rw [upd_n (by omega)]; exact r11
  · rw [upd_n (by omega)]; exact r12
  · rw [upd_n (by omega)]; exact r13
  · rw [upd_n (by omega)]; exact r14 q hq
theorem rs_mi {V : Nat → Int32} {mem : gM} (r : Rel V mem) {j : Nat} (hj : j < vN V) (hn10 : vN V ≤ 10) (hz10 : vZ V ≤ 10) (x : Int32) : Rel (upd V (37 + 12 * j) x) (gr mem 14 (upd (mem 14) j x)) := by
  have e5 : upd V (37 + 12 * j) x 5 = V 5 := upd_n (by omega)
  have e11 : upd V (37 + 12 * j) x 11 = V 11 := upd_n (by omega)
  have hn : vN (upd V (37 + 12 * j) x) = vN V := congrArg toN e5
  have hz : vZ (upd V (37 + 12 * j) x) = vZ V := congrArg toN e11
  have hlv : ∀ m, m < vN V → vLv (upd V (37 + 12 * j) x) m = vLv V m := fun m hm => by unfold vLv; rw [upd_n (by omega)]
  obtain ⟨r1, ⟨r2, r3⟩, r4, r5, ⟨r6, r7, r8⟩, r9, r10, ⟨r11, r12, r13⟩, r14⟩ := r
  refine ⟨fun k hk => ?_, ⟨?_, ?_⟩, fun m hm => ?_, fun m h1 h2 => ?_, ⟨?_, ?_, ?_⟩, fun q hq => ?_, fun q hq => ?_, ⟨?_, ?_, ?_⟩, fun q hq => ?_⟩
  · rw [upd_n (by omega)]; exact r1 k hk
  · rw [e5]; exact r2
  · rw [hn, mk_cong hlv]; exact r3
  · rw [hn] at hm
    obtain ⟨a0, a1, a2, a3, a4, a5, a6, a7⟩ := r4 m hm
    refine ⟨?_, ?_, ?_, ?_, ?_, ?_, ?_, ?_⟩
    · rw [upd_n (by omega)]; exact a0
    · rw [upd_n (by omega)]; exact a1
    · rw [upd_n (by omega)]; exact a2
    · rw [upd_n (by omega)]; exact a3
    · show upd (mem 14) j x m = _
      by_cases e : m = j
      · rw [e, upd_s, upd_s]
      · rw [upd_n e, upd_n (by omega)]; exact a4
    · rw [upd_n (by omega)]; exact a5
    · rw [upd_n (by omega)]; exact a6
    · rw [upd_n (by omega)]; exact a7
  · rw [hn] at h1
    obtain ⟨a0, a1, a2, a3, a4, a5⟩ := r5 m h1 h2
    exact ⟨a0, a1, (upd_n (by omega)).trans a2, a3, a4, a5⟩
  · rw [upd_n (by omega)]; exact r6
  · rw [upd_n (by omega)]; exact r7
  · rw [upd_n (by omega)]; exact r8
  · rw [hz] at hq; rw [upd_n (by omega)]; exact r9 q hq
  · rw [upd_n (by omega)]; exact r10 q hq
  · rw [upd_n (by omega)]; exact r11
  · rw [upd_n (by omega)]; exact r12
  · rw [upd_n (by omega)]; exact r13
  · rw [upd_n (by omega)]; exact r14 q hq
theorem rs_st {V : Nat → Int32} {mem : gM} (r : Rel V mem) {j : Nat} (hj : j < vN V) (hn10 : vN V ≤ 10) (hz10 : vZ V ≤ 10) (x : Int32) : Rel (upd V (38 + 12 * j) x) (gr mem 16 (upd (mem 16) j x)) := by
  have e5 : upd V (38 + 12 * j) x 5 = V 5 := upd_n (by omega)
  have e11 : upd V (38 + 12 * j) x 11 = V 11 := upd_n (by omega)
  have hn : vN (upd V (38 + 12 * j) x) = vN V := congrArg toN e5
  have hz : vZ (upd V (38 + 12 * j) x) = vZ V := congrArg toN e11
  have hlv : ∀ m, m < vN V → vLv (upd V (38 + 12 * j) x) m = vLv V m := fun m hm => by unfold vLv; rw [upd_n (by omega)]
  obtain ⟨r1, ⟨r2, r3⟩, r4, r5, ⟨r6, r7, r8⟩, r9, r10, ⟨r11, r12, r13⟩, r14⟩ := r
  refine ⟨fun k hk => ?_, ⟨?_, ?_⟩, fun m hm => ?_, fun m h1 h2 => ?_, ⟨?_, ?_, ?_⟩, fun q hq => ?_, fun q hq => ?_, ⟨?_, ?_, ?_⟩, fun q hq => ?_⟩
  · rw [upd_n (by omega)]; exact r1 k hk
  · rw [e5]; exact r2
  · rw [hn, mk_cong hlv]; exact r3
  · rw [hn] at hm
    obtain ⟨a0, a1, a2, a3, a4, a5, a6, a7⟩ := r4 m hm
    refine ⟨?_, ?_, ?_, ?_, ?_, ?_, ?_, ?_⟩
    · rw [upd_n (by omega)]; exact a0
    · rw [upd_n (by omega)]; exact a1
    · rw [upd_n (by omega)]; exact a2
    · rw [upd_n (by omega)]; exact a3
    · rw [upd_n (by omega)]; exact a4
    · show upd (mem 16) j x m = _
      by_cases e : m = j
      · rw [e, upd_s, upd_s]
      · rw [upd_n e, upd_n (by omega)]; exact a5
    · rw [upd_n (by omega)]; exact a6
    · rw [upd_n (by omega)]; exact a7
  · rw [hn] at h1
    obtain ⟨a0, a1, a2, a3, a4, a5⟩ := r5 m h1 h2
    exact ⟨a0, a1, a2, (upd_n (by omega)).trans a3, a4, a5⟩
  · rw [upd_n (by omega)]; exact r6
  · rw [upd_n (by omega)]; exact r7
  · rw [upd_n (by omega)]; exact r8
  · rw [hz] at hq; rw [upd_n (by omega)]; exact r9 q hq
  · rw [upd_n (by omega)]; exact r10 q hq
  · rw [upd_n (by omega)]; exact r11
  · rw [upd_n (by omega)]; exact r12
  · rw [upd_n (by omega)]; exact r13
  · rw [upd_n (by omega)]; exact r14 q hq
theorem rs_to {V : Nat → Int32} {mem : gM} (r : Rel V mem) {j : Nat} (hj : j < vN V) (hn10 : vN V ≤ 10) (hz10 : vZ V ≤ 10) (x : Int32) : Rel (upd V (39 + 12 * j) x) (gr mem 18 (upd (mem 18) j x)) := by
  have e5 : upd V (39 + 12 * j) x 5 = V 5 := upd_n (by omega)
  have e11 : upd V (39 + 12 * j) x 11 = V 11 := upd_n (by omega)
  have hn : vN (upd V (39 + 12 * j) x) = vN V := congrArg toN e5
  have hz : vZ (upd V (39 + 12 * j) x) = vZ V := congrArg toN e11
  have hlv : ∀ m, m < vN V → vLv (upd V (39 + 12 * j) x) m = vLv V m := fun m hm => by unfold vLv; rw [upd_n (by omega)]
  obtain ⟨r1, ⟨r2, r3⟩, r4, r5, ⟨r6, r7, r8⟩, r9, r10, ⟨r11, r12, r13⟩, r14⟩ := r
  refine ⟨fun k hk => ?_, ⟨?_, ?_⟩, fun m hm => ?_, fun m h1 h2 => ?_, ⟨?_, ?_, ?_⟩, fun q hq => ?_, fun q hq => ?_, ⟨?_, ?_, ?_⟩, fun q hq => ?_⟩
  · rw [upd_n (by omega)]; exact r1 k hk
  · rw [e5]; exact r2
  · rw [hn, mk_cong hlv]; exact r3
  · rw [hn] at hm
    obtain ⟨a0, a1, a2, a3, a4, a5, a6, a7⟩ := r4 m hm
    refine ⟨?_, ?_, ?_, ?_, ?_, ?_, ?_, ?_⟩
    · rw [upd_n (by omega)]; exact a0
    · rw [upd_n (by omega)]; exact a1
    · rw [upd_n (by omega)]; exact a2
    · rw [upd_n (by omega)]; exact a3
    · rw [upd_n (by omega)]; exact a4
    · rw [upd_n (by omega)]; exact a5
    · show upd (mem 18) j x m = _
      by_cases e : m = j
      · rw [e, upd_s, upd_s]
      · rw [upd_n e, upd_n (by omega)]; exact a6
    · rw [upd_n (by omega)]; exact a7
  · rw [hn] at h1
    obtain ⟨a0, a1, a2, a3, a4, a5⟩ := r5 m h1 h2
    exact ⟨a0, a1, a2, a3, (upd_n (by omega)).trans a4, a5⟩
  · rw [upd_n (by omega)]; exact r6
  · rw [upd_n (by omega)]; exact r7
  · rw [upd_n (by omega)]; exact r8
  · rw [hz] at hq; rw [upd_n (by omega)]; exact r9 q hq
  · rw [upd_n (by omega)]; exact r10 q hq
  · rw [upd_n (by omega)]; exact r11
  · rw [upd_n (by omega)]; exact r12
  · rw [upd_n (by omega)]; exact r13
  · rw [upd_n (by omega)]; exact r14 q hq
theorem rs_se {V : Nat → Int32} {mem : gM} (r : Rel V mem) {j : Nat} (hj : j < vN V) (hn10 : vN V ≤ 10) (hz10 : vZ V ≤ 10) (x : Int32) : Rel (upd V (40 + 12 * j) x) (gr mem 20 (upd (mem 20) j x)) := by
  have e5 : upd V (40 + 12 * j) x 5 = V 5 := upd_n (by omega)
  have e11 : upd V (40 + 12 * j) x 11 = V 11 := upd_n (by omega)
  have hn : vN (upd V (40 + 12 * j) x) = vN V := congrArg toN e5
  have hz : vZ (upd V (40 + 12 * j) x) = vZ V := congrArg toN e11
  have hlv : ∀ m, m < vN V → vLv (upd V (40 + 12 * j) x) m = vLv V m := fun m hm => by unfold vLv; rw [upd_n (by omega)]
  obtain ⟨r1, ⟨r2, r3⟩, r4, r5, ⟨r6, r7, r8⟩, r9, r10, ⟨r11, r12, r13⟩, r14⟩ := r
  refine ⟨fun k hk => ?_, ⟨?_, ?_⟩, fun m hm => ?_, fun m h1 h2 => ?_, ⟨?_, ?_, ?_⟩, fun q hq => ?_, fun q hq => ?_, ⟨?_, ?_, ?_⟩, fun q hq => ?_⟩
  · rw [upd_n (by omega)]; exact r1 k hk
  · rw [e5]; exact r2
  · rw [hn, mk_cong hlv]; exact r3
  · rw [hn] at hm
    obtain ⟨a0, a1, a2, a3, a4, a5, a6, a7⟩ := r4 m hm
    refine ⟨?_, ?_, ?_, ?_, ?_, ?_, ?_, ?_⟩
    · rw [upd_n (by omega)]; exact a0
    · rw [upd_n (by omega)]; exact a1
    · rw [upd_n (by omega)]; exact a2
    · rw [upd_n (by omega)]; exact a3
    · rw [upd_n (by omega)]; exact a4
    · rw [upd_n (by omega)]; exact a5
    · rw [upd_n (by omega)]; exact a6
    · show upd (mem 20) j x m = _
      by_cases e : m = j
      · rw [e, upd_s, upd_s]
      · rw [upd_n e, upd_n (by omega)]; exact a7
  · rw [hn] at h1
    obtain ⟨a0, a1, a2, a3, a4, a5⟩ := r5 m h1 h2
    exact ⟨a0, a1, a2, a3, a4, (upd_n (by omega)).trans a5⟩
  · rw [upd_n (by omega)]; exact r6
  · rw [upd_n (by omega)]; exact r7
  · rw [upd_n (by omega)]; exact r8
  · rw [hz] at hq; rw [upd_n (by omega)]; exact r9 q hq
  · rw [upd_n (by omega)]; exact r10 q hq
  · rw [upd_n (by omega)]; exact r11
  · rw [upd_n (by omega)]; exact r12
  · rw [upd_n (by omega)]; exact r13
  · rw [upd_n (by omega)]; exact r14 q hq
theorem rs_rank {V : Nat → Int32} {mem : gM} (r : Rel V mem) {j : Nat} (hj : j < 10) (hn10 : vN V ≤ 10) (hz10 : vZ V ≤ 10) (x : Int32) : Rel (upd V (34 + 12 * j) x) mem := by
  have e5 : upd V (34 + 12 * j) x 5 = V 5 := upd_n (by omega)
  have e11 : upd V (34 + 12 * j) x 11 = V 11 := upd_n (by omega)
  have hn : vN (upd V (34 + 12 * j) x) = vN V := congrArg toN e5
  have hz : vZ (upd V (34 + 12 * j) x) = vZ V := congrArg toN e11
  have hlv : ∀ m, m < vN V → vLv (upd V (34 + 12 * j) x) m = vLv V m := fun m hm => by unfold vLv; rw [upd_n (by omega)]
  obtain ⟨r1, ⟨r2, r3⟩, r4, r5, ⟨r6, r7, r8⟩, r9, r10, ⟨r11, r12, r13⟩, r14⟩ := r
  refine ⟨fun k hk => ?_, ⟨?_, ?_⟩, fun m hm => ?_, fun m h1 h2 => ?_, ⟨?_, ?_, ?_⟩, fun q hq => ?_, fun q hq => ?_, ⟨?_, ?_, ?_⟩, fun q hq => ?_⟩
  · rw [upd_n (by omega)]; exact r1 k hk
  · rw [e5]; exact r2
  · rw [hn, mk_cong hlv]; exact r3
  · rw [hn] at hm
    obtain ⟨a0, a1, a2, a3, a4, a5, a6, a7⟩ := r4 m hm
    refine ⟨?_, ?_, ?_, ?_, ?_, ?_, ?_, ?_⟩
    · rw [upd_n (by omega)]; exact a0
    · rw [upd_n (by omega)]; exact a1
    · rw [upd_n (by omega)]; exact a2
    · rw [upd_n (by omega)]; exact a3
    · rw [upd_n (by omega)]; exact a4
    · rw [upd_n (by omega)]; exact a5
    · rw [upd_n (by omega)]; exact a6
    · rw [upd_n (by omega)]; exact a7
  · rw [hn] at h1
    obtain ⟨a0, a1, a2, a3, a4, a5⟩ := r5 m h1 h2
    exact ⟨a0, a1, a2, a3, a4, a5⟩
  · rw [upd_n (by omega)]; exact r6
  · rw [upd_n (by omega)]; exact r7
  · rw [upd_n (by omega)]; exact r8
  · rw [hz] at hq; rw [upd_n (by omega)]; exact r9 q hq
  · rw [upd_n (by omega)]; exact r10 q hq
  · rw [upd_n (by omega)]; exact r11
  · rw [upd_n (by omega)]; exact r12
  · rw [upd_n (by omega)]; exact r13
  · rw [upd_n (by omega)]; exact r14 q hq
theorem rs_set {V : Nat → Int32} {mem : gM} (r : Rel V mem) {j : Nat} (hj : j < 5) (hn10 : vN V ≤ 10) (hz10 : vZ V ≤ 10) (x : Int32) : Rel (upd V (j) x) (gr mem 3 (upd (mem 3) j x)) := by
  have e5 : upd V (j) x 5 = V 5 := upd_n (by omega)
  have e11 : upd V (j) x 11 = V 11 := upd_n (by omega)
  have hn : vN (upd V (j) x) = vN V := congrArg toN e5
  have hz : vZ (upd V (j) x) = vZ V := congrArg toN e11
  have hlv : ∀ m, m < vN V → vLv (upd V (j) x) m = vLv V m := fun m hm => by unfold vLv; rw [upd_n (by omega)]
  obtain ⟨r1, ⟨r2, r3⟩, r4, r5, ⟨r6, r7, r8⟩, r9, r10, ⟨r11, r12, r13⟩, r14⟩ := r
  refine ⟨fun k hk => ?_, ⟨?_, ?_⟩, fun m hm => ?_, fun m h1 h2 => ?_, ⟨?_, ?_, ?_⟩, fun q hq => ?_, fun q hq => ?_, ⟨?_, ?_, ?_⟩, fun q hq => ?_⟩
  · show upd (mem 3) j x k = _
    by_cases e : k = j
    · rw [e, upd_s, upd_s]
    · rw [upd_n e, upd_n (by omega)]; exact r1 k hk
  · rw [e5]; exact r2
  · rw [hn, mk_cong hlv]; exact r3
  · rw [hn] at hm
    obtain ⟨a0, a1, a2, a3, a4, a5, a6, a7⟩ := r4 m hm
    refine ⟨?_, ?_, ?_, ?_, ?_, ?_, ?_, ?_⟩
    · rw [upd_n (by omega)]; exact a0
    · rw [upd_n (by omega)]; exact a1
    · rw [upd_n (by omega)]; exact a2
    · rw [upd_n (by omega)]; exact a3
    · rw [upd_n (by omega)]; exact a4
    · rw [upd_n (by omega)]; exact a5
    · rw [upd_n (by omega)]; exact a6
    · rw [upd_n (by omega)]; exact a7
  · rw [hn] at h1
    obtain ⟨a0, a1, a2, a3, a4, a5⟩ := r5 m h1 h2
    exact ⟨a0, a1, a2, a3, a4, a5⟩
  · rw [upd_n (by omega)]; exact r6
  · rw [upd_n (by omega)]; exact r7
  · rw [upd_n (by omega)]; exact r8
  · rw [hz] at hq; rw [upd_n (by omega)]; exact r9 q hq
  · rw [upd_n (by omega)]; exact r10 q hq
  · rw [upd_n (by omega)]; exact r11
  · rw [upd_n (by omega)]; exact r12
  · rw [upd_n (by omega)]; exact r13
  · rw [upd_n (by omega)]; exact r14 q hq
theorem rs_rd {V : Nat → Int32} {mem : gM} (r : Rel V mem)  (hn10 : vN V ≤ 10) (hz10 : vZ V ≤ 10) (x : Int32) : Rel (upd V (6) x) (gr mem 21 (upd (mem 21) 0 x)) := by
  have e5 : upd V (6) x 5 = V 5 := upd_n (by omega)
  have e11 : upd V (6) x 11 = V 11 := upd_n (by omega)
  have hn : vN (upd V (6) x) = vN V := congrArg toN e5
  have hz : vZ (upd V (6) x) = vZ V := congrArg toN e11
  have hlv : ∀ m, m < vN V → vLv (upd V (6) x) m = vLv V m := fun m hm => by unfold vLv; rw [upd_n (by omega)]
  obtain ⟨r1, ⟨r2, r3⟩, r4, r5, ⟨r6, r7, r8⟩, r9, r10, ⟨r11, r12, r13⟩, r14⟩ := r
  refine ⟨fun k hk => ?_, ⟨?_, ?_⟩, fun m hm => ?_, fun m h1 h2 => ?_, ⟨?_, ?_, ?_⟩, fun q hq => ?_, fun q hq => ?_, ⟨?_, ?_, ?_⟩, fun q hq => ?_⟩
  · rw [upd_n (by omega)]; exact r1 k hk
  · rw [e5]; exact r2
  · rw [hn, mk_cong hlv]; exact r3
  · rw [hn] at hm
    obtain ⟨a0, a1, a2, a3, a4, a5, a6, a7⟩ := r4 m hm
    refine ⟨?_, ?_, ?_, ?_, ?_, ?_, ?_, ?_⟩
    · rw [upd_n (by omega)]; exact a0
    · rw [upd_n (by omega)]; exact a1
    · rw [upd_n (by omega)]; exact a2
    · rw [upd_n (by omega)]; exact a3
    · rw [upd_n (by omega)]; exact a4
    · rw [upd_n (by omega)]; exact a5
    · rw [upd_n (by omega)]; exact a6
    · rw [upd_n (by omega)]; exact a7
  · rw [hn] at h1
    obtain ⟨a0, a1, a2, a3, a4, a5⟩ := r5 m h1 h2
    exact ⟨a0, a1, a2, a3, a4, a5⟩
  · show upd (mem 21) 0 x 0 = _; rw [upd_s, upd_s]
  · show upd (mem 21) 0 x 1 = _; rw [upd_n (by decide), upd_n (by omega)]; exact r7
  · show upd (mem 21) 0 x 2 = _; rw [upd_n (by decide), upd_n (by omega)]; exact r8
  · rw [hz] at hq; rw [upd_n (by omega)]; exact r9 q hq
  · rw [upd_n (by omega)]; exact r10 q hq
  · rw [upd_n (by omega)]; exact r11
  · rw [upd_n (by omega)]; exact r12
  · rw [upd_n (by omega)]; exact r13
  · rw [upd_n (by omega)]; exact r14 q hq
theorem rs_sd {V : Nat → Int32} {mem : gM} (r : Rel V mem)  (hn10 : vN V ≤ 10) (hz10 : vZ V ≤ 10) (x : Int32) : Rel (upd V (10) x) (gr mem 21 (upd (mem 21) 1 x)) := by
  have e5 : upd V (10) x 5 = V 5 := upd_n (by omega)
  have e11 : upd V (10) x 11 = V 11 := upd_n (by omega)
  have hn : vN (upd V (10) x) = vN V := congrArg toN e5
  have hz : vZ (upd V (10) x) = vZ V := congrArg toN e11
  have hlv : ∀ m, m < vN V → vLv (upd V (10) x) m = vLv V m := fun m hm => by unfold vLv; rw [upd_n (by omega)]
  obtain ⟨r1, ⟨r2, r3⟩, r4, r5, ⟨r6, r7, r8⟩, r9, r10, ⟨r11, r12, r13⟩, r14⟩ := r
  refine ⟨fun k hk => ?_, ⟨?_, ?_⟩, fun m hm => ?_, fun m h1 h2 => ?_, ⟨?_, ?_, ?_⟩, fun q hq => ?_, fun q hq => ?_, ⟨?_, ?_, ?_⟩, fun q hq => ?_⟩
  · rw [upd_n (by omega)]; exact r1 k hk
  · rw [e5]; exact r2
  · rw [hn, mk_cong hlv]; exact r3
  · rw [hn] at hm
    obtain ⟨a0, a1, a2, a3, a4, a5, a6, a7⟩ := r4 m hm
    refine ⟨?_, ?_, ?_, ?_, ?_, ?_, ?_, ?_⟩
    · rw [upd_n (by omega)]; exact a0
    · rw [upd_n (by omega)]; exact a1
    · rw [upd_n (by omega)]; exact a2
    · rw [upd_n (by omega)]; exact a3
    · rw [upd_n (by omega)]; exact a4
    · rw [upd_n (by omega)]; exact a5
    · rw [upd_n (by omega)]; exact a6
    · rw [upd_n (by omega)]; exact a7
  · rw [hn] at h1
    obtain ⟨a0, a1, a2, a3, a4, a5⟩ := r5 m h1 h2
    exact ⟨a0, a1, a2, a3, a4, a5⟩
  · show upd (mem 21) 1 x 0 = _; rw [upd_n (by decide), upd_n (by omega)]; exact r6
  · show upd (mem 21) 1 x 1 = _; rw [upd_s, upd_s]
  · show upd (mem 21) 1 x 2 = _; rw [upd_n (by decide), upd_n (by omega)]; exact r8
  · rw [hz] at hq; rw [upd_n (by omega)]; exact r9 q hq
  · rw [upd_n (by omega)]; exact r10 q hq
  · rw [upd_n (by omega)]; exact r11
  · rw [upd_n (by omega)]; exact r12
  · rw [upd_n (by omega)]; exact r13
  · rw [upd_n (by omega)]; exact r14 q hq
theorem rs_lo {V : Nat → Int32} {mem : gM} (r : Rel V mem) {j : Nat} (hj : j < 200) (hn10 : vN V ≤ 10) (hz10 : vZ V ≤ 10) (x : Int32) : Rel (upd V (150 + j) x) (gr mem 25 (upd (mem 25) j x)) := by
  have e5 : upd V (150 + j) x 5 = V 5 := upd_n (by omega)
  have e11 : upd V (150 + j) x 11 = V 11 := upd_n (by omega)
  have hn : vN (upd V (150 + j) x) = vN V := congrArg toN e5
  have hz : vZ (upd V (150 + j) x) = vZ V := congrArg toN e11
  have hlv : ∀ m, m < vN V → vLv (upd V (150 + j) x) m = vLv V m := fun m hm => by unfold vLv; rw [upd_n (by omega)]
  obtain ⟨r1, ⟨r2, r3⟩, r4, r5, ⟨r6, r7, r8⟩, r9, r10, ⟨r11, r12, r13⟩, r14⟩ := r
  refine ⟨fun k hk => ?_, ⟨?_, ?_⟩, fun m hm => ?_, fun m h1 h2 => ?_, ⟨?_, ?_, ?_⟩, fun q hq => ?_, fun q hq => ?_, ⟨?_, ?_, ?_⟩, fun q hq => ?_⟩
  · rw [upd_n (by omega)]; exact r1 k hk
  · rw [e5]; exact r2
  · rw [hn, mk_cong hlv]; exact r3
  · rw [hn] at hm
    obtain ⟨a0, a1, a2, a3, a4, a5, a6, a7⟩ := r4 m hm
    refine ⟨?_, ?_, ?_, ?_, ?_, ?_, ?_, ?_⟩
    · rw [upd_n (by omega)]; exact a0
    · rw [upd_n (by omega)]; exact a1
    · rw [upd_n (by omega)]; exact a2
    · rw [upd_n (by omega)]; exact a3
    · rw [upd_n (by omega)]; exact a4
    · rw [upd_n (by omega)]; exact a5
    · rw [upd_n (by omega)]; exact a6
    · rw [upd_n (by omega)]; exact a7
  · rw [hn] at h1
    obtain ⟨a0, a1, a2, a3, a4, a5⟩ := r5 m h1 h2
    exact ⟨a0, a1, a2, a3, a4, a5⟩
  · rw [upd_n (by omega)]; exact r6
  · rw [upd_n (by omega)]; exact r7
  · rw [upd_n (by omega)]; exact r8
  · rw [hz] at hq; rw [upd_n (by omega)]; exact r9 q hq
  · show upd (mem 25) j x q = _
    by_cases e : q = j
    · rw [e, upd_s, upd_s]
    · rw [upd_n e, upd_n (by omega)]; exact r10 q hq
  · rw [upd_n (by omega)]; exact r11
  · rw [upd_n (by omega)]; exact r12
  · rw [upd_n (by omega)]; exact r13
  · rw [upd_n (by omega)]; exact r14 q hq
theorem rs_ma {V : Nat → Int32} {mem : gM} (r : Rel V mem)  (hn10 : vN V ≤ 10) (hz10 : vZ V ≤ 10) (x : Int32) : Rel (upd V (7) x) (gr mem 26 (upd (mem 26) 0 x)) := by
  have e5 : upd V (7) x 5 = V 5 := upd_n (by omega)
  have e11 : upd V (7) x 11 = V 11 := upd_n (by omega)
  have hn : vN (upd V (7) x) = vN V := congrArg toN e5
  have hz : vZ (upd V (7) x) = vZ V := congrArg toN e11
  have hlv : ∀ m, m < vN V → vLv (upd V (7) x) m = vLv V m := fun m hm => by unfold vLv; rw [upd_n (by omega)]
  obtain ⟨r1, ⟨r2, r3⟩, r4, r5, ⟨r6, r7, r8⟩, r9, r10, ⟨r11, r12, r13⟩, r14⟩ := r
  refine ⟨fun k hk => ?_, ⟨?_, ?_⟩, fun m hm => ?_, fun m h1 h2 => ?_, ⟨?_, ?_, ?_⟩, fun q hq => ?_, fun q hq => ?_, ⟨?_, ?_, ?_⟩, fun q hq => ?_⟩
  · rw [upd_n (by omega)]; exact r1 k hk
  · rw [e5]; exact r2
  · rw [hn, mk_cong hlv]; exact r3
  · rw [hn] at hm
    obtain ⟨a0, a1, a2, a3, a4, a5, a6, a7⟩ := r4 m hm
    refine ⟨?_, ?_, ?_, ?_, ?_, ?_, ?_, ?_⟩
    · rw [upd_n (by omega)]; exact a0
    · rw [upd_n (by omega)]; exact a1
    · rw [upd_n (by omega)]; exact a2
    · rw [upd_n (by omega)]; exact a3
    · rw [upd_n (by omega)]; exact a4
    · rw [upd_n (by omega)]; exact a5
    · rw [upd_n (by omega)]; exact a6
    · rw [upd_n (by omega)]; exact a7
  · rw [hn] at h1
    obtain ⟨a0, a1, a2, a3, a4, a5⟩ := r5 m h1 h2
    exact ⟨a0, a1, a2, a3, a4, a5⟩
  · rw [upd_n (by omega)]; exact r6
  · rw [upd_n (by omega)]; exact r7
  · rw [upd_n (by omega)]; exact r8
  · rw [hz] at hq; rw [upd_n (by omega)]; exact r9 q hq
  · rw [upd_n (by omega)]; exact r10 q hq
  · show upd (mem 26) 0 x 0 = _; rw [upd_s, upd_s]
  · show upd (mem 26) 0 x 1 = _; rw [upd_n (by decide), upd_n (by omega)]; exact r12
  · show upd (mem 26) 0 x 2 = _; rw [upd_n (by decide), upd_n (by omega)]; exact r13
  · rw [upd_n (by omega)]; exact r14 q hq
theorem rs_as {V : Nat → Int32} {mem : gM} (r : Rel V mem)  (hn10 : vN V ≤ 10) (hz10 : vZ V ≤ 10) (x : Int32) : Rel (upd V (8) x) (gr mem 26 (upd (mem 26) 1 x)) := by
  have e5 : upd V (8) x 5 = V 5 := upd_n (by omega)
  have e11 : upd V (8) x 11 = V 11 := upd_n (by omega)
  have hn : vN (upd V (8) x) = vN V := congrArg toN e5
  have hz : vZ (upd V (8) x) = vZ V := congrArg toN e11
  have hlv : ∀ m, m < vN V → vLv (upd V (8) x) m = vLv V m := fun m hm => by unfold vLv; rw [upd_n (by omega)]
  obtain ⟨r1, ⟨r2, r3⟩, r4, r5, ⟨r6, r7, r8⟩, r9, r10, ⟨r11, r12, r13⟩, r14⟩ := r
  refine ⟨fun k hk => ?_, ⟨?_, ?_⟩, fun m hm => ?_, fun m h1 h2 => ?_, ⟨?_, ?_, ?_⟩, fun q hq => ?_, fun q hq => ?_, ⟨?_, ?_, ?_⟩, fun q hq => ?_⟩
  · rw [upd_n (by omega)]; exact r1 k hk
  · rw [e5]; exact r2
  · rw [hn, mk_cong hlv]; exact r3
  · rw [hn] at hm
    obtain ⟨a0, a1, a2, a3, a4, a5, a6, a7⟩ := r4 m hm
    refine ⟨?_, ?_, ?_, ?_, ?_, ?_, ?_, ?_⟩
    · rw [upd_n (by omega)]; exact a0
    · rw [upd_n (by omega)]; exact a1
    · rw [upd_n (by omega)]; exact a2
    · rw [upd_n (by omega)]; exact a3
    · rw [upd_n (by omega)]; exact a4
    · rw [upd_n (by omega)]; exact a5
    · rw [upd_n (by omega)]; exact a6
    · rw [upd_n (by omega)]; exact a7
  · rw [hn] at h1
    obtain ⟨a0, a1, a2, a3, a4, a5⟩ := r5 m h1 h2
    exact ⟨a0, a1, a2, a3, a4, a5⟩
  · rw [upd_n (by omega)]; exact r6
  · rw [upd_n (by omega)]; exact r7
  · rw [upd_n (by omega)]; exact r8
  · rw [hz] at hq; rw [upd_n (by omega)]; exact r9 q hq
  · rw [upd_n (by omega)]; exact r10 q hq
  · show upd (mem 26) 1 x 0 = _; rw [upd_n (by decide), upd_n (by omega)]; exact r11
  · show upd (mem 26) 1 x 1 = _; rw [upd_s, upd_s]
  · show upd (mem 26) 1 x 2 = _; rw [upd_n (by decide), upd_n (by omega)]; exact r13
  · rw [upd_n (by omega)]; exact r14 q hq
theorem rs_si {V : Nat → Int32} {mem : gM} (r : Rel V mem)  (hn10 : vN V ≤ 10) (hz10 : vZ V ≤ 10) (x : Int32) : Rel (upd V (9) x) (gr mem 26 (upd (mem 26) 2 x)) := by
  have e5 : upd V (9) x 5 = V 5 := upd_n (by omega)
  have e11 : upd V (9) x 11 = V 11 := upd_n (by omega)
  have hn : vN (upd V (9) x) = vN V := congrArg toN e5
  have hz : vZ (upd V (9) x) = vZ V := congrArg toN e11
  have hlv : ∀ m, m < vN V → vLv (upd V (9) x) m = vLv V m := fun m hm => by unfold vLv; rw [upd_n (by omega)]
  obtain ⟨r1, ⟨r2, r3⟩, r4, r5, ⟨r6, r7, r8⟩, r9, r10, ⟨r11, r12, r13⟩, r14⟩ := r
  refine ⟨fun k hk => ?_, ⟨?_, ?_⟩, fun m hm => ?_, fun m h1 h2 => ?_, ⟨?_, ?_, ?_⟩, fun q hq => ?_, fun q hq => ?_, ⟨?_, ?_, ?_⟩, fun q hq => ?_⟩
  · rw [upd_n (by omega)]; exact r1 k hk
  · rw [e5]; exact r2
  · rw [hn, mk_cong hlv]; exact r3
  · rw [hn] at hm
    obtain ⟨a0, a1, a2, a3, a4, a5, a6, a7⟩ := r4 m hm
    refine ⟨?_, ?_, ?_, ?_, ?_, ?_, ?_, ?_⟩
    · rw [upd_n (by omega)]; exact a0
    · rw [upd_n (by omega)]; exact a1
    · rw [upd_n (by omega)]; exact a2
    · rw [upd_n (by omega)]; exact a3
    · rw [upd_n (by omega)]; exact a4
    · rw [upd_n (by omega)]; exact a5
    · rw [upd_n (by omega)]; exact a6
    · rw [upd_n (by omega)]; exact a7
  · rw [hn] at h1
    obtain ⟨a0, a1, a2, a3, a4, a5⟩ := r5 m h1 h2
    exact ⟨a0, a1, a2, a3, a4, a5⟩
  · rw [upd_n (by omega)]; exact r6
  · rw [upd_n (by omega)]; exact r7
  · rw [upd_n (by omega)]; exact r8
  · rw [hz] at hq; rw [upd_n (by omega)]; exact r9 q hq
  · rw [upd_n (by omega)]; exact r10 q hq
  · show upd (mem 26) 2 x 0 = _; rw [upd_n (by decide), upd_n (by omega)]; exact r11
  · show upd (mem 26) 2 x 1 = _; rw [upd_n (by decide), upd_n (by omega)]; exact r12
  · show upd (mem 26) 2 x 2 = _; rw [upd_s, upd_s]
  · rw [upd_n (by omega)]; exact r14 q hq
theorem rs_nu {V : Nat → Int32} {mem : gM} (r : Rel V mem) {j : Nat} (hj : j < 140) (hn10 : vN V ≤ 10) (hz10 : vZ V ≤ 10) (x : Int32) : Rel (upd V (360 + j) x) (gr mem 28 (upd (mem 28) j x)) := by
  have e5 : upd V (360 + j) x 5 = V 5 := upd_n (by omega)
  have e11 : upd V (360 + j) x 11 = V 11 := upd_n (by omega)
  have hn : vN (upd V (360 + j) x) = vN V := congrArg toN e5
  have hz : vZ (upd V (360 + j) x) = vZ V := congrArg toN e11
  have hlv : ∀ m, m < vN V → vLv (upd V (360 + j) x) m = vLv V m := fun m hm => by unfold vLv; rw [upd_n (by omega)]
  obtain ⟨r1, ⟨r2, r3⟩, r4, r5, ⟨r6, r7, r8⟩, r9, r10, ⟨r11, r12, r13⟩, r14⟩ := r
  refine ⟨fun k hk => ?_, ⟨?_, ?_⟩, fun m hm => ?_, fun m h1 h2 => ?_, ⟨?_, ?_, ?_⟩, fun q hq => ?_, fun q hq => ?_, ⟨?_, ?_, ?_⟩, fun q hq => ?_⟩
  · rw [upd_n (by omega)]; exact r1 k hk
  · rw [e5]; exact r2
  · rw [hn, mk_cong hlv]; exact r3
  · rw [hn] at hm
    obtain ⟨a0, a1, a2, a3, a4, a5, a6, a7⟩ := r4 m hm
    refine ⟨?_, ?_, ?_, ?_, ?_, ?_, ?_, ?_⟩
    · rw [upd_n (by omega)]; exact a0
    · rw [upd_n (by omega)]; exact a1
    · rw [upd_n (by omega)]; exact a2
    · rw [upd_n (by omega)]; exact a3
    · rw [upd_n (by omega)]; exact a4
    · rw [upd_n (by omega)]; exact a5
    · rw [upd_n (by omega)]; exact a6
    · rw [upd_n (by omega)]; exact a7
  · rw [hn] at h1
    obtain ⟨a0, a1, a2, a3, a4, a5⟩ := r5 m h1 h2
    exact ⟨a0, a1, a2, a3, a4, a5⟩
  · rw [upd_n (by omega)]; exact r6
  · rw [upd_n (by omega)]; exact r7
  · rw [upd_n (by omega)]; exact r8
  · rw [hz] at hq; rw [upd_n (by omega)]; exact r9 q hq
  · rw [upd_n (by omega)]; exact r10 q hq
  · rw [upd_n (by omega)]; exact r11
  · rw [upd_n (by omega)]; exact r12
  · rw [upd_n (by omega)]; exact r13
  · show upd (mem 28) j x q = _
    by_cases e : q = j
    · rw [e, upd_s, upd_s]
    · rw [upd_n e, upd_n (by omega)]; exact r14 q hq
theorem lv_upd {V : Nat → Int32} {j m : Nat} {x : Int32} : vLv (upd V (32 + 12 * j) x) m = if m = j then decide (x = nI 1) else vLv V m := by
  unfold vLv
  by_cases e : m = j
  · rw [if_pos e, e, upd_s]
  · rw [if_neg e, upd_n (by omega)]
theorem rs_lv {V : Nat → Int32} {mem : gM} (r : Rel V mem) {j : Nat} (hj : j < vN V) (hn10 : vN V ≤ 10) (hz10 : vZ V ≤ 10) (x : Int32) {y : Int32} (hy : y = mk (fun m => if m = j then decide (x = nI 1) else vLv V m) (vN V)) : Rel (upd V (32 + 12 * j) x) (gr mem 4 (upd (mem 4) 1 y)) := by
  have e5 : upd V (32 + 12 * j) x 5 = V 5 := upd_n (by omega)
  have e11 : upd V (32 + 12 * j) x 11 = V 11 := upd_n (by omega)
  have hn : vN (upd V (32 + 12 * j) x) = vN V := congrArg toN e5
  have hz : vZ (upd V (32 + 12 * j) x) = vZ V := congrArg toN e11
  obtain ⟨r1, ⟨r2, r3⟩, r4, r5, ⟨r6, r7, r8⟩, r9, r10, ⟨r11, r12, r13⟩, r14⟩ := r
  refine ⟨fun k hk => by rw [upd_n (by omega)]; exact r1 k hk, ⟨by rw [e5]; show upd (mem 4) 1 y 0 = _; rw [upd_n (by decide)]; exact r2, ?_⟩, fun m hm => ?_, fun m h1 h2 => r5 m (by rw [hn] at h1; exact h1) h2, ⟨by rw [upd_n (by omega)]; exact r6, by rw [upd_n (by omega)]; exact r7, by rw [upd_n (by omega)]; exact r8⟩, fun q hq => ?_, fun q hq => by rw [upd_n (by omega)]; exact r10 q hq, ⟨by rw [upd_n (by omega)]; exact r11, by rw [upd_n (by omega)]; exact r12, by rw [upd_n (by omega)]; exact r13⟩, fun q hq => by rw [upd_n (by omega)]; exact r14 q hq⟩
  · show upd (mem 4) 1 y 1 = _
    rw [upd_s, hn, hy]
    exact mk_cong fun m _ => lv_upd.symm
  · rw [hn] at hm
    obtain ⟨a0, a1, a2, a3, a4, a5, a6, a7⟩ := r4 m hm
    rw [upd_n (by omega), upd_n (by omega), upd_n (by omega), upd_n (by omega), upd_n (by omega), upd_n (by omega), upd_n (by omega), upd_n (by omega)]
    exact ⟨a0, a1, a2, a3, a4, a5, a6, a7⟩
  · rw [hz] at hq
    rw [upd_n (by omega)]
    exact r9 q hq
/-- a new bit, a bit taken away -/
theorem mk_on {p : Nat → Bool} {n j : Nat} (hn : n ≤ 32) (hj : j < n) : mk p n ||| bit j = mk (fun m => if m = j then true else p m) n := mk_ext hn fun i hi => by
  rw [b_or, bt_mk p n hn i hi, bt_bit (by omega) hi]
  by_cases e : i = j
  · subst e; simp [hj]
  · rw [decide_eq_false e, if_neg e, Bool.or_false]
theorem mk_off {p : Nat → Bool} {n j : Nat} (hn : n ≤ 32) (hj : j < n) : mk p n &&& (bit j ^^^ (-1)) = mk (fun m => if m = j then false else p m) n := mk_ext hn fun i hi => by
  rw [b_and, bt_mk p n hn i hi, bt_not _ hi, bt_bit (by omega) hi]
  by_cases e : i = j
  · subst e; simp
  · rw [decide_eq_false e, if_neg e]; simp
/-! Good, step by step -/
theorem Good.irr {T : Nat} {V V2 : Nat → Int32} (g : Good T V) (h : ∀ i, (i < 3 ∨ i = 5 ∨ i = 7 ∨ i = 8 ∨ i = 9 ∨ (11 ≤ i ∧ i < 22) ∨ (150 ≤ i ∧ i < 350) ∨ (∃ m, m < 10 ∧ (i = 30 + 12 * m ∨ i = 31 + 12 * m ∨ i = 32 + 12 * m ∨ i = 34 + 12 * m))) → V2 i = V i) : Good T V2 := by
  obtain ⟨⟨g1, g2⟩, ⟨g3, g4, g5⟩, ⟨g6, g7⟩, ⟨g8, g9, g10⟩, g11, ⟨g12, g13⟩, g14, g15, g16, ⟨g17, g18⟩, g19, g20, g21⟩ := g
  have e5 := h 5 (by omega)
  have e11 := h 11 (by omega)
  have e0 := h 0 (by omega)
  have e1 := h 1 (by omega)
  have e2 := h 2 (by omega)
  have e7 := h 7 (by omega)
  have e8 := h 8 (by omega)
  have e9 := h 9 (by omega)
  have hm : ∀ m, m < 10 → V2 (30 + 12 * m) = V (30 + 12 * m) ∧ V2 (31 + 12 * m) = V (31 + 12 * m) ∧ V2 (32 + 12 * m) = V (32 + 12 * m) ∧ V2 (34 + 12 * m) = V (34 + 12 * m) := fun m h10 => ⟨h _ (by right; right; right; right; right; right; right; exact ⟨m, h10, Or.inl rfl⟩), h _ (by right; right; right; right; right; right; right; exact ⟨m, h10, Or.inr (Or.inl rfl)⟩), h _ (by right; right; right; right; right; right; right; exact ⟨m, h10, Or.inr (Or.inr (Or.inl rfl))⟩), h _ (by right; right; right; right; right; right; right; exact ⟨m, h10, Or.inr (Or.inr (Or.inr rfl))⟩)⟩
  have hr : ∀ q, q < 10 → V2 (12 + q) = V (12 + q) := fun q hq => h _ (by omega)
  have en : vN V2 = vN V := congrArg toN e5
  have ez : vZ V2 = vZ V := congrArg toN e11
  unfold Good
  rw [en, ez, e5, e11, e0, e1, e2, e7, e8, e9]
  refine ⟨⟨g1, g2⟩, ⟨g3, g4, g5⟩, ⟨g6, g7⟩, ⟨g8, g9, g10⟩, fun m hm2 => ?_, ⟨g12, g13⟩, fun r hr2 => ?_, fun m hm2 hno => ?_, fun b hb i h1 h2 => ?_, ⟨g17, g18⟩, g19, g20, g21⟩
  · obtain ⟨a, b, c, -⟩ := hm m (by omega)
    have w := g11 m hm2
    show V2 (30 + 12 * m) = nI (toN (V2 (30 + 12 * m))) ∧ 1 ≤ toN (V2 (30 + 12 * m)) ∧ toN (V2 (30 + 12 * m)) ≤ 9 ∧ V2 (31 + 12 * m) = nI (toN (V2 (31 + 12 * m))) ∧ toN (V2 (31 + 12 * m)) ≤ 1000 ∧ _
    rw [a, b, c]
    exact w
  · have w := g14 r hr2
    have a := hr r (by omega)
    show V2 (12 + r) = nI (toN (V2 (12 + r))) ∧ toN (V2 (12 + r)) < _ ∧ V2 (34 + 12 * toN (V2 (12 + r))) = _
    rw [a, (hm _ (Nat.lt_of_lt_of_le w.2.1 g2)).2.2.2]
    exact w
  · rw [(hm m (by omega)).2.2.2]
    refine g15 m hm2 fun r hr2 => ?_
    have w := hno r hr2
    rw [show vL V2 r = vL V r from congrArg toN (hr r (by omega))] at w
    exact w
  · rw [h (150 + b) (by omega)]
    exact g16 b hb i h1 h2
theorem Good.more {T T2 : Nat} {V : Nat → Int32} (g : Good T V) (h : T ≤ T2) : Good T2 V := by
  obtain ⟨g1, g2, g3, g4, g5, g6, g7, g8, g9, ⟨g10, g11⟩, g12, g13, g14⟩ := g
  exact ⟨g1, g2, g3, g4, g5, g6, g7, g8, g9, ⟨g10, by omega⟩, g12, g13, by omega⟩
