/-! the tables at the law's entry -/
theorem lw_t {w : Cond} (h : w ∈ tables_1) : w ∈ lw_tbl := List.mem_append_right _ h
theorem lw_iX0 : Cond.instantiable RX0 3 ∈ lw_tbl := (lw_t (List.mem_of_getElem? (i := 174) (by decide +kernel)))
theorem lw_iX1 : Cond.instantiable RX1 2 ∈ lw_tbl := (lw_t (List.mem_of_getElem? (i := 134) (by decide +kernel)))
theorem lw_iX2 : Cond.instantiable RX2 1 ∈ lw_tbl := (lw_t (List.mem_of_getElem? (i := 26) (by decide +kernel)))
theorem lw_iX3 : Cond.instantiable RX3 6 ∈ lw_tbl := (lw_t (List.mem_of_getElem? (i := 106) (by decide +kernel)))
theorem lw_iX4 : Cond.instantiable RX4 13 ∈ lw_tbl := (lw_t (List.mem_of_getElem? (i := 20) (by decide +kernel)))
theorem lw_iX5 : Cond.instantiable RX5 1 ∈ lw_tbl := (lw_t (List.mem_of_getElem? (i := 195) (by decide +kernel)))
theorem lw_iX6 : Cond.instantiable RX6 4 ∈ lw_tbl := (lw_t (List.mem_of_getElem? (i := 150) (by decide +kernel)))
theorem lw_iX7 : Cond.instantiable RX7 7 ∈ lw_tbl := (lw_t (List.mem_of_getElem? (i := 12) (by decide +kernel)))
theorem lw_a_int : Cond.arrayClass .int ∈ lw_tbl := (lw_t (List.mem_of_getElem? (i := 38) (by decide +kernel)))
theorem lw_a_q : Cond.arrayOver (.object RX4) ∈ lw_tbl := (lw_t (List.mem_of_getElem? (i := 140) (by decide +kernel)))
set_option maxRecDepth 20000 in
theorem lw_nest : ∀ w ∈ gNl, Cond.methodLinkNest w.1 w.2.1 w.2.2 RX7 ∈ lw_tbl := by
  unfold gNl
  exact List.forall_mem_cons.mpr ⟨(lw_t (List.mem_of_getElem? (i := 107) (by decide +kernel))), List.forall_mem_cons.mpr ⟨(lw_t (List.mem_of_getElem? (i := 135) (by decide +kernel))), List.forall_mem_cons.mpr ⟨(lw_t (List.mem_of_getElem? (i := 151) (by decide +kernel))), List.forall_mem_cons.mpr ⟨(lw_t (List.mem_of_getElem? (i := 175) (by decide +kernel))), List.forall_mem_cons.mpr ⟨(lw_t (List.mem_of_getElem? (i := 196) (by decide +kernel))), List.forall_mem_cons.mpr ⟨(lw_t (List.mem_of_getElem? (i := 620) (by decide +kernel))), List.forall_mem_cons.mpr ⟨(lw_t (List.mem_of_getElem? (i := 283) (by decide +kernel))), List.forall_mem_cons.mpr ⟨(lw_t (List.mem_of_getElem? (i := 298) (by decide +kernel))), List.forall_mem_cons.mpr ⟨(lw_t (List.mem_of_getElem? (i := 391) (by decide +kernel))), List.forall_mem_cons.mpr ⟨(lw_t (List.mem_of_getElem? (i := 392) (by decide +kernel))), List.forall_mem_cons.mpr ⟨(lw_t (List.mem_of_getElem? (i := 447) (by decide +kernel))), List.forall_mem_cons.mpr ⟨(lw_t (List.mem_of_getElem? (i := 553) (by decide +kernel))), fun _ h => absurd h List.not_mem_nil⟩⟩⟩⟩⟩⟩⟩⟩⟩⟩⟩⟩
set_option maxHeartbeats 4000000 in
theorem gK_entry {s : State} {args : Array Value} (hts : ∀ w ∈ lw_tbl, w.before args s = true) : ∃ (D : va_G) (ka : Nat → ClassId), gK D ka s := by
  obtain ⟨c0, i0, k0⟩ := u_known (C := RX0) (T := TX0) (N := 3) (n := 3) hts inX0 (hts _ lw_iX0)
  obtain ⟨c1, i1, k1⟩ := u_known (C := RX1) (T := TX1) (N := 2) (n := 2) hts inX1 (hts _ lw_iX1)
  obtain ⟨c2, i2, k2⟩ := u_known (C := RX2) (T := TX2) (N := 1) (n := 1) hts inX2 (hts _ lw_iX2)
  obtain ⟨c3, i3, k3⟩ := u_known (C := RX3) (T := TX3) (N := 6) (n := 6) hts inX3 (hts _ lw_iX3)
  obtain ⟨c4, i4, k4⟩ := u_known (C := RX4) (T := TX4) (N := 13) (n := 13) hts inX4 (hts _ lw_iX4)
  obtain ⟨c5, i5, k5⟩ := u_known (C := RX5) (T := TX5) (N := 1) (n := 1) hts inX5 (hts _ lw_iX5)
  obtain ⟨c6, i6, k6⟩ := u_known (C := RX6) (T := TX6) (N := 4) (n := 4) hts inX6 (hts _ lw_iX6)
  obtain ⟨c7, i7, k7⟩ := u_known (C := RX7) (T := TX7) (N := 7) (n := 7) hts inX7 (hts _ lw_iX7)
  obtain ⟨cI, kI, qI, I1, I2, I3⟩ := Cond.arrayClass_spec (hts _ lw_a_int)
  obtain ⟨qR, cR, kR, R1, -, R2, R3, R4⟩ := Cond.arrayOver_spec (hts _ lw_a_q)
  refine ⟨(fun k => if k = 0 then c0 else if k = 1 then c1 else if k = 2 then c2 else if k = 3 then c3 else if k = 4 then c4 else if k = 5 then c5 else if k = 6 then c6 else c7, fun k => if k = 0 then i0 else if k = 1 then i1 else if k = 2 then i2 else if k = 3 then i3 else if k = 4 then i4 else if k = 5 then i5 else if k = 6 then i6 else i7), fun k => if k = 0 then cI else cR, ⟨fun k q hq => ?_, fun k q hq => ?_⟩, va_AO.of (hts _ lw_a_q), fun w hw => va_Nw.of rfl (hts _ (lw_nest w hw))⟩
  · match k, hq with
    | 0, hq => cases hq; exact k0
    | 1, hq => cases hq; exact k1
    | 2, hq => cases hq; exact k2
    | 3, hq => cases hq; exact k3
    | 4, hq => cases hq; exact k4
    | 5, hq => cases hq; exact k5
    | 6, hq => cases hq; exact k6
    | 7, hq => cases hq; exact k7
    | k + 8, hq => simp [vwCl] at hq
  · match k, hq with
    | 0, hq => cases hq; exact ⟨fun n z => ⟨fun k h => (by cases h), kI, I2, qI, I3⟩, I1⟩
    | 1, hq => cases hq; exact ⟨fun n z => ⟨fun k h => (by cases h), kI, I2, qI, I3⟩, I1⟩
    | 2, hq => cases hq; exact ⟨fun n z => ⟨fun k h => (by cases h), kI, I2, qI, I3⟩, I1⟩
    | 3, hq => cases hq; exact ⟨fun n z => ⟨fun k h => (by cases h), kR, R2, qR, R3⟩, kR, qR, R2, R3, R1, R4⟩
    | k + 4, hq => simp [gtys] at hq
