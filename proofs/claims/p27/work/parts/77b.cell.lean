/-! a cell of the script -/
theorem c_L_cell (l : Launch) (B L k lo : Nat) (xs : Nat → Int32) (hk : k < 2147483648) (hL : L ≤ 260) (hBlo : B < lo) : Met l yL_cell wsL_cell ({ frames := 0, cells := 0, slots := 0, locals := 0 } : Room) (va_Pc [.ref B, .int (nI k)] (fun U => va_X B L xs U U.heap ∧ B < U.heap.size)) (fun _ st oc t => (∃ r : Int32, oc = .returned (some (.int r))) ∧ t.heap = st.heap) 0 0 (gA lo) := by
  refine Met.ofW (cc := cL_cell) (maxL := 2) (ret := some .int) (by decide) rfl ?_
  intro p e s m args below meth c s₁ B0 hml hv
  obtain ⟨rfl, hX, hbl⟩ := hv
  have hl := lv_entry [.ref B, .int (nI k)] (n := 2) (Nat.le_of_ble_eq_true rfl)
  rw [lg_entry_eq]
  have hx := B0.exec
  have hb := B0.bytes
  have hr := B0.returns
  have hlk := B0.notSynchronized
  have hts : ∀ w ∈ wsL_cell, w.before ([.ref B, .int (nI k)] : List Value).toArray s = true := atoms_spec (ws := wsL_cell) B0.pre
  have hown : s.vm.findClass RL = some m.cls := findClass_of_methodNamed B0.named
  have hbA : ¬ gA lo B := Nat.not_le.mpr hBlo
  have hS : va_S (gA lo) s.heap s.heap [] := va_S.rf
  have body : ∀ ls : Array Slot, lv_has ls 2 [(0, .ref B), (1, .int (nI k))] → W p l e ({ frames := 0, cells := 0, slots := 0, locals := 0 } : Room) s m ([.ref B, .int (nI k)] : List Value).toArray below meth c s.heap [] 0 0 (MQ below (fun _ st oc t => (∃ r : Int32, oc = .returned (some (.int r))) ∧ t.heap = st.heap) ([.ref B, .int (nI k)] : List Value).toArray s 0 0 (gA lo)) (F0 m 0 ls []) := by
    intro ls hl
    refine lv_iload_n hx hb dL_cell_0 rfl (lv_at hl 1 rfl) ?_
    refine lv_aload_n hx hb dL_cell_1 rfl (lv_at hl 0 rfl) ?_
    refine va_slen hx hb hX hbl hbA hS dL_cell_2 ?_
    refine g_icmp_ge (tgt := 12) (a := k) (b := L) hx hb (by omega) (by omega) dL_cell_3 (by decide) (fun c3 => ?_) (fun c3 => ?_)
    · refine lv_ldc (v := 9850007) hx hb hown (hts (.constant RL 7 (9850007)) (by decide +kernel)) dL_cell_12 ?_
      refine lv_iload_n hx hb dL_cell_14 rfl (lv_at hl 1 rfl) ?_
      refine lv_imul hx hb dL_cell_15 ?_
      refine lv_sipush (v := nI 9109) hx hb dL_cell_16 (by decide) ?_
      refine lv_iadd hx hb dL_cell_19 ?_
      exact W.iret hx hb hr (fun t ht _ => ⟨⟨_, rfl⟩, ht⟩) hS.2.2 dL_cell_20 hlk
    · refine lv_aload_n hx hb dL_cell_6 rfl (lv_at hl 0 rfl) ?_
      refine lv_iload_n hx hb dL_cell_7 rfl (lv_at hl 1 rfl) ?_
      refine va_sld (i := nI k) hx hb hX hbl hbA hS (vp_in_nI (by omega) (by omega)) dL_cell_8 ?_
      refine lv_goto (tgt := 20) hx hb dL_cell_9 (by decide) ?_
      exact W.iret hx hb hr (fun t ht _ => ⟨⟨_, rfl⟩, ht⟩) hS.2.2 dL_cell_20 hlk
  exact body _ hl
theorem cell_pre {B L k lo : Nat} {xs : Nat → Int32} {H : Heap} {locs : List Loc} {s : State} (hX : va_X B L xs s s.heap) (hbl : B < s.heap.size) (hBlo : B < lo) (hS : va_S (gA lo) s.heap H locs) : PreS s H (va_Pc [.ref B, .int (nI k)] (fun U => va_X B L xs U U.heap ∧ B < U.heap.size)) [.ref B, .int (nI k)] :=
  ⟨fun a U g mk q => ⟨q.1, va_X.moved (u := U) (U := U.calling g mk a) (Vm.Alike.refl _) q.2.1, q.2.2⟩, fun U hU hW => ⟨rfl, by rw [hU]; exact va_X.moved hW.alike (hX.kept (hS.2.1 B hbl (Nat.not_le.mpr hBlo))), by rw [hU]; exact Nat.lt_of_lt_of_le hbl hS.1⟩⟩
theorem g_callc {p : Program} {l : Launch} {e : Env} {R : Room} {s : State} {m : MethodId} {args : Array Value} {below : List Frame} {meth : Method} {c : Code} {H : Heap} {locs : List Loc} {cells slots : Nat} {Q : State → Prop} {pc lo : Nat} {ls : Array Slot} {rest st0 : List Value}
    (hr : va_Run p l e R s m args below meth c H locs cells slots 0 0 (F0 m pc ls st0) rest (fun st oc t => (∃ r : Int32, oc = .returned (some (.int r))) ∧ t.heap = st.heap) (gA lo)) (hS : va_S (gA lo) s.heap H locs)
    (kk : ∀ (r : Int32) (locs1 : List Loc), va_S (gA lo) s.heap H locs1 → W p l e R s m args below meth c H locs1 cells slots Q (F0 m (pc + 3) ls (.int r :: rest))) : W p l e R s m args below meth c H locs cells slots Q (F0 m pc ls st0) := by
  intro T hT X
  obtain ⟨v, st₀, t, T', Lo, h0, X', hL, e1, e2, ⟨⟨r, hv⟩, hh⟩, st⟩ := hr T hT X
  cases hv
  obtain ⟨t2, a1, b1⟩ := kk r (locs ++ Lo) ⟨hS.1, hS.2.1, fun q hq => by
    rcases List.mem_append.mp hq with h | h
    · exact hS.2.2 q h
    · exact hL q h⟩ T' (by rw [e1, hh, h0]) X'
  exact ⟨t2, st t2 a1, b1⟩
