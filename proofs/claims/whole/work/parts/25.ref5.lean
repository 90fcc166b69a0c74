/-! the reference acts, on -/
theorem und_s {A : sS} {a k : Nat} : sRow (sRow A 1 (cpyF (A 1) (fun j => A 3 (a + j)) k)) 1 (upd ((sRow A 1 (cpyF (A 1) (fun j => A 3 (a + j)) k)) 1) k ((sRow A 1 (cpyF (A 1) (fun j => A 3 (a + j)) k)) 3 (a + k))) = sRow A 1 (cpyF (A 1) (fun j => A 3 (a + j)) (k + 1)) := by
  rw [sRow_2, sRow_s, sRow_n (by decide)]
  exact congrArg _ (cpyF_s (A 1) (fun j => A 3 (a + j)) k)
theorem res_s {A : sS} {a k : Nat} : sRow (sRow A 1 (cpyF (A 1) (fun j => A 4 (a + j)) k)) 1 (upd ((sRow A 1 (cpyF (A 1) (fun j => A 4 (a + j)) k)) 1) k ((sRow A 1 (cpyF (A 1) (fun j => A 4 (a + j)) k)) 4 (a + k))) = sRow A 1 (cpyF (A 1) (fun j => A 4 (a + j)) (k + 1)) := by
  rw [sRow_2, sRow_s, sRow_n (by decide)]
  exact congrArg _ (cpyF_s (A 1) (fun j => A 4 (a + j)) k)
theorem kee_s {B : sS} {a u : Nat} : sRow (sRow B 4 (wrB (B 4) (B 1) a u)) 4 (upd ((sRow B 4 (wrB (B 4) (B 1) a u)) 4) (a + u) ((sRow B 4 (wrB (B 4) (B 1) a u)) 1 u)) = sRow B 4 (wrB (B 4) (B 1) a (u + 1)) := by
  rw [sRow_2, sRow_s, sRow_n (by decide), wrB_s]
theorem fil_s {A : sS} {a k : Nat} {v : Int32} : sRow (sRow A 1 (filF (A 1) a (a + k) v)) 1 (upd ((sRow A 1 (filF (A 1) a (a + k) v)) 1) (a + k) v) = sRow A 1 (filF (A 1) a (a + (k + 1)) v) := by
  rw [sRow_2, sRow_s, filF_s (by omega)]; rfl
theorem filF_in {f : Nat → Int32} {a k j : Nat} {v : Int32} (h : a ≤ j ∧ j < k) : filF f a k v j = v := by simp only [filF]; rw [if_pos h]
theorem filF_out {f : Nat → Int32} {a k j : Nat} {v : Int32} (h : j < a ∨ k ≤ j) : filF f a k v j = f j := by simp only [filF]; rw [if_neg (by omega)]
theorem nX8_clearText_X8 : ∀ w ∈ wsX80, w ∈ wsX8_clearText := by decide +kernel
set_option maxHeartbeats 4000000 in
set_option maxRecDepth 100000 in
theorem c_X8_clearText (l : Launch) (mo : Nat) (S : sS) (tf : Nat → Int32) (tn P : Nat) (C : Nat → sS) (kp : Nat → Bool) (σ : gS) (sz : Nat) (hW : Me σ mo S tf tn P C kp) (hok : okS S) (hokC : ∀ k : Nat, k < P → okS (C k)) : gM l yX8_clearText wsX8_clearText ({ frames := 0, cells := 0, slots := 0, locals := 0 } : Room) 0 0 [.ref mo] σ sz (gxi (fun r τ n => r = nI tn ∧ Me τ mo S tf 0 P C kp ∧ n = sz ∧ gAs (gZo mo 16) σ τ)) := by
  refine gM_of (cc := cX8_clearText) (maxL := 2) (ret := (some .int)) (by decide) rfl (Nat.le_of_ble_eq_true rfl) ?_
  intro D ka lo hL hlo p e s m below meth c hx hb hr hts hown hml hlk hnm hK H locs ls hz hP hS hl
  have hl : lv_has ls 2 [(0, .ref mo)] := hl
  have hown : s.vm.findClass RX8 = some m.cls := hown
  obtain ⟨A, hMo, hA⟩ := hW
  have hR := hA.2.2.1
  have hR0 := hR
  have hP0 := hA.1
  have htn0 := hA.2.1
  have hP5 : P ≤ 5 := hA.2.2.2.2.2.2.2.2
  have htn : tn ≤ 60 := hA.2.2.2.2.2.2.2.1
  obtain ⟨hB, hN, hKs, hRs⟩ := id hok
  have hag : gAs (gZo mo 16) σ σ := gAs.rf
  refine lv_aload_n hx hb dX8_clearText_0 rfl (lv_at hl 0 rfl) ?_
  refine g_get (C := RX8) (T := TX8) (N := 20) hx hb hts hown hK hP hMo.c0 nX8_clearText_X8 rfl 6 (by decide) (by decide +kernel) rfl (v := .int (nI (tN A 1))) rfl dX8_clearText_1 ?_
  refine lv_istore_n (lv' := [(1, .int (nI (tN A 1))), (0, .ref mo)]) hx hb dX8_clearText_4 rfl hl (by decide) rfl (fun ls hl => ?_)
  refine lv_aload_n hx hb dX8_clearText_5 rfl (lv_at hl 1 rfl) ?_
  refine lv_iconst (v := (nI 0)) hx hb dX8_clearText_6 (by decide) ?_
  refine g_put (C := RX8) (T := TX8) (N := 20) hx hb hts hown hK hP hL hS hMo.c0 nX8_clearText_X8 tyX8 tyX8_ok nmX8 rfl 6 (by decide) (by decide +kernel) rfl rfl (v := .int (nI 0)) rfl rfl (Nat.le_of_ble_eq_true rfl) dX8_clearText_7 (fun H locs hq hP hL hS => ?_)
  have hz := hq.trans hz
  obtain ⟨σ1, e1⟩ : ∃ υ0 : gS, υ0 = gup σ mo (gO 8 [.ref (mo + 1), .ref (mo + 2), .ref (mo + 3), .int (nI (tN A 0)), .ref (mo + 4), .ref (mo + 5), .int (nI 0), .ref (mo + 6), .int (nI (tN A 2)), .ref (mo + 7), .ref (mo + 8), .ref (mo + 9), .int (nI (tN A 3)), .ref (mo + 10), .ref (mo + 11), .ref (mo + 12), .int (nI (tN A 4)), .ref (mo + 13), .ref (mo + 14), .ref (mo + 15)]) := ⟨_, rfl⟩
  have hP : gH D ka σ1 H := by rw [e1]; exact hP
  have hL : gL lo σ1 := by rw [e1]; exact hL
  have hMo : MoAt σ1 mo (sPut A 0 1 (nI 0)) := by rw [e1]; exact hMo.p6 0 (by omega)
  have hag := hag.upe e1 (zo_0 (by decide))
  refine lv_iload_n hx hb dX8_clearText_10 rfl (lv_at hl 0 rfl) ?_
  exact g_iret (z := sz) hx hb hr hlk hz hP hL hS dX8_clearText_11 (gxi_i ⟨(congrArg nI htn0), ⟨_, hMo, by obtain ⟨h1, h2, h3, h4, h5, h6, h7, h8, h9⟩ := hA; exact ⟨(tN_n (by decide)).trans h1, tN_s (by decide), h3, h4, h5, h6, fun j hj => absurd hj (Nat.not_lt_zero _), by omega, h9⟩⟩, rfl, hag⟩)

theorem nX8_type_X8 : ∀ w ∈ wsX80, w ∈ wsX8_type := by decide +kernel
set_option maxHeartbeats 4000000 in
set_option maxRecDepth 100000 in
theorem c_X8_type (l : Launch) (mo : Nat) (S : sS) (tf : Nat → Int32) (tn P : Nat) (C : Nat → sS) (kp : Nat → Bool) (a1 : Int32) (σ : gS) (sz : Nat) (hW : Me σ mo S tf tn P C kp) (hok : okS S) (hokC : ∀ k : Nat, k < P → okS (C k)) (hch : vp_nar .char a1 = a1) : gM l yX8_type wsX8_type ({ frames := 0, cells := 0, slots := 0, locals := 0 } : Room) 0 0 [.ref mo, .int a1] σ sz (gxi (fun r τ n => r = (if tn < 60 then nI (tn + 1) else -3) ∧ Me τ mo S (if tn < 60 then upd tf tn a1 else tf) (if tn < 60 then tn + 1 else tn) P C kp ∧ n = sz ∧ gAs (gZo mo 16) σ τ)) := by
  refine gM_of (cc := cX8_type) (maxL := 2) (ret := (some .int)) (by decide) rfl (Nat.le_of_ble_eq_true rfl) ?_
  intro D ka lo hL hlo p e s m below meth c hx hb hr hts hown hml hlk hnm hK H locs ls hz hP hS hl
  have hl : lv_has ls 2 [(0, .ref mo), (1, .int a1)] := hl
  have hown : s.vm.findClass RX8 = some m.cls := hown
  obtain ⟨A, hMo, hA⟩ := hW
  have hR := hA.2.2.1
  have hR0 := hR
  have hP0 := hA.1
  have htn0 := hA.2.1
  have hP5 : P ≤ 5 := hA.2.2.2.2.2.2.2.2
  have htn : tn ≤ 60 := hA.2.2.2.2.2.2.2.1
  obtain ⟨hB, hN, hKs, hRs⟩ := id hok
  have hag : gAs (gZo mo 16) σ σ := gAs.rf
  refine lv_aload_n hx hb dX8_type_0 rfl (lv_at hl 0 rfl) ?_
  refine g_get (C := RX8) (T := TX8) (N := 20) hx hb hts hown hK hP hMo.c0 nX8_type_X8 rfl 6 (by decide) (by decide +kernel) rfl (v := .int (nI (tN A 1))) rfl dX8_type_1 ?_
  refine g_top (y := (nI tn)) (congrArg nI htn0) ?_
  refine lv_bipush (v := (nI 60)) hx hb dX8_type_4 (by decide) ?_
  refine g_icmp_ne (tgt := 12) (a := tn) (b := 60) hx hb (by omega) (by omega) dX8_type_6 (by decide) (fun c6 => ?_) (fun c6 => ?_)
  · refine lv_aload_n hx hb dX8_type_12 rfl (lv_at hl 0 rfl) ?_
    refine g_get (C := RX8) (T := TX8) (N := 20) hx hb hts hown hK hP hMo.c0 nX8_type_X8 rfl 7 (by decide) (by decide +kernel) rfl (v := .ref (mo + 6)) rfl dX8_type_13 ?_
    refine lv_aload_n hx hb dX8_type_16 rfl (lv_at hl 0 rfl) ?_
    refine g_get (C := RX8) (T := TX8) (N := 20) hx hb hts hown hK hP hMo.c0 nX8_type_X8 rfl 6 (by decide) (by decide +kernel) rfl (v := .int (nI (tN A 1))) rfl dX8_type_17 ?_
    refine g_top (y := (nI tn)) (congrArg nI htn0) ?_
    refine lv_iload_n hx hb dX8_type_20 rfl (lv_at hl 1 rfl) ?_
    refine g_cast hx hb hK hP hL hS hMo.c6 (i := nI tn) (vp_in_nI (by omega) (by omega)) dX8_type_21 (fun H locs hq hP hL hS => ?_)
    rw [nI_clamp (n := tn) (by omega)] at hP hL
    have hz := hq.trans hz
    obtain ⟨σ1, e1⟩ : ∃ υ0 : gS, υ0 = gup σ (mo + 6) (gT 60 (upd (A 6) tn (vp_nar .char a1))) := ⟨_, rfl⟩
    have hP : gH D ka σ1 H := by rw [e1]; exact hP
    have hL : gL lo σ1 := by rw [e1]; exact hL
    have hMo : MoAt σ1 mo (sRow A 6 (upd (A 6) tn (vp_nar .char a1))) := by rw [e1]; exact hMo.w6 (upd (A 6) tn (vp_nar .char a1))
    have hag := hag.upe e1 (zo_k (by decide))
    refine lv_aload_n hx hb dX8_type_22 rfl (lv_at hl 0 rfl) ?_
    refine lv_dup hx hb dX8_type_23 rfl ?_
    refine g_get (C := RX8) (T := TX8) (N := 20) hx hb hts hown hK hP hMo.c0 nX8_type_X8 rfl 6 (by decide) (by decide +kernel) rfl (v := .int (nI (tN (sRow A 6 (upd (A 6) tn (vp_nar .char a1))) 1))) rfl dX8_type_24 ?_
    refine g_top (y := (nI tn)) (congrArg nI htn0) ?_
    refine lv_iconst (v := (nI 1)) hx hb dX8_type_27 (by decide) ?_
    refine lv_iadd hx hb dX8_type_28 ?_
    refine g_top (nI_add tn 1) ?_
    refine g_put (C := RX8) (T := TX8) (N := 20) hx hb hts hown hK hP hL hS hMo.c0 nX8_type_X8 tyX8 tyX8_ok nmX8 rfl 6 (by decide) (by decide +kernel) rfl rfl (v := .int (nI (tn + 1))) rfl rfl (Nat.le_of_ble_eq_true rfl) dX8_type_29 (fun H locs hq hP hL hS => ?_)
    have hz := hq.trans hz
    obtain ⟨σ2, e2⟩ : ∃ υ0 : gS, υ0 = gup σ1 mo (gO 8 [.ref (mo + 1), .ref (mo + 2), .ref (mo + 3), .int (nI (tN (sRow A 6 (upd (A 6) tn (vp_nar .char a1))) 0)), .ref (mo + 4), .ref (mo + 5), .int (nI (tn + 1)), .ref (mo + 6), .int (nI (tN (sRow A 6 (upd (A 6) tn (vp_nar .char a1))) 2)), .ref (mo + 7), .ref (mo + 8), .ref (mo + 9), .int (nI (tN (sRow A 6 (upd (A 6) tn (vp_nar .char a1))) 3)), .ref (mo + 10), .ref (mo + 11), .ref (mo + 12), .int (nI (tN (sRow A 6 (upd (A 6) tn (vp_nar .char a1))) 4)), .ref (mo + 13), .ref (mo + 14), .ref (mo + 15)]) := ⟨_, rfl⟩
    have hP : gH D ka σ2 H := by rw [e2]; exact hP
    have hL : gL lo σ2 := by rw [e2]; exact hL
    have hMo : MoAt σ2 mo (sPut (sRow A 6 (upd (A 6) tn (vp_nar .char a1))) 0 1 (nI (tn + 1))) := by rw [e2]; exact hMo.p6 (tn + 1) (by omega)
    have hag := hag.upe e2 (zo_0 (by decide))
    refine lv_aload_n hx hb dX8_type_32 rfl (lv_at hl 0 rfl) ?_
    refine g_get (C := RX8) (T := TX8) (N := 20) hx hb hts hown hK hP hMo.c0 nX8_type_X8 rfl 6 (by decide) (by decide +kernel) rfl (v := .int (nI (tN (sPut (sRow A 6 (upd (A 6) tn (vp_nar .char a1))) 0 1 (nI (tn + 1))) 1))) rfl dX8_type_33 ?_
    refine g_top (y := (nI (tn + 1))) (congrArg nI (tN_s (by omega))) ?_
    exact g_iret (z := sz) hx hb hr hlk hz hP hL hS dX8_type_36 (gxi_i ⟨by rw [if_pos (by omega)], by rw [if_pos (by omega), if_pos (by omega)]; exact ⟨_, hMo, by obtain ⟨h1, h2, h3, h4, h5, h6, h7, h8, h9⟩ := hA; exact ⟨(tN_n (by decide)).trans h1, tN_s (by omega), h3, h4, h5, h6, fun j hj => by
        rw [sPut_n (by decide), sRow_s]
        by_cases c : j = tn
        · subst c; rw [upd_s, upd_s, hch]
        · rw [upd_n c, upd_n c]; exact h7 j (by omega), by omega, h9⟩⟩, rfl, hag⟩)
  · refine lv_bipush (v := (-3)) hx hb dX8_type_9 (by decide) ?_
    exact g_iret (z := sz) hx hb hr hlk hz hP hL hS dX8_type_11 (gxi_i ⟨by rw [if_neg (by omega)], by rw [if_neg (by omega), if_neg (by omega)]; exact ⟨_, hMo, hA⟩, rfl, hag⟩)

theorem nX8_undo_X8 : ∀ w ∈ wsX80, w ∈ wsX8_undo := by decide +kernel
set_option maxHeartbeats 4000000 in
set_option maxRecDepth 100000 in
theorem c_X8_undo (l : Launch) (mo : Nat) (S : sS) (tf : Nat → Int32) (tn P : Nat) (C : Nat → sS) (kp : Nat → Bool) (σ : gS) (sz : Nat) (hW : Me σ mo S tf tn P C kp) (hok : okS S) (hokC : ∀ k : Nat, k < P → okS (C k)) : gM l yX8_undo wsX8_undo ({ frames := 0, cells := 0, slots := 0, locals := 0 } : Room) 0 0 [.ref mo] σ sz (gxi (fun r τ n => r = (if P = 0 then -5 else nI (P - 1)) ∧ Me τ mo (if P = 0 then S else C (P - 1)) tf tn (P - 1) C kp ∧ n = sz ∧ gAs (gZo mo 16) σ τ)) := by
  refine gM_of (cc := cX8_undo) (maxL := 2) (ret := (some .int)) (by decide) rfl (Nat.le_of_ble_eq_true rfl) ?_
  intro D ka lo hL hlo p e s m below meth c hx hb hr hts hown hml hlk hnm hK H locs ls hz hP hS hl
  have hl : lv_has ls 2 [(0, .ref mo)] := hl
  have hown : s.vm.findClass RX8 = some m.cls := hown
  obtain ⟨A, hMo, hA⟩ := hW
  have hR := hA.2.2.1
  have hR0 := hR
  have hP0 := hA.1
  have htn0 := hA.2.1
  have hP5 : P ≤ 5 := hA.2.2.2.2.2.2.2.2
  have htn : tn ≤ 60 := hA.2.2.2.2.2.2.2.1
  obtain ⟨hB, hN, hKs, hRs⟩ := id hok
  have hag : gAs (gZo mo 16) σ σ := gAs.rf
  refine lv_aload_n hx hb dX8_undo_0 rfl (lv_at hl 0 rfl) ?_
  refine g_get (C := RX8) (T := TX8) (N := 20) hx hb hts hown hK hP hMo.c0 nX8_undo_X8 rfl 3 (by decide) (by decide +kernel) rfl (v := .int (nI (tN A 0))) rfl dX8_undo_1 ?_
  refine g_top (y := (nI P)) (congrArg nI hP0) ?_
  refine g_if_ne (tgt := 10) hx hb (by omega) dX8_undo_4 (by decide) (fun c4 => ?_) (fun c4 => ?_)
  · refine lv_aload_n hx hb dX8_undo_10 rfl (lv_at hl 0 rfl) ?_
    refine lv_dup hx hb dX8_undo_11 rfl ?_
    refine g_get (C := RX8) (T := TX8) (N := 20) hx hb hts hown hK hP hMo.c0 nX8_undo_X8 rfl 3 (by decide) (by decide +kernel) rfl (v := .int (nI (tN A 0))) rfl dX8_undo_12 ?_
    refine g_top (y := (nI P)) (congrArg nI hP0) ?_
    refine lv_iconst (v := (nI 1)) hx hb dX8_undo_15 (by decide) ?_
    refine lv_isub hx hb dX8_undo_16 ?_
    refine g_top (pk_sub (by omega : 1 ≤ P)) ?_
    refine g_put (C := RX8) (T := TX8) (N := 20) hx hb hts hown hK hP hL hS hMo.c0 nX8_undo_X8 tyX8 tyX8_ok nmX8 rfl 3 (by decide) (by decide +kernel) rfl rfl (v := .int (nI (P - 1))) rfl rfl (Nat.le_of_ble_eq_true rfl) dX8_undo_17 (fun H locs hq hP hL hS => ?_)
    have hz := hq.trans hz
    obtain ⟨σ1, e1⟩ : ∃ υ0 : gS, υ0 = gup σ mo (gO 8 [.ref (mo + 1), .ref (mo + 2), .ref (mo + 3), .int (nI (P - 1)), .ref (mo + 4), .ref (mo + 5), .int (nI (tN A 1)), .ref (mo + 6), .int (nI (tN A 2)), .ref (mo + 7), .ref (mo + 8), .ref (mo + 9), .int (nI (tN A 3)), .ref (mo + 10), .ref (mo + 11), .ref (mo + 12), .int (nI (tN A 4)), .ref (mo + 13), .ref (mo + 14), .ref (mo + 15)]) := ⟨_, rfl⟩
    have hP : gH D ka σ1 H := by rw [e1]; exact hP
    have hL : gL lo σ1 := by rw [e1]; exact hL
    have hMo : MoAt σ1 mo (sPut A 0 0 (nI (P - 1))) := by rw [e1]; exact hMo.p3 (P - 1) (by omega)
    have hag := hag.upe e1 (zo_0 (by decide))
    obtain ⟨A1, hMo, hA10, hA1i, hA1r⟩ : ∃ A1 : sS, MoAt σ1 mo A1 ∧ tN A1 0 = P - 1 ∧ (∀ i : Nat, 1 ≤ i → i < 5 → tN A1 i = tN A i) ∧ (∀ j : Nat, j ≠ 0 → A1 j = A j) := ⟨_, hMo, tN_s (by omega), fun i h1 h2 => tN_n (by omega), fun j hj => sPut_n hj⟩
    refine lv_iconst (v := (nI 0)) hx hb dX8_undo_20 (by decide) ?_
    refine lv_istore_n (lv' := [(1, .int (nI 0)), (0, .ref mo)]) hx hb dX8_undo_21 rfl hl (by decide) rfl (fun ls hl => ?_)
    have lp : ∀ (fu_lp : Nat) (u : Nat), (u ≤ 292) → (292 - u < fu_lp) → ∀ (υ : gS), (MoAt υ mo (sRow A1 1 (cpyF (A1 1) (fun j => A1 3 (292 * (P - 1) + j)) u))) → (gAs (gZo mo 16) σ υ) → gL lo υ → ∀ (H : Heap) (locs : List Loc) (ls : Array Slot), H.size = sz → gH D ka υ H → va_S (gA lo) s.heap H locs → lv_has ls 2 [(0, .ref mo), (1, .int (nI u))] → W p l e ({ frames := 0, cells := 0, slots := 0, locals := 0 } : Room) s m ([.ref mo] : List Value).toArray below meth c H locs (0) (0) (MQ below (gQ D ka lo (gxi (fun r τ n => r = (if P = 0 then -5 else nI (P - 1)) ∧ Me τ mo (if P = 0 then S else C (P - 1)) tf tn (P - 1) C kp ∧ n = sz ∧ gAs (gZo mo 16) σ τ))) ([.ref mo] : List Value).toArray s 0 0 (gA lo)) (F0 m 22 ls []) := by
      intro fu_lp
      induction fu_lp with
      | zero => intro u hu hm_lp; exact absurd hm_lp (Nat.not_lt_zero _)
      | succ fu_lp ih_lp =>
        intro u hu hm_lp υ hMo hag hL H locs ls hz hP hS hl
        refine lv_iload_n hx hb dX8_undo_22 rfl (lv_at hl 1 rfl) ?_
        refine lv_sipush (v := (nI 292)) hx hb dX8_undo_23 (by decide) ?_
        refine g_icmp_ge (tgt := 56) (a := u) (b := 292) hx hb (by omega) (by omega) dX8_undo_26 (by decide) (fun c26 => ?_) (fun c26 => ?_)
        · refine lv_aload_n hx hb dX8_undo_56 rfl (lv_at hl 0 rfl) ?_
          refine g_get (C := RX8) (T := TX8) (N := 20) hx hb hts hown hK hP hMo.c0 nX8_undo_X8 rfl 3 (by decide) (by decide +kernel) rfl (v := .int (nI (tN (sRow A1 1 (cpyF (A1 1) (fun j => A1 3 (292 * (P - 1) + j)) u)) 0))) rfl dX8_undo_57 ?_
          refine g_top (y := (nI (P - 1))) (congrArg nI hA10) ?_
          exact g_iret (z := sz) hx hb hr hlk hz hP hL hS dX8_undo_60 (gxi_i ⟨by rw [if_neg (by omega)], by rw [if_neg (by omega)]; exact ⟨_, hMo, by obtain ⟨h1, h2, h3, h4, h5, h6, h7, h8, h9⟩ := hA; exact ⟨hA10, (hA1i 1 (by decide) (by decide)).trans h2, by
        refine (h4 (P - 1) (by omega)).congr (hokC _ (by omega)) (fun j hj => ?_)
        rw [sRow_s, cpyF_lt (by omega), hA1r 3 (by decide)], fun k hk => by rw [sRow_n (by decide), hA1r 3 (by decide)]; exact h4 k (by omega), fun k hk hkp => by rw [sRow_n (by decide), hA1r 4 (by decide)]; exact h5 k hk hkp, fun k hk => by rw [sRow_n (by decide), hA1r 5 (by decide)]; exact h6 k hk, fun j hj => by rw [sRow_n (by decide), hA1r 6 (by decide)]; exact h7 j hj, h8, by omega⟩⟩, rfl, hag⟩)
        · refine lv_aload_n hx hb dX8_undo_29 rfl (lv_at hl 0 rfl) ?_
          refine g_get (C := RX8) (T := TX8) (N := 20) hx hb hts hown hK hP hMo.c0 nX8_undo_X8 rfl 0 (by decide) (by decide +kernel) rfl (v := .ref (mo + 1)) rfl dX8_undo_30 ?_
          refine lv_iload_n hx hb dX8_undo_33 rfl (lv_at hl 1 rfl) ?_
          refine lv_aload_n hx hb dX8_undo_34 rfl (lv_at hl 0 rfl) ?_
          refine g_get (C := RX8) (T := TX8) (N := 20) hx hb hts hown hK hP hMo.c0 nX8_undo_X8 rfl 2 (by decide) (by decide +kernel) rfl (v := .ref (mo + 3)) rfl dX8_undo_35 ?_
          refine lv_sipush (v := (nI 292)) hx hb dX8_undo_38 (by decide) ?_
          refine lv_aload_n hx hb dX8_undo_41 rfl (lv_at hl 0 rfl) ?_
          refine g_get (C := RX8) (T := TX8) (N := 20) hx hb hts hown hK hP hMo.c0 nX8_undo_X8 rfl 3 (by decide) (by decide +kernel) rfl (v := .int (nI (tN (sRow A1 1 (cpyF (A1 1) (fun j => A1 3 (292 * (P - 1) + j)) u)) 0))) rfl dX8_undo_42 ?_
          refine g_top (y := (nI (P - 1))) (congrArg nI hA10) ?_
          refine lv_imul hx hb dX8_undo_45 ?_
          refine g_top (pk_mul 292 (P - 1)) ?_
          refine lv_iload_n hx hb dX8_undo_46 rfl (lv_at hl 1 rfl) ?_
          refine lv_iadd hx hb dX8_undo_47 ?_
          refine g_top (nI_add (292 * (P - 1)) u) ?_
          refine g_iald hx hb hK hP hMo.c3 (i := nI ((292 * (P - 1)) + u)) (vp_in_nI (by omega) (by omega)) dX8_undo_48 ?_
          rw [nI_clamp (n := (292 * (P - 1)) + u) (by omega)]
          refine g_iast hx hb hK hP hL hS hMo.c1 (i := nI u) (vp_in_nI (by omega) (by omega)) dX8_undo_49 (fun H locs hq hP hL hS => ?_)
          rw [nI_clamp (n := u) (by omega)] at hP hL
          have hz := hq.trans hz
          obtain ⟨σ2, e2⟩ : ∃ υ0 : gS, υ0 = gup υ (mo + 1) (gI 292 (upd ((sRow A1 1 (cpyF (A1 1) (fun j => A1 3 (292 * (P - 1) + j)) u)) 1) u ((((sRow A1 1 (cpyF (A1 1) (fun j => A1 3 (292 * (P - 1) + j)) u)) 3) ((292 * (P - 1)) + u))))) := ⟨_, rfl⟩
          have hP : gH D ka σ2 H := by rw [e2]; exact hP
          have hL : gL lo σ2 := by rw [e2]; exact hL
          have hMo : MoAt σ2 mo (sRow (sRow A1 1 (cpyF (A1 1) (fun j => A1 3 (292 * (P - 1) + j)) u)) 1 (upd ((sRow A1 1 (cpyF (A1 1) (fun j => A1 3 (292 * (P - 1) + j)) u)) 1) u ((((sRow A1 1 (cpyF (A1 1) (fun j => A1 3 (292 * (P - 1) + j)) u)) 3) ((292 * (P - 1)) + u))))) := by rw [e2]; exact hMo.w1 (upd ((sRow A1 1 (cpyF (A1 1) (fun j => A1 3 (292 * (P - 1) + j)) u)) 1) u ((((sRow A1 1 (cpyF (A1 1) (fun j => A1 3 (292 * (P - 1) + j)) u)) 3) ((292 * (P - 1)) + u))))
          have hag := hag.upe e2 (zo_k (by decide))
          refine lv_iinc (v := (nI (u + 1))) (lv' := [(1, .int (nI (u + 1))), (0, .ref mo)]) hx hb dX8_undo_50 hl (k := 1) rfl (g_inc u 1) (by decide) rfl (fun ls hl => ?_)
          refine lv_goto (tgt := 22) hx hb dX8_undo_53 (by decide) ?_
          exact ih_lp (u + 1) (by omega) (by omega) σ2 (by rw [← und_s]; exact hMo) hag hL H locs ls hz hP hS (lv_sub hl [1, 0] rfl)
    exact lp _ 0 (by omega) (Nat.lt_succ_self _) σ1 (by rw [cpyF_0, sRow_id]; exact hMo) hag hL H locs ls hz hP hS (lv_sub hl [1, 0] rfl)
  · refine lv_bipush (v := (-5)) hx hb dX8_undo_7 (by decide) ?_
    exact g_iret (z := sz) hx hb hr hlk hz hP hL hS dX8_undo_9 (gxi_i ⟨by rw [if_pos (by omega)], by rw [if_pos (by omega), show P - 1 = P by omega]; exact ⟨_, hMo, hA⟩, rfl, hag⟩)

theorem nX8_keep_X8 : ∀ w ∈ wsX80, w ∈ wsX8_keep := by decide +kernel
set_option maxHeartbeats 4000000 in
set_option maxRecDepth 100000 in
theorem c_X8_keep (l : Launch) (mo : Nat) (S : sS) (tf : Nat → Int32) (tn P : Nat) (C : Nat → sS) (kp : Nat → Bool) (a1 : Int32) (σ : gS) (sz : Nat) (hW : Me σ mo S tf tn P C kp) (hok : okS S) (hokC : ∀ k : Nat, k < P → okS (C k)) (hokK : ∀ k : Nat, k < 2 → kp k = true → okS (C (k + 5))) : gM l yX8_keep wsX8_keep ({ frames := 1, cells := 0, slots := 0, locals := 22 } : Room) 0 0 [.ref mo, .int a1] σ sz (gxi (fun r τ n => r = (if inN a1 2 = true then nI (sB S) else -1) ∧ Me τ mo S tf tn P (keepC C S a1) (keepK kp a1) ∧ n = sz ∧ gAs (gZo mo 16) σ τ)) := by
  refine gM_of (cc := cX8_keep) (maxL := 3) (ret := (some .int)) (by decide) rfl (Nat.le_of_ble_eq_true rfl) ?_
  intro D ka lo hL hlo p e s m below meth c hx hb hr hts hown hml hlk hnm hK H locs ls hz hP hS hl
  have hl : lv_has ls 3 [(0, .ref mo), (1, .int a1)] := hl
  have hown : s.vm.findClass RX8 = some m.cls := hown
  obtain ⟨A, hMo, hA⟩ := hW
  have hR := hA.2.2.1
  have hR0 := hR
  have hP0 := hA.1
  have htn0 := hA.2.1
  have hP5 : P ≤ 5 := hA.2.2.2.2.2.2.2.2
  have htn : tn ≤ 60 := hA.2.2.2.2.2.2.2.1
  obtain ⟨hB, hN, hKs, hRs⟩ := id hok
  have hag : gAs (gZo mo 16) σ σ := gAs.rf
  refine lv_iload_n hx hb dX8_keep_0 rfl (lv_at hl 1 rfl) ?_
  refine lv_iconst (v := (nI 0)) hx hb dX8_keep_1 (by decide) ?_
  refine lv_iconst (v := (nI 1)) hx hb dX8_keep_2 (by decide) ?_
  refine g_runS (As := [.int a1, .int (nI 0), .int (nI 1)]) (rest := []) (own := RX8) 3 hx hb hml hown hts hK hz hP hL hS hlo hl.1 (c_X8_in l a1 ((nI 0)) ((nI 1)) σ sz) gX8_keep_X8_in rfl rfl rfl (by decide +kernel) ⟨Nat.le_of_ble_eq_true rfl, Nat.le_of_ble_eq_true rfl⟩ rfl rfl (Nat.le_of_ble_eq_true rfl) dX8_keep_3 ⟨Nat.le_of_ble_eq_true rfl, Nat.le_of_ble_eq_true rfl⟩ (g_ki0 (fun H locs hz hP hL hS => ?_))
  refine g_top (y := (bI (inN a1 2))) (congrArg bI (inB_01 a1)) ?_
  refine g_ifb_ne (tgt := 11) hx hb dX8_keep_6 (by decide) (fun c6 => ?_) (fun c6 => ?_)
  · obtain ⟨ha1e, ha1l⟩ := tk_in c6 (by omega)
    refine lv_aload_n hx hb dX8_keep_11 rfl (lv_at hl 0 rfl) ?_
    refine g_get (C := RX8) (T := TX8) (N := 20) hx hb hts hown hK hP hMo.c0 nX8_keep_X8 rfl 5 (by decide) (by decide +kernel) rfl (v := .ref (mo + 5)) rfl dX8_keep_12 ?_
    refine lv_iload_n hx hb dX8_keep_15 rfl (lv_at hl 1 rfl) ?_
    refine g_top (y := (nI (tk a1))) ha1e ?_
    refine lv_iconst (v := (nI 1)) hx hb dX8_keep_16 (by decide) ?_
    refine g_zast hx hb hK hP hL hS hMo.c5 (i := nI (tk a1)) (vp_in_nI (by omega) (by omega)) dX8_keep_17 (fun H locs hq hP hL hS => ?_)
    rw [nI_clamp (n := tk a1) (by omega)] at hP hL
    have hz := hq.trans hz
    obtain ⟨σ1, e1⟩ : ∃ υ0 : gS, υ0 = gup σ (mo + 5) (gZ 2 (upd (A 5) (tk a1) (vp_nar .boolean ((nI 1))))) := ⟨_, rfl⟩
    have hP : gH D ka σ1 H := by rw [e1]; exact hP
    have hL : gL lo σ1 := by rw [e1]; exact hL
    have hMo : MoAt σ1 mo (sRow A 5 (upd (A 5) (tk a1) (vp_nar .boolean ((nI 1))))) := by rw [e1]; exact hMo.w5 (upd (A 5) (tk a1) (vp_nar .boolean ((nI 1))))
    have hag := hag.upe e1 (zo_k (by decide))
    obtain ⟨B, hMo, hB0, hBr, hB5⟩ : ∃ B : sS, MoAt σ1 mo B ∧ B 0 = A 0 ∧ (∀ j : Nat, j ≠ 5 → B j = A j) ∧ B 5 = upd (A 5) (tk a1) (nI 1) := ⟨_, hMo, sRow_n (by decide), fun j hj => sRow_n hj, sRow_s _ _ _⟩
    refine lv_iconst (v := (nI 0)) hx hb dX8_keep_18 (by decide) ?_
    refine lv_istore_n (lv' := [(2, .int (nI 0)), (0, .ref mo), (1, .int a1)]) hx hb dX8_keep_19 rfl hl (by decide) rfl (fun ls hl => ?_)
    have lp : ∀ (fu_lp : Nat) (u : Nat), (u ≤ 292) → (292 - u < fu_lp) → ∀ (υ : gS), (MoAt υ mo (sRow B 4 (wrB (B 4) (B 1) (292 * tk a1) u))) → (gAs (gZo mo 16) σ υ) → gL lo υ → ∀ (H : Heap) (locs : List Loc) (ls : Array Slot), H.size = sz → gH D ka υ H → va_S (gA lo) s.heap H locs → lv_has ls 3 [(0, .ref mo), (1, .int a1), (2, .int (nI u))] → W p l e ({ frames := 1, cells := 0, slots := 0, locals := 22 } : Room) s m ([.ref mo, .int a1] : List Value).toArray below meth c H locs (0) (0) (MQ below (gQ D ka lo (gxi (fun r τ n => r = (if inN a1 2 = true then nI (sB S) else -1) ∧ Me τ mo S tf tn P (keepC C S a1) (keepK kp a1) ∧ n = sz ∧ gAs (gZo mo 16) σ τ))) ([.ref mo, .int a1] : List Value).toArray s 0 0 (gA lo)) (F0 m 20 ls []) := by
      intro fu_lp
      induction fu_lp with
      | zero => intro u hu hm_lp; exact absurd hm_lp (Nat.not_lt_zero _)
      | succ fu_lp ih_lp =>
        intro u hu hm_lp υ hMo hag hL H locs ls hz hP hS hl
        refine lv_iload_n hx hb dX8_keep_20 rfl (lv_at hl 2 rfl) ?_
        refine lv_sipush (v := (nI 292)) hx hb dX8_keep_21 (by decide) ?_
        refine g_icmp_ge (tgt := 51) (a := u) (b := 292) hx hb (by omega) (by omega) dX8_keep_24 (by decide) (fun c24 => ?_) (fun c24 => ?_)
        · have hR : Rr S ((sRow B 4 (wrB (B 4) (B 1) (292 * tk a1) u)) 1) := by rw [sRow_n (by decide), hBr 1 (by decide)]; exact hR0
          refine lv_aload_n hx hb dX8_keep_51 rfl (lv_at hl 0 rfl) ?_
          refine g_runV (As := []) (rest := []) (own := RX8) (C := RX8) (T := TX8) (N := 20) 0 hx hb hml hown hts hK hz hP hL hS hlo hl.1 (c_X8_beats l mo (sRow B 4 (wrB (B 4) (B 1) (292 * tk a1) u)) S  υ sz hMo hR) gX8_keep_X8_beats rfl rfl rfl (by decide +kernel) ⟨Nat.le_of_ble_eq_true rfl, Nat.le_of_ble_eq_true rfl⟩ hMo.c0 rfl rfl rfl (Nat.le_of_ble_eq_true rfl) dX8_keep_52 ⟨Nat.le_of_ble_eq_true rfl, Nat.le_of_ble_eq_true rfl⟩ (g_ki0 (fun H locs hz hP hL hS => ?_))
          exact g_iret (z := sz) hx hb hr hlk hz hP hL hS dX8_keep_55 (gxi_i ⟨by rw [if_pos c6], by rw [keepC, keepK, if_pos c6, if_pos c6]; exact ⟨_, hMo, by obtain ⟨h1, h2, h3, h4, h5, h6, h7, h8, h9⟩ := hA; exact ⟨by show (B 0 0).toNatClampNeg = P; rw [hB0]; exact h1, by show (B 0 1).toNatClampNeg = tn; rw [hB0]; exact h2, hR, fun k hk => by rw [sRow_n (by decide), hBr 3 (by decide), uS_n (by omega)]; exact h4 k hk, fun k hk hkp => by
        rw [sRow_s]
        by_cases c : k = tk a1
        · subst c
          rw [uS_s]
          refine h3.congr hok (fun j hj => ?_)
          rw [wrB_in (by omega), hBr 1 (by decide)]
        · rw [uS_n (by omega)]
          have hkp2 : kp k = true := by rw [← hkp]; exact (if_neg c).symm
          refine (h5 k hk hkp2).congr (hokK k hk hkp2) (fun j hj => ?_)
          rw [wrB_out (by omega), hBr 4 (by decide)], fun k hk => by
        rw [sRow_n (by decide), hB5]
        by_cases c : k = tk a1
        · subst c; rw [upd_s, upB, if_pos rfl]; rfl
        · rw [upd_n c, upB, if_neg c]; exact h6 k hk, fun j hj => by rw [sRow_n (by decide), hBr 6 (by decide)]; exact h7 j hj, h8, h9⟩⟩, rfl, hag⟩)
        · refine lv_aload_n hx hb dX8_keep_27 rfl (lv_at hl 0 rfl) ?_
          refine g_get (C := RX8) (T := TX8) (N := 20) hx hb hts hown hK hP hMo.c0 nX8_keep_X8 rfl 4 (by decide) (by decide +kernel) rfl (v := .ref (mo + 4)) rfl dX8_keep_28 ?_
          refine lv_sipush (v := (nI 292)) hx hb dX8_keep_31 (by decide) ?_
          refine lv_iload_n hx hb dX8_keep_34 rfl (lv_at hl 1 rfl) ?_
          refine g_top (y := (nI (tk a1))) ha1e ?_
          refine lv_imul hx hb dX8_keep_35 ?_
          refine g_top (pk_mul 292 (tk a1)) ?_
          refine lv_iload_n hx hb dX8_keep_36 rfl (lv_at hl 2 rfl) ?_
          refine lv_iadd hx hb dX8_keep_37 ?_
          refine g_top (nI_add (292 * (tk a1)) u) ?_
          refine lv_aload_n hx hb dX8_keep_38 rfl (lv_at hl 0 rfl) ?_
          refine g_get (C := RX8) (T := TX8) (N := 20) hx hb hts hown hK hP hMo.c0 nX8_keep_X8 rfl 0 (by decide) (by decide +kernel) rfl (v := .ref (mo + 1)) rfl dX8_keep_39 ?_
          refine lv_iload_n hx hb dX8_keep_42 rfl (lv_at hl 2 rfl) ?_
          refine g_iald hx hb hK hP hMo.c1 (i := nI u) (vp_in_nI (by omega) (by omega)) dX8_keep_43 ?_
          rw [nI_clamp (n := u) (by omega)]
          refine g_iast hx hb hK hP hL hS hMo.c4 (i := nI ((292 * (tk a1)) + u)) (vp_in_nI (by omega) (by omega)) dX8_keep_44 (fun H locs hq hP hL hS => ?_)
          rw [nI_clamp (n := (292 * (tk a1)) + u) (by omega)] at hP hL
          have hz := hq.trans hz
          obtain ⟨σ2, e2⟩ : ∃ υ0 : gS, υ0 = gup υ (mo + 4) (gI 584 (upd ((sRow B 4 (wrB (B 4) (B 1) (292 * tk a1) u)) 4) ((292 * (tk a1)) + u) ((((sRow B 4 (wrB (B 4) (B 1) (292 * tk a1) u)) 1) u)))) := ⟨_, rfl⟩
          have hP : gH D ka σ2 H := by rw [e2]; exact hP
          have hL : gL lo σ2 := by rw [e2]; exact hL
          have hMo : MoAt σ2 mo (sRow (sRow B 4 (wrB (B 4) (B 1) (292 * tk a1) u)) 4 (upd ((sRow B 4 (wrB (B 4) (B 1) (292 * tk a1) u)) 4) ((292 * (tk a1)) + u) ((((sRow B 4 (wrB (B 4) (B 1) (292 * tk a1) u)) 1) u)))) := by rw [e2]; exact hMo.w4 (upd ((sRow B 4 (wrB (B 4) (B 1) (292 * tk a1) u)) 4) ((292 * (tk a1)) + u) ((((sRow B 4 (wrB (B 4) (B 1) (292 * tk a1) u)) 1) u)))
          have hag := hag.upe e2 (zo_k (by decide))
          refine lv_iinc (v := (nI (u + 1))) (lv' := [(2, .int (nI (u + 1))), (0, .ref mo), (1, .int a1)]) hx hb dX8_keep_45 hl (k := 2) rfl (g_inc u 1) (by decide) rfl (fun ls hl => ?_)
          refine lv_goto (tgt := 20) hx hb dX8_keep_48 (by decide) ?_
          exact ih_lp (u + 1) (by omega) (by omega) σ2 (by rw [← kee_s]; exact hMo) hag hL H locs ls hz hP hS (lv_sub hl [1, 2, 0] rfl)
    exact lp _ 0 (by omega) (Nat.lt_succ_self _) σ1 (by rw [wrB_0, sRow_id]; exact hMo) hag hL H locs ls hz hP hS (lv_sub hl [1, 2, 0] rfl)
  · refine lv_iconst (v := (-1)) hx hb dX8_keep_9 (by decide) ?_
    exact g_iret (z := sz) hx hb hr hlk hz hP hL hS dX8_keep_10 (gxi_i ⟨by rw [if_neg (nb c6)], by rw [keepC, keepK, if_neg (nb c6), if_neg (nb c6)]; exact ⟨_, hMo, hA⟩, rfl, hag⟩)

theorem nX8_restore_X8 : ∀ w ∈ wsX80, w ∈ wsX8_restore := by decide +kernel
set_option maxHeartbeats 4000000 in
set_option maxRecDepth 100000 in
theorem c_X8_restore (l : Launch) (mo : Nat) (S : sS) (tf : Nat → Int32) (tn P : Nat) (C : Nat → sS) (kp : Nat → Bool) (a1 : Int32) (σ : gS) (sz : Nat) (hW : Me σ mo S tf tn P C kp) (hok : okS S) (hokC : ∀ k : Nat, k < P → okS (C k)) (hokK : ∀ k : Nat, k < 2 → kp k = true → okS (C (k + 5))) : gM l yX8_restore wsX8_restore ({ frames := 1, cells := 0, slots := 0, locals := 22 } : Room) 0 0 [.ref mo, .int a1] σ sz (gxi (fun r τ n => mP mo σ S tf tn P C kp sz (o_restore S C kp a1) r τ n)) := by
  refine gM_of (cc := cX8_restore) (maxL := 3) (ret := (some .int)) (by decide) rfl (Nat.le_of_ble_eq_true rfl) ?_
  intro D ka lo hL hlo p e s m below meth c hx hb hr hts hown hml hlk hnm hK H locs ls hz hP hS hl
  have hl : lv_has ls 3 [(0, .ref mo), (1, .int a1)] := hl
  have hown : s.vm.findClass RX8 = some m.cls := hown
  obtain ⟨A, hMo, hA⟩ := hW
  have hR := hA.2.2.1
  have hR0 := hR
  have hP0 := hA.1
  have htn0 := hA.2.1
  have hP5 : P ≤ 5 := hA.2.2.2.2.2.2.2.2
  have htn : tn ≤ 60 := hA.2.2.2.2.2.2.2.1
  obtain ⟨hB, hN, hKs, hRs⟩ := id hok
  have hag : gAs (gZo mo 16) σ σ := gAs.rf
  refine lv_iload_n hx hb dX8_restore_0 rfl (lv_at hl 1 rfl) ?_
  refine lv_iconst (v := (nI 0)) hx hb dX8_restore_1 (by decide) ?_
  refine lv_iconst (v := (nI 1)) hx hb dX8_restore_2 (by decide) ?_
  refine g_runS (As := [.int a1, .int (nI 0), .int (nI 1)]) (rest := []) (own := RX8) 3 hx hb hml hown hts hK hz hP hL hS hlo hl.1 (c_X8_in l a1 ((nI 0)) ((nI 1)) σ sz) gX8_restore_X8_in rfl rfl rfl (by decide +kernel) ⟨Nat.le_of_ble_eq_true rfl, Nat.le_of_ble_eq_true rfl⟩ rfl rfl (Nat.le_of_ble_eq_true rfl) dX8_restore_3 ⟨Nat.le_of_ble_eq_true rfl, Nat.le_of_ble_eq_true rfl⟩ (g_ki0 (fun H locs hz hP hL hS => ?_))
  refine g_top (y := (bI (inN a1 2))) (congrArg bI (inB_01 a1)) ?_
  refine g_ifb_ne (tgt := 11) hx hb dX8_restore_6 (by decide) (fun c6 => ?_) (fun c6 => ?_)
  · obtain ⟨ha1e, ha1l⟩ := tk_in c6 (by omega)
    refine lv_aload_n hx hb dX8_restore_11 rfl (lv_at hl 0 rfl) ?_
    refine g_get (C := RX8) (T := TX8) (N := 20) hx hb hts hown hK hP hMo.c0 nX8_restore_X8 rfl 5 (by decide) (by decide +kernel) rfl (v := .ref (mo + 5)) rfl dX8_restore_12 ?_
    refine lv_iload_n hx hb dX8_restore_15 rfl (lv_at hl 1 rfl) ?_
    refine g_top (y := (nI (tk a1))) ha1e ?_
    refine g_zald hx hb hK hP hMo.c5 (i := nI (tk a1)) (vp_in_nI (by omega) (by omega)) dX8_restore_16 ?_
    rw [nI_clamp (n := tk a1) (by omega)]
    refine g_top (y := (bI (kp (tk a1)))) (hA.2.2.2.2.2.1 _ ha1l) ?_
    refine g_ifb_ne (tgt := 23) hx hb dX8_restore_17 (by decide) (fun c17 => ?_) (fun c17 => ?_)
    · refine lv_aload_n hx hb dX8_restore_23 rfl (lv_at hl 0 rfl) ?_
      refine g_runV (As := []) (rest := []) (own := RX8) (C := RX8) (T := TX8) (N := 20) 0 hx hb hml hown hts hK hz hP hL hS hlo hl.1 (c_X8_begin l mo A σ sz hMo) gX8_restore_X8_begin rfl rfl rfl (by decide +kernel) ⟨Nat.le_of_ble_eq_true rfl, Nat.le_of_ble_eq_true rfl⟩ hMo.c0 rfl rfl rfl (Nat.le_of_ble_eq_true rfl) dX8_restore_24 ⟨Nat.le_of_ble_eq_true rfl, Nat.le_of_ble_eq_true rfl⟩ (g_kxv0 (fun τ_1 H locs z1 hz hp hP hL hS => ?_))
      obtain ⟨hz1, ⟨A_1, hm_1, hb_1, hr_1⟩, ha_1⟩ := hp
      have hz := hz.trans hz1
      have hMo := hm_1
      have hag := hag.tr ha_1 (fun q h => h)
      have hR : Rr S (A_1 1) := by rw [hr_1 1 (by decide)]; exact hR
      refine lv_iconst (v := (nI 0)) hx hb dX8_restore_27 (by decide) ?_
      refine lv_istore_n (lv' := [(2, .int (nI 0)), (0, .ref mo), (1, .int a1)]) hx hb dX8_restore_28 rfl hl (by decide) rfl (fun ls hl => ?_)
      have lp : ∀ (fu_lp : Nat) (u : Nat), (u ≤ 292) → (292 - u < fu_lp) → ∀ (υ : gS), (MoAt υ mo (sRow A_1 1 (cpyF (A_1 1) (fun j => A_1 4 (292 * tk a1 + j)) u))) → (gAs (gZo mo 16) σ υ) → gL lo υ → ∀ (H : Heap) (locs : List Loc) (ls : Array Slot), H.size = sz → gH D ka υ H → va_S (gA lo) s.heap H locs → lv_has ls 3 [(0, .ref mo), (1, .int a1), (2, .int (nI u))] → W p l e ({ frames := 1, cells := 0, slots := 0, locals := 22 } : Room) s m ([.ref mo, .int a1] : List Value).toArray below meth c H locs (0) (0) (MQ below (gQ D ka lo (gxi (fun r τ n => mP mo σ S tf tn P C kp sz (o_restore S C kp a1) r τ n))) ([.ref mo, .int a1] : List Value).toArray s 0 0 (gA lo)) (F0 m 29 ls []) := by
        intro fu_lp
        induction fu_lp with
        | zero => intro u hu hm_lp; exact absurd hm_lp (Nat.not_lt_zero _)
        | succ fu_lp ih_lp =>
          intro u hu hm_lp υ hMo hag hL H locs ls hz hP hS hl
          refine lv_iload_n hx hb dX8_restore_29 rfl (lv_at hl 2 rfl) ?_
          refine lv_sipush (v := (nI 292)) hx hb dX8_restore_30 (by decide) ?_
          refine g_icmp_ge (tgt := 60) (a := u) (b := 292) hx hb (by omega) (by omega) dX8_restore_33 (by decide) (fun c33 => ?_) (fun c33 => ?_)
          · have hR : Rr (C (tk a1 + 5)) ((sRow A_1 1 (cpyF (A_1 1) (fun j => A_1 4 (292 * tk a1 + j)) u)) 1) := (hA.2.2.2.2.1 _ ha1l c17).congr (hokK _ ha1l c17) (fun j hj => by rw [sRow_s, cpyF_lt (by omega), hr_1 4 (by decide)])
            refine lv_aload_n hx hb dX8_restore_60 rfl (lv_at hl 0 rfl) ?_
            refine lv_aload_n hx hb dX8_restore_61 rfl (lv_at hl 0 rfl) ?_
            refine g_runV (As := []) (rest := [.ref mo]) (own := RX8) (C := RX8) (T := TX8) (N := 20) 0 hx hb hml hown hts hK hz hP hL hS hlo hl.1 (c_X8_beats l mo (sRow A_1 1 (cpyF (A_1 1) (fun j => A_1 4 (292 * tk a1 + j)) u)) (C (tk a1 + 5))  υ sz hMo hR) gX8_restore_X8_beats rfl rfl rfl (by decide +kernel) ⟨Nat.le_of_ble_eq_true rfl, Nat.le_of_ble_eq_true rfl⟩ hMo.c0 rfl rfl rfl (Nat.le_of_ble_eq_true rfl) dX8_restore_62 ⟨Nat.le_of_ble_eq_true rfl, Nat.le_of_ble_eq_true rfl⟩ (g_ki0 (fun H locs hz hP hL hS => ?_))
            refine g_runV (As := [.int (nI (sB (C (tk a1 + 5))))]) (rest := []) (own := RX8) (C := RX8) (T := TX8) (N := 20) 1 hx hb hml hown hts hK hz hP hL hS hlo hl.1 (c_X8_done l mo (sRow A_1 1 (cpyF (A_1 1) (fun j => A_1 4 (292 * tk a1 + j)) u)) P ((nI (sB (C (tk a1 + 5))))) υ sz hMo (by first | exact hP0 | (show tN A_1 0 = P; show (A_1 0 0).toNatClampNeg = P; rw [hr_1 0 (by decide)]; exact hP0)) hP5) gX8_restore_X8_done rfl rfl rfl (by decide +kernel) ⟨Nat.le_of_ble_eq_true rfl, Nat.le_of_ble_eq_true rfl⟩ hMo.c0 rfl rfl rfl (Nat.le_of_ble_eq_true rfl) dX8_restore_65 ⟨Nat.le_of_ble_eq_true rfl, Nat.le_of_ble_eq_true rfl⟩ (g_kxi0 (fun r_2 τ_2 H locs z1 hz hp hP hL hS => ?_))
            obtain ⟨hr9_2, hz1, ⟨D_2, hm_2, hd1_2, hd2_2, hd3_2, hd4_2⟩, ha_2⟩ := hp
            have hz := hz.trans hz1
            have hMo := hm_2
            have hag := hag.tr ha_2 (fun q h => h)
            subst hr9_2
            exact g_iret (z := sz) hx hb hr hlk hz hP hL hS dX8_restore_68 (gxi_i (mP_s (by unfold o_restore; rw [if_pos (by first | exact c6 | exact nb c6 | exact Ne.symm c6 | exact fun q => q c6 | exact fun q => q c6.symm | omega), if_pos (by first | exact c17 | exact nb c17 | exact Ne.symm c17 | exact fun q => q c17 | exact fun q => q c17.symm | omega)]) ⟨_, hMo, MeP.done hA hok hokC (fun j hj => by first | exact hb_1 j hj | exact hbx j hj) (fun i h1 h2 => (sRow_n (by omega)).trans (hr_1 i (by omega))) (by first | exact hr_1 0 (by decide) | exact h0x) hR hd1_2 hd2_2 hd3_2 hd4_2⟩ rfl hag))
          · refine lv_aload_n hx hb dX8_restore_36 rfl (lv_at hl 0 rfl) ?_
            refine g_get (C := RX8) (T := TX8) (N := 20) hx hb hts hown hK hP hMo.c0 nX8_restore_X8 rfl 0 (by decide) (by decide +kernel) rfl (v := .ref (mo + 1)) rfl dX8_restore_37 ?_
            refine lv_iload_n hx hb dX8_restore_40 rfl (lv_at hl 2 rfl) ?_
            refine lv_aload_n hx hb dX8_restore_41 rfl (lv_at hl 0 rfl) ?_
            refine g_get (C := RX8) (T := TX8) (N := 20) hx hb hts hown hK hP hMo.c0 nX8_restore_X8 rfl 4 (by decide) (by decide +kernel) rfl (v := .ref (mo + 4)) rfl dX8_restore_42 ?_
            refine lv_sipush (v := (nI 292)) hx hb dX8_restore_45 (by decide) ?_
            refine lv_iload_n hx hb dX8_restore_48 rfl (lv_at hl 1 rfl) ?_
            refine g_top (y := (nI (tk a1))) ha1e ?_
            refine lv_imul hx hb dX8_restore_49 ?_
            refine g_top (pk_mul 292 (tk a1)) ?_
            refine lv_iload_n hx hb dX8_restore_50 rfl (lv_at hl 2 rfl) ?_
            refine lv_iadd hx hb dX8_restore_51 ?_
            refine g_top (nI_add (292 * (tk a1)) u) ?_
            refine g_iald hx hb hK hP hMo.c4 (i := nI ((292 * (tk a1)) + u)) (vp_in_nI (by omega) (by omega)) dX8_restore_52 ?_
            rw [nI_clamp (n := (292 * (tk a1)) + u) (by omega)]
            refine g_iast hx hb hK hP hL hS hMo.c1 (i := nI u) (vp_in_nI (by omega) (by omega)) dX8_restore_53 (fun H locs hq hP hL hS => ?_)
            rw [nI_clamp (n := u) (by omega)] at hP hL
            have hz := hq.trans hz
            obtain ⟨σ3, e3⟩ : ∃ υ0 : gS, υ0 = gup υ (mo + 1) (gI 292 (upd ((sRow A_1 1 (cpyF (A_1 1) (fun j => A_1 4 (292 * tk a1 + j)) u)) 1) u ((((sRow A_1 1 (cpyF (A_1 1) (fun j => A_1 4 (292 * tk a1 + j)) u)) 4) ((292 * (tk a1)) + u))))) := ⟨_, rfl⟩
            have hP : gH D ka σ3 H := by rw [e3]; exact hP
            have hL : gL lo σ3 := by rw [e3]; exact hL
            have hMo : MoAt σ3 mo (sRow (sRow A_1 1 (cpyF (A_1 1) (fun j => A_1 4 (292 * tk a1 + j)) u)) 1 (upd ((sRow A_1 1 (cpyF (A_1 1) (fun j => A_1 4 (292 * tk a1 + j)) u)) 1) u ((((sRow A_1 1 (cpyF (A_1 1) (fun j => A_1 4 (292 * tk a1 + j)) u)) 4) ((292 * (tk a1)) + u))))) := by rw [e3]; exact hMo.w1 (upd ((sRow A_1 1 (cpyF (A_1 1) (fun j => A_1 4 (292 * tk a1 + j)) u)) 1) u ((((sRow A_1 1 (cpyF (A_1 1) (fun j => A_1 4 (292 * tk a1 + j)) u)) 4) ((292 * (tk a1)) + u))))
            have hag := hag.upe e3 (zo_k (by decide))
            refine lv_iinc (v := (nI (u + 1))) (lv' := [(2, .int (nI (u + 1))), (0, .ref mo), (1, .int a1)]) hx hb dX8_restore_54 hl (k := 2) rfl (g_inc u 1) (by decide) rfl (fun ls hl => ?_)
            refine lv_goto (tgt := 29) hx hb dX8_restore_57 (by decide) ?_
            exact ih_lp (u + 1) (by omega) (by omega) σ3 (by rw [← res_s]; exact hMo) hag hL H locs ls hz hP hS (lv_sub hl [1, 2, 0] rfl)
      exact lp _ 0 (by omega) (Nat.lt_succ_self _) τ_1 (by rw [cpyF_0, sRow_id]; exact hMo) hag hL H locs ls hz hP hS (lv_sub hl [1, 2, 0] rfl)
    · refine lv_bipush (v := (-5)) hx hb dX8_restore_20 (by decide) ?_
      exact g_iret (z := sz) hx hb hr hlk hz hP hL hS dX8_restore_22 (gxi_i (mP_n (by unfold o_restore; rw [if_pos (by first | exact c6 | exact nb c6 | exact Ne.symm c6 | exact fun q => q c6 | exact fun q => q c6.symm | omega), if_neg (by first | exact c17 | exact nb c17 | exact Ne.symm c17 | exact fun q => q c17 | exact fun q => q c17.symm | omega)]) ⟨_, hMo, hA⟩ rfl hag))
  · refine lv_iconst (v := (-1)) hx hb dX8_restore_9 (by decide) ?_
    exact g_iret (z := sz) hx hb hr hlk hz hP hL hS dX8_restore_10 (gxi_i (mP_n (by unfold o_restore; rw [if_neg (by first | exact c6 | exact nb c6 | exact Ne.symm c6 | exact fun q => q c6 | exact fun q => q c6.symm | omega)]) ⟨_, hMo, hA⟩ rfl hag))

theorem nX8_clearMarks_X8 : ∀ w ∈ wsX80, w ∈ wsX8_clearMarks := by decide +kernel
set_option maxHeartbeats 4000000 in
set_option maxRecDepth 100000 in
theorem c_X8_clearMarks (l : Launch) (mo : Nat) (A : sS) (σ : gS) (sz : Nat) (hMo : MoAt σ mo A) : gM l yX8_clearMarks wsX8_clearMarks ({ frames := 0, cells := 0, slots := 0, locals := 0 } : Room) 0 0 [.ref mo] σ sz (gxv (fun τ n => n = sz ∧ MoAt τ mo (sRow A 1 (filF (A 1) 232 268 0)) ∧ gAs (gZo mo 16) σ τ)) := by
  refine gM_of (cc := cX8_clearMarks) (maxL := 2) (ret := none) (by decide) rfl (Nat.le_of_ble_eq_true rfl) ?_
  intro D ka lo hL hlo p e s m below meth c hx hb hr hts hown hml hlk hnm hK H locs ls hz hP hS hl
  have hl : lv_has ls 2 [(0, .ref mo)] := hl
  have hown : s.vm.findClass RX8 = some m.cls := hown
  have hag : gAs (gZo mo 16) σ σ := gAs.rf
  refine lv_sipush (v := (nI 232)) hx hb dX8_clearMarks_0 (by decide) ?_
  refine lv_istore_n (lv' := [(1, .int (nI 232)), (0, .ref mo)]) hx hb dX8_clearMarks_3 rfl hl (by decide) rfl (fun ls hl => ?_)
  have lp : ∀ (fu_lp : Nat) (k : Nat), (k ≤ 36) → (36 - k < fu_lp) → ∀ (υ : gS), (MoAt υ mo (sRow A 1 (filF (A 1) 232 (232 + k) 0))) → (gAs (gZo mo 16) σ υ) → gL lo υ → ∀ (H : Heap) (locs : List Loc) (ls : Array Slot), H.size = sz → gH D ka υ H → va_S (gA lo) s.heap H locs → lv_has ls 2 [(0, .ref mo), (1, .int (nI (232 + k)))] → W p l e ({ frames := 0, cells := 0, slots := 0, locals := 0 } : Room) s m ([.ref mo] : List Value).toArray below meth c H locs (0) (0) (MQ below (gQ D ka lo (gxv (fun τ n => n = sz ∧ MoAt τ mo (sRow A 1 (filF (A 1) 232 268 0)) ∧ gAs (gZo mo 16) σ τ))) ([.ref mo] : List Value).toArray s 0 0 (gA lo)) (F0 m 4 ls []) := by
    intro fu_lp
    induction fu_lp with
    | zero => intro k hk hm_lp; exact absurd hm_lp (Nat.not_lt_zero _)
    | succ fu_lp ih_lp =>
      intro k hk hm_lp υ hMo hag hL H locs ls hz hP hS hl
      refine lv_iload_n hx hb dX8_clearMarks_4 rfl (lv_at hl 1 rfl) ?_
      refine lv_sipush (v := (nI 268)) hx hb dX8_clearMarks_5 (by decide) ?_
      refine g_icmp_ge (tgt := 24) (a := 232 + k) (b := 268) hx hb (by omega) (by omega) dX8_clearMarks_8 (by decide) (fun c8 => ?_) (fun c8 => ?_)
      · exact g_vret (z := sz) hx hb hr hlk hz hP hL hS dX8_clearMarks_24 (gxv_i ⟨rfl, (by rw [show k = 36 by omega] at hMo; exact hMo), hag⟩)
      · refine lv_aload_n hx hb dX8_clearMarks_11 rfl (lv_at hl 0 rfl) ?_
        refine g_get (C := RX8) (T := TX8) (N := 20) hx hb hts hown hK hP hMo.c0 nX8_clearMarks_X8 rfl 0 (by decide) (by decide +kernel) rfl (v := .ref (mo + 1)) rfl dX8_clearMarks_12 ?_
        refine lv_iload_n hx hb dX8_clearMarks_15 rfl (lv_at hl 1 rfl) ?_
        refine lv_iconst (v := (nI 0)) hx hb dX8_clearMarks_16 (by decide) ?_
        refine g_iast hx hb hK hP hL hS hMo.c1 (i := nI (232 + k)) (vp_in_nI (by omega) (by omega)) dX8_clearMarks_17 (fun H locs hq hP hL hS => ?_)
        rw [nI_clamp (n := 232 + k) (by omega)] at hP hL
        have hz := hq.trans hz
        obtain ⟨σ1, e1⟩ : ∃ υ0 : gS, υ0 = gup υ (mo + 1) (gI 292 (upd ((sRow A 1 (filF (A 1) 232 (232 + k) 0)) 1) (232 + k) ((nI 0)))) := ⟨_, rfl⟩
        have hP : gH D ka σ1 H := by rw [e1]; exact hP
        have hL : gL lo σ1 := by rw [e1]; exact hL
        have hMo : MoAt σ1 mo (sRow (sRow A 1 (filF (A 1) 232 (232 + k) 0)) 1 (upd ((sRow A 1 (filF (A 1) 232 (232 + k) 0)) 1) (232 + k) ((nI 0)))) := by rw [e1]; exact hMo.w1 (upd ((sRow A 1 (filF (A 1) 232 (232 + k) 0)) 1) (232 + k) ((nI 0)))
        have hag := hag.upe e1 (zo_k (by decide))
        refine lv_iinc (v := (nI (232 + k + 1))) (lv' := [(1, .int (nI (232 + k + 1))), (0, .ref mo)]) hx hb dX8_clearMarks_18 hl (k := 1) rfl (g_inc (232 + k) 1) (by decide) rfl (fun ls hl => ?_)
        refine lv_goto (tgt := 4) hx hb dX8_clearMarks_21 (by decide) ?_
        exact ih_lp (k + 1) (by omega) (by omega) σ1 (by rw [← fil_s]; exact hMo) hag hL H locs ls hz hP hS (lv_sub hl [1, 0] rfl)
  exact lp _ 0 (by omega) (Nat.lt_succ_self _) σ (by rw [Nat.add_zero, filF_0, sRow_id]; exact hMo) hag hL H locs ls hz hP hS (lv_sub hl [1, 0] rfl)

theorem nX8_addSinger_X8 : ∀ w ∈ wsX80, w ∈ wsX8_addSinger := by decide +kernel
set_option maxHeartbeats 4000000 in
set_option maxRecDepth 100000 in
theorem c_X8_addSinger (l : Launch) (mo : Nat) (S : sS) (tf : Nat → Int32) (tn P : Nat) (C : Nat → sS) (kp : Nat → Bool) (a1 a2 : Int32) (σ : gS) (sz : Nat) (hW : Me σ mo S tf tn P C kp) (hok : okS S) (hokC : ∀ k : Nat, k < P → okS (C k)) (hmz : ∀ b : Nat, b < sB S → markB S (sN S) b = false) : gM l yX8_addSinger wsX8_addSinger ({ frames := 1, cells := 0, slots := 0, locals := 22 } : Room) 0 0 [.ref mo, .int a1, .int a2] σ sz (gxi (fun r τ n => mP mo σ S tf tn P C kp sz (o_addSinger S a1 a2) r τ n)) := by
  refine gM_of (cc := cX8_addSinger) (maxL := 5) (ret := (some .int)) (by decide) rfl (Nat.le_of_ble_eq_true rfl) ?_
  intro D ka lo hL hlo p e s m below meth c hx hb hr hts hown hml hlk hnm hK H locs ls hz hP hS hl
  have hl : lv_has ls 5 [(0, .ref mo), (1, .int a1), (2, .int a2)] := hl
  have hown : s.vm.findClass RX8 = some m.cls := hown
  obtain ⟨A, hMo, hA⟩ := hW
  have hR := hA.2.2.1
  have hR0 := hR
  have hP0 := hA.1
  have htn0 := hA.2.1
  have hP5 : P ≤ 5 := hA.2.2.2.2.2.2.2.2
  have htn : tn ≤ 60 := hA.2.2.2.2.2.2.2.1
  obtain ⟨hB, hN, hKs, hRs⟩ := id hok
  have hag : gAs (gZo mo 16) σ σ := gAs.rf
  refine lv_iload_n hx hb dX8_addSinger_0 rfl (lv_at hl 1 rfl) ?_
  refine lv_iconst (v := (nI 4)) hx hb dX8_addSinger_1 (by decide) ?_
  refine lv_bipush (v := (nI 40)) hx hb dX8_addSinger_2 (by decide) ?_
  refine g_runS (As := [.int a1, .int (nI 4), .int (nI 40)]) (rest := []) (own := RX8) 3 hx hb hml hown hts hK hz hP hL hS hlo hl.1 (c_X8_in l a1 ((nI 4)) ((nI 40)) σ sz) gX8_addSinger_X8_in rfl rfl rfl (by decide +kernel) ⟨Nat.le_of_ble_eq_true rfl, Nat.le_of_ble_eq_true rfl⟩ rfl rfl (Nat.le_of_ble_eq_true rfl) dX8_addSinger_4 ⟨Nat.le_of_ble_eq_true rfl, Nat.le_of_ble_eq_true rfl⟩ (g_ki0 (fun H locs hz hP hL hS => ?_))
  refine g_ifb_eq (tgt := 20) hx hb dX8_addSinger_7 (by decide) (fun c7 => ?_) (fun c7 => ?_)
  · refine lv_bipush (v := (-2)) hx hb dX8_addSinger_20 (by decide) ?_
    exact g_iret (z := sz) hx hb hr hlk hz hP hL hS dX8_addSinger_22 (gxi_i (mP_n (by unfold o_addSinger; rw [if_neg (by first | exact c7 | exact nb c7 | exact Ne.symm c7 | exact fun q => q c7 | exact fun q => q c7.symm | omega)]) ⟨_, hMo, hA⟩ rfl hag))
  · refine lv_iload_n hx hb dX8_addSinger_10 rfl (lv_at hl 2 rfl) ?_
    refine lv_iconst (v := (nI 1)) hx hb dX8_addSinger_11 (by decide) ?_
    refine lv_bipush (v := (nI 10)) hx hb dX8_addSinger_12 (by decide) ?_
    refine g_runS (As := [.int a2, .int (nI 1), .int (nI 10)]) (rest := []) (own := RX8) 3 hx hb hml hown hts hK hz hP hL hS hlo hl.1 (c_X8_in l a2 ((nI 1)) ((nI 10)) σ sz) gX8_addSinger_X8_in rfl rfl rfl (by decide +kernel) ⟨Nat.le_of_ble_eq_true rfl, Nat.le_of_ble_eq_true rfl⟩ rfl rfl (Nat.le_of_ble_eq_true rfl) dX8_addSinger_14 ⟨Nat.le_of_ble_eq_true rfl, Nat.le_of_ble_eq_true rfl⟩ (g_ki0 (fun H locs hz hP hL hS => ?_))
    refine g_ifb_ne (tgt := 23) hx hb dX8_addSinger_17 (by decide) (fun c17 => ?_) (fun c17 => ?_)
    · refine lv_aload_n hx hb dX8_addSinger_23 rfl (lv_at hl 0 rfl) ?_
      refine g_runV (As := []) (rest := []) (own := RX8) (C := RX8) (T := TX8) (N := 20) 0 hx hb hml hown hts hK hz hP hL hS hlo hl.1 (c_X8_singers l mo A S  σ sz hMo hR) gX8_addSinger_X8_singers rfl rfl rfl (by decide +kernel) ⟨Nat.le_of_ble_eq_true rfl, Nat.le_of_ble_eq_true rfl⟩ hMo.c0 rfl rfl rfl (Nat.le_of_ble_eq_true rfl) dX8_addSinger_24 ⟨Nat.le_of_ble_eq_true rfl, Nat.le_of_ble_eq_true rfl⟩ (g_ki0 (fun H locs hz hP hL hS => ?_))
      refine lv_bipush (v := (nI 12)) hx hb dX8_addSinger_27 (by decide) ?_
      refine g_icmp_ne (tgt := 35) (a := sN S) (b := 12) hx hb (by omega) (by omega) dX8_addSinger_29 (by decide) (fun c29 => ?_) (fun c29 => ?_)
      · refine lv_aload_n hx hb dX8_addSinger_35 rfl (lv_at hl 0 rfl) ?_
        refine g_runV (As := []) (rest := []) (own := RX8) (C := RX8) (T := TX8) (N := 20) 0 hx hb hml hown hts hK hz hP hL hS hlo hl.1 (c_X8_begin l mo A σ sz hMo) gX8_addSinger_X8_begin rfl rfl rfl (by decide +kernel) ⟨Nat.le_of_ble_eq_true rfl, Nat.le_of_ble_eq_true rfl⟩ hMo.c0 rfl rfl rfl (Nat.le_of_ble_eq_true rfl) dX8_addSinger_36 ⟨Nat.le_of_ble_eq_true rfl, Nat.le_of_ble_eq_true rfl⟩ (g_kxv0 (fun τ_1 H locs z1 hz hp hP hL hS => ?_))
        obtain ⟨hz1, ⟨A_1, hm_1, hb_1, hr_1⟩, ha_1⟩ := hp
        have hz := hz.trans hz1
        have hMo := hm_1
        have hag := hag.tr ha_1 (fun q h => h)
        have hR : Rr S (A_1 1) := by rw [hr_1 1 (by decide)]; exact hR
        refine lv_aload_n hx hb dX8_addSinger_39 rfl (lv_at hl 0 rfl) ?_
        refine g_runV (As := []) (rest := []) (own := RX8) (C := RX8) (T := TX8) (N := 20) 0 hx hb hml hown hts hK hz hP hL hS hlo hl.1 (c_X8_singers l mo A_1 S  τ_1 sz hMo hR) gX8_addSinger_X8_singers rfl rfl rfl (by decide +kernel) ⟨Nat.le_of_ble_eq_true rfl, Nat.le_of_ble_eq_true rfl⟩ hMo.c0 rfl rfl rfl (Nat.le_of_ble_eq_true rfl) dX8_addSinger_40 ⟨Nat.le_of_ble_eq_true rfl, Nat.le_of_ble_eq_true rfl⟩ (g_ki0 (fun H locs hz hP hL hS => ?_))
        refine lv_istore_n (lv' := [(3, .int (nI (sN S))), (0, .ref mo), (1, .int a1), (2, .int a2)]) hx hb dX8_addSinger_43 rfl hl (by decide) rfl (fun ls hl => ?_)
        refine lv_aload_n hx hb dX8_addSinger_44 rfl (lv_at hl 1 rfl) ?_
        refine g_get (C := RX8) (T := TX8) (N := 20) hx hb hts hown hK hP hMo.c0 nX8_addSinger_X8 rfl 0 (by decide) (by decide +kernel) rfl (v := .ref (mo + 1)) rfl dX8_addSinger_45 ?_
        refine lv_sipush (v := (nI 196)) hx hb dX8_addSinger_48 (by decide) ?_
        refine lv_iconst (v := (nI 3)) hx hb dX8_addSinger_51 (by decide) ?_
        refine lv_iload_n hx hb dX8_addSinger_52 rfl (lv_at hl 0 rfl) ?_
        refine lv_imul hx hb dX8_addSinger_53 ?_
        refine g_top (pk_mul 3 (sN S)) ?_
        refine lv_iadd hx hb dX8_addSinger_54 ?_
        refine g_top (nI_add 196 (3 * (sN S))) ?_
        refine lv_iload_n hx hb dX8_addSinger_55 rfl (lv_at hl 2 rfl) ?_
        refine g_iast hx hb hK hP hL hS hMo.c1 (i := nI (196 + (3 * (sN S)))) (vp_in_nI (by omega) (by omega)) dX8_addSinger_56 (fun H locs hq hP hL hS => ?_)
        rw [nI_clamp (n := 196 + (3 * (sN S))) (by omega)] at hP hL
        have hz := hq.trans hz
        obtain ⟨σ2, e2⟩ : ∃ υ0 : gS, υ0 = gup τ_1 (mo + 1) (gI 292 (upd (A_1 1) (196 + (3 * (sN S))) a1)) := ⟨_, rfl⟩
        have hP : gH D ka σ2 H := by rw [e2]; exact hP
        have hL : gL lo σ2 := by rw [e2]; exact hL
        have hMo : MoAt σ2 mo (sRow A_1 1 (upd (A_1 1) (196 + (3 * (sN S))) a1)) := by rw [e2]; exact hMo.w1 (upd (A_1 1) (196 + (3 * (sN S))) a1)
        have hag := hag.upe e2 (zo_k (by decide))
        refine lv_aload_n hx hb dX8_addSinger_57 rfl (lv_at hl 1 rfl) ?_
        refine g_get (C := RX8) (T := TX8) (N := 20) hx hb hts hown hK hP hMo.c0 nX8_addSinger_X8 rfl 0 (by decide) (by decide +kernel) rfl (v := .ref (mo + 1)) rfl dX8_addSinger_58 ?_
        refine lv_sipush (v := (nI 196)) hx hb dX8_addSinger_61 (by decide) ?_
        refine lv_iconst (v := (nI 3)) hx hb dX8_addSinger_64 (by decide) ?_
        refine lv_iload_n hx hb dX8_addSinger_65 rfl (lv_at hl 0 rfl) ?_
        refine lv_imul hx hb dX8_addSinger_66 ?_
        refine g_top (pk_mul 3 (sN S)) ?_
        refine lv_iadd hx hb dX8_addSinger_67 ?_
        refine g_top (nI_add 196 (3 * (sN S))) ?_
        refine lv_iconst (v := (nI 1)) hx hb dX8_addSinger_68 (by decide) ?_
        refine lv_iadd hx hb dX8_addSinger_69 ?_
        refine g_top (nI_add (196 + (3 * (sN S))) 1) ?_
        refine lv_iload_n hx hb dX8_addSinger_70 rfl (lv_at hl 3 rfl) ?_
        refine g_iast hx hb hK hP hL hS hMo.c1 (i := nI ((196 + (3 * (sN S))) + 1)) (vp_in_nI (by omega) (by omega)) dX8_addSinger_71 (fun H locs hq hP hL hS => ?_)
        rw [nI_clamp (n := (196 + (3 * (sN S))) + 1) (by omega)] at hP hL
        have hz := hq.trans hz
        obtain ⟨σ3, e3⟩ : ∃ υ0 : gS, υ0 = gup σ2 (mo + 1) (gI 292 (upd ((sRow A_1 1 (upd (A_1 1) (196 + (3 * (sN S))) a1)) 1) ((196 + (3 * (sN S))) + 1) a2)) := ⟨_, rfl⟩
        have hP : gH D ka σ3 H := by rw [e3]; exact hP
        have hL : gL lo σ3 := by rw [e3]; exact hL
        have hMo : MoAt σ3 mo (sRow (sRow A_1 1 (upd (A_1 1) (196 + (3 * (sN S))) a1)) 1 (upd ((sRow A_1 1 (upd (A_1 1) (196 + (3 * (sN S))) a1)) 1) ((196 + (3 * (sN S))) + 1) a2)) := by rw [e3]; exact hMo.w1 (upd ((sRow A_1 1 (upd (A_1 1) (196 + (3 * (sN S))) a1)) 1) ((196 + (3 * (sN S))) + 1) a2)
        have hag := hag.upe e3 (zo_k (by decide))
        refine lv_aload_n hx hb dX8_addSinger_72 rfl (lv_at hl 1 rfl) ?_
        refine g_get (C := RX8) (T := TX8) (N := 20) hx hb hts hown hK hP hMo.c0 nX8_addSinger_X8 rfl 0 (by decide) (by decide +kernel) rfl (v := .ref (mo + 1)) rfl dX8_addSinger_73 ?_
        refine lv_sipush (v := (nI 196)) hx hb dX8_addSinger_76 (by decide) ?_
        refine lv_iconst (v := (nI 3)) hx hb dX8_addSinger_79 (by decide) ?_
        refine lv_iload_n hx hb dX8_addSinger_80 rfl (lv_at hl 0 rfl) ?_
        refine lv_imul hx hb dX8_addSinger_81 ?_
        refine g_top (pk_mul 3 (sN S)) ?_
        refine lv_iadd hx hb dX8_addSinger_82 ?_
        refine g_top (nI_add 196 (3 * (sN S))) ?_
        refine lv_iconst (v := (nI 2)) hx hb dX8_addSinger_83 (by decide) ?_
        refine lv_iadd hx hb dX8_addSinger_84 ?_
        refine g_top (nI_add (196 + (3 * (sN S))) 2) ?_
        refine lv_iconst (v := (nI 1)) hx hb dX8_addSinger_85 (by decide) ?_
        refine g_iast hx hb hK hP hL hS hMo.c1 (i := nI ((196 + (3 * (sN S))) + 2)) (vp_in_nI (by omega) (by omega)) dX8_addSinger_86 (fun H locs hq hP hL hS => ?_)
        rw [nI_clamp (n := (196 + (3 * (sN S))) + 2) (by omega)] at hP hL
        have hz := hq.trans hz
        obtain ⟨σ4, e4⟩ : ∃ υ0 : gS, υ0 = gup σ3 (mo + 1) (gI 292 (upd ((sRow (sRow A_1 1 (upd (A_1 1) (196 + (3 * (sN S))) a1)) 1 (upd ((sRow A_1 1 (upd (A_1 1) (196 + (3 * (sN S))) a1)) 1) ((196 + (3 * (sN S))) + 1) a2)) 1) ((196 + (3 * (sN S))) + 2) ((nI 1)))) := ⟨_, rfl⟩
        have hP : gH D ka σ4 H := by rw [e4]; exact hP
        have hL : gL lo σ4 := by rw [e4]; exact hL
        have hMo : MoAt σ4 mo (sRow (sRow (sRow A_1 1 (upd (A_1 1) (196 + (3 * (sN S))) a1)) 1 (upd ((sRow A_1 1 (upd (A_1 1) (196 + (3 * (sN S))) a1)) 1) ((196 + (3 * (sN S))) + 1) a2)) 1 (upd ((sRow (sRow A_1 1 (upd (A_1 1) (196 + (3 * (sN S))) a1)) 1 (upd ((sRow A_1 1 (upd (A_1 1) (196 + (3 * (sN S))) a1)) 1) ((196 + (3 * (sN S))) + 1) a2)) 1) ((196 + (3 * (sN S))) + 2) ((nI 1)))) := by rw [e4]; exact hMo.w1 (upd ((sRow (sRow A_1 1 (upd (A_1 1) (196 + (3 * (sN S))) a1)) 1 (upd ((sRow A_1 1 (upd (A_1 1) (196 + (3 * (sN S))) a1)) 1) ((196 + (3 * (sN S))) + 1) a2)) 1) ((196 + (3 * (sN S))) + 2) ((nI 1)))
        have hag := hag.upe e4 (zo_k (by decide))
        obtain ⟨A3, hMo, hA3r, hga, hgb, hgc, hgo⟩ : ∃ A3 : sS, MoAt σ4 mo A3 ∧ (∀ i : Nat, i ≠ 1 → A3 i = A_1 i) ∧ A3 1 (196 + 3 * sN S) = a1 ∧ A3 1 (196 + 3 * sN S + 1) = a2 ∧ A3 1 (196 + 3 * sN S + 2) = nI 1 ∧ (∀ j : Nat, (j < 196 + 3 * sN S ∨ 196 + 3 * sN S + 3 ≤ j) → A3 1 j = A_1 1 j) := ⟨_, hMo, fun i hi => (sRow_n hi).trans ((sRow_n hi).trans (sRow_n hi)), by rw [sRow_s, upd_n (by omega), sRow_s, upd_n (by omega), sRow_s, upd_s], by rw [sRow_s, upd_n (by omega), sRow_s, upd_s], by rw [sRow_s, upd_s], fun j hj => by rw [sRow_s, upd_n (by omega), sRow_s, upd_n (by omega), sRow_s, upd_n (by omega)]⟩
        refine lv_iconst (v := (nI 0)) hx hb dX8_addSinger_87 (by decide) ?_
        refine lv_istore (lv' := [(4, .int (nI 0)), (3, .int (nI (sN S))), (0, .ref mo), (1, .int a1), (2, .int a2)]) hx hb dX8_addSinger_88 hl (by decide) rfl (fun ls hl => ?_)
        have lp : ∀ (fu_lp : Nat) (k : Nat), (k ≤ 3) → (3 - k < fu_lp) → ∀ (υ : gS), (MoAt υ mo (sRow A3 1 (filF (A3 1) (232 + 3 * sN S) (232 + 3 * sN S + k) 0))) → (gAs (gZo mo 16) σ υ) → gL lo υ → ∀ (H : Heap) (locs : List Loc) (ls : Array Slot), H.size = sz → gH D ka υ H → va_S (gA lo) s.heap H locs → lv_has ls 5 [(0, .ref mo), (1, .int a1), (2, .int a2), (3, .int (nI (sN S))), (4, .int (nI k))] → W p l e ({ frames := 1, cells := 0, slots := 0, locals := 22 } : Room) s m ([.ref mo, .int a1, .int a2] : List Value).toArray below meth c H locs (0) (0) (MQ below (gQ D ka lo (gxi (fun r τ n => mP mo σ S tf tn P C kp sz (o_addSinger S a1 a2) r τ n))) ([.ref mo, .int a1, .int a2] : List Value).toArray s 0 0 (gA lo)) (F0 m 90 ls []) := by
          intro fu_lp
          induction fu_lp with
          | zero => intro k hk hm_lp; exact absurd hm_lp (Nat.not_lt_zero _)
          | succ fu_lp ih_lp =>
            intro k hk hm_lp υ hMo hag hL H locs ls hz hP hS hl
            refine lv_iload hx hb dX8_addSinger_90 (lv_at hl 4 rfl) ?_
            refine lv_iconst (v := (nI 3)) hx hb dX8_addSinger_92 (by decide) ?_
            refine g_icmp_ge (tgt := 118) (a := k) (b := 3) hx hb (by omega) (by omega) dX8_addSinger_93 (by decide) (fun c93 => ?_) (fun c93 => ?_)
            · refine lv_aload_n hx hb dX8_addSinger_118 rfl (lv_at hl 0 rfl) ?_
              refine g_get (C := RX8) (T := TX8) (N := 20) hx hb hts hown hK hP hMo.c0 nX8_addSinger_X8 rfl 0 (by decide) (by decide +kernel) rfl (v := .ref (mo + 1)) rfl dX8_addSinger_119 ?_
              refine lv_iconst (v := (nI 1)) hx hb dX8_addSinger_122 (by decide) ?_
              refine lv_dup2_11 hx hb dX8_addSinger_123 rfl rfl ?_
              refine g_iald hx hb hK hP hMo.c1 (i := nI 1) (vp_in_nI (by omega) (by omega)) dX8_addSinger_124 ?_
              rw [nI_clamp (n := 1) (by omega)]
              refine g_top (y := (nI (sN S))) (by rw [sRow_s, filF_out (by omega), hgo 1 (by omega)]; exact hR.n1) ?_
              refine lv_iconst (v := (nI 1)) hx hb dX8_addSinger_125 (by decide) ?_
              refine lv_iadd hx hb dX8_addSinger_126 ?_
              refine g_top (nI_add (sN S) 1) ?_
              refine g_iast hx hb hK hP hL hS hMo.c1 (i := nI 1) (vp_in_nI (by omega) (by omega)) dX8_addSinger_127 (fun H locs hq hP hL hS => ?_)
              rw [nI_clamp (n := 1) (by omega)] at hP hL
              have hz := hq.trans hz
              obtain ⟨σ5, e5⟩ : ∃ υ0 : gS, υ0 = gup υ (mo + 1) (gI 292 (upd ((sRow A3 1 (filF (A3 1) (232 + 3 * sN S) (232 + 3 * sN S + k) 0)) 1) 1 ((nI ((sN S) + 1))))) := ⟨_, rfl⟩
              have hP : gH D ka σ5 H := by rw [e5]; exact hP
              have hL : gL lo σ5 := by rw [e5]; exact hL
              have hMo : MoAt σ5 mo (sRow (sRow A3 1 (filF (A3 1) (232 + 3 * sN S) (232 + 3 * sN S + k) 0)) 1 (upd ((sRow A3 1 (filF (A3 1) (232 + 3 * sN S) (232 + 3 * sN S + k) 0)) 1) 1 ((nI ((sN S) + 1))))) := by rw [e5]; exact hMo.w1 (upd ((sRow A3 1 (filF (A3 1) (232 + 3 * sN S) (232 + 3 * sN S + k) 0)) 1) 1 ((nI ((sN S) + 1))))
              have hag := hag.upe e5 (zo_k (by decide))
              have hbx : ∀ j : Nat, j < 292 → A3 2 j = A 1 j := fun j hj => by rw [hA3r 2 (by decide)]; exact hb_1 j hj
              have hkx : ∀ i : Nat, 3 ≤ i → A3 i = A i := fun i hi => (hA3r i (by omega)).trans (hr_1 i (by omega))
              have h0x : A3 0 = A 0 := (hA3r 0 (by decide)).trans (hr_1 0 (by decide))
              have hP0 : tN A3 0 = P := by show (A3 0 0).toNatClampNeg = P; rw [h0x]; exact hP0
              refine lv_aload_n hx hb dX8_addSinger_128 rfl (lv_at hl 0 rfl) ?_
              refine lv_iload_n hx hb dX8_addSinger_129 rfl (lv_at hl 3 rfl) ?_
              refine g_runV (As := [.int (nI (sN S))]) (rest := []) (own := RX8) (C := RX8) (T := TX8) (N := 20) 1 hx hb hml hown hts hK hz hP hL hS hlo hl.1 (c_X8_done l mo (sRow (sRow A3 1 (filF (A3 1) (232 + 3 * sN S) (232 + 3 * sN S + k) 0)) 1 (upd ((sRow A3 1 (filF (A3 1) (232 + 3 * sN S) (232 + 3 * sN S + k) 0)) 1) 1 ((nI ((sN S) + 1))))) P ((nI (sN S))) σ5 sz hMo (by first | exact hP0 | (show tN A_1 0 = P; show (A_1 0 0).toNatClampNeg = P; rw [hr_1 0 (by decide)]; exact hP0)) hP5) gX8_addSinger_X8_done rfl rfl rfl (by decide +kernel) ⟨Nat.le_of_ble_eq_true rfl, Nat.le_of_ble_eq_true rfl⟩ hMo.c0 rfl rfl rfl (Nat.le_of_ble_eq_true rfl) dX8_addSinger_130 ⟨Nat.le_of_ble_eq_true rfl, Nat.le_of_ble_eq_true rfl⟩ (g_kxi0 (fun r_6 τ_6 H locs z1 hz hp hP hL hS => ?_))
              obtain ⟨hr9_6, hz1, ⟨D_6, hm_6, hd1_6, hd2_6, hd3_6, hd4_6⟩, ha_6⟩ := hp
              have hz := hz.trans hz1
              have hMo := hm_6
              have hag := hag.tr ha_6 (fun q h => h)
              subst hr9_6
              exact g_iret (z := sz) hx hb hr hlk hz hP hL hS dX8_addSinger_133 (gxi_i (mP_s (by unfold o_addSinger; rw [if_pos (by first | exact c7 | exact nb c7 | exact Ne.symm c7 | exact fun q => q c7 | exact fun q => q c7.symm | omega), if_pos (by first | exact c17 | exact nb c17 | exact Ne.symm c17 | exact fun q => q c17 | exact fun q => q c17.symm | omega), if_pos (by first | exact c29 | exact nb c29 | exact Ne.symm c29 | exact fun q => q c29 | exact fun q => q c29.symm | omega)]) ⟨_, hMo, MeP.done hA hok hokC (fun j hj => by first | exact hb_1 j hj | exact hbx j hj) (fun i h1 h2 => (sRow_n (by omega)).trans ((sRow_n (by omega)).trans (hkx i h1))) (by first | exact hr_1 0 (by decide) | exact h0x) (by rw [sRow_s, sRow_s]; refine hR.newSinger hok (by omega) hmz (upd_s _ _ _) ?_ ?_ ?_ (fun j hj => ?_) (fun j h1 h2 h3 => ?_); (rw [upd_n (by omega), filF_out (by omega)]; exact hga); (rw [upd_n (by omega), filF_out (by omega)]; exact hgb); (rw [upd_n (by omega), filF_out (by omega)]; exact hgc); (rw [upd_n (by omega), filF_in (by omega)]); (rw [upd_n h1, filF_out (by omega)]; exact hgo j h2)) hd1_6 hd2_6 hd3_6 hd4_6⟩ rfl hag))
            · refine lv_aload_n hx hb dX8_addSinger_96 rfl (lv_at hl 0 rfl) ?_
              refine g_get (C := RX8) (T := TX8) (N := 20) hx hb hts hown hK hP hMo.c0 nX8_addSinger_X8 rfl 0 (by decide) (by decide +kernel) rfl (v := .ref (mo + 1)) rfl dX8_addSinger_97 ?_
              refine lv_sipush (v := (nI 232)) hx hb dX8_addSinger_100 (by decide) ?_
              refine lv_iconst (v := (nI 3)) hx hb dX8_addSinger_103 (by decide) ?_
              refine lv_iload_n hx hb dX8_addSinger_104 rfl (lv_at hl 3 rfl) ?_
              refine lv_imul hx hb dX8_addSinger_105 ?_
              refine g_top (pk_mul 3 (sN S)) ?_
              refine lv_iadd hx hb dX8_addSinger_106 ?_
              refine g_top (nI_add 232 (3 * (sN S))) ?_
              refine lv_iload hx hb dX8_addSinger_107 (lv_at hl 4 rfl) ?_
              refine lv_iadd hx hb dX8_addSinger_109 ?_
              refine g_top (nI_add (232 + (3 * (sN S))) k) ?_
              refine lv_iconst (v := (nI 0)) hx hb dX8_addSinger_110 (by decide) ?_
              refine g_iast hx hb hK hP hL hS hMo.c1 (i := nI ((232 + (3 * (sN S))) + k)) (vp_in_nI (by omega) (by omega)) dX8_addSinger_111 (fun H locs hq hP hL hS => ?_)
              rw [nI_clamp (n := (232 + (3 * (sN S))) + k) (by omega)] at hP hL
              have hz := hq.trans hz
              obtain ⟨σ7, e7⟩ : ∃ υ0 : gS, υ0 = gup υ (mo + 1) (gI 292 (upd ((sRow A3 1 (filF (A3 1) (232 + 3 * sN S) (232 + 3 * sN S + k) 0)) 1) ((232 + (3 * (sN S))) + k) ((nI 0)))) := ⟨_, rfl⟩
              have hP : gH D ka σ7 H := by rw [e7]; exact hP
              have hL : gL lo σ7 := by rw [e7]; exact hL
              have hMo : MoAt σ7 mo (sRow (sRow A3 1 (filF (A3 1) (232 + 3 * sN S) (232 + 3 * sN S + k) 0)) 1 (upd ((sRow A3 1 (filF (A3 1) (232 + 3 * sN S) (232 + 3 * sN S + k) 0)) 1) ((232 + (3 * (sN S))) + k) ((nI 0)))) := by rw [e7]; exact hMo.w1 (upd ((sRow A3 1 (filF (A3 1) (232 + 3 * sN S) (232 + 3 * sN S + k) 0)) 1) ((232 + (3 * (sN S))) + k) ((nI 0)))
              have hag := hag.upe e7 (zo_k (by decide))
              refine lv_iinc (v := (nI (k + 1))) (lv' := [(4, .int (nI (k + 1))), (0, .ref mo), (1, .int a1), (2, .int a2), (3, .int (nI (sN S)))]) hx hb dX8_addSinger_112 hl (k := 4) rfl (g_inc k 1) (by decide) rfl (fun ls hl => ?_)
              refine lv_goto (tgt := 90) hx hb dX8_addSinger_115 (by decide) ?_
              exact ih_lp (k + 1) (by omega) (by omega) σ7 (by rw [← fil_s]; exact hMo) hag hL H locs ls hz hP hS (lv_sub hl [1, 2, 3, 4, 0] rfl)
        exact lp _ 0 (by omega) (Nat.lt_succ_self _) σ4 (by rw [Nat.add_zero, filF_0, sRow_id]; exact hMo) hag hL H locs ls hz hP hS (lv_sub hl [2, 3, 4, 1, 0] rfl)
      · refine lv_bipush (v := (-3)) hx hb dX8_addSinger_32 (by decide) ?_
        exact g_iret (z := sz) hx hb hr hlk hz hP hL hS dX8_addSinger_34 (gxi_i (mP_n (by unfold o_addSinger; rw [if_pos (by first | exact c7 | exact nb c7 | exact Ne.symm c7 | exact fun q => q c7 | exact fun q => q c7.symm | omega), if_pos (by first | exact c17 | exact nb c17 | exact Ne.symm c17 | exact fun q => q c17 | exact fun q => q c17.symm | omega), if_neg (by first | exact c29 | exact nb c29 | exact Ne.symm c29 | exact fun q => q c29 | exact fun q => q c29.symm | omega)]) ⟨_, hMo, hA⟩ rfl hag))
    · refine lv_bipush (v := (-2)) hx hb dX8_addSinger_20 (by decide) ?_
      exact g_iret (z := sz) hx hb hr hlk hz hP hL hS dX8_addSinger_22 (gxi_i (mP_n (by unfold o_addSinger; rw [if_pos (by first | exact c7 | exact nb c7 | exact Ne.symm c7 | exact fun q => q c7 | exact fun q => q c7.symm | omega), if_neg (by first | exact c17 | exact nb c17 | exact Ne.symm c17 | exact fun q => q c17 | exact fun q => q c17.symm | omega)]) ⟨_, hMo, hA⟩ rfl hag))
