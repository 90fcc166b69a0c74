/-! the reference: faults one by one; signs of the text -/
abbrev addA (A : sS) (F : Nat) (q b s : Int32) : sS := sPut (sRow (sRow (sRow A 13 (upd (A 13) F q)) 14 (upd (A 14) F b)) 15 (upd (A 15) F s)) 0 4 (nI (F + 1))
def soR (y : Int32) : Int32 := if y = nI 46 then nI 0 else if y = nI 45 then nI 1 else if y = nI 111 then nI 2 else -5
theorem nX8_addFault_X8 : ∀ w ∈ wsX80, w ∈ wsX8_addFault := by decide +kernel
set_option maxHeartbeats 4000000 in
set_option maxRecDepth 100000 in
theorem c_X8_addFault (l : Launch) (mo : Nat) (A : sS) (F : Nat) (q b s0 : Int32) (σ : gS) (sz : Nat) (hMo : MoAt σ mo A) (hF : tN A 4 = F) (hF2 : F < 1300) : gM l yX8_addFault wsX8_addFault ({ frames := 0, cells := 0, slots := 0, locals := 0 } : Room) 0 0 [.ref mo, .int q, .int b, .int s0] σ sz (gxv (fun τ n => n = sz ∧ MoAt τ mo (addA A F q b s0) ∧ gAs (gZo mo 16) σ τ)) := by
  refine gM_of (cc := cX8_addFault) (maxL := 4) (ret := none) (by decide) rfl (Nat.le_of_ble_eq_true rfl) ?_
  intro D ka lo hL hlo p e s m below meth c hx hb hr hts hown hml hlk hnm hK H locs ls hz hP hS hl
  have hl : lv_has ls 4 [(0, .ref mo), (1, .int q), (2, .int b), (3, .int s0)] := hl
  have hown : s.vm.findClass RX8 = some m.cls := hown
  have hag : gAs (gZo mo 16) σ σ := gAs.rf
  refine lv_aload_n hx hb dX8_addFault_0 rfl (lv_at hl 0 rfl) ?_
  refine g_get (C := RX8) (T := TX8) (N := 20) hx hb hts hown hK hP hMo.c0 nX8_addFault_X8 rfl 17 (by decide) (by decide +kernel) rfl (v := .ref (mo + 13)) rfl dX8_addFault_1 ?_
  refine lv_aload_n hx hb dX8_addFault_4 rfl (lv_at hl 0 rfl) ?_
  refine g_get (C := RX8) (T := TX8) (N := 20) hx hb hts hown hK hP hMo.c0 nX8_addFault_X8 rfl 16 (by decide) (by decide +kernel) rfl (v := .int (nI (tN A 4))) rfl dX8_addFault_5 ?_
  refine g_top (y := (nI F)) (congrArg nI hF) ?_
  refine lv_iload_n hx hb dX8_addFault_8 rfl (lv_at hl 1 rfl) ?_
  refine g_iast hx hb hK hP hL hS hMo.c13 (i := nI F) (vp_in_nI (by omega) (by omega)) dX8_addFault_9 (fun H locs hq hP hL hS => ?_)
  rw [nI_clamp (n := F) (by omega)] at hP hL
  have hz := hq.trans hz
  obtain ⟨σ1, e1⟩ : ∃ υ0 : gS, υ0 = gup σ (mo + 13) (gI 1300 (upd (A 13) F q)) := ⟨_, rfl⟩
  have hP : gH D ka σ1 H := by rw [e1]; exact hP
  have hL : gL lo σ1 := by rw [e1]; exact hL
  have hMo : MoAt σ1 mo (sRow A 13 (upd (A 13) F q)) := by rw [e1]; exact hMo.w13 (upd (A 13) F q)
  have hag := hag.upe e1 (zo_k (by decide))
  refine lv_aload_n hx hb dX8_addFault_10 rfl (lv_at hl 0 rfl) ?_
  refine g_get (C := RX8) (T := TX8) (N := 20) hx hb hts hown hK hP hMo.c0 nX8_addFault_X8 rfl 18 (by decide) (by decide +kernel) rfl (v := .ref (mo + 14)) rfl dX8_addFault_11 ?_
  refine lv_aload_n hx hb dX8_addFault_14 rfl (lv_at hl 0 rfl) ?_
  refine g_get (C := RX8) (T := TX8) (N := 20) hx hb hts hown hK hP hMo.c0 nX8_addFault_X8 rfl 16 (by decide) (by decide +kernel) rfl (v := .int (nI (tN (sRow A 13 (upd (A 13) F q)) 4))) rfl dX8_addFault_15 ?_
  refine g_top (y := (nI F)) (congrArg nI hF) ?_
  refine lv_iload_n hx hb dX8_addFault_18 rfl (lv_at hl 2 rfl) ?_
  refine g_iast hx hb hK hP hL hS hMo.c14 (i := nI F) (vp_in_nI (by omega) (by omega)) dX8_addFault_19 (fun H locs hq hP hL hS => ?_)
  rw [nI_clamp (n := F) (by omega)] at hP hL
  have hz := hq.trans hz
  obtain ⟨σ2, e2⟩ : ∃ υ0 : gS, υ0 = gup σ1 (mo + 14) (gI 1300 (upd ((sRow A 13 (upd (A 13) F q)) 14) F b)) := ⟨_, rfl⟩
  have hP : gH D ka σ2 H := by rw [e2]; exact hP
  have hL : gL lo σ2 := by rw [e2]; exact hL
  have hMo : MoAt σ2 mo (sRow (sRow A 13 (upd (A 13) F q)) 14 (upd ((sRow A 13 (upd (A 13) F q)) 14) F b)) := by rw [e2]; exact hMo.w14 (upd ((sRow A 13 (upd (A 13) F q)) 14) F b)
  have hag := hag.upe e2 (zo_k (by decide))
  refine lv_aload_n hx hb dX8_addFault_20 rfl (lv_at hl 0 rfl) ?_
  refine g_get (C := RX8) (T := TX8) (N := 20) hx hb hts hown hK hP hMo.c0 nX8_addFault_X8 rfl 19 (by decide) (by decide +kernel) rfl (v := .ref (mo + 15)) rfl dX8_addFault_21 ?_
  refine lv_aload_n hx hb dX8_addFault_24 rfl (lv_at hl 0 rfl) ?_
  refine g_get (C := RX8) (T := TX8) (N := 20) hx hb hts hown hK hP hMo.c0 nX8_addFault_X8 rfl 16 (by decide) (by decide +kernel) rfl (v := .int (nI (tN (sRow (sRow A 13 (upd (A 13) F q)) 14 (upd ((sRow A 13 (upd (A 13) F q)) 14) F b)) 4))) rfl dX8_addFault_25 ?_
  refine g_top (y := (nI F)) (congrArg nI hF) ?_
  refine lv_iload_n hx hb dX8_addFault_28 rfl (lv_at hl 3 rfl) ?_
  refine g_iast hx hb hK hP hL hS hMo.c15 (i := nI F) (vp_in_nI (by omega) (by omega)) dX8_addFault_29 (fun H locs hq hP hL hS => ?_)
  rw [nI_clamp (n := F) (by omega)] at hP hL
  have hz := hq.trans hz
  obtain ⟨σ3, e3⟩ : ∃ υ0 : gS, υ0 = gup σ2 (mo + 15) (gI 1300 (upd ((sRow (sRow A 13 (upd (A 13) F q)) 14 (upd ((sRow A 13 (upd (A 13) F q)) 14) F b)) 15) F s0)) := ⟨_, rfl⟩
  have hP : gH D ka σ3 H := by rw [e3]; exact hP
  have hL : gL lo σ3 := by rw [e3]; exact hL
  have hMo : MoAt σ3 mo (sRow (sRow (sRow A 13 (upd (A 13) F q)) 14 (upd ((sRow A 13 (upd (A 13) F q)) 14) F b)) 15 (upd ((sRow (sRow A 13 (upd (A 13) F q)) 14 (upd ((sRow A 13 (upd (A 13) F q)) 14) F b)) 15) F s0)) := by rw [e3]; exact hMo.w15 (upd ((sRow (sRow A 13 (upd (A 13) F q)) 14 (upd ((sRow A 13 (upd (A 13) F q)) 14) F b)) 15) F s0)
  have hag := hag.upe e3 (zo_k (by decide))
  refine lv_aload_n hx hb dX8_addFault_30 rfl (lv_at hl 0 rfl) ?_
  refine lv_dup hx hb dX8_addFault_31 rfl ?_
  refine g_get (C := RX8) (T := TX8) (N := 20) hx hb hts hown hK hP hMo.c0 nX8_addFault_X8 rfl 16 (by decide) (by decide +kernel) rfl (v := .int (nI (tN (sRow (sRow (sRow A 13 (upd (A 13) F q)) 14 (upd ((sRow A 13 (upd (A 13) F q)) 14) F b)) 15 (upd ((sRow (sRow A 13 (upd (A 13) F q)) 14 (upd ((sRow A 13 (upd (A 13) F q)) 14) F b)) 15) F s0)) 4))) rfl dX8_addFault_32 ?_
  refine g_top (y := (nI F)) (congrArg nI hF) ?_
  refine lv_iconst (v := (nI 1)) hx hb dX8_addFault_35 (by decide) ?_
  refine lv_iadd hx hb dX8_addFault_36 ?_
  refine g_top (nI_add F 1) ?_
  refine g_put (C := RX8) (T := TX8) (N := 20) hx hb hts hown hK hP hL hS hMo.c0 nX8_addFault_X8 tyX8 tyX8_ok nmX8 rfl 16 (by decide) (by decide +kernel) rfl rfl (v := .int (nI (F + 1))) rfl rfl (Nat.le_of_ble_eq_true rfl) dX8_addFault_37 (fun H locs hq hP hL hS => ?_)
  have hz := hq.trans hz
  obtain ⟨σ4, e4⟩ : ∃ υ0 : gS, υ0 = gup σ3 mo (gO 8 [.ref (mo + 1), .ref (mo + 2), .ref (mo + 3), .int (nI (tN (sRow (sRow (sRow A 13 (upd (A 13) F q)) 14 (upd ((sRow A 13 (upd (A 13) F q)) 14) F b)) 15 (upd ((sRow (sRow A 13 (upd (A 13) F q)) 14 (upd ((sRow A 13 (upd (A 13) F q)) 14) F b)) 15) F s0)) 0)), .ref (mo + 4), .ref (mo + 5), .int (nI (tN (sRow (sRow (sRow A 13 (upd (A 13) F q)) 14 (upd ((sRow A 13 (upd (A 13) F q)) 14) F b)) 15 (upd ((sRow (sRow A 13 (upd (A 13) F q)) 14 (upd ((sRow A 13 (upd (A 13) F q)) 14) F b)) 15) F s0)) 1)), .ref (mo + 6), .int (nI (tN (sRow (sRow (sRow A 13 (upd (A 13) F q)) 14 (upd ((sRow A 13 (upd (A 13) F q)) 14) F b)) 15 (upd ((sRow (sRow A 13 (upd (A 13) F q)) 14 (upd ((sRow A 13 (upd (A 13) F q)) 14) F b)) 15) F s0)) 2)), .ref (mo + 7), .ref (mo + 8), .ref (mo + 9), .int (nI (tN (sRow (sRow (sRow A 13 (upd (A 13) F q)) 14 (upd ((sRow A 13 (upd (A 13) F q)) 14) F b)) 15 (upd ((sRow (sRow A 13 (upd (A 13) F q)) 14 (upd ((sRow A 13 (upd (A 13) F q)) 14) F b)) 15) F s0)) 3)), .ref (mo + 10), .ref (mo + 11), .ref (mo + 12), .int (nI (F + 1)), .ref (mo + 13), .ref (mo + 14), .ref (mo + 15)]) := ⟨_, rfl⟩
  have hP : gH D ka σ4 H := by rw [e4]; exact hP
  have hL : gL lo σ4 := by rw [e4]; exact hL
  have hMo : MoAt σ4 mo (sPut (sRow (sRow (sRow A 13 (upd (A 13) F q)) 14 (upd ((sRow A 13 (upd (A 13) F q)) 14) F b)) 15 (upd ((sRow (sRow A 13 (upd (A 13) F q)) 14 (upd ((sRow A 13 (upd (A 13) F q)) 14) F b)) 15) F s0)) 0 4 (nI (F + 1))) := by rw [e4]; exact hMo.p16 (F + 1) (by omega)
  have hag := hag.upe e4 (zo_0 (by decide))
  exact g_vret (z := sz) hx hb hr hlk hz hP hL hS dX8_addFault_40 (gxv_i ⟨rfl, hMo, hag⟩)

theorem nX8_faultsOf_X8 : ∀ w ∈ wsX80, w ∈ wsX8_faultsOf := by decide +kernel
set_option maxHeartbeats 4000000 in
set_option maxRecDepth 100000 in
theorem c_X8_faultsOf (l : Launch) (mo : Nat) (A : sS) (F q : Nat) (σ : gS) (sz : Nat) (hMo : MoAt σ mo A) (hF : tN A 4 = F) (hF2 : F ≤ 1300) : gM l yX8_faultsOf wsX8_faultsOf ({ frames := 0, cells := 0, slots := 0, locals := 0 } : Room) 0 0 [.ref mo, .int (nI q)] σ sz (gi (nI (cntF (fun j => decide (A 13 j = nI q)) F)) σ sz) := by
  refine gM_of (cc := cX8_faultsOf) (maxL := 4) (ret := (some .int)) (by decide) rfl (Nat.le_of_ble_eq_true rfl) ?_
  intro D ka lo hL hlo p e s m below meth c hx hb hr hts hown hml hlk hnm hK H locs ls hz hP hS hl
  have hl : lv_has ls 4 [(0, .ref mo), (1, .int (nI q))] := hl
  have hown : s.vm.findClass RX8 = some m.cls := hown
  refine lv_iconst (v := (nI 0)) hx hb dX8_faultsOf_0 (by decide) ?_
  refine lv_istore_n (lv' := [(2, .int (nI 0)), (0, .ref mo), (1, .int (nI q))]) hx hb dX8_faultsOf_1 rfl hl (by decide) rfl (fun ls hl => ?_)
  refine lv_iconst (v := (nI 0)) hx hb dX8_faultsOf_2 (by decide) ?_
  refine lv_istore_n (lv' := [(3, .int (nI 0)), (2, .int (nI 0)), (0, .ref mo), (1, .int (nI q))]) hx hb dX8_faultsOf_3 rfl hl (by decide) rfl (fun ls hl => ?_)
  have lp : ∀ (fu_lp : Nat) (k : Nat), (k ≤ F) → (F - k < fu_lp) → ∀ (H : Heap) (locs : List Loc) (ls : Array Slot), H.size = sz → gH D ka σ H → va_S (gA lo) s.heap H locs → lv_has ls 4 [(0, .ref mo), (1, .int (nI q)), (2, .int (nI (cntF (fun j => decide (A 13 j = nI q)) k))), (3, .int (nI k))] → W p l e ({ frames := 0, cells := 0, slots := 0, locals := 0 } : Room) s m ([.ref mo, .int (nI q)] : List Value).toArray below meth c H locs (0) (0) (MQ below (gQ D ka lo (gi (nI (cntF (fun j => decide (A 13 j = nI q)) F)) σ sz)) ([.ref mo, .int (nI q)] : List Value).toArray s 0 0 (gA lo)) (F0 m 4 ls []) := by
    intro fu_lp
    induction fu_lp with
    | zero => intro k hk hm_lp; exact absurd hm_lp (Nat.not_lt_zero _)
    | succ fu_lp ih_lp =>
      intro k hk hm_lp H locs ls hz hP hS hl
      refine lv_iload_n hx hb dX8_faultsOf_4 rfl (lv_at hl 3 rfl) ?_
      refine lv_aload_n hx hb dX8_faultsOf_5 rfl (lv_at hl 0 rfl) ?_
      refine g_get (C := RX8) (T := TX8) (N := 20) hx hb hts hown hK hP hMo.c0 nX8_faultsOf_X8 rfl 16 (by decide) (by decide +kernel) rfl (v := .int (nI (tN A 4))) rfl dX8_faultsOf_6 ?_
      refine g_top (y := (nI F)) (congrArg nI hF) ?_
      refine g_icmp_ge (tgt := 36) (a := k) (b := F) hx hb (by omega) (by omega) dX8_faultsOf_9 (by decide) (fun c9 => ?_) (fun c9 => ?_)
      · refine lv_iload_n hx hb dX8_faultsOf_36 rfl (lv_at hl 2 rfl) ?_
        exact g_iret (z := sz) hx hb hr hlk hz hP hL hS dX8_faultsOf_37 (gi_i (by rw [show k = F by omega]) rfl)
      · refine lv_iload_n hx hb dX8_faultsOf_12 rfl (lv_at hl 2 rfl) ?_
        refine lv_aload_n hx hb dX8_faultsOf_13 rfl (lv_at hl 0 rfl) ?_
        refine g_get (C := RX8) (T := TX8) (N := 20) hx hb hts hown hK hP hMo.c0 nX8_faultsOf_X8 rfl 17 (by decide) (by decide +kernel) rfl (v := .ref (mo + 13)) rfl dX8_faultsOf_14 ?_
        refine lv_iload_n hx hb dX8_faultsOf_17 rfl (lv_at hl 3 rfl) ?_
        refine g_iald hx hb hK hP hMo.c13 (i := nI k) (vp_in_nI (by omega) (by omega)) dX8_faultsOf_18 ?_
        rw [nI_clamp (n := k) (by omega)]
        refine lv_iload_n hx hb dX8_faultsOf_19 rfl (lv_at hl 1 rfl) ?_
        refine lv_icmp_ne (tgt := 27) hx hb dX8_faultsOf_20 (by decide) (fun c20 => ?_) (fun c20 => ?_)
        · refine lv_iconst (v := (nI 0)) hx hb dX8_faultsOf_27 (by decide) ?_
          refine lv_iadd hx hb dX8_faultsOf_28 ?_
          refine g_top (nI_add (cntF (fun j => decide (A 13 j = nI q)) k) 0) ?_
          refine lv_istore_n (lv' := [(2, .int (nI ((cntF (fun j => decide (A 13 j = nI q)) k) + 0))), (0, .ref mo), (1, .int (nI q)), (3, .int (nI k))]) hx hb dX8_faultsOf_29 rfl hl (by decide) rfl (fun ls hl => ?_)
          refine lv_iinc (v := (nI (k + 1))) (lv' := [(3, .int (nI (k + 1))), (2, .int (nI ((cntF (fun j => decide (A 13 j = nI q)) k) + 0))), (0, .ref mo), (1, .int (nI q))]) hx hb dX8_faultsOf_30 hl (k := 3) rfl (g_inc k 1) (by decide) rfl (fun ls hl => ?_)
          refine lv_goto (tgt := 4) hx hb dX8_faultsOf_33 (by decide) ?_
          have e_2 : (nI ((cntF (fun j => decide (A 13 j = nI q)) k) + 0)) = (nI (cntF (fun j => decide (A 13 j = nI q)) (k + 1))) := (congrArg nI (cntF_f (p := fun j => decide (A 13 j = nI q)) (decide_eq_false c20)).symm)
          have hl := lv_sub hl (l' := [(0, .ref mo), (1, .int (nI q)), (2, .int (nI ((cntF (fun j => decide (A 13 j = nI q)) k) + 0))), (3, .int (nI (k + 1)))]) [2, 3, 1, 0] rfl
          rw [e_2] at hl
          exact ih_lp (k + 1) (by omega) (by omega) H locs ls hz hP hS hl
        · refine lv_iconst (v := (nI 1)) hx hb dX8_faultsOf_23 (by decide) ?_
          refine lv_goto (tgt := 28) hx hb dX8_faultsOf_24 (by decide) ?_
          refine lv_iadd hx hb dX8_faultsOf_28 ?_
          refine g_top (nI_add (cntF (fun j => decide (A 13 j = nI q)) k) 1) ?_
          refine lv_istore_n (lv' := [(2, .int (nI ((cntF (fun j => decide (A 13 j = nI q)) k) + 1))), (0, .ref mo), (1, .int (nI q)), (3, .int (nI k))]) hx hb dX8_faultsOf_29 rfl hl (by decide) rfl (fun ls hl => ?_)
          refine lv_iinc (v := (nI (k + 1))) (lv' := [(3, .int (nI (k + 1))), (2, .int (nI ((cntF (fun j => decide (A 13 j = nI q)) k) + 1))), (0, .ref mo), (1, .int (nI q))]) hx hb dX8_faultsOf_30 hl (k := 3) rfl (g_inc k 1) (by decide) rfl (fun ls hl => ?_)
          refine lv_goto (tgt := 4) hx hb dX8_faultsOf_33 (by decide) ?_
          have e_2 : (nI ((cntF (fun j => decide (A 13 j = nI q)) k) + 1)) = (nI (cntF (fun j => decide (A 13 j = nI q)) (k + 1))) := (congrArg nI (cntF_t (p := fun j => decide (A 13 j = nI q)) (decide_eq_true c20)).symm)
          have hl := lv_sub hl (l' := [(0, .ref mo), (1, .int (nI q)), (2, .int (nI ((cntF (fun j => decide (A 13 j = nI q)) k) + 1))), (3, .int (nI (k + 1)))]) [2, 3, 1, 0] rfl
          rw [e_2] at hl
          exact ih_lp (k + 1) (by omega) (by omega) H locs ls hz hP hS hl
  exact lp _ 0 (by omega) (Nat.lt_succ_self _) H locs ls hz hP hS (lv_sub hl [2, 3, 1, 0] rfl)

set_option maxHeartbeats 4000000 in
set_option maxRecDepth 100000 in
theorem c_X8_sortOf (l : Launch) (y0 : Int32) (σ : gS) (sz : Nat)  : gM l yX8_sortOf wsX8_sortOf ({ frames := 0, cells := 0, slots := 0, locals := 0 } : Room) 0 0 [.int y0] σ sz (gi (soR y0) σ sz) := by
  refine gM_of (cc := cX8_sortOf) (maxL := 1) (ret := (some .int)) (by decide) rfl (Nat.le_of_ble_eq_true rfl) ?_
  intro D ka lo hL hlo p e s m below meth c hx hb hr hts hown hml hlk hnm hK H locs ls hz hP hS hl
  have hl : lv_has ls 1 [(0, .int y0)] := hl
  have hown : s.vm.findClass RX8 = some m.cls := hown
  refine lv_iload_n hx hb dX8_sortOf_0 rfl (lv_at hl 0 rfl) ?_
  refine lv_bipush (v := (nI 46)) hx hb dX8_sortOf_1 (by decide) ?_
  refine lv_icmp_ne (tgt := 10) hx hb dX8_sortOf_3 (by decide) (fun c3 => ?_) (fun c3 => ?_)
  · refine lv_iload_n hx hb dX8_sortOf_10 rfl (lv_at hl 0 rfl) ?_
    refine lv_bipush (v := (nI 45)) hx hb dX8_sortOf_11 (by decide) ?_
    refine lv_icmp_ne (tgt := 20) hx hb dX8_sortOf_13 (by decide) (fun c13 => ?_) (fun c13 => ?_)
    · refine lv_iload_n hx hb dX8_sortOf_20 rfl (lv_at hl 0 rfl) ?_
      refine lv_bipush (v := (nI 111)) hx hb dX8_sortOf_21 (by decide) ?_
      refine lv_icmp_ne (tgt := 30) hx hb dX8_sortOf_23 (by decide) (fun c23 => ?_) (fun c23 => ?_)
      · refine lv_bipush (v := (-5)) hx hb dX8_sortOf_30 (by decide) ?_
        exact g_iret (z := sz) hx hb hr hlk hz hP hL hS dX8_sortOf_32 (gi_i (by rw [soR, if_neg c3, if_neg c13, if_neg c23]) rfl)
      · refine lv_iconst (v := (nI 2)) hx hb dX8_sortOf_26 (by decide) ?_
        refine lv_goto (tgt := 32) hx hb dX8_sortOf_27 (by decide) ?_
        exact g_iret (z := sz) hx hb hr hlk hz hP hL hS dX8_sortOf_32 (gi_i (by rw [soR, if_neg c3, if_neg c13, if_pos c23]) rfl)
    · refine lv_iconst (v := (nI 1)) hx hb dX8_sortOf_16 (by decide) ?_
      refine lv_goto (tgt := 32) hx hb dX8_sortOf_17 (by decide) ?_
      exact g_iret (z := sz) hx hb hr hlk hz hP hL hS dX8_sortOf_32 (gi_i (by rw [soR, if_neg c3, if_pos c13]) rfl)
  · refine lv_iconst (v := (nI 0)) hx hb dX8_sortOf_6 (by decide) ?_
    refine lv_goto (tgt := 32) hx hb dX8_sortOf_7 (by decide) ?_
    exact g_iret (z := sz) hx hb hr hlk hz hP hL hS dX8_sortOf_32 (gi_i (by rw [soR, if_pos c3]) rfl)

theorem nX8_isAt_X8 : ∀ w ∈ wsX80, w ∈ wsX8_isAt := by decide +kernel
set_option maxHeartbeats 4000000 in
set_option maxRecDepth 100000 in
theorem c_X8_isAt (l : Launch) (mo : Nat) (A : sS) (a n : Nat) (lw hi : Int32) (σ : gS) (sz : Nat) (hMo : MoAt σ mo A) (ha0 : tN A 2 = a) (hn0 : tN A 1 = n) (hn : n ≤ 60) (ha : a ≤ 60) : gM l yX8_isAt wsX8_isAt ({ frames := 0, cells := 0, slots := 0, locals := 0 } : Room) 0 0 [.ref mo, .int lw, .int hi] σ sz (gi (bI (decide (a < n) && inB (A 6 a) lw hi)) σ sz) := by
  refine gM_of (cc := cX8_isAt) (maxL := 3) (ret := (some .boolean)) (by decide) rfl (Nat.le_of_ble_eq_true rfl) ?_
  intro D ka lo hL hlo p e s m below meth c hx hb hr hts hown hml hlk hnm hK H locs ls hz hP hS hl
  have hl : lv_has ls 3 [(0, .ref mo), (1, .int lw), (2, .int hi)] := hl
  have hown : s.vm.findClass RX8 = some m.cls := hown
  refine lv_aload_n hx hb dX8_isAt_0 rfl (lv_at hl 0 rfl) ?_
  refine g_get (C := RX8) (T := TX8) (N := 20) hx hb hts hown hK hP hMo.c0 nX8_isAt_X8 rfl 8 (by decide) (by decide +kernel) rfl (v := .int (nI (tN A 2))) rfl dX8_isAt_1 ?_
  refine g_top (y := (nI a)) (congrArg nI ha0) ?_
  refine lv_aload_n hx hb dX8_isAt_4 rfl (lv_at hl 0 rfl) ?_
  refine g_get (C := RX8) (T := TX8) (N := 20) hx hb hts hown hK hP hMo.c0 nX8_isAt_X8 rfl 6 (by decide) (by decide +kernel) rfl (v := .int (nI (tN A 1))) rfl dX8_isAt_5 ?_
  refine g_top (y := (nI n)) (congrArg nI hn0) ?_
  refine g_icmp_ge (tgt := 41) (a := a) (b := n) hx hb (by omega) (by omega) dX8_isAt_8 (by decide) (fun c8 => ?_) (fun c8 => ?_)
  · refine lv_iconst (v := (nI 0)) hx hb dX8_isAt_41 (by decide) ?_
    exact g_zret (z := sz) hx hb hr hlk hz hP hL hS rfl dX8_isAt_42 (gi_i (by rw [decide_eq_false (show ¬ a < n by omega), Bool.false_and]; rfl) rfl)
  · refine lv_aload_n hx hb dX8_isAt_11 rfl (lv_at hl 0 rfl) ?_
    refine g_get (C := RX8) (T := TX8) (N := 20) hx hb hts hown hK hP hMo.c0 nX8_isAt_X8 rfl 7 (by decide) (by decide +kernel) rfl (v := .ref (mo + 6)) rfl dX8_isAt_12 ?_
    refine lv_aload_n hx hb dX8_isAt_15 rfl (lv_at hl 0 rfl) ?_
    refine g_get (C := RX8) (T := TX8) (N := 20) hx hb hts hown hK hP hMo.c0 nX8_isAt_X8 rfl 8 (by decide) (by decide +kernel) rfl (v := .int (nI (tN A 2))) rfl dX8_isAt_16 ?_
    refine g_top (y := (nI a)) (congrArg nI ha0) ?_
    refine g_cald hx hb hK hP hMo.c6 (i := nI a) (vp_in_nI (by omega) (by omega)) dX8_isAt_19 ?_
    rw [nI_clamp (n := a) (by omega)]
    refine lv_iload_n hx hb dX8_isAt_20 rfl (lv_at hl 1 rfl) ?_
    refine lv_icmp_lt (tgt := 41) hx hb dX8_isAt_21 (by decide) (fun c21 => ?_) (fun c21 => ?_)
    · refine lv_iconst (v := (nI 0)) hx hb dX8_isAt_41 (by decide) ?_
      exact g_zret (z := sz) hx hb hr hlk hz hP hL hS rfl dX8_isAt_42 (gi_i (by rw [decide_eq_true (show a < n by omega), Bool.true_and]; rw [inB, decide_eq_false (Int32.not_le.mpr c21), Bool.false_and]; rfl) rfl)
    · refine lv_aload_n hx hb dX8_isAt_24 rfl (lv_at hl 0 rfl) ?_
      refine g_get (C := RX8) (T := TX8) (N := 20) hx hb hts hown hK hP hMo.c0 nX8_isAt_X8 rfl 7 (by decide) (by decide +kernel) rfl (v := .ref (mo + 6)) rfl dX8_isAt_25 ?_
      refine lv_aload_n hx hb dX8_isAt_28 rfl (lv_at hl 0 rfl) ?_
      refine g_get (C := RX8) (T := TX8) (N := 20) hx hb hts hown hK hP hMo.c0 nX8_isAt_X8 rfl 8 (by decide) (by decide +kernel) rfl (v := .int (nI (tN A 2))) rfl dX8_isAt_29 ?_
      refine g_top (y := (nI a)) (congrArg nI ha0) ?_
      refine g_cald hx hb hK hP hMo.c6 (i := nI a) (vp_in_nI (by omega) (by omega)) dX8_isAt_32 ?_
      rw [nI_clamp (n := a) (by omega)]
      refine lv_iload_n hx hb dX8_isAt_33 rfl (lv_at hl 2 rfl) ?_
      refine lv_icmp_gt (tgt := 41) hx hb dX8_isAt_34 (by decide) (fun c34 => ?_) (fun c34 => ?_)
      · refine lv_iconst (v := (nI 0)) hx hb dX8_isAt_41 (by decide) ?_
        exact g_zret (z := sz) hx hb hr hlk hz hP hL hS rfl dX8_isAt_42 (gi_i (by rw [decide_eq_true (show a < n by omega), Bool.true_and]; rw [inB, decide_eq_false (p := A 6 a ≤ hi) (Int32.not_le.mpr c34), Bool.and_false]; rfl) rfl)
      · refine lv_iconst (v := (nI 1)) hx hb dX8_isAt_37 (by decide) ?_
        refine lv_goto (tgt := 42) hx hb dX8_isAt_38 (by decide) ?_
        exact g_zret (z := sz) hx hb hr hlk hz hP hL hS rfl dX8_isAt_42 (gi_i (by rw [decide_eq_true (show a < n by omega), Bool.true_and]; rw [inB, decide_eq_true (Int32.not_lt.mp c21), decide_eq_true (Int32.not_lt.mp c34)]; rfl) rfl)
