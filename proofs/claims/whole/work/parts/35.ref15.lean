/-! the reference: the sort of a mark -/
def skI (S A : sS) (i b : Nat) : Int32 := if A 10 (96 * i + b) = nI 1 then (if soloF S b = none then (if firstI S b = nI b then -5 else if cntF (fun j => decide (A 10 (96 * j + b) = nI 0)) (sN S) < 2 then nI 2 else -5) else nI 3) else -5
set_option maxHeartbeats 4000000 in
set_option maxRecDepth 100000 in
theorem c_X8_sortOfMark (l : Launch) (mo : Nat) (A S : sS) (i b : Nat) (σ : gS) (sz : Nat) (hMo : MoAt σ mo A) (hR : Rr S (A 1)) (hi0 : i < sN S) (hN : sN S ≤ 12) (hb0 : b < sB S) (hB : sB S ≤ 96) (hKs : sK S ≤ 8) : gM l yX8_sortOfMark wsX8_sortOfMark ({ frames := 2, cells := 0, slots := 0, locals := 46 } : Room) 0 0 [.ref mo, .int (nI i), .int (nI b)] σ sz (gi (skI S A i b) σ sz) := by
  refine gM_of (cc := cX8_sortOfMark) (maxL := 3) (ret := (some .int)) (by decide) rfl (Nat.le_of_ble_eq_true rfl) ?_
  intro D ka lo hL hlo p e s m below meth c hx hb hr hts hown hml hlk hnm hK H locs ls hz hP hS hl
  have hl : lv_has ls 3 [(0, .ref mo), (1, .int (nI i)), (2, .int (nI b))] := hl
  have hown : s.vm.findClass RX8 = some m.cls := hown
  refine lv_aload_n hx hb dX8_sortOfMark_0 rfl (lv_at hl 0 rfl) ?_
  refine lv_iload_n hx hb dX8_sortOfMark_1 rfl (lv_at hl 1 rfl) ?_
  refine lv_iload_n hx hb dX8_sortOfMark_2 rfl (lv_at hl 2 rfl) ?_
  refine g_runV (As := [.int (nI i), .int (nI b)]) (rest := []) (own := RX8) (C := RX8) (T := TX8) (N := 20) 2 hx hb hml hown hts hK hz hP hL hS hlo hl.1 (c_X8_doesAt l mo A S i b σ sz hMo hR (by omega) (by omega) (by omega) (by omega)) gX8_sortOfMark_X8_doesAt rfl rfl rfl (by decide +kernel) ⟨Nat.le_of_ble_eq_true rfl, Nat.le_of_ble_eq_true rfl⟩ hMo.c0 rfl rfl rfl (Nat.le_of_ble_eq_true rfl) dX8_sortOfMark_3 ⟨Nat.le_of_ble_eq_true rfl, Nat.le_of_ble_eq_true rfl⟩ (g_ki0 (fun H locs hz hP hL hS => ?_))
  refine lv_iconst (v := (nI 1)) hx hb dX8_sortOfMark_6 (by decide) ?_
  refine lv_icmp_eq (tgt := 13) hx hb dX8_sortOfMark_7 (by decide) (fun c7 => ?_) (fun c7 => ?_)
  · refine lv_aload_n hx hb dX8_sortOfMark_13 rfl (lv_at hl 0 rfl) ?_
    refine lv_iload_n hx hb dX8_sortOfMark_14 rfl (lv_at hl 2 rfl) ?_
    refine g_runV (As := [.int (nI b)]) (rest := []) (own := RX8) (C := RX8) (T := TX8) (N := 20) 1 hx hb hml hown hts hK hz hP hL hS hlo hl.1 (c_X8_soloAt l mo A S b σ sz hMo hR (by omega)) gX8_sortOfMark_X8_soloAt rfl rfl rfl (by decide +kernel) ⟨Nat.le_of_ble_eq_true rfl, Nat.le_of_ble_eq_true rfl⟩ hMo.c0 rfl rfl rfl (Nat.le_of_ble_eq_true rfl) dX8_sortOfMark_15 ⟨Nat.le_of_ble_eq_true rfl, Nat.le_of_ble_eq_true rfl⟩ (g_ki0 (fun H locs hz hP hL hS => ?_))
    rcases hso : soloF S b with _ | so
    · refine g_top (y := (-5)) rfl ?_
      refine lv_if_lt (tgt := 23) hx hb dX8_sortOfMark_18 (by decide) (fun c18 => ?_) (fun c18 => absurd (by decide) c18)
      refine lv_aload_n hx hb dX8_sortOfMark_23 rfl (lv_at hl 0 rfl) ?_
      refine lv_iload_n hx hb dX8_sortOfMark_24 rfl (lv_at hl 2 rfl) ?_
      refine g_runV (As := [.int (nI b)]) (rest := []) (own := RX8) (C := RX8) (T := TX8) (N := 20) 1 hx hb hml hown hts hK hz hP hL hS hlo hl.1 (c_X8_firstOf l mo A S b σ sz hMo hR (by omega) (by omega)) gX8_sortOfMark_X8_firstOf rfl rfl rfl (by decide +kernel) ⟨Nat.le_of_ble_eq_true rfl, Nat.le_of_ble_eq_true rfl⟩ hMo.c0 rfl rfl rfl (Nat.le_of_ble_eq_true rfl) dX8_sortOfMark_25 ⟨Nat.le_of_ble_eq_true rfl, Nat.le_of_ble_eq_true rfl⟩ (g_ki0 (fun H locs hz hP hL hS => ?_))
      refine lv_iload_n hx hb dX8_sortOfMark_28 rfl (lv_at hl 2 rfl) ?_
      refine lv_icmp_eq (tgt := 46) hx hb dX8_sortOfMark_29 (by decide) (fun c29 => ?_) (fun c29 => ?_)
      · refine lv_bipush (v := (-5)) hx hb dX8_sortOfMark_46 (by decide) ?_
        exact g_iret (z := sz) hx hb hr hlk hz hP hL hS dX8_sortOfMark_48 (gi_i (by rw [skI, if_pos c7, if_pos hso, if_pos c29]) rfl)
      · refine lv_aload_n hx hb dX8_sortOfMark_32 rfl (lv_at hl 0 rfl) ?_
        refine lv_iload_n hx hb dX8_sortOfMark_33 rfl (lv_at hl 2 rfl) ?_
        refine lv_iconst (v := (nI 0)) hx hb dX8_sortOfMark_34 (by decide) ?_
        refine g_runV (As := [.int (nI b), .int (nI 0)]) (rest := []) (own := RX8) (C := RX8) (T := TX8) (N := 20) 2 hx hb hml hown hts hK hz hP hL hS hlo hl.1 (c_X8_many l mo A S b 0 σ sz hMo hR (by omega) (by omega) (by omega)) gX8_sortOfMark_X8_many rfl rfl rfl (by decide +kernel) ⟨Nat.le_of_ble_eq_true rfl, Nat.le_of_ble_eq_true rfl⟩ hMo.c0 rfl rfl rfl (Nat.le_of_ble_eq_true rfl) dX8_sortOfMark_35 ⟨Nat.le_of_ble_eq_true rfl, Nat.le_of_ble_eq_true rfl⟩ (g_ki0 (fun H locs hz hP hL hS => ?_))
        have hcl := cntF_le (fun i => decide (A 10 (96 * i + b) = nI 0)) (sN S)
        refine lv_iconst (v := (nI 2)) hx hb dX8_sortOfMark_38 (by decide) ?_
        refine g_icmp_ge (tgt := 46) (a := cntF (fun i => decide (A 10 (96 * i + b) = nI 0)) (sN S)) (b := 2) hx hb (by omega) (by omega) dX8_sortOfMark_39 (by decide) (fun c39 => ?_) (fun c39 => ?_)
        · refine lv_bipush (v := (-5)) hx hb dX8_sortOfMark_46 (by decide) ?_
          exact g_iret (z := sz) hx hb hr hlk hz hP hL hS dX8_sortOfMark_48 (gi_i (by rw [skI, if_pos c7, if_pos hso, if_neg c29, if_neg (by omega)]) rfl)
        · refine lv_iconst (v := (nI 2)) hx hb dX8_sortOfMark_42 (by decide) ?_
          refine lv_goto (tgt := 48) hx hb dX8_sortOfMark_43 (by decide) ?_
          exact g_iret (z := sz) hx hb hr hlk hz hP hL hS dX8_sortOfMark_48 (gi_i (by rw [skI, if_pos c7, if_pos hso, if_neg c29, if_pos (by omega)]) rfl)
    · refine g_top (y := (nI so)) rfl ?_
      have hso2 := soloF_lt hso
      refine g_if_lt hx hb (by omega) dX8_sortOfMark_18 (tgt := 23) (by decide) ?_
      refine lv_iconst (v := (nI 3)) hx hb dX8_sortOfMark_21 (by decide) ?_
      exact g_iret (z := sz) hx hb hr hlk hz hP hL hS dX8_sortOfMark_22 (gi_i (by rw [skI, if_pos c7, if_neg (fun q => by rw [hso] at q; cases q)]) rfl)
  · refine lv_bipush (v := (-5)) hx hb dX8_sortOfMark_10 (by decide) ?_
    exact g_iret (z := sz) hx hb hr hlk hz hP hL hS dX8_sortOfMark_12 (gi_i (by rw [skI, if_neg c7]) rfl)
