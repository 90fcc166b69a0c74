/-! the reference gives marks -/
theorem nX8_someoneSings_X8 : ∀ w ∈ wsX80, w ∈ wsX8_someoneSings := by decide +kernel
set_option maxHeartbeats 4000000 in
set_option maxRecDepth 100000 in
theorem c_X8_someoneSings (l : Launch) (mo : Nat) (A S : sS) (g : Int32) (b : Nat) (σ : gS) (sz : Nat) (hMo : MoAt σ mo A) (hR : Rr S (A 1)) (hmk : ∀ i : Nat, i < 12 → A 12 i = bI (hasB g i)) (hN : sN S ≤ 12) (hb0 : b < sB S) (hB : sB S ≤ 96) : gM l yX8_someoneSings wsX8_someoneSings ({ frames := 2, cells := 0, slots := 0, locals := 44 } : Room) 0 0 [.ref mo, .int (nI b)] σ sz (gi (bI (canF S (fun i => laI S A i b) g b)) σ sz) := by
  refine gM_of (cc := cX8_someoneSings) (maxL := 4) (ret := (some .boolean)) (by decide) rfl (Nat.le_of_ble_eq_true rfl) ?_
  intro D ka lo hL hlo p e s m below meth c hx hb hr hts hown hml hlk hnm hK H locs ls hz hP hS hl
  have hl : lv_has ls 4 [(0, .ref mo), (1, .int (nI b))] := hl
  have hown : s.vm.findClass RX8 = some m.cls := hown
  refine lv_iconst (v := (nI 0)) hx hb dX8_someoneSings_0 (by decide) ?_
  refine lv_istore_n (lv' := [(2, .int (nI 0)), (0, .ref mo), (1, .int (nI b))]) hx hb dX8_someoneSings_1 rfl hl (by decide) rfl (fun ls hl => ?_)
  refine lv_iconst (v := (nI 0)) hx hb dX8_someoneSings_2 (by decide) ?_
  refine lv_istore_n (lv' := [(3, .int (nI 0)), (2, .int (nI 0)), (0, .ref mo), (1, .int (nI b))]) hx hb dX8_someoneSings_3 rfl hl (by decide) rfl (fun ls hl => ?_)
  have lp : ∀ (fu_lp : Nat) (k : Nat), (k ≤ sN S) → (sN S - k < fu_lp) → ∀ (H : Heap) (locs : List Loc) (ls : Array Slot), H.size = sz → gH D ka σ H → va_S (gA lo) s.heap H locs → lv_has ls 4 [(0, .ref mo), (1, .int (nI b)), (2, .int (bI (sgF S (fun i => laI S A i b) g b k))), (3, .int (nI k))] → W p l e ({ frames := 2, cells := 0, slots := 0, locals := 44 } : Room) s m ([.ref mo, .int (nI b)] : List Value).toArray below meth c H locs (0) (0) (MQ below (gQ D ka lo (gi (bI (canF S (fun i => laI S A i b) g b)) σ sz)) ([.ref mo, .int (nI b)] : List Value).toArray s 0 0 (gA lo)) (F0 m 4 ls []) := by
    intro fu_lp
    induction fu_lp with
    | zero => intro k hk hm_lp; exact absurd hm_lp (Nat.not_lt_zero _)
    | succ fu_lp ih_lp =>
      intro k hk hm_lp H locs ls hz hP hS hl
      refine lv_iload_n hx hb dX8_someoneSings_4 rfl (lv_at hl 3 rfl) ?_
      refine lv_aload_n hx hb dX8_someoneSings_5 rfl (lv_at hl 0 rfl) ?_
      refine g_runV (As := []) (rest := [.int (nI k)]) (own := RX8) (C := RX8) (T := TX8) (N := 20) 0 hx hb hml hown hts hK hz hP hL hS hlo hl.1 (c_X8_singers l mo A S  σ sz hMo hR) gX8_someoneSings_X8_singers rfl rfl rfl (by decide +kernel) ⟨Nat.le_of_ble_eq_true rfl, Nat.le_of_ble_eq_true rfl⟩ hMo.c0 rfl rfl rfl (Nat.le_of_ble_eq_true rfl) dX8_someoneSings_6 ⟨Nat.le_of_ble_eq_true rfl, Nat.le_of_ble_eq_true rfl⟩ (g_ki0 (fun H locs hz hP hL hS => ?_))
      refine g_icmp_ge (tgt := 61) (a := k) (b := sN S) hx hb (by omega) (by omega) dX8_someoneSings_9 (by decide) (fun c9 => ?_) (fun c9 => ?_)
      · refine lv_iload_n hx hb dX8_someoneSings_61 rfl (lv_at hl 2 rfl) ?_
        exact g_zret (z := sz) hx hb hr hlk hz hP hL hS (bI_n _) dX8_someoneSings_62 (gi_i (by rw [← sgF_can, show sN S = k by omega]) rfl)
      · refine lv_iload_n hx hb dX8_someoneSings_12 rfl (lv_at hl 2 rfl) ?_
        refine g_ifb_ne (tgt := 49) hx hb dX8_someoneSings_13 (by decide) (fun c13 => ?_) (fun c13 => ?_)
        · refine lv_iconst (v := (nI 1)) hx hb dX8_someoneSings_49 (by decide) ?_
          refine lv_goto (tgt := 54) hx hb dX8_someoneSings_50 (by decide) ?_
          refine lv_istore_n (lv' := [(2, .int (nI 1)), (0, .ref mo), (1, .int (nI b)), (3, .int (nI k))]) hx hb dX8_someoneSings_54 rfl hl (by decide) rfl (fun ls hl => ?_)
          refine lv_iinc (v := (nI (k + 1))) (lv' := [(3, .int (nI (k + 1))), (2, .int (nI 1)), (0, .ref mo), (1, .int (nI b))]) hx hb dX8_someoneSings_55 hl (k := 3) rfl (g_inc k 1) (by decide) rfl (fun ls hl => ?_)
          refine lv_goto (tgt := 4) hx hb dX8_someoneSings_58 (by decide) ?_
          have e_2 : (nI 1) = (bI (sgF S (fun i => laI S A i b) g b (k + 1))) := (by rw [sgF, c13]; rfl)
          have hl := lv_sub hl (l' := [(0, .ref mo), (1, .int (nI b)), (2, .int (nI 1)), (3, .int (nI (k + 1)))]) [2, 3, 1, 0] rfl
          rw [e_2] at hl
          exact ih_lp (k + 1) (by omega) (by omega) H locs ls hz hP hS hl
        · refine lv_aload_n hx hb dX8_someoneSings_16 rfl (lv_at hl 0 rfl) ?_
          refine lv_iload_n hx hb dX8_someoneSings_17 rfl (lv_at hl 3 rfl) ?_
          refine lv_iconst (v := (nI 2)) hx hb dX8_someoneSings_18 (by decide) ?_
          refine g_runV (As := [.int (nI k), .int (nI 2)]) (rest := []) (own := RX8) (C := RX8) (T := TX8) (N := 20) 2 hx hb hml hown hts hK hz hP hL hS hlo hl.1 (c_X8_of l mo A S k 2 σ sz hMo hR (by omega) (by omega) (by omega)) gX8_someoneSings_X8_of rfl rfl rfl (by decide +kernel) ⟨Nat.le_of_ble_eq_true rfl, Nat.le_of_ble_eq_true rfl⟩ hMo.c0 rfl rfl rfl (Nat.le_of_ble_eq_true rfl) dX8_someoneSings_19 ⟨Nat.le_of_ble_eq_true rfl, Nat.le_of_ble_eq_true rfl⟩ (g_ki0 (fun H locs hz hP hL hS => ?_))
          refine lv_iconst (v := (nI 1)) hx hb dX8_someoneSings_22 (by decide) ?_
          refine lv_icmp_ne (tgt := 53) hx hb dX8_someoneSings_23 (by decide) (fun c23 => ?_) (fun c23 => ?_)
          · refine lv_iconst (v := (nI 0)) hx hb dX8_someoneSings_53 (by decide) ?_
            refine lv_istore_n (lv' := [(2, .int (nI 0)), (0, .ref mo), (1, .int (nI b)), (3, .int (nI k))]) hx hb dX8_someoneSings_54 rfl hl (by decide) rfl (fun ls hl => ?_)
            refine lv_iinc (v := (nI (k + 1))) (lv' := [(3, .int (nI (k + 1))), (2, .int (nI 0)), (0, .ref mo), (1, .int (nI b))]) hx hb dX8_someoneSings_55 hl (k := 3) rfl (g_inc k 1) (by decide) rfl (fun ls hl => ?_)
            refine lv_goto (tgt := 4) hx hb dX8_someoneSings_58 (by decide) ?_
            have e_2 : (nI 0) = (bI (sgF S (fun i => laI S A i b) g b (k + 1))) := (by rw [sgF, c13, canP_1 (has_1 c23)]; rfl)
            have hl := lv_sub hl (l' := [(0, .ref mo), (1, .int (nI b)), (2, .int (nI 0)), (3, .int (nI (k + 1)))]) [2, 3, 1, 0] rfl
            rw [e_2] at hl
            exact ih_lp (k + 1) (by omega) (by omega) H locs ls hz hP hS hl
          · refine lv_aload_n hx hb dX8_someoneSings_26 rfl (lv_at hl 0 rfl) ?_
            refine g_get (C := RX8) (T := TX8) (N := 20) hx hb hts hown hK hP hMo.c0 nX8_someoneSings_X8 rfl 15 (by decide) (by decide +kernel) rfl (v := .ref (mo + 12)) rfl dX8_someoneSings_27 ?_
            refine lv_iload_n hx hb dX8_someoneSings_30 rfl (lv_at hl 3 rfl) ?_
            refine g_zald hx hb hK hP hMo.c12 (i := nI k) (vp_in_nI (by omega) (by omega)) dX8_someoneSings_31 ?_
            rw [nI_clamp (n := k) (by omega)]
            refine g_top (y := (bI (hasB g k))) (hmk k (by omega)) ?_
            refine g_ifb_ne (tgt := 53) hx hb dX8_someoneSings_32 (by decide) (fun c32 => ?_) (fun c32 => ?_)
            · refine lv_iconst (v := (nI 0)) hx hb dX8_someoneSings_53 (by decide) ?_
              refine lv_istore_n (lv' := [(2, .int (nI 0)), (0, .ref mo), (1, .int (nI b)), (3, .int (nI k))]) hx hb dX8_someoneSings_54 rfl hl (by decide) rfl (fun ls hl => ?_)
              refine lv_iinc (v := (nI (k + 1))) (lv' := [(3, .int (nI (k + 1))), (2, .int (nI 0)), (0, .ref mo), (1, .int (nI b))]) hx hb dX8_someoneSings_55 hl (k := 3) rfl (g_inc k 1) (by decide) rfl (fun ls hl => ?_)
              refine lv_goto (tgt := 4) hx hb dX8_someoneSings_58 (by decide) ?_
              have e_2 : (nI 0) = (bI (sgF S (fun i => laI S A i b) g b (k + 1))) := (by rw [sgF, c13, canP_2 c32]; rfl)
              have hl := lv_sub hl (l' := [(0, .ref mo), (1, .int (nI b)), (2, .int (nI 0)), (3, .int (nI (k + 1)))]) [2, 3, 1, 0] rfl
              rw [e_2] at hl
              exact ih_lp (k + 1) (by omega) (by omega) H locs ls hz hP hS hl
            · refine lv_aload_n hx hb dX8_someoneSings_35 rfl (lv_at hl 0 rfl) ?_
              refine lv_iload_n hx hb dX8_someoneSings_36 rfl (lv_at hl 3 rfl) ?_
              refine lv_iload_n hx hb dX8_someoneSings_37 rfl (lv_at hl 1 rfl) ?_
              refine g_runV (As := [.int (nI k), .int (nI b)]) (rest := []) (own := RX8) (C := RX8) (T := TX8) (N := 20) 2 hx hb hml hown hts hK hz hP hL hS hlo hl.1 (c_X8_leftAhead l mo A S k b σ sz hMo hR (by omega) (by omega) (by omega) (by omega)) gX8_someoneSings_X8_leftAhead rfl rfl rfl (by decide +kernel) ⟨Nat.le_of_ble_eq_true rfl, Nat.le_of_ble_eq_true rfl⟩ hMo.c0 rfl rfl rfl (Nat.le_of_ble_eq_true rfl) dX8_someoneSings_38 ⟨Nat.le_of_ble_eq_true rfl, Nat.le_of_ble_eq_true rfl⟩ (g_ki0 (fun H locs hz hP hL hS => ?_))
              refine lv_aload_n hx hb dX8_someoneSings_41 rfl (lv_at hl 0 rfl) ?_
              refine lv_iload_n hx hb dX8_someoneSings_42 rfl (lv_at hl 1 rfl) ?_
              refine g_runV (As := [.int (nI b)]) (rest := [.int (laI S A k b)]) (own := RX8) (C := RX8) (T := TX8) (N := 20) 1 hx hb hml hown hts hK hz hP hL hS hlo hl.1 (c_X8_loud l mo A S b σ sz hMo hR (by omega) (by omega)) gX8_someoneSings_X8_loud rfl rfl rfl (by decide +kernel) ⟨Nat.le_of_ble_eq_true rfl, Nat.le_of_ble_eq_true rfl⟩ hMo.c0 rfl rfl rfl (Nat.le_of_ble_eq_true rfl) dX8_someoneSings_43 ⟨Nat.le_of_ble_eq_true rfl, Nat.le_of_ble_eq_true rfl⟩ (g_ki0 (fun H locs hz hP hL hS => ?_))
              refine lv_icmp_lt (tgt := 53) hx hb dX8_someoneSings_46 (by decide) (fun c46 => ?_) (fun c46 => ?_)
              · refine lv_iconst (v := (nI 0)) hx hb dX8_someoneSings_53 (by decide) ?_
                refine lv_istore_n (lv' := [(2, .int (nI 0)), (0, .ref mo), (1, .int (nI b)), (3, .int (nI k))]) hx hb dX8_someoneSings_54 rfl hl (by decide) rfl (fun ls hl => ?_)
                refine lv_iinc (v := (nI (k + 1))) (lv' := [(3, .int (nI (k + 1))), (2, .int (nI 0)), (0, .ref mo), (1, .int (nI b))]) hx hb dX8_someoneSings_55 hl (k := 3) rfl (g_inc k 1) (by decide) rfl (fun ls hl => ?_)
                refine lv_goto (tgt := 4) hx hb dX8_someoneSings_58 (by decide) ?_
                have e_2 : (nI 0) = (bI (sgF S (fun i => laI S A i b) g b (k + 1))) := (by rw [sgF, c13, canP_3 (lf := fun i => laI S A i b) c46]; rfl)
                have hl := lv_sub hl (l' := [(0, .ref mo), (1, .int (nI b)), (2, .int (nI 0)), (3, .int (nI (k + 1)))]) [2, 3, 1, 0] rfl
                rw [e_2] at hl
                exact ih_lp (k + 1) (by omega) (by omega) H locs ls hz hP hS hl
              · refine lv_iconst (v := (nI 1)) hx hb dX8_someoneSings_49 (by decide) ?_
                refine lv_goto (tgt := 54) hx hb dX8_someoneSings_50 (by decide) ?_
                refine lv_istore_n (lv' := [(2, .int (nI 1)), (0, .ref mo), (1, .int (nI b)), (3, .int (nI k))]) hx hb dX8_someoneSings_54 rfl hl (by decide) rfl (fun ls hl => ?_)
                refine lv_iinc (v := (nI (k + 1))) (lv' := [(3, .int (nI (k + 1))), (2, .int (nI 1)), (0, .ref mo), (1, .int (nI b))]) hx hb dX8_someoneSings_55 hl (k := 3) rfl (g_inc k 1) (by decide) rfl (fun ls hl => ?_)
                refine lv_goto (tgt := 4) hx hb dX8_someoneSings_58 (by decide) ?_
                have e_2 : (nI 1) = (bI (sgF S (fun i => laI S A i b) g b (k + 1))) := (by rw [sgF, c13, canP_4 (lf := fun i => laI S A i b) (has_2 c23) c32 c46]; rfl)
                have hl := lv_sub hl (l' := [(0, .ref mo), (1, .int (nI b)), (2, .int (nI 1)), (3, .int (nI (k + 1)))]) [2, 3, 1, 0] rfl
                rw [e_2] at hl
                exact ih_lp (k + 1) (by omega) (by omega) H locs ls hz hP hS hl
  exact lp _ 0 (by omega) (Nat.lt_succ_self _) H locs ls hz hP hS (lv_sub hl [2, 3, 1, 0] rfl)

theorem nX8_nextToBreathe_X8 : ∀ w ∈ wsX80, w ∈ wsX8_nextToBreathe := by decide +kernel
set_option maxHeartbeats 4000000 in
set_option maxRecDepth 100000 in
theorem c_X8_nextToBreathe (l : Launch) (mo : Nat) (A S : sS) (g : Int32) (b : Nat) (σ : gS) (sz : Nat) (hMo : MoAt σ mo A) (hR : Rr S (A 1)) (hmk : ∀ i : Nat, i < 12 → A 12 i = bI (hasB g i)) (hN : sN S ≤ 12) (hRs : sR S ≤ 8) (hb0 : b < sB S) (hB : sB S ≤ 96) : gM l yX8_nextToBreathe wsX8_nextToBreathe ({ frames := 2, cells := 0, slots := 0, locals := 45 } : Room) 0 0 [.ref mo, .int (nI b)] σ sz (gi (oI (nxtF S (fun i => laI S A i b) (needI S b) g)) σ sz) := by
  refine gM_of (cc := cX8_nextToBreathe) (maxL := 5) (ret := (some .int)) (by decide) rfl (Nat.le_of_ble_eq_true rfl) ?_
  intro D ka lo hL hlo p e s m below meth c hx hb hr hts hown hml hlk hnm hK H locs ls hz hP hS hl
  have hl : lv_has ls 5 [(0, .ref mo), (1, .int (nI b))] := hl
  have hown : s.vm.findClass RX8 = some m.cls := hown
  refine lv_bipush (v := (-5)) hx hb dX8_nextToBreathe_0 (by decide) ?_
  refine lv_istore_n (lv' := [(2, .int (-5)), (0, .ref mo), (1, .int (nI b))]) hx hb dX8_nextToBreathe_2 rfl hl (by decide) rfl (fun ls hl => ?_)
  refine lv_iconst (v := (nI 0)) hx hb dX8_nextToBreathe_3 (by decide) ?_
  refine lv_istore_n (lv' := [(3, .int (nI 0)), (2, .int (-5)), (0, .ref mo), (1, .int (nI b))]) hx hb dX8_nextToBreathe_4 rfl hl (by decide) rfl (fun ls hl => ?_)
  have lp : ∀ (fu_lp : Nat) (k : Nat), (k ≤ sN S) → (sN S - k < fu_lp) → ∀ (H : Heap) (locs : List Loc) (ls : Array Slot), H.size = sz → gH D ka σ H → va_S (gA lo) s.heap H locs → lv_has ls 5 [(0, .ref mo), (1, .int (nI b)), (2, .int (oI (shP S (fun i => laI S A i b) (needI S b) g k).1)), (3, .int (nI k))] → W p l e ({ frames := 2, cells := 0, slots := 0, locals := 45 } : Room) s m ([.ref mo, .int (nI b)] : List Value).toArray below meth c H locs (0) (0) (MQ below (gQ D ka lo (gi (oI (nxtF S (fun i => laI S A i b) (needI S b) g)) σ sz)) ([.ref mo, .int (nI b)] : List Value).toArray s 0 0 (gA lo)) (F0 m 5 ls []) := by
    intro fu_lp
    induction fu_lp with
    | zero => intro k hk hm_lp; exact absurd hm_lp (Nat.not_lt_zero _)
    | succ fu_lp ih_lp =>
      intro k hk hm_lp H locs ls hz hP hS hl
      refine lv_iload_n hx hb dX8_nextToBreathe_5 rfl (lv_at hl 3 rfl) ?_
      refine lv_aload_n hx hb dX8_nextToBreathe_6 rfl (lv_at hl 0 rfl) ?_
      refine g_runV (As := []) (rest := [.int (nI k)]) (own := RX8) (C := RX8) (T := TX8) (N := 20) 0 hx hb hml hown hts hK hz hP hL hS hlo hl.1 (c_X8_singers l mo A S  σ sz hMo hR) gX8_nextToBreathe_X8_singers rfl rfl rfl (by decide +kernel) ⟨Nat.le_of_ble_eq_true rfl, Nat.le_of_ble_eq_true rfl⟩ hMo.c0 rfl rfl rfl (Nat.le_of_ble_eq_true rfl) dX8_nextToBreathe_7 ⟨Nat.le_of_ble_eq_true rfl, Nat.le_of_ble_eq_true rfl⟩ (g_ki0 (fun H locs hz hP hL hS => ?_))
      refine g_icmp_ge (tgt := 89) (a := k) (b := sN S) hx hb (by omega) (by omega) dX8_nextToBreathe_10 (by decide) (fun c10 => ?_) (fun c10 => ?_)
      · refine lv_iload_n hx hb dX8_nextToBreathe_89 rfl (lv_at hl 2 rfl) ?_
        exact g_iret (z := sz) hx hb hr hlk hz hP hL hS dX8_nextToBreathe_90 (gi_i (by rw [nxtF, show sN S = k by omega]) rfl)
      · refine lv_aload_n hx hb dX8_nextToBreathe_13 rfl (lv_at hl 0 rfl) ?_
        refine lv_iload_n hx hb dX8_nextToBreathe_14 rfl (lv_at hl 3 rfl) ?_
        refine lv_iconst (v := (nI 2)) hx hb dX8_nextToBreathe_15 (by decide) ?_
        refine g_runV (As := [.int (nI k), .int (nI 2)]) (rest := []) (own := RX8) (C := RX8) (T := TX8) (N := 20) 2 hx hb hml hown hts hK hz hP hL hS hlo hl.1 (c_X8_of l mo A S k 2 σ sz hMo hR (by omega) (by omega) (by omega)) gX8_nextToBreathe_X8_of rfl rfl rfl (by decide +kernel) ⟨Nat.le_of_ble_eq_true rfl, Nat.le_of_ble_eq_true rfl⟩ hMo.c0 rfl rfl rfl (Nat.le_of_ble_eq_true rfl) dX8_nextToBreathe_16 ⟨Nat.le_of_ble_eq_true rfl, Nat.le_of_ble_eq_true rfl⟩ (g_ki0 (fun H locs hz hP hL hS => ?_))
        refine lv_iconst (v := (nI 1)) hx hb dX8_nextToBreathe_19 (by decide) ?_
        refine lv_icmp_ne (tgt := 50) hx hb dX8_nextToBreathe_20 (by decide) (fun c20 => ?_) (fun c20 => ?_)
        · refine lv_iconst (v := (nI 0)) hx hb dX8_nextToBreathe_50 (by decide) ?_
          refine lv_istore (lv' := [(4, .int (nI 0)), (0, .ref mo), (1, .int (nI b)), (2, .int (oI (shP S (fun i => laI S A i b) (needI S b) g k).1)), (3, .int (nI k))]) hx hb dX8_nextToBreathe_51 hl (by decide) rfl (fun ls hl => ?_)
          refine lv_iload hx hb dX8_nextToBreathe_53 (lv_at hl 0 rfl) ?_
          refine g_if_eq (tgt := 81) (a := 0) hx hb (by decide) dX8_nextToBreathe_55 (by decide) (fun c55 => ?_) (fun c55 => absurd c55 (by decide))
          refine lv_iload_n hx hb dX8_nextToBreathe_81 rfl (lv_at hl 3 rfl) ?_
          refine lv_istore_n (lv' := [(2, .int (oI (shP S (fun i => laI S A i b) (needI S b) g k).1)), (4, .int (nI 0)), (0, .ref mo), (1, .int (nI b)), (3, .int (nI k))]) hx hb dX8_nextToBreathe_82 rfl hl (by decide) rfl (fun ls hl => ?_)
          refine lv_iinc (v := (nI (k + 1))) (lv' := [(3, .int (nI (k + 1))), (2, .int (oI (shP S (fun i => laI S A i b) (needI S b) g k).1)), (4, .int (nI 0)), (0, .ref mo), (1, .int (nI b))]) hx hb dX8_nextToBreathe_83 hl (k := 4) rfl (g_inc k 1) (by decide) rfl (fun ls hl => ?_)
          refine lv_goto (tgt := 5) hx hb dX8_nextToBreathe_86 (by decide) ?_
          have e_2 : (oI (shP S (fun i => laI S A i b) (needI S b) g k).1) = (oI (shP S (fun i => laI S A i b) (needI S b) g (k + 1)).1) := (by rw [shP_n (Or.inl (has_1 c20))])
          have hl := lv_sub hl (l' := [(0, .ref mo), (1, .int (nI b)), (2, .int (oI (shP S (fun i => laI S A i b) (needI S b) g k).1)), (3, .int (nI (k + 1)))]) [3, 4, 1, 0] rfl
          rw [e_2] at hl
          exact ih_lp (k + 1) (by omega) (by omega) H locs ls hz hP hS hl
        · refine lv_aload_n hx hb dX8_nextToBreathe_23 rfl (lv_at hl 0 rfl) ?_
          refine g_get (C := RX8) (T := TX8) (N := 20) hx hb hts hown hK hP hMo.c0 nX8_nextToBreathe_X8 rfl 15 (by decide) (by decide +kernel) rfl (v := .ref (mo + 12)) rfl dX8_nextToBreathe_24 ?_
          refine lv_iload_n hx hb dX8_nextToBreathe_27 rfl (lv_at hl 3 rfl) ?_
          refine g_zald hx hb hK hP hMo.c12 (i := nI k) (vp_in_nI (by omega) (by omega)) dX8_nextToBreathe_28 ?_
          rw [nI_clamp (n := k) (by omega)]
          refine g_top (y := (bI (hasB g k))) (hmk k (by omega)) ?_
          refine g_ifb_ne (tgt := 50) hx hb dX8_nextToBreathe_29 (by decide) (fun c29 => ?_) (fun c29 => ?_)
          · refine lv_iconst (v := (nI 0)) hx hb dX8_nextToBreathe_50 (by decide) ?_
            refine lv_istore (lv' := [(4, .int (nI 0)), (0, .ref mo), (1, .int (nI b)), (2, .int (oI (shP S (fun i => laI S A i b) (needI S b) g k).1)), (3, .int (nI k))]) hx hb dX8_nextToBreathe_51 hl (by decide) rfl (fun ls hl => ?_)
            refine lv_iload hx hb dX8_nextToBreathe_53 (lv_at hl 0 rfl) ?_
            refine g_if_eq (tgt := 81) (a := 0) hx hb (by decide) dX8_nextToBreathe_55 (by decide) (fun c55 => ?_) (fun c55 => absurd c55 (by decide))
            refine lv_iload_n hx hb dX8_nextToBreathe_81 rfl (lv_at hl 3 rfl) ?_
            refine lv_istore_n (lv' := [(2, .int (oI (shP S (fun i => laI S A i b) (needI S b) g k).1)), (4, .int (nI 0)), (0, .ref mo), (1, .int (nI b)), (3, .int (nI k))]) hx hb dX8_nextToBreathe_82 rfl hl (by decide) rfl (fun ls hl => ?_)
            refine lv_iinc (v := (nI (k + 1))) (lv' := [(3, .int (nI (k + 1))), (2, .int (oI (shP S (fun i => laI S A i b) (needI S b) g k).1)), (4, .int (nI 0)), (0, .ref mo), (1, .int (nI b))]) hx hb dX8_nextToBreathe_83 hl (k := 4) rfl (g_inc k 1) (by decide) rfl (fun ls hl => ?_)
            refine lv_goto (tgt := 5) hx hb dX8_nextToBreathe_86 (by decide) ?_
            have e_2 : (oI (shP S (fun i => laI S A i b) (needI S b) g k).1) = (oI (shP S (fun i => laI S A i b) (needI S b) g (k + 1)).1) := (by rw [shP_n (Or.inr (Or.inl c29))])
            have hl := lv_sub hl (l' := [(0, .ref mo), (1, .int (nI b)), (2, .int (oI (shP S (fun i => laI S A i b) (needI S b) g k).1)), (3, .int (nI (k + 1)))]) [3, 4, 1, 0] rfl
            rw [e_2] at hl
            exact ih_lp (k + 1) (by omega) (by omega) H locs ls hz hP hS hl
          · refine lv_aload_n hx hb dX8_nextToBreathe_32 rfl (lv_at hl 0 rfl) ?_
            refine lv_iload_n hx hb dX8_nextToBreathe_33 rfl (lv_at hl 3 rfl) ?_
            refine lv_iload_n hx hb dX8_nextToBreathe_34 rfl (lv_at hl 1 rfl) ?_
            refine g_runV (As := [.int (nI k), .int (nI b)]) (rest := []) (own := RX8) (C := RX8) (T := TX8) (N := 20) 2 hx hb hml hown hts hK hz hP hL hS hlo hl.1 (c_X8_leftAhead l mo A S k b σ sz hMo hR (by omega) (by omega) (by omega) (by omega)) gX8_nextToBreathe_X8_leftAhead rfl rfl rfl (by decide +kernel) ⟨Nat.le_of_ble_eq_true rfl, Nat.le_of_ble_eq_true rfl⟩ hMo.c0 rfl rfl rfl (Nat.le_of_ble_eq_true rfl) dX8_nextToBreathe_35 ⟨Nat.le_of_ble_eq_true rfl, Nat.le_of_ble_eq_true rfl⟩ (g_ki0 (fun H locs hz hP hL hS => ?_))
            refine lv_aload_n hx hb dX8_nextToBreathe_38 rfl (lv_at hl 0 rfl) ?_
            refine lv_iload_n hx hb dX8_nextToBreathe_39 rfl (lv_at hl 1 rfl) ?_
            refine g_runV (As := [.int (nI b)]) (rest := [.int (laI S A k b)]) (own := RX8) (C := RX8) (T := TX8) (N := 20) 1 hx hb hml hown hts hK hz hP hL hS hlo hl.1 (c_X8_reserveAt l mo A S b σ sz hMo hR (by omega) (by omega) (by omega)) gX8_nextToBreathe_X8_reserveAt rfl rfl rfl (by decide +kernel) ⟨Nat.le_of_ble_eq_true rfl, Nat.le_of_ble_eq_true rfl⟩ hMo.c0 rfl rfl rfl (Nat.le_of_ble_eq_true rfl) dX8_nextToBreathe_40 ⟨Nat.le_of_ble_eq_true rfl, Nat.le_of_ble_eq_true rfl⟩ (g_ki0 (fun H locs hz hP hL hS => ?_))
            refine lv_icmp_ge (tgt := 50) hx hb dX8_nextToBreathe_43 (by decide) (fun c43 => ?_) (fun c43 => ?_)
            · refine lv_iconst (v := (nI 0)) hx hb dX8_nextToBreathe_50 (by decide) ?_
              refine lv_istore (lv' := [(4, .int (nI 0)), (0, .ref mo), (1, .int (nI b)), (2, .int (oI (shP S (fun i => laI S A i b) (needI S b) g k).1)), (3, .int (nI k))]) hx hb dX8_nextToBreathe_51 hl (by decide) rfl (fun ls hl => ?_)
              refine lv_iload hx hb dX8_nextToBreathe_53 (lv_at hl 0 rfl) ?_
              refine g_if_eq (tgt := 81) (a := 0) hx hb (by decide) dX8_nextToBreathe_55 (by decide) (fun c55 => ?_) (fun c55 => absurd c55 (by decide))
              refine lv_iload_n hx hb dX8_nextToBreathe_81 rfl (lv_at hl 3 rfl) ?_
              refine lv_istore_n (lv' := [(2, .int (oI (shP S (fun i => laI S A i b) (needI S b) g k).1)), (4, .int (nI 0)), (0, .ref mo), (1, .int (nI b)), (3, .int (nI k))]) hx hb dX8_nextToBreathe_82 rfl hl (by decide) rfl (fun ls hl => ?_)
              refine lv_iinc (v := (nI (k + 1))) (lv' := [(3, .int (nI (k + 1))), (2, .int (oI (shP S (fun i => laI S A i b) (needI S b) g k).1)), (4, .int (nI 0)), (0, .ref mo), (1, .int (nI b))]) hx hb dX8_nextToBreathe_83 hl (k := 4) rfl (g_inc k 1) (by decide) rfl (fun ls hl => ?_)
              refine lv_goto (tgt := 5) hx hb dX8_nextToBreathe_86 (by decide) ?_
              have e_2 : (oI (shP S (fun i => laI S A i b) (needI S b) g k).1) = (oI (shP S (fun i => laI S A i b) (needI S b) g (k + 1)).1) := (by rw [shP_n (Or.inr (Or.inr (Or.inl (by first | exact c43 | exact Int32.not_lt.mp c43))))])
              have hl := lv_sub hl (l' := [(0, .ref mo), (1, .int (nI b)), (2, .int (oI (shP S (fun i => laI S A i b) (needI S b) g k).1)), (3, .int (nI (k + 1)))]) [3, 4, 1, 0] rfl
              rw [e_2] at hl
              exact ih_lp (k + 1) (by omega) (by omega) H locs ls hz hP hS hl
            · refine lv_iconst (v := (nI 1)) hx hb dX8_nextToBreathe_46 (by decide) ?_
              refine lv_goto (tgt := 51) hx hb dX8_nextToBreathe_47 (by decide) ?_
              refine lv_istore (lv' := [(4, .int (nI 1)), (0, .ref mo), (1, .int (nI b)), (2, .int (oI (shP S (fun i => laI S A i b) (needI S b) g k).1)), (3, .int (nI k))]) hx hb dX8_nextToBreathe_51 hl (by decide) rfl (fun ls hl => ?_)
              refine lv_iload hx hb dX8_nextToBreathe_53 (lv_at hl 0 rfl) ?_
              refine g_if_eq (tgt := 81) (a := 1) hx hb (by decide) dX8_nextToBreathe_55 (by decide) (fun c55 => absurd c55 (by decide)) (fun c55 => ?_)
              refine lv_iload_n hx hb dX8_nextToBreathe_58 rfl (lv_at hl 3 rfl) ?_
              rcases hq : (shP S (fun i => laI S A i b) (needI S b) g k).1 with _ | q
              · refine g_top (y := (-5)) rfl ?_
                refine lv_if_lt (tgt := 77) hx hb dX8_nextToBreathe_59 (by decide) (fun c59 => ?_) (fun c59 => absurd (by decide) c59)
                refine lv_iload_n hx hb dX8_nextToBreathe_77 rfl (lv_at hl 4 rfl) ?_
                refine lv_goto (tgt := 82) hx hb dX8_nextToBreathe_78 (by decide) ?_
                refine lv_istore_n (lv' := [(2, .int (nI k)), (4, .int (nI 1)), (0, .ref mo), (1, .int (nI b)), (3, .int (nI k))]) hx hb dX8_nextToBreathe_82 rfl hl (by decide) rfl (fun ls hl => ?_)
                refine lv_iinc (v := (nI (k + 1))) (lv' := [(3, .int (nI (k + 1))), (2, .int (nI k)), (4, .int (nI 1)), (0, .ref mo), (1, .int (nI b))]) hx hb dX8_nextToBreathe_83 hl (k := 4) rfl (g_inc k 1) (by decide) rfl (fun ls hl => ?_)
                refine lv_goto (tgt := 5) hx hb dX8_nextToBreathe_86 (by decide) ?_
                have e_2 : (nI k) = (oI (shP S (fun i => laI S A i b) (needI S b) g (k + 1)).1) := (by rw [shP_y (has_2 c20) c29 (by first | exact c43 | exact Int32.not_le.mp c43) (fun q h => by rw [hq] at h; cases h)]; rfl)
                have hl := lv_sub hl (l' := [(0, .ref mo), (1, .int (nI b)), (2, .int (nI k)), (3, .int (nI (k + 1)))]) [3, 4, 1, 0] rfl
                rw [e_2] at hl
                exact ih_lp (k + 1) (by omega) (by omega) H locs ls hz hP hS hl
              · refine g_top (y := (nI q)) rfl ?_
                have hq9 := shP_lt hq
                refine g_if_lt hx hb (by omega) dX8_nextToBreathe_59 (tgt := 77) (by decide) ?_
                refine lv_aload_n hx hb dX8_nextToBreathe_62 rfl (lv_at hl 1 rfl) ?_
                refine lv_iload_n hx hb dX8_nextToBreathe_63 rfl (lv_at hl 4 rfl) ?_
                refine lv_iload_n hx hb dX8_nextToBreathe_64 rfl (lv_at hl 2 rfl) ?_
                refine g_runV (As := [.int (nI k), .int (nI b)]) (rest := []) (own := RX8) (C := RX8) (T := TX8) (N := 20) 2 hx hb hml hown hts hK hz hP hL hS hlo hl.1 (c_X8_leftAhead l mo A S k b σ sz hMo hR (by omega) (by omega) (by omega) (by omega)) gX8_nextToBreathe_X8_leftAhead rfl rfl rfl (by decide +kernel) ⟨Nat.le_of_ble_eq_true rfl, Nat.le_of_ble_eq_true rfl⟩ hMo.c0 rfl rfl rfl (Nat.le_of_ble_eq_true rfl) dX8_nextToBreathe_65 ⟨Nat.le_of_ble_eq_true rfl, Nat.le_of_ble_eq_true rfl⟩ (g_ki0 (fun H locs hz hP hL hS => ?_))
                refine lv_aload_n hx hb dX8_nextToBreathe_68 rfl (lv_at hl 1 rfl) ?_
                refine lv_iload_n hx hb dX8_nextToBreathe_69 rfl (lv_at hl 3 rfl) ?_
                refine g_top (y := (nI q)) (by rw [hq]; rfl) ?_
                refine lv_iload_n hx hb dX8_nextToBreathe_70 rfl (lv_at hl 2 rfl) ?_
                refine g_runV (As := [.int (nI q), .int (nI b)]) (rest := [.int (laI S A k b)]) (own := RX8) (C := RX8) (T := TX8) (N := 20) 2 hx hb hml hown hts hK hz hP hL hS hlo hl.1 (c_X8_leftAhead l mo A S q b σ sz hMo hR (by omega) (by omega) (by omega) (by omega)) gX8_nextToBreathe_X8_leftAhead rfl rfl rfl (by decide +kernel) ⟨Nat.le_of_ble_eq_true rfl, Nat.le_of_ble_eq_true rfl⟩ hMo.c0 rfl rfl rfl (Nat.le_of_ble_eq_true rfl) dX8_nextToBreathe_71 ⟨Nat.le_of_ble_eq_true rfl, Nat.le_of_ble_eq_true rfl⟩ (g_ki0 (fun H locs hz hP hL hS => ?_))
                refine lv_icmp_ge (tgt := 81) hx hb dX8_nextToBreathe_74 (by decide) (fun c74 => ?_) (fun c74 => ?_)
                · refine lv_iload_n hx hb dX8_nextToBreathe_81 rfl (lv_at hl 3 rfl) ?_
                  refine g_top (y := (nI q)) (by rw [hq]; rfl) ?_
                  refine lv_istore_n (lv' := [(2, .int (nI q)), (4, .int (nI 1)), (0, .ref mo), (1, .int (nI b)), (3, .int (nI k))]) hx hb dX8_nextToBreathe_82 rfl hl (by decide) rfl (fun ls hl => ?_)
                  refine lv_iinc (v := (nI (k + 1))) (lv' := [(3, .int (nI (k + 1))), (2, .int (nI q)), (4, .int (nI 1)), (0, .ref mo), (1, .int (nI b))]) hx hb dX8_nextToBreathe_83 hl (k := 4) rfl (g_inc k 1) (by decide) rfl (fun ls hl => ?_)
                  refine lv_goto (tgt := 5) hx hb dX8_nextToBreathe_86 (by decide) ?_
                  have e_2 : (nI q) = (oI (shP S (fun i => laI S A i b) (needI S b) g (k + 1)).1) := (by rw [shP_n (Or.inr (Or.inr (Or.inr ⟨q, hq, by first | exact c74 | exact Int32.not_lt.mp c74⟩))), hq]; rfl)
                  have hl := lv_sub hl (l' := [(0, .ref mo), (1, .int (nI b)), (2, .int (nI q)), (3, .int (nI (k + 1)))]) [3, 4, 1, 0] rfl
                  rw [e_2] at hl
                  exact ih_lp (k + 1) (by omega) (by omega) H locs ls hz hP hS hl
                · refine lv_iload_n hx hb dX8_nextToBreathe_77 rfl (lv_at hl 4 rfl) ?_
                  refine lv_goto (tgt := 82) hx hb dX8_nextToBreathe_78 (by decide) ?_
                  refine lv_istore_n (lv' := [(2, .int (nI k)), (4, .int (nI 1)), (0, .ref mo), (1, .int (nI b)), (3, .int (nI k))]) hx hb dX8_nextToBreathe_82 rfl hl (by decide) rfl (fun ls hl => ?_)
                  refine lv_iinc (v := (nI (k + 1))) (lv' := [(3, .int (nI (k + 1))), (2, .int (nI k)), (4, .int (nI 1)), (0, .ref mo), (1, .int (nI b))]) hx hb dX8_nextToBreathe_83 hl (k := 4) rfl (g_inc k 1) (by decide) rfl (fun ls hl => ?_)
                  refine lv_goto (tgt := 5) hx hb dX8_nextToBreathe_86 (by decide) ?_
                  have e_2 : (nI k) = (oI (shP S (fun i => laI S A i b) (needI S b) g (k + 1)).1) := (by rw [shP_y (has_2 c20) c29 (by first | exact c43 | exact Int32.not_le.mp c43) (fun q2 h => by rw [hq] at h; cases h; first | exact c74 | exact Int32.not_le.mp c74)]; rfl)
                  have hl := lv_sub hl (l' := [(0, .ref mo), (1, .int (nI b)), (2, .int (nI k)), (3, .int (nI (k + 1)))]) [3, 4, 1, 0] rfl
                  rw [e_2] at hl
                  exact ih_lp (k + 1) (by omega) (by omega) H locs ls hz hP hS hl
  exact lp _ 0 (by omega) (Nat.lt_succ_self _) H locs ls hz hP hS (lv_sub hl [2, 3, 1, 0] rfl)
