/-! the reference reads texts -/
theorem nX8_times_X8 : ∀ w ∈ wsX80, w ∈ wsX8_times := by decide +kernel
set_option maxHeartbeats 4000000 in
set_option maxRecDepth 100000 in
theorem c_X8_times (l : Launch) (mo : Nat) (A : sS) (f : Nat → Int32) (n a : Nat) (σ : gS) (sz : Nat) (hMo : MoAt σ mo A) (hp2 : tN A 2 = a) (hp1 : tN A 1 = n) (hn : n ≤ 60) (ha : a ≤ n) (hp6 : ∀ j : Nat, j < n → A 6 j = f j) : gM l yX8_times wsX8_times ({ frames := 1, cells := 0, slots := 0, locals := 22 } : Room) 0 0 [.ref mo] σ sz (gxi (fun r τ z => z = sz ∧ (∃ A2 : sS, MoAt τ mo A2 ∧ tN A2 2 = (tmF f n a).2.1 ∧ (∀ j : Nat, j ≠ 0 → A2 j = A j) ∧ (∀ k : Nat, k ≠ 2 → tN A2 k = tN A k)) ∧ TmP f n a r ∧ (tmF f n a).2.1 ≤ n ∧ gAs (gZo mo 16) σ τ)) := by
  refine gM_of (cc := cX8_times) (maxL := 2) (ret := (some .int)) (by decide) rfl (Nat.le_of_ble_eq_true rfl) ?_
  intro D ka lo hL hlo p e s m below meth c hx hb hr hts hown hml hlk hnm hK H locs ls hz hP hS hl
  have hl : lv_has ls 2 [(0, .ref mo)] := hl
  have hown : s.vm.findClass RX8 = some m.cls := hown
  have hag : gAs (gZo mo 16) σ σ := gAs.rf
  refine lv_aload_n hx hb dX8_times_0 rfl (lv_at hl 0 rfl) ?_
  refine lv_bipush (v := (nI 49)) hx hb dX8_times_1 (by decide) ?_
  refine lv_bipush (v := (nI 57)) hx hb dX8_times_3 (by decide) ?_
  refine g_runV (As := [.int (nI 49), .int (nI 57)]) (rest := []) (own := RX8) (C := RX8) (T := TX8) (N := 20) 2 hx hb hml hown hts hK hz hP hL hS hlo hl.1 (c_X8_isAt l mo A a n ((nI 49)) ((nI 57)) σ sz hMo hp2 hp1 (by omega) (by omega)) gX8_times_X8_isAt rfl rfl rfl (by decide +kernel) ⟨Nat.le_of_ble_eq_true rfl, Nat.le_of_ble_eq_true rfl⟩ hMo.c0 rfl rfl rfl (Nat.le_of_ble_eq_true rfl) dX8_times_5 ⟨Nat.le_of_ble_eq_true rfl, Nat.le_of_ble_eq_true rfl⟩ (g_ki0 (fun H locs hz hP hL hS => ?_))
  refine g_top (y := (bI (inB (sgI f n a) ((nI 49)) ((nI 57))))) (congrArg bI (isAt_e hp6 (by decide))) ?_
  refine g_ifb_ne (tgt := 14) hx hb dX8_times_8 (by decide) (fun c8 => ?_) (fun c8 => ?_)
  · obtain ⟨d0, hd1, hd2, hal, hfa, hda⟩ := dg_y (by decide) (by decide) (by decide) c8; have hd9 : 1 ≤ d0 := by omega
    refine lv_aload_n hx hb dX8_times_14 rfl (lv_at hl 0 rfl) ?_
    refine g_get (C := RX8) (T := TX8) (N := 20) hx hb hts hown hK hP hMo.c0 nX8_times_X8 rfl 7 (by decide) (by decide +kernel) rfl (v := .ref (mo + 6)) rfl dX8_times_15 ?_
    refine lv_aload_n hx hb dX8_times_18 rfl (lv_at hl 0 rfl) ?_
    refine g_get (C := RX8) (T := TX8) (N := 20) hx hb hts hown hK hP hMo.c0 nX8_times_X8 rfl 8 (by decide) (by decide +kernel) rfl (v := .int (nI (tN A 2))) rfl dX8_times_19 ?_
    refine g_top (y := (nI a)) (congrArg nI hp2) ?_
    refine g_cald hx hb hK hP hMo.c6 (i := nI a) (vp_in_nI (by omega) (by omega)) dX8_times_22 ?_
    rw [nI_clamp (n := a) (by omega)]
    refine g_top (y := (nI (48 + d0))) ((hp6 _ (by omega)).trans hfa) ?_
    refine lv_bipush (v := (nI 48)) hx hb dX8_times_23 (by decide) ?_
    refine lv_isub hx hb dX8_times_25 ?_
    refine g_top (pk_sub (by omega : 48 ≤ 48 + d0)) ?_
    refine g_top (y := (nI d0)) (congrArg nI (by omega)) ?_
    refine lv_istore_n (lv' := [(1, .int (nI d0)), (0, .ref mo)]) hx hb dX8_times_26 rfl hl (by decide) rfl (fun ls hl => ?_)
    refine lv_aload_n hx hb dX8_times_27 rfl (lv_at hl 1 rfl) ?_
    refine lv_dup hx hb dX8_times_28 rfl ?_
    refine g_get (C := RX8) (T := TX8) (N := 20) hx hb hts hown hK hP hMo.c0 nX8_times_X8 rfl 8 (by decide) (by decide +kernel) rfl (v := .int (nI (tN A 2))) rfl dX8_times_29 ?_
    refine g_top (y := (nI a)) (congrArg nI hp2) ?_
    refine lv_iconst (v := (nI 1)) hx hb dX8_times_32 (by decide) ?_
    refine lv_iadd hx hb dX8_times_33 ?_
    refine g_top (nI_add a 1) ?_
    refine g_put (C := RX8) (T := TX8) (N := 20) hx hb hts hown hK hP hL hS hMo.c0 nX8_times_X8 tyX8 tyX8_ok nmX8 rfl 8 (by decide) (by decide +kernel) rfl rfl (v := .int (nI (a + 1))) rfl rfl (Nat.le_of_ble_eq_true rfl) dX8_times_34 (fun H locs hq hP hL hS => ?_)
    have hz := hq.trans hz
    obtain ⟨σ1, e1⟩ : ∃ υ0 : gS, υ0 = gup σ mo (gO 8 [.ref (mo + 1), .ref (mo + 2), .ref (mo + 3), .int (nI (tN A 0)), .ref (mo + 4), .ref (mo + 5), .int (nI (tN A 1)), .ref (mo + 6), .int (nI (a + 1)), .ref (mo + 7), .ref (mo + 8), .ref (mo + 9), .int (nI (tN A 3)), .ref (mo + 10), .ref (mo + 11), .ref (mo + 12), .int (nI (tN A 4)), .ref (mo + 13), .ref (mo + 14), .ref (mo + 15)]) := ⟨_, rfl⟩
    have hP : gH D ka σ1 H := by rw [e1]; exact hP
    have hL : gL lo σ1 := by rw [e1]; exact hL
    have hMo : MoAt σ1 mo (sPut A 0 2 (nI (a + 1))) := by rw [e1]; exact hMo.p8 (a + 1) (by omega)
    have hag := hag.upe e1 (zo_0 (by decide))
    have hp2 : tN (sPut A 0 2 (nI (a + 1))) 2 = a + 1 := tN_s (by omega)
    have hp1 : tN (sPut A 0 2 (nI (a + 1))) 1 = n := (tN_n (by decide)).trans hp1
    have hp6 : ∀ j : Nat, j < n → (sPut A 0 2 (nI (a + 1))) 6 j = f j := hp6
    refine lv_aload_n hx hb dX8_times_37 rfl (lv_at hl 1 rfl) ?_
    refine lv_bipush (v := (nI 48)) hx hb dX8_times_38 (by decide) ?_
    refine lv_bipush (v := (nI 57)) hx hb dX8_times_40 (by decide) ?_
    refine g_runV (As := [.int (nI 48), .int (nI 57)]) (rest := []) (own := RX8) (C := RX8) (T := TX8) (N := 20) 2 hx hb hml hown hts hK hz hP hL hS hlo hl.1 (c_X8_isAt l mo (sPut A 0 2 (nI (a + 1))) (a + 1) n ((nI 48)) ((nI 57)) σ1 sz hMo hp2 hp1 (by omega) (by omega)) gX8_times_X8_isAt rfl rfl rfl (by decide +kernel) ⟨Nat.le_of_ble_eq_true rfl, Nat.le_of_ble_eq_true rfl⟩ hMo.c0 rfl rfl rfl (Nat.le_of_ble_eq_true rfl) dX8_times_42 ⟨Nat.le_of_ble_eq_true rfl, Nat.le_of_ble_eq_true rfl⟩ (g_ki0 (fun H locs hz hP hL hS => ?_))
    refine g_top (y := (bI (inB (sgI f n (a + 1)) ((nI 48)) ((nI 57))))) (congrArg bI (isAt_e hp6 (by decide))) ?_
    refine g_ifb_eq (tgt := 98) hx hb dX8_times_45 (by decide) (fun c45 => ?_) (fun c45 => ?_)
    · have htm := tm_1 hda (by omega) (dg_0 c45)
      refine lv_iload_n hx hb dX8_times_98 rfl (lv_at hl 0 rfl) ?_
      refine lv_iconst (v := (nI 2)) hx hb dX8_times_99 (by decide) ?_
      refine g_icmp_lt (tgt := 114) (a := d0) (b := 2) hx hb (by omega) (by omega) dX8_times_100 (by decide) (fun c100 => ?_) (fun c100 => ?_)
      · refine lv_bipush (v := (-5)) hx hb dX8_times_114 (by decide) ?_
        refine lv_goto (tgt := 120) hx hb dX8_times_116 (by decide) ?_
        exact g_iret (z := sz) hx hb hr hlk hz hP hL hS dX8_times_120 (gxi_i ⟨rfl, ⟨_, hMo, by rw [htm]; exact hp2, (fun j hj => by first | rfl | exact sPut_n hj | exact (sPut_n hj).trans (sPut_n hj)), (fun k hk => by first | rfl | exact tN_n hk | exact (tN_n hk).trans (tN_n hk))⟩, Or.inr ⟨rfl, Or.inl (by rw [htm]; exact decide_eq_false (by omega))⟩, by rw [htm]; exact (show a + 1 ≤ n by omega), hag⟩)
      · refine lv_aload_n hx hb dX8_times_103 rfl (lv_at hl 1 rfl) ?_
        refine lv_bipush (v := (nI 48)) hx hb dX8_times_104 (by decide) ?_
        refine lv_bipush (v := (nI 57)) hx hb dX8_times_106 (by decide) ?_
        refine g_runV (As := [.int (nI 48), .int (nI 57)]) (rest := []) (own := RX8) (C := RX8) (T := TX8) (N := 20) 2 hx hb hml hown hts hK hz hP hL hS hlo hl.1 (c_X8_isAt l mo (sPut A 0 2 (nI (a + 1))) (a + 1) n ((nI 48)) ((nI 57)) σ1 sz hMo hp2 hp1 (by omega) (by omega)) gX8_times_X8_isAt rfl rfl rfl (by decide +kernel) ⟨Nat.le_of_ble_eq_true rfl, Nat.le_of_ble_eq_true rfl⟩ hMo.c0 rfl rfl rfl (Nat.le_of_ble_eq_true rfl) dX8_times_108 ⟨Nat.le_of_ble_eq_true rfl, Nat.le_of_ble_eq_true rfl⟩ (g_ki0 (fun H locs hz hP hL hS => ?_))
        refine g_top (y := (bI (inB (sgI f n (a + 1)) ((nI 48)) ((nI 57))))) (congrArg bI (isAt_e hp6 (by decide))) ?_
        refine g_ifb_eq (tgt := 119) hx hb dX8_times_111 (by decide) (fun c111 => ?_) (fun c111 => ?_)
        · refine lv_iload_n hx hb dX8_times_119 rfl (lv_at hl 0 rfl) ?_
          exact g_iret (z := sz) hx hb hr hlk hz hP hL hS dX8_times_120 (gxi_i ⟨rfl, ⟨_, hMo, by rw [htm]; exact hp2, (fun j hj => by first | rfl | exact sPut_n hj | exact (sPut_n hj).trans (sPut_n hj)), (fun k hk => by first | rfl | exact tN_n hk | exact (tN_n hk).trans (tN_n hk))⟩, Or.inl ⟨by rw [htm]; exact decide_eq_true (by omega), by rw [htm], by rw [htm]; exact hd9⟩, by rw [htm]; exact (show a + 1 ≤ n by omega), hag⟩)
        · exact absurd c111 (nb c45)
    · obtain ⟨e0, he1, he2, hbl, hfb, hdb⟩ := dg_y (by decide) (by decide) (by decide) c45
      refine lv_bipush (v := (nI 10)) hx hb dX8_times_48 (by decide) ?_
      refine lv_iload_n hx hb dX8_times_50 rfl (lv_at hl 0 rfl) ?_
      refine lv_imul hx hb dX8_times_51 ?_
      refine g_top (pk_mul 10 d0) ?_
      refine lv_aload_n hx hb dX8_times_52 rfl (lv_at hl 1 rfl) ?_
      refine g_get (C := RX8) (T := TX8) (N := 20) hx hb hts hown hK hP hMo.c0 nX8_times_X8 rfl 7 (by decide) (by decide +kernel) rfl (v := .ref (mo + 6)) rfl dX8_times_53 ?_
      refine lv_aload_n hx hb dX8_times_56 rfl (lv_at hl 1 rfl) ?_
      refine g_get (C := RX8) (T := TX8) (N := 20) hx hb hts hown hK hP hMo.c0 nX8_times_X8 rfl 8 (by decide) (by decide +kernel) rfl (v := .int (nI (tN (sPut A 0 2 (nI (a + 1))) 2))) rfl dX8_times_57 ?_
      refine g_top (y := (nI (a + 1))) (congrArg nI hp2) ?_
      refine g_cald hx hb hK hP hMo.c6 (i := nI (a + 1)) (vp_in_nI (by omega) (by omega)) dX8_times_60 ?_
      rw [nI_clamp (n := a + 1) (by omega)]
      refine g_top (y := (nI (48 + e0))) ((hp6 _ (by omega)).trans hfb) ?_
      refine lv_iadd hx hb dX8_times_61 ?_
      refine g_top (nI_add (10 * d0) (48 + e0)) ?_
      refine lv_bipush (v := (nI 48)) hx hb dX8_times_62 (by decide) ?_
      refine lv_isub hx hb dX8_times_64 ?_
      refine g_top (pk_sub (by omega : 48 ≤ (10 * d0) + (48 + e0))) ?_
      refine g_top (y := (nI (10 * d0 + e0))) (congrArg nI (by omega)) ?_
      refine lv_bipush (v := (nI 96)) hx hb dX8_times_65 (by decide) ?_
      refine g_icmp_gt (tgt := 98) (a := 10 * d0 + e0) (b := 96) hx hb (by omega) (by omega) dX8_times_67 (by decide) (fun c67 => ?_) (fun c67 => ?_)
      · have htm := tm_2 hda (by omega) hdb (by omega)
        refine lv_iload_n hx hb dX8_times_98 rfl (lv_at hl 0 rfl) ?_
        refine lv_iconst (v := (nI 2)) hx hb dX8_times_99 (by decide) ?_
        refine g_icmp_lt (tgt := 114) (a := d0) (b := 2) hx hb (by omega) (by omega) dX8_times_100 (by decide) (fun c100 => ?_) (fun c100 => ?_)
        · exact False.elim (by omega)
        · refine lv_aload_n hx hb dX8_times_103 rfl (lv_at hl 1 rfl) ?_
          refine lv_bipush (v := (nI 48)) hx hb dX8_times_104 (by decide) ?_
          refine lv_bipush (v := (nI 57)) hx hb dX8_times_106 (by decide) ?_
          refine g_runV (As := [.int (nI 48), .int (nI 57)]) (rest := []) (own := RX8) (C := RX8) (T := TX8) (N := 20) 2 hx hb hml hown hts hK hz hP hL hS hlo hl.1 (c_X8_isAt l mo (sPut A 0 2 (nI (a + 1))) (a + 1) n ((nI 48)) ((nI 57)) σ1 sz hMo hp2 hp1 (by omega) (by omega)) gX8_times_X8_isAt rfl rfl rfl (by decide +kernel) ⟨Nat.le_of_ble_eq_true rfl, Nat.le_of_ble_eq_true rfl⟩ hMo.c0 rfl rfl rfl (Nat.le_of_ble_eq_true rfl) dX8_times_108 ⟨Nat.le_of_ble_eq_true rfl, Nat.le_of_ble_eq_true rfl⟩ (g_ki0 (fun H locs hz hP hL hS => ?_))
          refine g_top (y := (bI (inB (sgI f n (a + 1)) ((nI 48)) ((nI 57))))) (congrArg bI (isAt_e hp6 (by decide))) ?_
          refine g_ifb_eq (tgt := 119) hx hb dX8_times_111 (by decide) (fun c111 => ?_) (fun c111 => ?_)
          · exact absurd c45 (nb c111)
          · refine lv_bipush (v := (-5)) hx hb dX8_times_114 (by decide) ?_
            refine lv_goto (tgt := 120) hx hb dX8_times_116 (by decide) ?_
            exact g_iret (z := sz) hx hb hr hlk hz hP hL hS dX8_times_120 (gxi_i ⟨rfl, ⟨_, hMo, by rw [htm]; exact hp2, (fun j hj => by first | rfl | exact sPut_n hj | exact (sPut_n hj).trans (sPut_n hj)), (fun k hk => by first | rfl | exact tN_n hk | exact (tN_n hk).trans (tN_n hk))⟩, Or.inr ⟨rfl, Or.inl (by rw [htm])⟩, by rw [htm]; exact (show a + 1 ≤ n by omega), hag⟩)
      · refine lv_bipush (v := (nI 10)) hx hb dX8_times_70 (by decide) ?_
        refine lv_iload_n hx hb dX8_times_72 rfl (lv_at hl 0 rfl) ?_
        refine lv_imul hx hb dX8_times_73 ?_
        refine g_top (pk_mul 10 d0) ?_
        refine lv_aload_n hx hb dX8_times_74 rfl (lv_at hl 1 rfl) ?_
        refine g_get (C := RX8) (T := TX8) (N := 20) hx hb hts hown hK hP hMo.c0 nX8_times_X8 rfl 7 (by decide) (by decide +kernel) rfl (v := .ref (mo + 6)) rfl dX8_times_75 ?_
        refine lv_aload_n hx hb dX8_times_78 rfl (lv_at hl 1 rfl) ?_
        refine g_get (C := RX8) (T := TX8) (N := 20) hx hb hts hown hK hP hMo.c0 nX8_times_X8 rfl 8 (by decide) (by decide +kernel) rfl (v := .int (nI (tN (sPut A 0 2 (nI (a + 1))) 2))) rfl dX8_times_79 ?_
        refine g_top (y := (nI (a + 1))) (congrArg nI hp2) ?_
        refine g_cald hx hb hK hP hMo.c6 (i := nI (a + 1)) (vp_in_nI (by omega) (by omega)) dX8_times_82 ?_
        rw [nI_clamp (n := a + 1) (by omega)]
        refine g_top (y := (nI (48 + e0))) ((hp6 _ (by omega)).trans hfb) ?_
        refine lv_iadd hx hb dX8_times_83 ?_
        refine g_top (nI_add (10 * d0) (48 + e0)) ?_
        refine lv_bipush (v := (nI 48)) hx hb dX8_times_84 (by decide) ?_
        refine lv_isub hx hb dX8_times_86 ?_
        refine g_top (pk_sub (by omega : 48 ≤ (10 * d0) + (48 + e0))) ?_
        refine g_top (y := (nI (10 * d0 + e0))) (congrArg nI (by omega)) ?_
        refine lv_istore_n (lv' := [(1, .int (nI (10 * d0 + e0))), (0, .ref mo)]) hx hb dX8_times_87 rfl hl (by decide) rfl (fun ls hl => ?_)
        refine lv_aload_n hx hb dX8_times_88 rfl (lv_at hl 1 rfl) ?_
        refine lv_dup hx hb dX8_times_89 rfl ?_
        refine g_get (C := RX8) (T := TX8) (N := 20) hx hb hts hown hK hP hMo.c0 nX8_times_X8 rfl 8 (by decide) (by decide +kernel) rfl (v := .int (nI (tN (sPut A 0 2 (nI (a + 1))) 2))) rfl dX8_times_90 ?_
        refine g_top (y := (nI (a + 1))) (congrArg nI hp2) ?_
        refine lv_iconst (v := (nI 1)) hx hb dX8_times_93 (by decide) ?_
        refine lv_iadd hx hb dX8_times_94 ?_
        refine g_top (nI_add (a + 1) 1) ?_
        refine g_put (C := RX8) (T := TX8) (N := 20) hx hb hts hown hK hP hL hS hMo.c0 nX8_times_X8 tyX8 tyX8_ok nmX8 rfl 8 (by decide) (by decide +kernel) rfl rfl (v := .int (nI ((a + 1) + 1))) rfl rfl (Nat.le_of_ble_eq_true rfl) dX8_times_95 (fun H locs hq hP hL hS => ?_)
        have hz := hq.trans hz
        obtain ⟨σ2, e2⟩ : ∃ υ0 : gS, υ0 = gup σ1 mo (gO 8 [.ref (mo + 1), .ref (mo + 2), .ref (mo + 3), .int (nI (tN (sPut A 0 2 (nI (a + 1))) 0)), .ref (mo + 4), .ref (mo + 5), .int (nI (tN (sPut A 0 2 (nI (a + 1))) 1)), .ref (mo + 6), .int (nI ((a + 1) + 1)), .ref (mo + 7), .ref (mo + 8), .ref (mo + 9), .int (nI (tN (sPut A 0 2 (nI (a + 1))) 3)), .ref (mo + 10), .ref (mo + 11), .ref (mo + 12), .int (nI (tN (sPut A 0 2 (nI (a + 1))) 4)), .ref (mo + 13), .ref (mo + 14), .ref (mo + 15)]) := ⟨_, rfl⟩
        have hP : gH D ka σ2 H := by rw [e2]; exact hP
        have hL : gL lo σ2 := by rw [e2]; exact hL
        have hMo : MoAt σ2 mo (sPut (sPut A 0 2 (nI (a + 1))) 0 2 (nI ((a + 1) + 1))) := by rw [e2]; exact hMo.p8 ((a + 1) + 1) (by omega)
        have hag := hag.upe e2 (zo_0 (by decide))
        have hp2 : tN (sPut (sPut A 0 2 (nI (a + 1))) 0 2 (nI ((a + 1) + 1))) 2 = a + 1 + 1 := tN_s (by omega)
        have hp1 : tN (sPut (sPut A 0 2 (nI (a + 1))) 0 2 (nI ((a + 1) + 1))) 1 = n := (tN_n (by decide)).trans hp1
        have hp6 : ∀ j : Nat, j < n → (sPut (sPut A 0 2 (nI (a + 1))) 0 2 (nI ((a + 1) + 1))) 6 j = f j := hp6
        have htm := tm_3 hda (by omega) hdb (by omega)
        refine lv_iload_n hx hb dX8_times_98 rfl (lv_at hl 0 rfl) ?_
        refine lv_iconst (v := (nI 2)) hx hb dX8_times_99 (by decide) ?_
        refine g_icmp_lt (tgt := 114) (a := 10 * d0 + e0) (b := 2) hx hb (by omega) (by omega) dX8_times_100 (by decide) (fun c100 => ?_) (fun c100 => ?_)
        · exact False.elim (by omega)
        · refine lv_aload_n hx hb dX8_times_103 rfl (lv_at hl 1 rfl) ?_
          refine lv_bipush (v := (nI 48)) hx hb dX8_times_104 (by decide) ?_
          refine lv_bipush (v := (nI 57)) hx hb dX8_times_106 (by decide) ?_
          refine g_runV (As := [.int (nI 48), .int (nI 57)]) (rest := []) (own := RX8) (C := RX8) (T := TX8) (N := 20) 2 hx hb hml hown hts hK hz hP hL hS hlo hl.1 (c_X8_isAt l mo (sPut (sPut A 0 2 (nI (a + 1))) 0 2 (nI ((a + 1) + 1))) (a + 1 + 1) n ((nI 48)) ((nI 57)) σ2 sz hMo hp2 hp1 (by omega) (by omega)) gX8_times_X8_isAt rfl rfl rfl (by decide +kernel) ⟨Nat.le_of_ble_eq_true rfl, Nat.le_of_ble_eq_true rfl⟩ hMo.c0 rfl rfl rfl (Nat.le_of_ble_eq_true rfl) dX8_times_108 ⟨Nat.le_of_ble_eq_true rfl, Nat.le_of_ble_eq_true rfl⟩ (g_ki0 (fun H locs hz hP hL hS => ?_))
          refine g_top (y := (bI (inB (sgI f n (a + 1 + 1)) ((nI 48)) ((nI 57))))) (congrArg bI (isAt_e hp6 (by decide))) ?_
          refine g_ifb_eq (tgt := 119) hx hb dX8_times_111 (by decide) (fun c111 => ?_) (fun c111 => ?_)
          · refine lv_iload_n hx hb dX8_times_119 rfl (lv_at hl 0 rfl) ?_
            exact g_iret (z := sz) hx hb hr hlk hz hP hL hS dX8_times_120 (gxi_i ⟨rfl, ⟨_, hMo, by rw [htm]; exact hp2, (fun j hj => by first | rfl | exact sPut_n hj | exact (sPut_n hj).trans (sPut_n hj)), (fun k hk => by first | rfl | exact tN_n hk | exact (tN_n hk).trans (tN_n hk))⟩, Or.inl ⟨by rw [htm], by rw [htm]; exact congrArg nI (show 10 * d0 + e0 = d0 * 10 + e0 by omega), by rw [htm]; exact (show 1 ≤ d0 * 10 + e0 by omega)⟩, by rw [htm]; exact (show a + 2 ≤ n by omega), hag⟩)
          · refine lv_bipush (v := (-5)) hx hb dX8_times_114 (by decide) ?_
            refine lv_goto (tgt := 120) hx hb dX8_times_116 (by decide) ?_
            exact g_iret (z := sz) hx hb hr hlk hz hP hL hS dX8_times_120 (gxi_i ⟨rfl, ⟨_, hMo, by rw [htm]; exact hp2, (fun j hj => by first | rfl | exact sPut_n hj | exact (sPut_n hj).trans (sPut_n hj)), (fun k hk => by first | rfl | exact tN_n hk | exact (tN_n hk).trans (tN_n hk))⟩, Or.inr ⟨rfl, Or.inr ⟨by rw [htm], by rw [htm]; exact c111⟩⟩, by rw [htm]; exact (show a + 2 ≤ n by omega), hag⟩)
  · refine lv_bipush (v := (-5)) hx hb dX8_times_11 (by decide) ?_
    exact g_iret (z := sz) hx hb hr hlk hz hP hL hS dX8_times_13 (gxi_i ⟨rfl, ⟨_, hMo, by rw [tm_0 c8]; exact hp2, (fun j hj => by first | rfl | exact sPut_n hj | exact (sPut_n hj).trans (sPut_n hj)), (fun k hk => by first | rfl | exact tN_n hk | exact (tN_n hk).trans (tN_n hk))⟩, Or.inr ⟨rfl, Or.inl (by rw [tm_0 c8])⟩, by rw [tm_0 c8]; exact (show a ≤ n by omega), hag⟩)
