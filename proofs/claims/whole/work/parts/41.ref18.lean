/-! the reference reads all the text -/
theorem nX8_readText_X8 : ∀ w ∈ wsX80, w ∈ wsX8_readText := by decide +kernel
set_option maxHeartbeats 4000000 in
set_option maxRecDepth 100000 in
theorem c_X8_readText (l : Launch) (mo : Nat) (A : sS) (f : Nat → Int32) (n : Nat) (σ : gS) (sz : Nat) (hMo : MoAt σ mo A) (hn0 : tN A 1 = n) (hn : n ≤ 60) (h6 : ∀ j : Nat, j < n → A 6 j = f j) : gM l yX8_readText wsX8_readText ({ frames := 2, cells := 0, slots := 0, locals := 43 } : Room) 0 0 [.ref mo] σ sz (gxi (fun r τ z => z = sz ∧ (∃ A2 : sS, MoAt τ mo A2 ∧ RdP A A2 f n r) ∧ gAs (gZo mo 16) σ τ)) := by
  refine gM_of (cc := cX8_readText) (maxL := 5) (ret := (some .int)) (by decide) rfl (Nat.le_of_ble_eq_true rfl) ?_
  intro D ka lo hL hlo p e s m below meth c hx hb hr hts hown hml hlk hnm hK H locs ls hz hP hS hl
  have hl : lv_has ls 5 [(0, .ref mo)] := hl
  have hown : s.vm.findClass RX8 = some m.cls := hown
  have hag : gAs (gZo mo 16) σ σ := gAs.rf
  refine lv_aload_n hx hb dX8_readText_0 rfl (lv_at hl 0 rfl) ?_
  refine lv_iconst (v := (nI 0)) hx hb dX8_readText_1 (by decide) ?_
  refine g_put (C := RX8) (T := TX8) (N := 20) hx hb hts hown hK hP hL hS hMo.c0 nX8_readText_X8 tyX8 tyX8_ok nmX8 rfl 8 (by decide) (by decide +kernel) rfl rfl (v := .int (nI 0)) rfl rfl (Nat.le_of_ble_eq_true rfl) dX8_readText_2 (fun H locs hq hP hL hS => ?_)
  have hz := hq.trans hz
  obtain ⟨σ1, e1⟩ : ∃ υ0 : gS, υ0 = gup σ mo (gO 8 [.ref (mo + 1), .ref (mo + 2), .ref (mo + 3), .int (nI (tN A 0)), .ref (mo + 4), .ref (mo + 5), .int (nI (tN A 1)), .ref (mo + 6), .int (nI 0), .ref (mo + 7), .ref (mo + 8), .ref (mo + 9), .int (nI (tN A 3)), .ref (mo + 10), .ref (mo + 11), .ref (mo + 12), .int (nI (tN A 4)), .ref (mo + 13), .ref (mo + 14), .ref (mo + 15)]) := ⟨_, rfl⟩
  have hP : gH D ka σ1 H := by rw [e1]; exact hP
  have hL : gL lo σ1 := by rw [e1]; exact hL
  have hMo : MoAt σ1 mo (sPut A 0 2 (nI 0)) := by rw [e1]; exact hMo.p8 0 (by omega)
  have hag := hag.upe e1 (zo_0 (by decide))
  refine lv_iconst (v := (nI 0)) hx hb dX8_readText_5 (by decide) ?_
  refine lv_istore_n (lv' := [(1, .int (nI 0)), (0, .ref mo)]) hx hb dX8_readText_6 rfl hl (by decide) rfl (fun ls hl => ?_)
  refine lv_iconst (v := (nI 0)) hx hb dX8_readText_7 (by decide) ?_
  refine lv_istore_n (lv' := [(2, .int (nI 0)), (1, .int (nI 0)), (0, .ref mo)]) hx hb dX8_readText_8 rfl hl (by decide) rfl (fun ls hl => ?_)
  refine lv_bipush (v := (-5)) hx hb dX8_readText_9 (by decide) ?_
  have hRd0 : RdI A (sPut A 0 2 (nI 0)) f n 0 0 0 := ⟨tN_s (by decide), fun k hk => tN_n (by omega), fun j h1 h2 => sPut_n (by omega), rfl, fun k hk => absurd hk (Nat.not_lt_zero k), fun V => rfl⟩
  refine lv_istore_n (lv' := [(3, .int (-5)), (2, .int (nI 0)), (1, .int (nI 0)), (0, .ref mo)]) hx hb dX8_readText_11 rfl hl (by decide) rfl (fun ls hl => ?_)
  have lp : ∀ (fu_lp : Nat) (it : Nat) (a : Nat) (su : Nat) (tm : Option Nat), (it ≤ a) → (a ≤ n) → (su ≤ it * 96) → (tm = none → su ≤ 96) → (∀ k : Nat, tm = some k → k < 100) → (paF f n (60 - it) a su tm = paF f n 60 0 0 none) → (n - a < fu_lp) → ∀ (υ : gS), (∃ A2 : sS, MoAt υ mo A2 ∧ RdI A A2 f n it a su) → (gAs (gZo mo 16) σ υ) → gL lo υ → ∀ (H : Heap) (locs : List Loc) (ls : Array Slot), H.size = sz → gH D ka υ H → va_S (gA lo) s.heap H locs → lv_has ls 5 [(0, .ref mo), (1, .int (nI it)), (2, .int (nI su)), (3, .int (oI tm))] → W p l e ({ frames := 2, cells := 0, slots := 0, locals := 43 } : Room) s m ([.ref mo] : List Value).toArray below meth c H locs (0) (0) (MQ below (gQ D ka lo (gxi (fun r τ z => z = sz ∧ (∃ A2 : sS, MoAt τ mo A2 ∧ RdP A A2 f n r) ∧ gAs (gZo mo 16) σ τ))) ([.ref mo] : List Value).toArray s 0 0 (gA lo)) (F0 m 12 ls []) := by
    intro fu_lp
    induction fu_lp with
    | zero => intro it a su tm hi1 ha9 hsu hsn hct hs hm_lp; exact absurd hm_lp (Nat.not_lt_zero _)
    | succ fu_lp ih_lp =>
      intro it a su tm hi1 ha9 hsu hsn hct hs hm_lp υ hEx hag hL H locs ls hz hP hS hl
      obtain ⟨A2, hMo, hRd⟩ := hEx
      have hp2 := hRd.1
      have hp1 : tN A2 1 = n := (hRd.2.1 1 (by decide)).trans hn0
      have hp6 : ∀ j : Nat, j < n → A2 6 j = f j := fun j hj => by rw [hRd.2.2.1 6 (by decide) (by decide)]; exact h6 j hj
      refine lv_aload_n hx hb dX8_readText_12 rfl (lv_at hl 0 rfl) ?_
      refine g_get (C := RX8) (T := TX8) (N := 20) hx hb hts hown hK hP hMo.c0 nX8_readText_X8 rfl 8 (by decide) (by decide +kernel) rfl (v := .int (nI (tN A2 2))) rfl dX8_readText_13 ?_
      refine g_top (y := (nI a)) (congrArg nI hp2) ?_
      refine lv_aload_n hx hb dX8_readText_16 rfl (lv_at hl 0 rfl) ?_
      refine g_get (C := RX8) (T := TX8) (N := 20) hx hb hts hown hK hP hMo.c0 nX8_readText_X8 rfl 6 (by decide) (by decide +kernel) rfl (v := .int (nI (tN A2 1))) rfl dX8_readText_17 ?_
      refine g_top (y := (nI n)) (congrArg nI hp1) ?_
      refine g_icmp_lt (tgt := 30) (a := a) (b := n) hx hb (by omega) (by omega) dX8_readText_20 (by decide) (fun c20 => ?_) (fun c20 => ?_)
      · refine lv_aload_n hx hb dX8_readText_30 rfl (lv_at hl 0 rfl) ?_
        refine g_get (C := RX8) (T := TX8) (N := 20) hx hb hts hown hK hP hMo.c0 nX8_readText_X8 rfl 8 (by decide) (by decide +kernel) rfl (v := .int (nI (tN A2 2))) rfl dX8_readText_31 ?_
        refine g_top (y := (nI a)) (congrArg nI hp2) ?_
        refine lv_aload_n hx hb dX8_readText_34 rfl (lv_at hl 0 rfl) ?_
        refine g_get (C := RX8) (T := TX8) (N := 20) hx hb hts hown hK hP hMo.c0 nX8_readText_X8 rfl 6 (by decide) (by decide +kernel) rfl (v := .int (nI (tN A2 1))) rfl dX8_readText_35 ?_
        refine g_top (y := (nI n)) (congrArg nI hp1) ?_
        refine g_icmp_eq (tgt := 56) (a := a) (b := n) hx hb (by omega) (by omega) dX8_readText_38 (by decide) (fun c38 => ?_) (fun c38 => ?_)
        · exact False.elim (by omega)
        · have hy : A2 6 a = sgI f n a := (hp6 a (by omega)).trans (if_pos (by omega)).symm
          refine lv_aload_n hx hb dX8_readText_41 rfl (lv_at hl 0 rfl) ?_
          refine g_get (C := RX8) (T := TX8) (N := 20) hx hb hts hown hK hP hMo.c0 nX8_readText_X8 rfl 7 (by decide) (by decide +kernel) rfl (v := .ref (mo + 6)) rfl dX8_readText_42 ?_
          refine lv_aload_n hx hb dX8_readText_45 rfl (lv_at hl 0 rfl) ?_
          refine g_get (C := RX8) (T := TX8) (N := 20) hx hb hts hown hK hP hMo.c0 nX8_readText_X8 rfl 8 (by decide) (by decide +kernel) rfl (v := .int (nI (tN A2 2))) rfl dX8_readText_46 ?_
          refine g_top (y := (nI a)) (congrArg nI hp2) ?_
          refine g_cald hx hb hK hP hMo.c6 (i := nI a) (vp_in_nI (by omega) (by omega)) dX8_readText_49 ?_
          rw [nI_clamp (n := a) (by omega)]
          refine g_runS (As := [.int ((A2 6) a)]) (rest := []) (own := RX8) 1 hx hb hml hown hts hK hz hP hL hS hlo hl.1 (c_X8_sortOf l (((A2 6) a)) υ sz) gX8_readText_X8_sortOf rfl rfl rfl (by decide +kernel) ⟨Nat.le_of_ble_eq_true rfl, Nat.le_of_ble_eq_true rfl⟩ rfl rfl (Nat.le_of_ble_eq_true rfl) dX8_readText_50 ⟨Nat.le_of_ble_eq_true rfl, Nat.le_of_ble_eq_true rfl⟩ (g_ki0 (fun H locs hz hP hL hS => ?_))
          refine g_top (y := (soR (sgI f n a))) (by rw [hy]) ?_
          refine lv_if_ge (tgt := 61) hx hb dX8_readText_53 (by decide) (fun c53 => ?_) (fun c53 => ?_)
          · obtain ⟨hso1, hso2⟩ := so_1 (Int32.not_lt.mpr c53)
            refine lv_aload_n hx hb dX8_readText_61 rfl (lv_at hl 0 rfl) ?_
            refine g_get (C := RX8) (T := TX8) (N := 20) hx hb hts hown hK hP hMo.c0 nX8_readText_X8 rfl 8 (by decide) (by decide +kernel) rfl (v := .int (nI (tN A2 2))) rfl dX8_readText_62 ?_
            refine g_top (y := (nI a)) (congrArg nI hp2) ?_
            refine lv_istore (lv' := [(4, .int (nI a)), (0, .ref mo), (1, .int (nI it)), (2, .int (nI su)), (3, .int (oI tm))]) hx hb dX8_readText_65 hl (by decide) rfl (fun ls hl => ?_)
            refine lv_aload_n hx hb dX8_readText_67 rfl (lv_at hl 1 rfl) ?_
            refine g_get (C := RX8) (T := TX8) (N := 20) hx hb hts hown hK hP hMo.c0 nX8_readText_X8 rfl 9 (by decide) (by decide +kernel) rfl (v := .ref (mo + 7)) rfl dX8_readText_68 ?_
            refine lv_iload_n hx hb dX8_readText_71 rfl (lv_at hl 2 rfl) ?_
            refine lv_aload_n hx hb dX8_readText_72 rfl (lv_at hl 1 rfl) ?_
            refine g_get (C := RX8) (T := TX8) (N := 20) hx hb hts hown hK hP hMo.c0 nX8_readText_X8 rfl 7 (by decide) (by decide +kernel) rfl (v := .ref (mo + 6)) rfl dX8_readText_73 ?_
            refine lv_aload_n hx hb dX8_readText_76 rfl (lv_at hl 1 rfl) ?_
            refine g_get (C := RX8) (T := TX8) (N := 20) hx hb hts hown hK hP hMo.c0 nX8_readText_X8 rfl 8 (by decide) (by decide +kernel) rfl (v := .int (nI (tN A2 2))) rfl dX8_readText_77 ?_
            refine g_top (y := (nI a)) (congrArg nI hp2) ?_
            refine g_cald hx hb hK hP hMo.c6 (i := nI a) (vp_in_nI (by omega) (by omega)) dX8_readText_80 ?_
            rw [nI_clamp (n := a) (by omega)]
            refine g_runS (As := [.int ((A2 6) a)]) (rest := [.int (nI it), .ref (mo + 7)]) (own := RX8) 1 hx hb hml hown hts hK hz hP hL hS hlo hl.1 (c_X8_sortOf l (((A2 6) a)) υ sz) gX8_readText_X8_sortOf rfl rfl rfl (by decide +kernel) ⟨Nat.le_of_ble_eq_true rfl, Nat.le_of_ble_eq_true rfl⟩ rfl rfl (Nat.le_of_ble_eq_true rfl) dX8_readText_81 ⟨Nat.le_of_ble_eq_true rfl, Nat.le_of_ble_eq_true rfl⟩ (g_ki0 (fun H locs hz hP hL hS => ?_))
            refine g_top (y := (soI (sgI f n a))) (by rw [hy]; exact hso1) ?_
            refine g_iast hx hb hK hP hL hS hMo.c7 (i := nI it) (vp_in_nI (by omega) (by omega)) dX8_readText_84 (fun H locs hq hP hL hS => ?_)
            rw [nI_clamp (n := it) (by omega)] at hP hL
            have hz := hq.trans hz
            obtain ⟨σ3, e3⟩ : ∃ υ0 : gS, υ0 = gup υ (mo + 7) (gI 60 (upd (A2 7) it ((soI (sgI f n a))))) := ⟨_, rfl⟩
            have hP : gH D ka σ3 H := by rw [e3]; exact hP
            have hL : gL lo σ3 := by rw [e3]; exact hL
            have hMo : MoAt σ3 mo (sRow A2 7 (upd (A2 7) it ((soI (sgI f n a))))) := by rw [e3]; exact hMo.w7 (upd (A2 7) it ((soI (sgI f n a))))
            have hag := hag.upe e3 (zo_k (by decide))
            refine lv_aload_n hx hb dX8_readText_85 rfl (lv_at hl 1 rfl) ?_
            refine g_get (C := RX8) (T := TX8) (N := 20) hx hb hts hown hK hP hMo.c0 nX8_readText_X8 rfl 10 (by decide) (by decide +kernel) rfl (v := .ref (mo + 8)) rfl dX8_readText_86 ?_
            refine lv_iload_n hx hb dX8_readText_89 rfl (lv_at hl 2 rfl) ?_
            refine lv_iconst (v := (nI 2)) hx hb dX8_readText_90 (by decide) ?_
            refine g_iast hx hb hK hP hL hS hMo.c8 (i := nI it) (vp_in_nI (by omega) (by omega)) dX8_readText_91 (fun H locs hq hP hL hS => ?_)
            rw [nI_clamp (n := it) (by omega)] at hP hL
            have hz := hq.trans hz
            obtain ⟨σ4, e4⟩ : ∃ υ0 : gS, υ0 = gup σ3 (mo + 8) (gI 60 (upd ((sRow A2 7 (upd (A2 7) it ((soI (sgI f n a))))) 8) it ((nI 2)))) := ⟨_, rfl⟩
            have hP : gH D ka σ4 H := by rw [e4]; exact hP
            have hL : gL lo σ4 := by rw [e4]; exact hL
            have hMo : MoAt σ4 mo (sRow (sRow A2 7 (upd (A2 7) it ((soI (sgI f n a))))) 8 (upd ((sRow A2 7 (upd (A2 7) it ((soI (sgI f n a))))) 8) it ((nI 2)))) := by rw [e4]; exact hMo.w8 (upd ((sRow A2 7 (upd (A2 7) it ((soI (sgI f n a))))) 8) it ((nI 2)))
            have hag := hag.upe e4 (zo_k (by decide))
            refine lv_aload_n hx hb dX8_readText_92 rfl (lv_at hl 1 rfl) ?_
            refine g_get (C := RX8) (T := TX8) (N := 20) hx hb hts hown hK hP hMo.c0 nX8_readText_X8 rfl 11 (by decide) (by decide +kernel) rfl (v := .ref (mo + 9)) rfl dX8_readText_93 ?_
            refine lv_iload_n hx hb dX8_readText_96 rfl (lv_at hl 2 rfl) ?_
            refine lv_iconst (v := (nI 1)) hx hb dX8_readText_97 (by decide) ?_
            refine g_iast hx hb hK hP hL hS hMo.c9 (i := nI it) (vp_in_nI (by omega) (by omega)) dX8_readText_98 (fun H locs hq hP hL hS => ?_)
            rw [nI_clamp (n := it) (by omega)] at hP hL
            have hz := hq.trans hz
            obtain ⟨σ5, e5⟩ : ∃ υ0 : gS, υ0 = gup σ4 (mo + 9) (gI 60 (upd ((sRow (sRow A2 7 (upd (A2 7) it ((soI (sgI f n a))))) 8 (upd ((sRow A2 7 (upd (A2 7) it ((soI (sgI f n a))))) 8) it ((nI 2)))) 9) it ((nI 1)))) := ⟨_, rfl⟩
            have hP : gH D ka σ5 H := by rw [e5]; exact hP
            have hL : gL lo σ5 := by rw [e5]; exact hL
            have hMo : MoAt σ5 mo (sRow (sRow (sRow A2 7 (upd (A2 7) it ((soI (sgI f n a))))) 8 (upd ((sRow A2 7 (upd (A2 7) it ((soI (sgI f n a))))) 8) it ((nI 2)))) 9 (upd ((sRow (sRow A2 7 (upd (A2 7) it ((soI (sgI f n a))))) 8 (upd ((sRow A2 7 (upd (A2 7) it ((soI (sgI f n a))))) 8) it ((nI 2)))) 9) it ((nI 1)))) := by rw [e5]; exact hMo.w9 (upd ((sRow (sRow A2 7 (upd (A2 7) it ((soI (sgI f n a))))) 8 (upd ((sRow A2 7 (upd (A2 7) it ((soI (sgI f n a))))) 8) it ((nI 2)))) 9) it ((nI 1)))
            have hag := hag.upe e5 (zo_k (by decide))
            refine lv_aload_n hx hb dX8_readText_99 rfl (lv_at hl 1 rfl) ?_
            refine lv_dup hx hb dX8_readText_100 rfl ?_
            refine g_get (C := RX8) (T := TX8) (N := 20) hx hb hts hown hK hP hMo.c0 nX8_readText_X8 rfl 8 (by decide) (by decide +kernel) rfl (v := .int (nI (tN (sRow (sRow (sRow A2 7 (upd (A2 7) it ((soI (sgI f n a))))) 8 (upd ((sRow A2 7 (upd (A2 7) it ((soI (sgI f n a))))) 8) it ((nI 2)))) 9 (upd ((sRow (sRow A2 7 (upd (A2 7) it ((soI (sgI f n a))))) 8 (upd ((sRow A2 7 (upd (A2 7) it ((soI (sgI f n a))))) 8) it ((nI 2)))) 9) it ((nI 1)))) 2))) rfl dX8_readText_101 ?_
            refine g_top (y := (nI a)) (congrArg nI hp2) ?_
            refine lv_iconst (v := (nI 1)) hx hb dX8_readText_104 (by decide) ?_
            refine lv_iadd hx hb dX8_readText_105 ?_
            refine g_top (nI_add a 1) ?_
            refine g_put (C := RX8) (T := TX8) (N := 20) hx hb hts hown hK hP hL hS hMo.c0 nX8_readText_X8 tyX8 tyX8_ok nmX8 rfl 8 (by decide) (by decide +kernel) rfl rfl (v := .int (nI (a + 1))) rfl rfl (Nat.le_of_ble_eq_true rfl) dX8_readText_106 (fun H locs hq hP hL hS => ?_)
            have hz := hq.trans hz
            obtain ⟨σ6, e6⟩ : ∃ υ0 : gS, υ0 = gup σ5 mo (gO 8 [.ref (mo + 1), .ref (mo + 2), .ref (mo + 3), .int (nI (tN (sRow (sRow (sRow A2 7 (upd (A2 7) it ((soI (sgI f n a))))) 8 (upd ((sRow A2 7 (upd (A2 7) it ((soI (sgI f n a))))) 8) it ((nI 2)))) 9 (upd ((sRow (sRow A2 7 (upd (A2 7) it ((soI (sgI f n a))))) 8 (upd ((sRow A2 7 (upd (A2 7) it ((soI (sgI f n a))))) 8) it ((nI 2)))) 9) it ((nI 1)))) 0)), .ref (mo + 4), .ref (mo + 5), .int (nI (tN (sRow (sRow (sRow A2 7 (upd (A2 7) it ((soI (sgI f n a))))) 8 (upd ((sRow A2 7 (upd (A2 7) it ((soI (sgI f n a))))) 8) it ((nI 2)))) 9 (upd ((sRow (sRow A2 7 (upd (A2 7) it ((soI (sgI f n a))))) 8 (upd ((sRow A2 7 (upd (A2 7) it ((soI (sgI f n a))))) 8) it ((nI 2)))) 9) it ((nI 1)))) 1)), .ref (mo + 6), .int (nI (a + 1)), .ref (mo + 7), .ref (mo + 8), .ref (mo + 9), .int (nI (tN (sRow (sRow (sRow A2 7 (upd (A2 7) it ((soI (sgI f n a))))) 8 (upd ((sRow A2 7 (upd (A2 7) it ((soI (sgI f n a))))) 8) it ((nI 2)))) 9 (upd ((sRow (sRow A2 7 (upd (A2 7) it ((soI (sgI f n a))))) 8 (upd ((sRow A2 7 (upd (A2 7) it ((soI (sgI f n a))))) 8) it ((nI 2)))) 9) it ((nI 1)))) 3)), .ref (mo + 10), .ref (mo + 11), .ref (mo + 12), .int (nI (tN (sRow (sRow (sRow A2 7 (upd (A2 7) it ((soI (sgI f n a))))) 8 (upd ((sRow A2 7 (upd (A2 7) it ((soI (sgI f n a))))) 8) it ((nI 2)))) 9 (upd ((sRow (sRow A2 7 (upd (A2 7) it ((soI (sgI f n a))))) 8 (upd ((sRow A2 7 (upd (A2 7) it ((soI (sgI f n a))))) 8) it ((nI 2)))) 9) it ((nI 1)))) 4)), .ref (mo + 13), .ref (mo + 14), .ref (mo + 15)]) := ⟨_, rfl⟩
            have hP : gH D ka σ6 H := by rw [e6]; exact hP
            have hL : gL lo σ6 := by rw [e6]; exact hL
            have hMo : MoAt σ6 mo (sPut (sRow (sRow (sRow A2 7 (upd (A2 7) it ((soI (sgI f n a))))) 8 (upd ((sRow A2 7 (upd (A2 7) it ((soI (sgI f n a))))) 8) it ((nI 2)))) 9 (upd ((sRow (sRow A2 7 (upd (A2 7) it ((soI (sgI f n a))))) 8 (upd ((sRow A2 7 (upd (A2 7) it ((soI (sgI f n a))))) 8) it ((nI 2)))) 9) it ((nI 1)))) 0 2 (nI (a + 1))) := by rw [e6]; exact hMo.p8 (a + 1) (by omega)
            have hag := hag.upe e6 (zo_0 (by decide))
            obtain ⟨A1, hMo, hp2, hT, hJ, h7, h8, h9⟩ : ∃ A1 : sS, MoAt σ6 mo A1 ∧ tN A1 2 = a + 1 ∧ (∀ k : Nat, k < 2 → tN A1 k = tN A k) ∧ (∀ j : Nat, 1 ≤ j → j ≤ 6 → A1 j = A j) ∧ A1 7 = upd (A2 7) it (soI (sgI f n a)) ∧ A1 8 = upd (A2 8) it (nI 2) ∧ A1 9 = upd (A2 9) it (nI 1) := ⟨_, hMo, tN_s (by omega), fun k hk => (tN_n (by omega)).trans (hRd.2.1 k hk), fun j h1 h2 => (sPut_n (by omega)).trans ((sRow_n (by omega)).trans ((sRow_n (by omega)).trans ((sRow_n (by omega)).trans (hRd.2.2.1 j h1 h2)))), rfl, rfl, rfl⟩
            have hp1 : tN A1 1 = n := (hT 1 (by decide)).trans hn0
            have hp6 : ∀ j : Nat, j < n → A1 6 j = f j := fun j hj => by rw [hJ 6 (by decide) (by decide)]; exact h6 j hj
            refine lv_aload_n hx hb dX8_readText_109 rfl (lv_at hl 1 rfl) ?_
            refine g_get (C := RX8) (T := TX8) (N := 20) hx hb hts hown hK hP hMo.c0 nX8_readText_X8 rfl 9 (by decide) (by decide +kernel) rfl (v := .ref (mo + 7)) rfl dX8_readText_110 ?_
            refine lv_iload_n hx hb dX8_readText_113 rfl (lv_at hl 2 rfl) ?_
            refine g_iald hx hb hK hP hMo.c7 (i := nI it) (vp_in_nI (by omega) (by omega)) dX8_readText_114 ?_
            rw [nI_clamp (n := it) (by omega)]
            refine g_top (y := (soI (sgI f n a))) (by rw [h7, upd_s]) ?_
            refine lv_if_le (tgt := 157) hx hb dX8_readText_115 (by decide) (fun c115 => ?_) (fun c115 => ?_)
            · obtain ⟨A4, a4, ld, hMo, hlf, hu4, hv4, hp2, hT, hJ, h7, h8, h9⟩ : ∃ (A4 : sS) (a4 : Nat) (ld : Int32), MoAt σ6 mo A4 ∧ loF f n (a + 1) (soI (sgI f n a)) = (ld, a4) ∧ a < a4 ∧ a4 ≤ n ∧ tN A4 2 = a4 ∧ (∀ k : Nat, k < 2 → tN A4 k = tN A k) ∧ (∀ j : Nat, 1 ≤ j → j ≤ 6 → A4 j = A j) ∧ A4 7 = upd (A2 7) it (soI (sgI f n a)) ∧ A4 8 = upd (A2 8) it ld ∧ A4 9 = upd (A2 9) it (nI 1) := ⟨A1, a + 1, nI 2, hMo, lo_0 c115 hso2, by omega, by omega, hp2, hT, hJ, h7, h8, h9⟩
              have hp1 : tN A4 1 = n := (hT 1 (by decide)).trans hn0
              have hp6 : ∀ j : Nat, j < n → A4 6 j = f j := fun j hj => by rw [hJ 6 (by decide) (by decide)]; exact h6 j hj
              refine lv_aload_n hx hb dX8_readText_157 rfl (lv_at hl 1 rfl) ?_
              refine lv_bipush (v := (nI 120)) hx hb dX8_readText_158 (by decide) ?_
              refine lv_bipush (v := (nI 120)) hx hb dX8_readText_160 (by decide) ?_
              refine g_runV (As := [.int (nI 120), .int (nI 120)]) (rest := []) (own := RX8) (C := RX8) (T := TX8) (N := 20) 2 hx hb hml hown hts hK hz hP hL hS hlo hl.1 (c_X8_isAt l mo A4 a4 n ((nI 120)) ((nI 120)) σ6 sz hMo hp2 hp1 (by omega) (by omega)) gX8_readText_X8_isAt rfl rfl rfl (by decide +kernel) ⟨Nat.le_of_ble_eq_true rfl, Nat.le_of_ble_eq_true rfl⟩ hMo.c0 rfl rfl rfl (Nat.le_of_ble_eq_true rfl) dX8_readText_162 ⟨Nat.le_of_ble_eq_true rfl, Nat.le_of_ble_eq_true rfl⟩ (g_ki0 (fun H locs hz hP hL hS => ?_))
              refine g_top (y := (bI (inB (sgI f n a4) ((nI 120)) ((nI 120))))) (congrArg bI (isAt_e hp6 (by decide))) ?_
              refine g_ifb_eq (tgt := 202) hx hb dX8_readText_165 (by decide) (fun c165 => ?_) (fun c165 => ?_)
              · obtain ⟨A5, a6, t6, hMo, hit, ht1, ht2, hua, hub, hp2, hT, hJ, h7, h8, h9⟩ : ∃ (A5 : sS) (a6 t6 : Nat), MoAt σ6 mo A5 ∧ itF f n a = (true, a6, soI (sgI f n a), ld, t6) ∧ 1 ≤ t6 ∧ t6 ≤ 96 ∧ a < a6 ∧ a6 ≤ n ∧ tN A5 2 = a6 ∧ (∀ k : Nat, k < 2 → tN A5 k = tN A k) ∧ (∀ j : Nat, 1 ≤ j → j ≤ 6 → A5 j = A j) ∧ A5 7 = upd (A2 7) it (soI (sgI f n a)) ∧ A5 8 = upd (A2 8) it ld ∧ A5 9 = upd (A2 9) it (nI t6) := ⟨A4, a4, 1, hMo, it_1 hso2 hlf (x_n c165), by omega, by omega, by omega, by omega, hp2, hT, hJ, h7, h8, h9⟩
                refine lv_iload_n hx hb dX8_readText_202 rfl (lv_at hl 3 rfl) ?_
                refine lv_aload_n hx hb dX8_readText_203 rfl (lv_at hl 1 rfl) ?_
                refine g_get (C := RX8) (T := TX8) (N := 20) hx hb hts hown hK hP hMo.c0 nX8_readText_X8 rfl 11 (by decide) (by decide +kernel) rfl (v := .ref (mo + 9)) rfl dX8_readText_204 ?_
                refine lv_iload_n hx hb dX8_readText_207 rfl (lv_at hl 2 rfl) ?_
                refine g_iald hx hb hK hP hMo.c9 (i := nI it) (vp_in_nI (by omega) (by omega)) dX8_readText_208 ?_
                rw [nI_clamp (n := it) (by omega)]
                refine g_top (y := (nI t6)) (by rw [h9, upd_s]) ?_
                refine lv_iadd hx hb dX8_readText_209 ?_
                refine g_top (nI_add su t6) ?_
                refine lv_istore_n (lv' := [(2, .int (nI (su + t6))), (4, .int (nI a)), (0, .ref mo), (1, .int (nI it)), (3, .int (oI tm))]) hx hb dX8_readText_210 rfl hl (by decide) rfl (fun ls hl => ?_)
                refine lv_iload_n hx hb dX8_readText_211 rfl (lv_at hl 0 rfl) ?_
                refine lv_bipush (v := (nI 96)) hx hb dX8_readText_212 (by decide) ?_
                refine g_icmp_le (tgt := 226) (a := su + t6) (b := 96) hx hb (by omega) (by omega) dX8_readText_214 (by decide) (fun c214 => ?_) (fun c214 => ?_)
                · refine lv_iload_n hx hb dX8_readText_226 rfl (lv_at hl 4 rfl) ?_
                  refine lv_istore_n (lv' := [(3, .int (oI tm)), (2, .int (nI (su + t6))), (4, .int (nI a)), (0, .ref mo), (1, .int (nI it))]) hx hb dX8_readText_227 rfl hl (by decide) rfl (fun ls hl => ?_)
                  refine lv_iinc (v := (nI (it + 1))) (lv' := [(1, .int (nI (it + 1))), (3, .int (oI tm)), (2, .int (nI (su + t6))), (4, .int (nI a)), (0, .ref mo)]) hx hb dX8_readText_228 hl (k := 4) rfl (g_inc it 1) (by decide) rfl (fun ls hl => ?_)
                  refine lv_goto (tgt := 12) hx hb dX8_readText_231 (by decide) ?_
                  have e_3 : (oI tm) = (oI (if 96 < su + t6 ∧ tm = none then some a else tm)) := (by rw [if_neg (fun q => by omega)])
                  have hl := lv_sub hl (l' := [(0, .ref mo), (1, .int (nI (it + 1))), (2, .int (nI (su + t6))), (3, .int (oI tm))]) [4, 0, 2, 1] rfl
                  rw [e_3] at hl
                  exact ih_lp (it + 1) a6 (su + t6) (if 96 < su + t6 ∧ tm = none then some a else tm) (by omega) (by omega) (by omega) (fun q => ct_n q) (ct_s hct (by omega)) ((paF_s2 (by omega) (by omega) hit).trans hs) (by omega) σ6 ⟨_, hMo, hRd.step hit (by omega) (by omega) ht1 ht2 hp2 hT hJ h7 h8 h9⟩ hag hL H locs ls hz hP hS hl
                · refine lv_iload_n hx hb dX8_readText_217 rfl (lv_at hl 4 rfl) ?_
                  rcases htm : tm with _ | tk0
                  · refine g_top (y := (-5)) rfl ?_
                    refine lv_if_ge (tgt := 226) hx hb dX8_readText_218 (by decide) (fun c218 => absurd c218 (by decide)) (fun c218 => ?_)
                    refine lv_iload hx hb dX8_readText_221 (lv_at hl 1 rfl) ?_
                    refine lv_goto (tgt := 227) hx hb dX8_readText_223 (by decide) ?_
                    refine lv_istore_n (lv' := [(3, .int (nI a)), (2, .int (nI (su + t6))), (4, .int (nI a)), (0, .ref mo), (1, .int (nI it))]) hx hb dX8_readText_227 rfl hl (by decide) rfl (fun ls hl => ?_)
                    refine lv_iinc (v := (nI (it + 1))) (lv' := [(1, .int (nI (it + 1))), (3, .int (nI a)), (2, .int (nI (su + t6))), (4, .int (nI a)), (0, .ref mo)]) hx hb dX8_readText_228 hl (k := 4) rfl (g_inc it 1) (by decide) rfl (fun ls hl => ?_)
                    refine lv_goto (tgt := 12) hx hb dX8_readText_231 (by decide) ?_
                    have e_3 : (nI a) = (oI (if 96 < su + t6 ∧ tm = none then some a else tm)) := (by rw [if_pos ⟨c214, htm⟩]; rfl)
                    have hl := lv_sub hl (l' := [(0, .ref mo), (1, .int (nI (it + 1))), (2, .int (nI (su + t6))), (3, .int (nI a))]) [4, 0, 2, 1] rfl
                    rw [e_3] at hl
                    exact ih_lp (it + 1) a6 (su + t6) (if 96 < su + t6 ∧ tm = none then some a else tm) (by omega) (by omega) (by omega) (fun q => ct_n q) (ct_s hct (by omega)) ((paF_s2 (by omega) (by omega) hit).trans hs) (by omega) σ6 ⟨_, hMo, hRd.step hit (by omega) (by omega) ht1 ht2 hp2 hT hJ h7 h8 h9⟩ hag hL H locs ls hz hP hS hl
                  · refine g_top (y := (nI tk0)) rfl ?_
                    have htk := hct tk0 htm
                    refine g_if_ge hx hb (by omega) dX8_readText_218 (tgt := 226) (by decide) ?_
                    refine lv_iload_n hx hb dX8_readText_226 rfl (lv_at hl 4 rfl) ?_
                    refine lv_istore_n (lv' := [(3, .int (oI tm)), (2, .int (nI (su + t6))), (4, .int (nI a)), (0, .ref mo), (1, .int (nI it))]) hx hb dX8_readText_227 rfl hl (by decide) rfl (fun ls hl => ?_)
                    refine lv_iinc (v := (nI (it + 1))) (lv' := [(1, .int (nI (it + 1))), (3, .int (oI tm)), (2, .int (nI (su + t6))), (4, .int (nI a)), (0, .ref mo)]) hx hb dX8_readText_228 hl (k := 4) rfl (g_inc it 1) (by decide) rfl (fun ls hl => ?_)
                    refine lv_goto (tgt := 12) hx hb dX8_readText_231 (by decide) ?_
                    have e_3 : (oI tm) = (oI (if 96 < su + t6 ∧ tm = none then some a else tm)) := (by rw [if_neg (fun q => by rw [htm] at q; cases q.2)])
                    have hl := lv_sub hl (l' := [(0, .ref mo), (1, .int (nI (it + 1))), (2, .int (nI (su + t6))), (3, .int (oI tm))]) [4, 0, 2, 1] rfl
                    rw [e_3] at hl
                    exact ih_lp (it + 1) a6 (su + t6) (if 96 < su + t6 ∧ tm = none then some a else tm) (by omega) (by omega) (by omega) (fun q => ct_n q) (ct_s hct (by omega)) ((paF_s2 (by omega) (by omega) hit).trans hs) (by omega) σ6 ⟨_, hMo, hRd.step hit (by omega) (by omega) ht1 ht2 hp2 hT hJ h7 h8 h9⟩ hag hL H locs ls hz hP hS hl
              · refine lv_aload_n hx hb dX8_readText_168 rfl (lv_at hl 1 rfl) ?_
                refine lv_dup hx hb dX8_readText_169 rfl ?_
                refine g_get (C := RX8) (T := TX8) (N := 20) hx hb hts hown hK hP hMo.c0 nX8_readText_X8 rfl 8 (by decide) (by decide +kernel) rfl (v := .int (nI (tN A4 2))) rfl dX8_readText_170 ?_
                refine g_top (y := (nI a4)) (congrArg nI hp2) ?_
                refine lv_iconst (v := (nI 1)) hx hb dX8_readText_173 (by decide) ?_
                refine lv_iadd hx hb dX8_readText_174 ?_
                refine g_top (nI_add a4 1) ?_
                refine g_put (C := RX8) (T := TX8) (N := 20) hx hb hts hown hK hP hL hS hMo.c0 nX8_readText_X8 tyX8 tyX8_ok nmX8 rfl 8 (by decide) (by decide +kernel) rfl rfl (v := .int (nI (a4 + 1))) rfl rfl (Nat.le_of_ble_eq_true rfl) dX8_readText_175 (fun H locs hq hP hL hS => ?_)
                have hz := hq.trans hz
                obtain ⟨σ7, e7⟩ : ∃ υ0 : gS, υ0 = gup σ6 mo (gO 8 [.ref (mo + 1), .ref (mo + 2), .ref (mo + 3), .int (nI (tN A4 0)), .ref (mo + 4), .ref (mo + 5), .int (nI (tN A4 1)), .ref (mo + 6), .int (nI (a4 + 1)), .ref (mo + 7), .ref (mo + 8), .ref (mo + 9), .int (nI (tN A4 3)), .ref (mo + 10), .ref (mo + 11), .ref (mo + 12), .int (nI (tN A4 4)), .ref (mo + 13), .ref (mo + 14), .ref (mo + 15)]) := ⟨_, rfl⟩
                have hP : gH D ka σ7 H := by rw [e7]; exact hP
                have hL : gL lo σ7 := by rw [e7]; exact hL
                have hMo : MoAt σ7 mo (sPut A4 0 2 (nI (a4 + 1))) := by rw [e7]; exact hMo.p8 (a4 + 1) (by omega)
                have hag := hag.upe e7 (zo_0 (by decide))
                obtain ⟨hx1, hx2⟩ := x_y c165
                have hp2 : tN (sPut A4 0 2 (nI (a4 + 1))) 2 = a4 + 1 := tN_s (by omega)
                have hT : ∀ k : Nat, k < 2 → tN (sPut A4 0 2 (nI (a4 + 1))) k = tN A k := fun k hk => (tN_n (by omega)).trans (hT k hk)
                have hJ : ∀ j : Nat, 1 ≤ j → j ≤ 6 → (sPut A4 0 2 (nI (a4 + 1))) j = A j := fun j h1 h2 => (sPut_n (by omega)).trans (hJ j h1 h2)
                have hp1 : tN (sPut A4 0 2 (nI (a4 + 1))) 1 = n := (hT 1 (by decide)).trans hn0
                have hp6 : ∀ j : Nat, j < n → (sPut A4 0 2 (nI (a4 + 1))) 6 j = f j := fun j hj => by rw [hJ 6 (by decide) (by decide)]; exact h6 j hj
                refine lv_aload_n hx hb dX8_readText_178 rfl (lv_at hl 1 rfl) ?_
                refine g_get (C := RX8) (T := TX8) (N := 20) hx hb hts hown hK hP hMo.c0 nX8_readText_X8 rfl 11 (by decide) (by decide +kernel) rfl (v := .ref (mo + 9)) rfl dX8_readText_179 ?_
                refine lv_iload_n hx hb dX8_readText_182 rfl (lv_at hl 2 rfl) ?_
                refine lv_aload_n hx hb dX8_readText_183 rfl (lv_at hl 1 rfl) ?_
                refine g_runV (As := []) (rest := [.int (nI it), .ref (mo + 9)]) (own := RX8) (C := RX8) (T := TX8) (N := 20) 0 hx hb hml hown hts hK hz hP hL hS hlo hl.1 (c_X8_times l mo (sPut A4 0 2 (nI (a4 + 1))) f n (a4 + 1) σ7 sz hMo hp2 hp1 hn (by omega) hp6) gX8_readText_X8_times rfl rfl rfl (by decide +kernel) ⟨Nat.le_of_ble_eq_true rfl, Nat.le_of_ble_eq_true rfl⟩ hMo.c0 rfl rfl rfl (Nat.le_of_ble_eq_true rfl) dX8_readText_184 ⟨Nat.le_of_ble_eq_true rfl, Nat.le_of_ble_eq_true rfl⟩ (g_kxi0 (fun r_8 τ_8 H locs z1 hz hp hP hL hS => ?_))
                obtain ⟨hz1, ⟨T_8, hm_8, hq2, hqj, hqt⟩, htp, htl, ha_8⟩ := hp
                have hz := hz.trans hz1
                have hMo := hm_8
                have hag := hag.tr ha_8 (fun q h => h)
                have hix := it_x hso2 hlf hx1
                have hT : ∀ k : Nat, k < 2 → tN T_8 k = tN A k := fun k hk => (hqt k (by omega)).trans (hT k hk)
                have hJ : ∀ j : Nat, 1 ≤ j → j ≤ 6 → T_8 j = A j := fun j h1 h2 => (hqj j (by omega)).trans (hJ j h1 h2)
                have h7 : T_8 7 = upd (A2 7) it (soI (sgI f n a)) := (hqj 7 (by decide)).trans h7
                have h8 : T_8 8 = upd (A2 8) it ld := (hqj 8 (by decide)).trans h8
                have h9 : T_8 9 = upd (A2 9) it (nI 1) := (hqj 9 (by decide)).trans h9
                have ht96 := tmF_t f n (a4 + 1)
                have hta := tmF_a f n (a4 + 1)
                rcases htp with ⟨ht1, ht2, ht3⟩ | ⟨ht2, ht1 | ⟨ht1, ht3⟩⟩
                · refine g_top (y := (nI ((tmF f n (a4 + 1)).2.2))) ht2 ?_
                  refine g_iast hx hb hK hP hL hS hMo.c9 (i := nI it) (vp_in_nI (by omega) (by omega)) dX8_readText_187 (fun H locs hq hP hL hS => ?_)
                  rw [nI_clamp (n := it) (by omega)] at hP hL
                  have hz := hq.trans hz
                  obtain ⟨σ9, e9⟩ : ∃ υ0 : gS, υ0 = gup τ_8 (mo + 9) (gI 60 (upd (T_8 9) it ((nI ((tmF f n (a4 + 1)).2.2))))) := ⟨_, rfl⟩
                  have hP : gH D ka σ9 H := by rw [e9]; exact hP
                  have hL : gL lo σ9 := by rw [e9]; exact hL
                  have hMo : MoAt σ9 mo (sRow T_8 9 (upd (T_8 9) it ((nI ((tmF f n (a4 + 1)).2.2))))) := by rw [e9]; exact hMo.w9 (upd (T_8 9) it ((nI ((tmF f n (a4 + 1)).2.2))))
                  have hag := hag.upe e9 (zo_k (by decide))
                  refine lv_aload_n hx hb dX8_readText_188 rfl (lv_at hl 1 rfl) ?_
                  refine g_get (C := RX8) (T := TX8) (N := 20) hx hb hts hown hK hP hMo.c0 nX8_readText_X8 rfl 11 (by decide) (by decide +kernel) rfl (v := .ref (mo + 9)) rfl dX8_readText_189 ?_
                  refine lv_iload_n hx hb dX8_readText_192 rfl (lv_at hl 2 rfl) ?_
                  refine g_iald hx hb hK hP hMo.c9 (i := nI it) (vp_in_nI (by omega) (by omega)) dX8_readText_193 ?_
                  rw [nI_clamp (n := it) (by omega)]
                  refine g_top (y := (nI ((tmF f n (a4 + 1)).2.2))) (by rw [sRow_s, upd_s]) ?_
                  refine g_if_ge hx hb (by omega) dX8_readText_194 (tgt := 202) (by decide) ?_
                  obtain ⟨A5, a6, t6, hMo, hit, ht1, ht2, hua, hub, hp2, hT, hJ, h7, h8, h9⟩ : ∃ (A5 : sS) (a6 t6 : Nat), MoAt σ9 mo A5 ∧ itF f n a = (true, a6, soI (sgI f n a), ld, t6) ∧ 1 ≤ t6 ∧ t6 ≤ 96 ∧ a < a6 ∧ a6 ≤ n ∧ tN A5 2 = a6 ∧ (∀ k : Nat, k < 2 → tN A5 k = tN A k) ∧ (∀ j : Nat, 1 ≤ j → j ≤ 6 → A5 j = A j) ∧ A5 7 = upd (A2 7) it (soI (sgI f n a)) ∧ A5 8 = upd (A2 8) it ld ∧ A5 9 = upd (A2 9) it (nI t6) := ⟨_, (tmF f n (a4 + 1)).2.1, (tmF f n (a4 + 1)).2.2, hMo, by rw [hix, ht1], ht3, ht96, by omega, htl, hq2, hT, fun j h1 h2 => (sRow_n (by omega)).trans (hJ j h1 h2), h7, h8, (by rw [sRow_s, h9, upd_upd])⟩
                  refine lv_iload_n hx hb dX8_readText_202 rfl (lv_at hl 3 rfl) ?_
                  refine lv_aload_n hx hb dX8_readText_203 rfl (lv_at hl 1 rfl) ?_
                  refine g_get (C := RX8) (T := TX8) (N := 20) hx hb hts hown hK hP hMo.c0 nX8_readText_X8 rfl 11 (by decide) (by decide +kernel) rfl (v := .ref (mo + 9)) rfl dX8_readText_204 ?_
                  refine lv_iload_n hx hb dX8_readText_207 rfl (lv_at hl 2 rfl) ?_
                  refine g_iald hx hb hK hP hMo.c9 (i := nI it) (vp_in_nI (by omega) (by omega)) dX8_readText_208 ?_
                  rw [nI_clamp (n := it) (by omega)]
                  refine g_top (y := (nI t6)) (by rw [h9, upd_s]) ?_
                  refine lv_iadd hx hb dX8_readText_209 ?_
                  refine g_top (nI_add su t6) ?_
                  refine lv_istore_n (lv' := [(2, .int (nI (su + t6))), (4, .int (nI a)), (0, .ref mo), (1, .int (nI it)), (3, .int (oI tm))]) hx hb dX8_readText_210 rfl hl (by decide) rfl (fun ls hl => ?_)
                  refine lv_iload_n hx hb dX8_readText_211 rfl (lv_at hl 0 rfl) ?_
                  refine lv_bipush (v := (nI 96)) hx hb dX8_readText_212 (by decide) ?_
                  refine g_icmp_le (tgt := 226) (a := su + t6) (b := 96) hx hb (by omega) (by omega) dX8_readText_214 (by decide) (fun c214 => ?_) (fun c214 => ?_)
                  · refine lv_iload_n hx hb dX8_readText_226 rfl (lv_at hl 4 rfl) ?_
                    refine lv_istore_n (lv' := [(3, .int (oI tm)), (2, .int (nI (su + t6))), (4, .int (nI a)), (0, .ref mo), (1, .int (nI it))]) hx hb dX8_readText_227 rfl hl (by decide) rfl (fun ls hl => ?_)
                    refine lv_iinc (v := (nI (it + 1))) (lv' := [(1, .int (nI (it + 1))), (3, .int (oI tm)), (2, .int (nI (su + t6))), (4, .int (nI a)), (0, .ref mo)]) hx hb dX8_readText_228 hl (k := 4) rfl (g_inc it 1) (by decide) rfl (fun ls hl => ?_)
                    refine lv_goto (tgt := 12) hx hb dX8_readText_231 (by decide) ?_
                    have e_3 : (oI tm) = (oI (if 96 < su + t6 ∧ tm = none then some a else tm)) := (by rw [if_neg (fun q => by omega)])
                    have hl := lv_sub hl (l' := [(0, .ref mo), (1, .int (nI (it + 1))), (2, .int (nI (su + t6))), (3, .int (oI tm))]) [4, 0, 2, 1] rfl
                    rw [e_3] at hl
                    exact ih_lp (it + 1) a6 (su + t6) (if 96 < su + t6 ∧ tm = none then some a else tm) (by omega) (by omega) (by omega) (fun q => ct_n q) (ct_s hct (by omega)) ((paF_s2 (by omega) (by omega) hit).trans hs) (by omega) σ9 ⟨_, hMo, hRd.step hit (by omega) (by omega) ht1 ht2 hp2 hT hJ h7 h8 h9⟩ hag hL H locs ls hz hP hS hl
                  · refine lv_iload_n hx hb dX8_readText_217 rfl (lv_at hl 4 rfl) ?_
                    rcases htm : tm with _ | tk0
                    · refine g_top (y := (-5)) rfl ?_
                      refine lv_if_ge (tgt := 226) hx hb dX8_readText_218 (by decide) (fun c218 => absurd c218 (by decide)) (fun c218 => ?_)
                      refine lv_iload hx hb dX8_readText_221 (lv_at hl 1 rfl) ?_
                      refine lv_goto (tgt := 227) hx hb dX8_readText_223 (by decide) ?_
                      refine lv_istore_n (lv' := [(3, .int (nI a)), (2, .int (nI (su + t6))), (4, .int (nI a)), (0, .ref mo), (1, .int (nI it))]) hx hb dX8_readText_227 rfl hl (by decide) rfl (fun ls hl => ?_)
                      refine lv_iinc (v := (nI (it + 1))) (lv' := [(1, .int (nI (it + 1))), (3, .int (nI a)), (2, .int (nI (su + t6))), (4, .int (nI a)), (0, .ref mo)]) hx hb dX8_readText_228 hl (k := 4) rfl (g_inc it 1) (by decide) rfl (fun ls hl => ?_)
                      refine lv_goto (tgt := 12) hx hb dX8_readText_231 (by decide) ?_
                      have e_3 : (nI a) = (oI (if 96 < su + t6 ∧ tm = none then some a else tm)) := (by rw [if_pos ⟨c214, htm⟩]; rfl)
                      have hl := lv_sub hl (l' := [(0, .ref mo), (1, .int (nI (it + 1))), (2, .int (nI (su + t6))), (3, .int (nI a))]) [4, 0, 2, 1] rfl
                      rw [e_3] at hl
                      exact ih_lp (it + 1) a6 (su + t6) (if 96 < su + t6 ∧ tm = none then some a else tm) (by omega) (by omega) (by omega) (fun q => ct_n q) (ct_s hct (by omega)) ((paF_s2 (by omega) (by omega) hit).trans hs) (by omega) σ9 ⟨_, hMo, hRd.step hit (by omega) (by omega) ht1 ht2 hp2 hT hJ h7 h8 h9⟩ hag hL H locs ls hz hP hS hl
                    · refine g_top (y := (nI tk0)) rfl ?_
                      have htk := hct tk0 htm
                      refine g_if_ge hx hb (by omega) dX8_readText_218 (tgt := 226) (by decide) ?_
                      refine lv_iload_n hx hb dX8_readText_226 rfl (lv_at hl 4 rfl) ?_
                      refine lv_istore_n (lv' := [(3, .int (oI tm)), (2, .int (nI (su + t6))), (4, .int (nI a)), (0, .ref mo), (1, .int (nI it))]) hx hb dX8_readText_227 rfl hl (by decide) rfl (fun ls hl => ?_)
                      refine lv_iinc (v := (nI (it + 1))) (lv' := [(1, .int (nI (it + 1))), (3, .int (oI tm)), (2, .int (nI (su + t6))), (4, .int (nI a)), (0, .ref mo)]) hx hb dX8_readText_228 hl (k := 4) rfl (g_inc it 1) (by decide) rfl (fun ls hl => ?_)
                      refine lv_goto (tgt := 12) hx hb dX8_readText_231 (by decide) ?_
                      have e_3 : (oI tm) = (oI (if 96 < su + t6 ∧ tm = none then some a else tm)) := (by rw [if_neg (fun q => by rw [htm] at q; cases q.2)])
                      have hl := lv_sub hl (l' := [(0, .ref mo), (1, .int (nI (it + 1))), (2, .int (nI (su + t6))), (3, .int (oI tm))]) [4, 0, 2, 1] rfl
                      rw [e_3] at hl
                      exact ih_lp (it + 1) a6 (su + t6) (if 96 < su + t6 ∧ tm = none then some a else tm) (by omega) (by omega) (by omega) (fun q => ct_n q) (ct_s hct (by omega)) ((paF_s2 (by omega) (by omega) hit).trans hs) (by omega) σ9 ⟨_, hMo, hRd.step hit (by omega) (by omega) ht1 ht2 hp2 hT hJ h7 h8 h9⟩ hag hL H locs ls hz hP hS hl
                · refine g_top (y := (-5)) ht2 ?_
                  refine g_iast hx hb hK hP hL hS hMo.c9 (i := nI it) (vp_in_nI (by omega) (by omega)) dX8_readText_187 (fun H locs hq hP hL hS => ?_)
                  rw [nI_clamp (n := it) (by omega)] at hP hL
                  have hz := hq.trans hz
                  obtain ⟨σ10, e10⟩ : ∃ υ0 : gS, υ0 = gup τ_8 (mo + 9) (gI 60 (upd (T_8 9) it ((-5)))) := ⟨_, rfl⟩
                  have hP : gH D ka σ10 H := by rw [e10]; exact hP
                  have hL : gL lo σ10 := by rw [e10]; exact hL
                  have hMo : MoAt σ10 mo (sRow T_8 9 (upd (T_8 9) it ((-5)))) := by rw [e10]; exact hMo.w9 (upd (T_8 9) it ((-5)))
                  have hag := hag.upe e10 (zo_k (by decide))
                  refine lv_aload_n hx hb dX8_readText_188 rfl (lv_at hl 1 rfl) ?_
                  refine g_get (C := RX8) (T := TX8) (N := 20) hx hb hts hown hK hP hMo.c0 nX8_readText_X8 rfl 11 (by decide) (by decide +kernel) rfl (v := .ref (mo + 9)) rfl dX8_readText_189 ?_
                  refine lv_iload_n hx hb dX8_readText_192 rfl (lv_at hl 2 rfl) ?_
                  refine g_iald hx hb hK hP hMo.c9 (i := nI it) (vp_in_nI (by omega) (by omega)) dX8_readText_193 ?_
                  rw [nI_clamp (n := it) (by omega)]
                  refine g_top (y := (-5)) (by rw [sRow_s, upd_s]) ?_
                  refine lv_if_ge (tgt := 202) hx hb dX8_readText_194 (by decide) (fun c194 => absurd c194 (by decide)) (fun c194 => ?_)
                  refine lv_aload_n hx hb dX8_readText_197 rfl (lv_at hl 1 rfl) ?_
                  refine g_get (C := RX8) (T := TX8) (N := 20) hx hb hts hown hK hP hMo.c0 nX8_readText_X8 rfl 8 (by decide) (by decide +kernel) rfl (v := .int (nI (tN (sRow T_8 9 (upd (T_8 9) it ((-5)))) 2))) rfl dX8_readText_198 ?_
                  refine g_top (y := (nI ((tmF f n (a4 + 1)).2.1))) (congrArg nI hq2) ?_
                  exact g_iret (z := sz) hx hb hr hlk hz hP hL hS dX8_readText_201 (gxi_i ⟨rfl, ⟨_, hMo, RdP.y hT (fun j h1 h2 => (sRow_n (by omega)).trans (hJ j h1 h2)) (by omega) (by rw [ffI, if_neg (by omega), ← hs]; exact paF_f2 (by omega) (by omega) (by rw [hix]; exact ht1) (by rw [hix]))⟩, hag⟩)
                · refine g_top (y := (-5)) ht2 ?_
                  refine g_iast hx hb hK hP hL hS hMo.c9 (i := nI it) (vp_in_nI (by omega) (by omega)) dX8_readText_187 (fun H locs hq hP hL hS => ?_)
                  rw [nI_clamp (n := it) (by omega)] at hP hL
                  have hz := hq.trans hz
                  obtain ⟨σ11, e11⟩ : ∃ υ0 : gS, υ0 = gup τ_8 (mo + 9) (gI 60 (upd (T_8 9) it ((-5)))) := ⟨_, rfl⟩
                  have hP : gH D ka σ11 H := by rw [e11]; exact hP
                  have hL : gL lo σ11 := by rw [e11]; exact hL
                  have hMo : MoAt σ11 mo (sRow T_8 9 (upd (T_8 9) it ((-5)))) := by rw [e11]; exact hMo.w9 (upd (T_8 9) it ((-5)))
                  have hag := hag.upe e11 (zo_k (by decide))
                  refine lv_aload_n hx hb dX8_readText_188 rfl (lv_at hl 1 rfl) ?_
                  refine g_get (C := RX8) (T := TX8) (N := 20) hx hb hts hown hK hP hMo.c0 nX8_readText_X8 rfl 11 (by decide) (by decide +kernel) rfl (v := .ref (mo + 9)) rfl dX8_readText_189 ?_
                  refine lv_iload_n hx hb dX8_readText_192 rfl (lv_at hl 2 rfl) ?_
                  refine g_iald hx hb hK hP hMo.c9 (i := nI it) (vp_in_nI (by omega) (by omega)) dX8_readText_193 ?_
                  rw [nI_clamp (n := it) (by omega)]
                  refine g_top (y := (-5)) (by rw [sRow_s, upd_s]) ?_
                  refine lv_if_ge (tgt := 202) hx hb dX8_readText_194 (by decide) (fun c194 => absurd c194 (by decide)) (fun c194 => ?_)
                  refine lv_aload_n hx hb dX8_readText_197 rfl (lv_at hl 1 rfl) ?_
                  refine g_get (C := RX8) (T := TX8) (N := 20) hx hb hts hown hK hP hMo.c0 nX8_readText_X8 rfl 8 (by decide) (by decide +kernel) rfl (v := .int (nI (tN (sRow T_8 9 (upd (T_8 9) it ((-5)))) 2))) rfl dX8_readText_198 ?_
                  refine g_top (y := (nI ((tmF f n (a4 + 1)).2.1))) (congrArg nI hq2) ?_
                  exact g_iret (z := sz) hx hb hr hlk hz hP hL hS dX8_readText_201 (gxi_i ⟨rfl, ⟨_, hMo, RdP.y hT (fun j h1 h2 => (sRow_n (by omega)).trans (hJ j h1 h2)) (by omega) (by rw [ffI, if_neg (by omega), ← hs]; exact paF_d (by omega) (by omega) (hix.trans (by rw [ht1])) ht3)⟩, hag⟩)
            · refine lv_aload_n hx hb dX8_readText_118 rfl (lv_at hl 1 rfl) ?_
              refine lv_bipush (v := (nI 49)) hx hb dX8_readText_119 (by decide) ?_
              refine lv_bipush (v := (nI 53)) hx hb dX8_readText_121 (by decide) ?_
              refine g_runV (As := [.int (nI 49), .int (nI 53)]) (rest := []) (own := RX8) (C := RX8) (T := TX8) (N := 20) 2 hx hb hml hown hts hK hz hP hL hS hlo hl.1 (c_X8_isAt l mo A1 (a + 1) n ((nI 49)) ((nI 53)) σ6 sz hMo hp2 hp1 (by omega) (by omega)) gX8_readText_X8_isAt rfl rfl rfl (by decide +kernel) ⟨Nat.le_of_ble_eq_true rfl, Nat.le_of_ble_eq_true rfl⟩ hMo.c0 rfl rfl rfl (Nat.le_of_ble_eq_true rfl) dX8_readText_123 ⟨Nat.le_of_ble_eq_true rfl, Nat.le_of_ble_eq_true rfl⟩ (g_ki0 (fun H locs hz hP hL hS => ?_))
              refine g_top (y := (bI (inB (sgI f n (a + 1)) ((nI 49)) ((nI 53))))) (congrArg bI (isAt_e hp6 (by decide))) ?_
              refine g_ifb_eq (tgt := 157) hx hb dX8_readText_126 (by decide) (fun c126 => ?_) (fun c126 => ?_)
              · obtain ⟨A4, a4, ld, hMo, hlf, hu4, hv4, hp2, hT, hJ, h7, h8, h9⟩ : ∃ (A4 : sS) (a4 : Nat) (ld : Int32), MoAt σ6 mo A4 ∧ loF f n (a + 1) (soI (sgI f n a)) = (ld, a4) ∧ a < a4 ∧ a4 ≤ n ∧ tN A4 2 = a4 ∧ (∀ k : Nat, k < 2 → tN A4 k = tN A k) ∧ (∀ j : Nat, 1 ≤ j → j ≤ 6 → A4 j = A j) ∧ A4 7 = upd (A2 7) it (soI (sgI f n a)) ∧ A4 8 = upd (A2 8) it ld ∧ A4 9 = upd (A2 9) it (nI 1) := ⟨A1, a + 1, nI 2, hMo, lo_n c126, by omega, by omega, hp2, hT, hJ, h7, h8, h9⟩
                have hp1 : tN A4 1 = n := (hT 1 (by decide)).trans hn0
                have hp6 : ∀ j : Nat, j < n → A4 6 j = f j := fun j hj => by rw [hJ 6 (by decide) (by decide)]; exact h6 j hj
                refine lv_aload_n hx hb dX8_readText_157 rfl (lv_at hl 1 rfl) ?_
                refine lv_bipush (v := (nI 120)) hx hb dX8_readText_158 (by decide) ?_
                refine lv_bipush (v := (nI 120)) hx hb dX8_readText_160 (by decide) ?_
                refine g_runV (As := [.int (nI 120), .int (nI 120)]) (rest := []) (own := RX8) (C := RX8) (T := TX8) (N := 20) 2 hx hb hml hown hts hK hz hP hL hS hlo hl.1 (c_X8_isAt l mo A4 a4 n ((nI 120)) ((nI 120)) σ6 sz hMo hp2 hp1 (by omega) (by omega)) gX8_readText_X8_isAt rfl rfl rfl (by decide +kernel) ⟨Nat.le_of_ble_eq_true rfl, Nat.le_of_ble_eq_true rfl⟩ hMo.c0 rfl rfl rfl (Nat.le_of_ble_eq_true rfl) dX8_readText_162 ⟨Nat.le_of_ble_eq_true rfl, Nat.le_of_ble_eq_true rfl⟩ (g_ki0 (fun H locs hz hP hL hS => ?_))
                refine g_top (y := (bI (inB (sgI f n a4) ((nI 120)) ((nI 120))))) (congrArg bI (isAt_e hp6 (by decide))) ?_
                refine g_ifb_eq (tgt := 202) hx hb dX8_readText_165 (by decide) (fun c165 => ?_) (fun c165 => ?_)
                · obtain ⟨A5, a6, t6, hMo, hit, ht1, ht2, hua, hub, hp2, hT, hJ, h7, h8, h9⟩ : ∃ (A5 : sS) (a6 t6 : Nat), MoAt σ6 mo A5 ∧ itF f n a = (true, a6, soI (sgI f n a), ld, t6) ∧ 1 ≤ t6 ∧ t6 ≤ 96 ∧ a < a6 ∧ a6 ≤ n ∧ tN A5 2 = a6 ∧ (∀ k : Nat, k < 2 → tN A5 k = tN A k) ∧ (∀ j : Nat, 1 ≤ j → j ≤ 6 → A5 j = A j) ∧ A5 7 = upd (A2 7) it (soI (sgI f n a)) ∧ A5 8 = upd (A2 8) it ld ∧ A5 9 = upd (A2 9) it (nI t6) := ⟨A4, a4, 1, hMo, it_1 hso2 hlf (x_n c165), by omega, by omega, by omega, by omega, hp2, hT, hJ, h7, h8, h9⟩
                  refine lv_iload_n hx hb dX8_readText_202 rfl (lv_at hl 3 rfl) ?_
                  refine lv_aload_n hx hb dX8_readText_203 rfl (lv_at hl 1 rfl) ?_
                  refine g_get (C := RX8) (T := TX8) (N := 20) hx hb hts hown hK hP hMo.c0 nX8_readText_X8 rfl 11 (by decide) (by decide +kernel) rfl (v := .ref (mo + 9)) rfl dX8_readText_204 ?_
                  refine lv_iload_n hx hb dX8_readText_207 rfl (lv_at hl 2 rfl) ?_
                  refine g_iald hx hb hK hP hMo.c9 (i := nI it) (vp_in_nI (by omega) (by omega)) dX8_readText_208 ?_
                  rw [nI_clamp (n := it) (by omega)]
                  refine g_top (y := (nI t6)) (by rw [h9, upd_s]) ?_
                  refine lv_iadd hx hb dX8_readText_209 ?_
                  refine g_top (nI_add su t6) ?_
                  refine lv_istore_n (lv' := [(2, .int (nI (su + t6))), (4, .int (nI a)), (0, .ref mo), (1, .int (nI it)), (3, .int (oI tm))]) hx hb dX8_readText_210 rfl hl (by decide) rfl (fun ls hl => ?_)
                  refine lv_iload_n hx hb dX8_readText_211 rfl (lv_at hl 0 rfl) ?_
                  refine lv_bipush (v := (nI 96)) hx hb dX8_readText_212 (by decide) ?_
                  refine g_icmp_le (tgt := 226) (a := su + t6) (b := 96) hx hb (by omega) (by omega) dX8_readText_214 (by decide) (fun c214 => ?_) (fun c214 => ?_)
                  · refine lv_iload_n hx hb dX8_readText_226 rfl (lv_at hl 4 rfl) ?_
                    refine lv_istore_n (lv' := [(3, .int (oI tm)), (2, .int (nI (su + t6))), (4, .int (nI a)), (0, .ref mo), (1, .int (nI it))]) hx hb dX8_readText_227 rfl hl (by decide) rfl (fun ls hl => ?_)
                    refine lv_iinc (v := (nI (it + 1))) (lv' := [(1, .int (nI (it + 1))), (3, .int (oI tm)), (2, .int (nI (su + t6))), (4, .int (nI a)), (0, .ref mo)]) hx hb dX8_readText_228 hl (k := 4) rfl (g_inc it 1) (by decide) rfl (fun ls hl => ?_)
                    refine lv_goto (tgt := 12) hx hb dX8_readText_231 (by decide) ?_
                    have e_3 : (oI tm) = (oI (if 96 < su + t6 ∧ tm = none then some a else tm)) := (by rw [if_neg (fun q => by omega)])
                    have hl := lv_sub hl (l' := [(0, .ref mo), (1, .int (nI (it + 1))), (2, .int (nI (su + t6))), (3, .int (oI tm))]) [4, 0, 2, 1] rfl
                    rw [e_3] at hl
                    exact ih_lp (it + 1) a6 (su + t6) (if 96 < su + t6 ∧ tm = none then some a else tm) (by omega) (by omega) (by omega) (fun q => ct_n q) (ct_s hct (by omega)) ((paF_s2 (by omega) (by omega) hit).trans hs) (by omega) σ6 ⟨_, hMo, hRd.step hit (by omega) (by omega) ht1 ht2 hp2 hT hJ h7 h8 h9⟩ hag hL H locs ls hz hP hS hl
                  · refine lv_iload_n hx hb dX8_readText_217 rfl (lv_at hl 4 rfl) ?_
                    rcases htm : tm with _ | tk0
                    · refine g_top (y := (-5)) rfl ?_
                      refine lv_if_ge (tgt := 226) hx hb dX8_readText_218 (by decide) (fun c218 => absurd c218 (by decide)) (fun c218 => ?_)
                      refine lv_iload hx hb dX8_readText_221 (lv_at hl 1 rfl) ?_
                      refine lv_goto (tgt := 227) hx hb dX8_readText_223 (by decide) ?_
                      refine lv_istore_n (lv' := [(3, .int (nI a)), (2, .int (nI (su + t6))), (4, .int (nI a)), (0, .ref mo), (1, .int (nI it))]) hx hb dX8_readText_227 rfl hl (by decide) rfl (fun ls hl => ?_)
                      refine lv_iinc (v := (nI (it + 1))) (lv' := [(1, .int (nI (it + 1))), (3, .int (nI a)), (2, .int (nI (su + t6))), (4, .int (nI a)), (0, .ref mo)]) hx hb dX8_readText_228 hl (k := 4) rfl (g_inc it 1) (by decide) rfl (fun ls hl => ?_)
                      refine lv_goto (tgt := 12) hx hb dX8_readText_231 (by decide) ?_
                      have e_3 : (nI a) = (oI (if 96 < su + t6 ∧ tm = none then some a else tm)) := (by rw [if_pos ⟨c214, htm⟩]; rfl)
                      have hl := lv_sub hl (l' := [(0, .ref mo), (1, .int (nI (it + 1))), (2, .int (nI (su + t6))), (3, .int (nI a))]) [4, 0, 2, 1] rfl
                      rw [e_3] at hl
                      exact ih_lp (it + 1) a6 (su + t6) (if 96 < su + t6 ∧ tm = none then some a else tm) (by omega) (by omega) (by omega) (fun q => ct_n q) (ct_s hct (by omega)) ((paF_s2 (by omega) (by omega) hit).trans hs) (by omega) σ6 ⟨_, hMo, hRd.step hit (by omega) (by omega) ht1 ht2 hp2 hT hJ h7 h8 h9⟩ hag hL H locs ls hz hP hS hl
                    · refine g_top (y := (nI tk0)) rfl ?_
                      have htk := hct tk0 htm
                      refine g_if_ge hx hb (by omega) dX8_readText_218 (tgt := 226) (by decide) ?_
                      refine lv_iload_n hx hb dX8_readText_226 rfl (lv_at hl 4 rfl) ?_
                      refine lv_istore_n (lv' := [(3, .int (oI tm)), (2, .int (nI (su + t6))), (4, .int (nI a)), (0, .ref mo), (1, .int (nI it))]) hx hb dX8_readText_227 rfl hl (by decide) rfl (fun ls hl => ?_)
                      refine lv_iinc (v := (nI (it + 1))) (lv' := [(1, .int (nI (it + 1))), (3, .int (oI tm)), (2, .int (nI (su + t6))), (4, .int (nI a)), (0, .ref mo)]) hx hb dX8_readText_228 hl (k := 4) rfl (g_inc it 1) (by decide) rfl (fun ls hl => ?_)
                      refine lv_goto (tgt := 12) hx hb dX8_readText_231 (by decide) ?_
                      have e_3 : (oI tm) = (oI (if 96 < su + t6 ∧ tm = none then some a else tm)) := (by rw [if_neg (fun q => by rw [htm] at q; cases q.2)])
                      have hl := lv_sub hl (l' := [(0, .ref mo), (1, .int (nI (it + 1))), (2, .int (nI (su + t6))), (3, .int (oI tm))]) [4, 0, 2, 1] rfl
                      rw [e_3] at hl
                      exact ih_lp (it + 1) a6 (su + t6) (if 96 < su + t6 ∧ tm = none then some a else tm) (by omega) (by omega) (by omega) (fun q => ct_n q) (ct_s hct (by omega)) ((paF_s2 (by omega) (by omega) hit).trans hs) (by omega) σ6 ⟨_, hMo, hRd.step hit (by omega) (by omega) ht1 ht2 hp2 hT hJ h7 h8 h9⟩ hag hL H locs ls hz hP hS hl
                · refine lv_aload_n hx hb dX8_readText_168 rfl (lv_at hl 1 rfl) ?_
                  refine lv_dup hx hb dX8_readText_169 rfl ?_
                  refine g_get (C := RX8) (T := TX8) (N := 20) hx hb hts hown hK hP hMo.c0 nX8_readText_X8 rfl 8 (by decide) (by decide +kernel) rfl (v := .int (nI (tN A4 2))) rfl dX8_readText_170 ?_
                  refine g_top (y := (nI a4)) (congrArg nI hp2) ?_
                  refine lv_iconst (v := (nI 1)) hx hb dX8_readText_173 (by decide) ?_
                  refine lv_iadd hx hb dX8_readText_174 ?_
                  refine g_top (nI_add a4 1) ?_
                  refine g_put (C := RX8) (T := TX8) (N := 20) hx hb hts hown hK hP hL hS hMo.c0 nX8_readText_X8 tyX8 tyX8_ok nmX8 rfl 8 (by decide) (by decide +kernel) rfl rfl (v := .int (nI (a4 + 1))) rfl rfl (Nat.le_of_ble_eq_true rfl) dX8_readText_175 (fun H locs hq hP hL hS => ?_)
                  have hz := hq.trans hz
                  obtain ⟨σ12, e12⟩ : ∃ υ0 : gS, υ0 = gup σ6 mo (gO 8 [.ref (mo + 1), .ref (mo + 2), .ref (mo + 3), .int (nI (tN A4 0)), .ref (mo + 4), .ref (mo + 5), .int (nI (tN A4 1)), .ref (mo + 6), .int (nI (a4 + 1)), .ref (mo + 7), .ref (mo + 8), .ref (mo + 9), .int (nI (tN A4 3)), .ref (mo + 10), .ref (mo + 11), .ref (mo + 12), .int (nI (tN A4 4)), .ref (mo + 13), .ref (mo + 14), .ref (mo + 15)]) := ⟨_, rfl⟩
                  have hP : gH D ka σ12 H := by rw [e12]; exact hP
                  have hL : gL lo σ12 := by rw [e12]; exact hL
                  have hMo : MoAt σ12 mo (sPut A4 0 2 (nI (a4 + 1))) := by rw [e12]; exact hMo.p8 (a4 + 1) (by omega)
                  have hag := hag.upe e12 (zo_0 (by decide))
                  obtain ⟨hx1, hx2⟩ := x_y c165
                  have hp2 : tN (sPut A4 0 2 (nI (a4 + 1))) 2 = a4 + 1 := tN_s (by omega)
                  have hT : ∀ k : Nat, k < 2 → tN (sPut A4 0 2 (nI (a4 + 1))) k = tN A k := fun k hk => (tN_n (by omega)).trans (hT k hk)
                  have hJ : ∀ j : Nat, 1 ≤ j → j ≤ 6 → (sPut A4 0 2 (nI (a4 + 1))) j = A j := fun j h1 h2 => (sPut_n (by omega)).trans (hJ j h1 h2)
                  have hp1 : tN (sPut A4 0 2 (nI (a4 + 1))) 1 = n := (hT 1 (by decide)).trans hn0
                  have hp6 : ∀ j : Nat, j < n → (sPut A4 0 2 (nI (a4 + 1))) 6 j = f j := fun j hj => by rw [hJ 6 (by decide) (by decide)]; exact h6 j hj
                  refine lv_aload_n hx hb dX8_readText_178 rfl (lv_at hl 1 rfl) ?_
                  refine g_get (C := RX8) (T := TX8) (N := 20) hx hb hts hown hK hP hMo.c0 nX8_readText_X8 rfl 11 (by decide) (by decide +kernel) rfl (v := .ref (mo + 9)) rfl dX8_readText_179 ?_
                  refine lv_iload_n hx hb dX8_readText_182 rfl (lv_at hl 2 rfl) ?_
                  refine lv_aload_n hx hb dX8_readText_183 rfl (lv_at hl 1 rfl) ?_
                  refine g_runV (As := []) (rest := [.int (nI it), .ref (mo + 9)]) (own := RX8) (C := RX8) (T := TX8) (N := 20) 0 hx hb hml hown hts hK hz hP hL hS hlo hl.1 (c_X8_times l mo (sPut A4 0 2 (nI (a4 + 1))) f n (a4 + 1) σ12 sz hMo hp2 hp1 hn (by omega) hp6) gX8_readText_X8_times rfl rfl rfl (by decide +kernel) ⟨Nat.le_of_ble_eq_true rfl, Nat.le_of_ble_eq_true rfl⟩ hMo.c0 rfl rfl rfl (Nat.le_of_ble_eq_true rfl) dX8_readText_184 ⟨Nat.le_of_ble_eq_true rfl, Nat.le_of_ble_eq_true rfl⟩ (g_kxi0 (fun r_13 τ_13 H locs z1 hz hp hP hL hS => ?_))
                  obtain ⟨hz1, ⟨T_13, hm_13, hq2, hqj, hqt⟩, htp, htl, ha_13⟩ := hp
                  have hz := hz.trans hz1
                  have hMo := hm_13
                  have hag := hag.tr ha_13 (fun q h => h)
                  have hix := it_x hso2 hlf hx1
                  have hT : ∀ k : Nat, k < 2 → tN T_13 k = tN A k := fun k hk => (hqt k (by omega)).trans (hT k hk)
                  have hJ : ∀ j : Nat, 1 ≤ j → j ≤ 6 → T_13 j = A j := fun j h1 h2 => (hqj j (by omega)).trans (hJ j h1 h2)
                  have h7 : T_13 7 = upd (A2 7) it (soI (sgI f n a)) := (hqj 7 (by decide)).trans h7
                  have h8 : T_13 8 = upd (A2 8) it ld := (hqj 8 (by decide)).trans h8
                  have h9 : T_13 9 = upd (A2 9) it (nI 1) := (hqj 9 (by decide)).trans h9
                  have ht96 := tmF_t f n (a4 + 1)
                  have hta := tmF_a f n (a4 + 1)
                  rcases htp with ⟨ht1, ht2, ht3⟩ | ⟨ht2, ht1 | ⟨ht1, ht3⟩⟩
                  · refine g_top (y := (nI ((tmF f n (a4 + 1)).2.2))) ht2 ?_
                    refine g_iast hx hb hK hP hL hS hMo.c9 (i := nI it) (vp_in_nI (by omega) (by omega)) dX8_readText_187 (fun H locs hq hP hL hS => ?_)
                    rw [nI_clamp (n := it) (by omega)] at hP hL
                    have hz := hq.trans hz
                    obtain ⟨σ14, e14⟩ : ∃ υ0 : gS, υ0 = gup τ_13 (mo + 9) (gI 60 (upd (T_13 9) it ((nI ((tmF f n (a4 + 1)).2.2))))) := ⟨_, rfl⟩
                    have hP : gH D ka σ14 H := by rw [e14]; exact hP
                    have hL : gL lo σ14 := by rw [e14]; exact hL
                    have hMo : MoAt σ14 mo (sRow T_13 9 (upd (T_13 9) it ((nI ((tmF f n (a4 + 1)).2.2))))) := by rw [e14]; exact hMo.w9 (upd (T_13 9) it ((nI ((tmF f n (a4 + 1)).2.2))))
                    have hag := hag.upe e14 (zo_k (by decide))
                    refine lv_aload_n hx hb dX8_readText_188 rfl (lv_at hl 1 rfl) ?_
                    refine g_get (C := RX8) (T := TX8) (N := 20) hx hb hts hown hK hP hMo.c0 nX8_readText_X8 rfl 11 (by decide) (by decide +kernel) rfl (v := .ref (mo + 9)) rfl dX8_readText_189 ?_
                    refine lv_iload_n hx hb dX8_readText_192 rfl (lv_at hl 2 rfl) ?_
                    refine g_iald hx hb hK hP hMo.c9 (i := nI it) (vp_in_nI (by omega) (by omega)) dX8_readText_193 ?_
                    rw [nI_clamp (n := it) (by omega)]
                    refine g_top (y := (nI ((tmF f n (a4 + 1)).2.2))) (by rw [sRow_s, upd_s]) ?_
                    refine g_if_ge hx hb (by omega) dX8_readText_194 (tgt := 202) (by decide) ?_
                    obtain ⟨A5, a6, t6, hMo, hit, ht1, ht2, hua, hub, hp2, hT, hJ, h7, h8, h9⟩ : ∃ (A5 : sS) (a6 t6 : Nat), MoAt σ14 mo A5 ∧ itF f n a = (true, a6, soI (sgI f n a), ld, t6) ∧ 1 ≤ t6 ∧ t6 ≤ 96 ∧ a < a6 ∧ a6 ≤ n ∧ tN A5 2 = a6 ∧ (∀ k : Nat, k < 2 → tN A5 k = tN A k) ∧ (∀ j : Nat, 1 ≤ j → j ≤ 6 → A5 j = A j) ∧ A5 7 = upd (A2 7) it (soI (sgI f n a)) ∧ A5 8 = upd (A2 8) it ld ∧ A5 9 = upd (A2 9) it (nI t6) := ⟨_, (tmF f n (a4 + 1)).2.1, (tmF f n (a4 + 1)).2.2, hMo, by rw [hix, ht1], ht3, ht96, by omega, htl, hq2, hT, fun j h1 h2 => (sRow_n (by omega)).trans (hJ j h1 h2), h7, h8, (by rw [sRow_s, h9, upd_upd])⟩
                    refine lv_iload_n hx hb dX8_readText_202 rfl (lv_at hl 3 rfl) ?_
                    refine lv_aload_n hx hb dX8_readText_203 rfl (lv_at hl 1 rfl) ?_
                    refine g_get (C := RX8) (T := TX8) (N := 20) hx hb hts hown hK hP hMo.c0 nX8_readText_X8 rfl 11 (by decide) (by decide +kernel) rfl (v := .ref (mo + 9)) rfl dX8_readText_204 ?_
                    refine lv_iload_n hx hb dX8_readText_207 rfl (lv_at hl 2 rfl) ?_
                    refine g_iald hx hb hK hP hMo.c9 (i := nI it) (vp_in_nI (by omega) (by omega)) dX8_readText_208 ?_
                    rw [nI_clamp (n := it) (by omega)]
                    refine g_top (y := (nI t6)) (by rw [h9, upd_s]) ?_
                    refine lv_iadd hx hb dX8_readText_209 ?_
                    refine g_top (nI_add su t6) ?_
                    refine lv_istore_n (lv' := [(2, .int (nI (su + t6))), (4, .int (nI a)), (0, .ref mo), (1, .int (nI it)), (3, .int (oI tm))]) hx hb dX8_readText_210 rfl hl (by decide) rfl (fun ls hl => ?_)
                    refine lv_iload_n hx hb dX8_readText_211 rfl (lv_at hl 0 rfl) ?_
                    refine lv_bipush (v := (nI 96)) hx hb dX8_readText_212 (by decide) ?_
                    refine g_icmp_le (tgt := 226) (a := su + t6) (b := 96) hx hb (by omega) (by omega) dX8_readText_214 (by decide) (fun c214 => ?_) (fun c214 => ?_)
                    · refine lv_iload_n hx hb dX8_readText_226 rfl (lv_at hl 4 rfl) ?_
                      refine lv_istore_n (lv' := [(3, .int (oI tm)), (2, .int (nI (su + t6))), (4, .int (nI a)), (0, .ref mo), (1, .int (nI it))]) hx hb dX8_readText_227 rfl hl (by decide) rfl (fun ls hl => ?_)
                      refine lv_iinc (v := (nI (it + 1))) (lv' := [(1, .int (nI (it + 1))), (3, .int (oI tm)), (2, .int (nI (su + t6))), (4, .int (nI a)), (0, .ref mo)]) hx hb dX8_readText_228 hl (k := 4) rfl (g_inc it 1) (by decide) rfl (fun ls hl => ?_)
                      refine lv_goto (tgt := 12) hx hb dX8_readText_231 (by decide) ?_
                      have e_3 : (oI tm) = (oI (if 96 < su + t6 ∧ tm = none then some a else tm)) := (by rw [if_neg (fun q => by omega)])
                      have hl := lv_sub hl (l' := [(0, .ref mo), (1, .int (nI (it + 1))), (2, .int (nI (su + t6))), (3, .int (oI tm))]) [4, 0, 2, 1] rfl
                      rw [e_3] at hl
                      exact ih_lp (it + 1) a6 (su + t6) (if 96 < su + t6 ∧ tm = none then some a else tm) (by omega) (by omega) (by omega) (fun q => ct_n q) (ct_s hct (by omega)) ((paF_s2 (by omega) (by omega) hit).trans hs) (by omega) σ14 ⟨_, hMo, hRd.step hit (by omega) (by omega) ht1 ht2 hp2 hT hJ h7 h8 h9⟩ hag hL H locs ls hz hP hS hl
                    · refine lv_iload_n hx hb dX8_readText_217 rfl (lv_at hl 4 rfl) ?_
                      rcases htm : tm with _ | tk0
                      · refine g_top (y := (-5)) rfl ?_
                        refine lv_if_ge (tgt := 226) hx hb dX8_readText_218 (by decide) (fun c218 => absurd c218 (by decide)) (fun c218 => ?_)
                        refine lv_iload hx hb dX8_readText_221 (lv_at hl 1 rfl) ?_
                        refine lv_goto (tgt := 227) hx hb dX8_readText_223 (by decide) ?_
                        refine lv_istore_n (lv' := [(3, .int (nI a)), (2, .int (nI (su + t6))), (4, .int (nI a)), (0, .ref mo), (1, .int (nI it))]) hx hb dX8_readText_227 rfl hl (by decide) rfl (fun ls hl => ?_)
                        refine lv_iinc (v := (nI (it + 1))) (lv' := [(1, .int (nI (it + 1))), (3, .int (nI a)), (2, .int (nI (su + t6))), (4, .int (nI a)), (0, .ref mo)]) hx hb dX8_readText_228 hl (k := 4) rfl (g_inc it 1) (by decide) rfl (fun ls hl => ?_)
                        refine lv_goto (tgt := 12) hx hb dX8_readText_231 (by decide) ?_
                        have e_3 : (nI a) = (oI (if 96 < su + t6 ∧ tm = none then some a else tm)) := (by rw [if_pos ⟨c214, htm⟩]; rfl)
                        have hl := lv_sub hl (l' := [(0, .ref mo), (1, .int (nI (it + 1))), (2, .int (nI (su + t6))), (3, .int (nI a))]) [4, 0, 2, 1] rfl
                        rw [e_3] at hl
                        exact ih_lp (it + 1) a6 (su + t6) (if 96 < su + t6 ∧ tm = none then some a else tm) (by omega) (by omega) (by omega) (fun q => ct_n q) (ct_s hct (by omega)) ((paF_s2 (by omega) (by omega) hit).trans hs) (by omega) σ14 ⟨_, hMo, hRd.step hit (by omega) (by omega) ht1 ht2 hp2 hT hJ h7 h8 h9⟩ hag hL H locs ls hz hP hS hl
                      · refine g_top (y := (nI tk0)) rfl ?_
                        have htk := hct tk0 htm
                        refine g_if_ge hx hb (by omega) dX8_readText_218 (tgt := 226) (by decide) ?_
                        refine lv_iload_n hx hb dX8_readText_226 rfl (lv_at hl 4 rfl) ?_
                        refine lv_istore_n (lv' := [(3, .int (oI tm)), (2, .int (nI (su + t6))), (4, .int (nI a)), (0, .ref mo), (1, .int (nI it))]) hx hb dX8_readText_227 rfl hl (by decide) rfl (fun ls hl => ?_)
                        refine lv_iinc (v := (nI (it + 1))) (lv' := [(1, .int (nI (it + 1))), (3, .int (oI tm)), (2, .int (nI (su + t6))), (4, .int (nI a)), (0, .ref mo)]) hx hb dX8_readText_228 hl (k := 4) rfl (g_inc it 1) (by decide) rfl (fun ls hl => ?_)
                        refine lv_goto (tgt := 12) hx hb dX8_readText_231 (by decide) ?_
                        have e_3 : (oI tm) = (oI (if 96 < su + t6 ∧ tm = none then some a else tm)) := (by rw [if_neg (fun q => by rw [htm] at q; cases q.2)])
                        have hl := lv_sub hl (l' := [(0, .ref mo), (1, .int (nI (it + 1))), (2, .int (nI (su + t6))), (3, .int (oI tm))]) [4, 0, 2, 1] rfl
                        rw [e_3] at hl
                        exact ih_lp (it + 1) a6 (su + t6) (if 96 < su + t6 ∧ tm = none then some a else tm) (by omega) (by omega) (by omega) (fun q => ct_n q) (ct_s hct (by omega)) ((paF_s2 (by omega) (by omega) hit).trans hs) (by omega) σ14 ⟨_, hMo, hRd.step hit (by omega) (by omega) ht1 ht2 hp2 hT hJ h7 h8 h9⟩ hag hL H locs ls hz hP hS hl
                  · refine g_top (y := (-5)) ht2 ?_
                    refine g_iast hx hb hK hP hL hS hMo.c9 (i := nI it) (vp_in_nI (by omega) (by omega)) dX8_readText_187 (fun H locs hq hP hL hS => ?_)
                    rw [nI_clamp (n := it) (by omega)] at hP hL
                    have hz := hq.trans hz
                    obtain ⟨σ15, e15⟩ : ∃ υ0 : gS, υ0 = gup τ_13 (mo + 9) (gI 60 (upd (T_13 9) it ((-5)))) := ⟨_, rfl⟩
                    have hP : gH D ka σ15 H := by rw [e15]; exact hP
                    have hL : gL lo σ15 := by rw [e15]; exact hL
                    have hMo : MoAt σ15 mo (sRow T_13 9 (upd (T_13 9) it ((-5)))) := by rw [e15]; exact hMo.w9 (upd (T_13 9) it ((-5)))
                    have hag := hag.upe e15 (zo_k (by decide))
                    refine lv_aload_n hx hb dX8_readText_188 rfl (lv_at hl 1 rfl) ?_
                    refine g_get (C := RX8) (T := TX8) (N := 20) hx hb hts hown hK hP hMo.c0 nX8_readText_X8 rfl 11 (by decide) (by decide +kernel) rfl (v := .ref (mo + 9)) rfl dX8_readText_189 ?_
                    refine lv_iload_n hx hb dX8_readText_192 rfl (lv_at hl 2 rfl) ?_
                    refine g_iald hx hb hK hP hMo.c9 (i := nI it) (vp_in_nI (by omega) (by omega)) dX8_readText_193 ?_
                    rw [nI_clamp (n := it) (by omega)]
                    refine g_top (y := (-5)) (by rw [sRow_s, upd_s]) ?_
                    refine lv_if_ge (tgt := 202) hx hb dX8_readText_194 (by decide) (fun c194 => absurd c194 (by decide)) (fun c194 => ?_)
                    refine lv_aload_n hx hb dX8_readText_197 rfl (lv_at hl 1 rfl) ?_
                    refine g_get (C := RX8) (T := TX8) (N := 20) hx hb hts hown hK hP hMo.c0 nX8_readText_X8 rfl 8 (by decide) (by decide +kernel) rfl (v := .int (nI (tN (sRow T_13 9 (upd (T_13 9) it ((-5)))) 2))) rfl dX8_readText_198 ?_
                    refine g_top (y := (nI ((tmF f n (a4 + 1)).2.1))) (congrArg nI hq2) ?_
                    exact g_iret (z := sz) hx hb hr hlk hz hP hL hS dX8_readText_201 (gxi_i ⟨rfl, ⟨_, hMo, RdP.y hT (fun j h1 h2 => (sRow_n (by omega)).trans (hJ j h1 h2)) (by omega) (by rw [ffI, if_neg (by omega), ← hs]; exact paF_f2 (by omega) (by omega) (by rw [hix]; exact ht1) (by rw [hix]))⟩, hag⟩)
                  · refine g_top (y := (-5)) ht2 ?_
                    refine g_iast hx hb hK hP hL hS hMo.c9 (i := nI it) (vp_in_nI (by omega) (by omega)) dX8_readText_187 (fun H locs hq hP hL hS => ?_)
                    rw [nI_clamp (n := it) (by omega)] at hP hL
                    have hz := hq.trans hz
                    obtain ⟨σ16, e16⟩ : ∃ υ0 : gS, υ0 = gup τ_13 (mo + 9) (gI 60 (upd (T_13 9) it ((-5)))) := ⟨_, rfl⟩
                    have hP : gH D ka σ16 H := by rw [e16]; exact hP
                    have hL : gL lo σ16 := by rw [e16]; exact hL
                    have hMo : MoAt σ16 mo (sRow T_13 9 (upd (T_13 9) it ((-5)))) := by rw [e16]; exact hMo.w9 (upd (T_13 9) it ((-5)))
                    have hag := hag.upe e16 (zo_k (by decide))
                    refine lv_aload_n hx hb dX8_readText_188 rfl (lv_at hl 1 rfl) ?_
                    refine g_get (C := RX8) (T := TX8) (N := 20) hx hb hts hown hK hP hMo.c0 nX8_readText_X8 rfl 11 (by decide) (by decide +kernel) rfl (v := .ref (mo + 9)) rfl dX8_readText_189 ?_
                    refine lv_iload_n hx hb dX8_readText_192 rfl (lv_at hl 2 rfl) ?_
                    refine g_iald hx hb hK hP hMo.c9 (i := nI it) (vp_in_nI (by omega) (by omega)) dX8_readText_193 ?_
                    rw [nI_clamp (n := it) (by omega)]
                    refine g_top (y := (-5)) (by rw [sRow_s, upd_s]) ?_
                    refine lv_if_ge (tgt := 202) hx hb dX8_readText_194 (by decide) (fun c194 => absurd c194 (by decide)) (fun c194 => ?_)
                    refine lv_aload_n hx hb dX8_readText_197 rfl (lv_at hl 1 rfl) ?_
                    refine g_get (C := RX8) (T := TX8) (N := 20) hx hb hts hown hK hP hMo.c0 nX8_readText_X8 rfl 8 (by decide) (by decide +kernel) rfl (v := .int (nI (tN (sRow T_13 9 (upd (T_13 9) it ((-5)))) 2))) rfl dX8_readText_198 ?_
                    refine g_top (y := (nI ((tmF f n (a4 + 1)).2.1))) (congrArg nI hq2) ?_
                    exact g_iret (z := sz) hx hb hr hlk hz hP hL hS dX8_readText_201 (gxi_i ⟨rfl, ⟨_, hMo, RdP.y hT (fun j h1 h2 => (sRow_n (by omega)).trans (hJ j h1 h2)) (by omega) (by rw [ffI, if_neg (by omega), ← hs]; exact paF_d (by omega) (by omega) (hix.trans (by rw [ht1])) ht3)⟩, hag⟩)
              · obtain ⟨d0, hd1, hd2, hal, hfa, hda⟩ := dg_y (by decide) (by decide) (by decide) c126
                refine lv_aload_n hx hb dX8_readText_129 rfl (lv_at hl 1 rfl) ?_
                refine g_get (C := RX8) (T := TX8) (N := 20) hx hb hts hown hK hP hMo.c0 nX8_readText_X8 rfl 10 (by decide) (by decide +kernel) rfl (v := .ref (mo + 8)) rfl dX8_readText_130 ?_
                refine lv_iload_n hx hb dX8_readText_133 rfl (lv_at hl 2 rfl) ?_
                refine lv_aload_n hx hb dX8_readText_134 rfl (lv_at hl 1 rfl) ?_
                refine g_get (C := RX8) (T := TX8) (N := 20) hx hb hts hown hK hP hMo.c0 nX8_readText_X8 rfl 7 (by decide) (by decide +kernel) rfl (v := .ref (mo + 6)) rfl dX8_readText_135 ?_
                refine lv_aload_n hx hb dX8_readText_138 rfl (lv_at hl 1 rfl) ?_
                refine g_get (C := RX8) (T := TX8) (N := 20) hx hb hts hown hK hP hMo.c0 nX8_readText_X8 rfl 8 (by decide) (by decide +kernel) rfl (v := .int (nI (tN A1 2))) rfl dX8_readText_139 ?_
                refine g_top (y := (nI (a + 1))) (congrArg nI hp2) ?_
                refine g_cald hx hb hK hP hMo.c6 (i := nI (a + 1)) (vp_in_nI (by omega) (by omega)) dX8_readText_142 ?_
                rw [nI_clamp (n := a + 1) (by omega)]
                refine g_top (y := (nI (48 + d0))) ((hp6 _ (by omega)).trans hfa) ?_
                refine lv_bipush (v := (nI 48)) hx hb dX8_readText_143 (by decide) ?_
                refine lv_isub hx hb dX8_readText_145 ?_
                refine g_top (pk_sub (by omega : 48 ≤ 48 + d0)) ?_
                refine g_top (y := (nI d0)) (congrArg nI (by omega)) ?_
                refine g_iast hx hb hK hP hL hS hMo.c8 (i := nI it) (vp_in_nI (by omega) (by omega)) dX8_readText_146 (fun H locs hq hP hL hS => ?_)
                rw [nI_clamp (n := it) (by omega)] at hP hL
                have hz := hq.trans hz
                obtain ⟨σ17, e17⟩ : ∃ υ0 : gS, υ0 = gup σ6 (mo + 8) (gI 60 (upd (A1 8) it ((nI d0)))) := ⟨_, rfl⟩
                have hP : gH D ka σ17 H := by rw [e17]; exact hP
                have hL : gL lo σ17 := by rw [e17]; exact hL
                have hMo : MoAt σ17 mo (sRow A1 8 (upd (A1 8) it ((nI d0)))) := by rw [e17]; exact hMo.w8 (upd (A1 8) it ((nI d0)))
                have hag := hag.upe e17 (zo_k (by decide))
                refine lv_aload_n hx hb dX8_readText_147 rfl (lv_at hl 1 rfl) ?_
                refine lv_dup hx hb dX8_readText_148 rfl ?_
                refine g_get (C := RX8) (T := TX8) (N := 20) hx hb hts hown hK hP hMo.c0 nX8_readText_X8 rfl 8 (by decide) (by decide +kernel) rfl (v := .int (nI (tN (sRow A1 8 (upd (A1 8) it ((nI d0)))) 2))) rfl dX8_readText_149 ?_
                refine g_top (y := (nI (a + 1))) (congrArg nI hp2) ?_
                refine lv_iconst (v := (nI 1)) hx hb dX8_readText_152 (by decide) ?_
                refine lv_iadd hx hb dX8_readText_153 ?_
                refine g_top (nI_add (a + 1) 1) ?_
                refine g_put (C := RX8) (T := TX8) (N := 20) hx hb hts hown hK hP hL hS hMo.c0 nX8_readText_X8 tyX8 tyX8_ok nmX8 rfl 8 (by decide) (by decide +kernel) rfl rfl (v := .int (nI ((a + 1) + 1))) rfl rfl (Nat.le_of_ble_eq_true rfl) dX8_readText_154 (fun H locs hq hP hL hS => ?_)
                have hz := hq.trans hz
                obtain ⟨σ18, e18⟩ : ∃ υ0 : gS, υ0 = gup σ17 mo (gO 8 [.ref (mo + 1), .ref (mo + 2), .ref (mo + 3), .int (nI (tN (sRow A1 8 (upd (A1 8) it ((nI d0)))) 0)), .ref (mo + 4), .ref (mo + 5), .int (nI (tN (sRow A1 8 (upd (A1 8) it ((nI d0)))) 1)), .ref (mo + 6), .int (nI ((a + 1) + 1)), .ref (mo + 7), .ref (mo + 8), .ref (mo + 9), .int (nI (tN (sRow A1 8 (upd (A1 8) it ((nI d0)))) 3)), .ref (mo + 10), .ref (mo + 11), .ref (mo + 12), .int (nI (tN (sRow A1 8 (upd (A1 8) it ((nI d0)))) 4)), .ref (mo + 13), .ref (mo + 14), .ref (mo + 15)]) := ⟨_, rfl⟩
                have hP : gH D ka σ18 H := by rw [e18]; exact hP
                have hL : gL lo σ18 := by rw [e18]; exact hL
                have hMo : MoAt σ18 mo (sPut (sRow A1 8 (upd (A1 8) it ((nI d0)))) 0 2 (nI ((a + 1) + 1))) := by rw [e18]; exact hMo.p8 ((a + 1) + 1) (by omega)
                have hag := hag.upe e18 (zo_0 (by decide))
                obtain ⟨A4, a4, ld, hMo, hlf, hu4, hv4, hp2, hT, hJ, h7, h8, h9⟩ : ∃ (A4 : sS) (a4 : Nat) (ld : Int32), MoAt σ18 mo A4 ∧ loF f n (a + 1) (soI (sgI f n a)) = (ld, a4) ∧ a < a4 ∧ a4 ≤ n ∧ tN A4 2 = a4 ∧ (∀ k : Nat, k < 2 → tN A4 k = tN A k) ∧ (∀ j : Nat, 1 ≤ j → j ≤ 6 → A4 j = A j) ∧ A4 7 = upd (A2 7) it (soI (sgI f n a)) ∧ A4 8 = upd (A2 8) it ld ∧ A4 9 = upd (A2 9) it (nI 1) := ⟨_, a + 1 + 1, nI d0, hMo, lo_y c115 hda (by omega) (by omega), by omega, by omega, tN_s (by omega), fun k hk => (tN_n (by omega)).trans (hT k hk), fun j h1 h2 => (sPut_n (by omega)).trans ((sRow_n (by omega)).trans (hJ j h1 h2)), h7, (by show upd (A1 8) it (nI d0) = _; rw [h8, upd_upd]), h9⟩
                have hp1 : tN A4 1 = n := (hT 1 (by decide)).trans hn0
                have hp6 : ∀ j : Nat, j < n → A4 6 j = f j := fun j hj => by rw [hJ 6 (by decide) (by decide)]; exact h6 j hj
                refine lv_aload_n hx hb dX8_readText_157 rfl (lv_at hl 1 rfl) ?_
                refine lv_bipush (v := (nI 120)) hx hb dX8_readText_158 (by decide) ?_
                refine lv_bipush (v := (nI 120)) hx hb dX8_readText_160 (by decide) ?_
                refine g_runV (As := [.int (nI 120), .int (nI 120)]) (rest := []) (own := RX8) (C := RX8) (T := TX8) (N := 20) 2 hx hb hml hown hts hK hz hP hL hS hlo hl.1 (c_X8_isAt l mo A4 a4 n ((nI 120)) ((nI 120)) σ18 sz hMo hp2 hp1 (by omega) (by omega)) gX8_readText_X8_isAt rfl rfl rfl (by decide +kernel) ⟨Nat.le_of_ble_eq_true rfl, Nat.le_of_ble_eq_true rfl⟩ hMo.c0 rfl rfl rfl (Nat.le_of_ble_eq_true rfl) dX8_readText_162 ⟨Nat.le_of_ble_eq_true rfl, Nat.le_of_ble_eq_true rfl⟩ (g_ki0 (fun H locs hz hP hL hS => ?_))
                refine g_top (y := (bI (inB (sgI f n a4) ((nI 120)) ((nI 120))))) (congrArg bI (isAt_e hp6 (by decide))) ?_
                refine g_ifb_eq (tgt := 202) hx hb dX8_readText_165 (by decide) (fun c165 => ?_) (fun c165 => ?_)
                · obtain ⟨A5, a6, t6, hMo, hit, ht1, ht2, hua, hub, hp2, hT, hJ, h7, h8, h9⟩ : ∃ (A5 : sS) (a6 t6 : Nat), MoAt σ18 mo A5 ∧ itF f n a = (true, a6, soI (sgI f n a), ld, t6) ∧ 1 ≤ t6 ∧ t6 ≤ 96 ∧ a < a6 ∧ a6 ≤ n ∧ tN A5 2 = a6 ∧ (∀ k : Nat, k < 2 → tN A5 k = tN A k) ∧ (∀ j : Nat, 1 ≤ j → j ≤ 6 → A5 j = A j) ∧ A5 7 = upd (A2 7) it (soI (sgI f n a)) ∧ A5 8 = upd (A2 8) it ld ∧ A5 9 = upd (A2 9) it (nI t6) := ⟨A4, a4, 1, hMo, it_1 hso2 hlf (x_n c165), by omega, by omega, by omega, by omega, hp2, hT, hJ, h7, h8, h9⟩
                  refine lv_iload_n hx hb dX8_readText_202 rfl (lv_at hl 3 rfl) ?_
                  refine lv_aload_n hx hb dX8_readText_203 rfl (lv_at hl 1 rfl) ?_
                  refine g_get (C := RX8) (T := TX8) (N := 20) hx hb hts hown hK hP hMo.c0 nX8_readText_X8 rfl 11 (by decide) (by decide +kernel) rfl (v := .ref (mo + 9)) rfl dX8_readText_204 ?_
                  refine lv_iload_n hx hb dX8_readText_207 rfl (lv_at hl 2 rfl) ?_
                  refine g_iald hx hb hK hP hMo.c9 (i := nI it) (vp_in_nI (by omega) (by omega)) dX8_readText_208 ?_
                  rw [nI_clamp (n := it) (by omega)]
                  refine g_top (y := (nI t6)) (by rw [h9, upd_s]) ?_
                  refine lv_iadd hx hb dX8_readText_209 ?_
                  refine g_top (nI_add su t6) ?_
                  refine lv_istore_n (lv' := [(2, .int (nI (su + t6))), (4, .int (nI a)), (0, .ref mo), (1, .int (nI it)), (3, .int (oI tm))]) hx hb dX8_readText_210 rfl hl (by decide) rfl (fun ls hl => ?_)
                  refine lv_iload_n hx hb dX8_readText_211 rfl (lv_at hl 0 rfl) ?_
                  refine lv_bipush (v := (nI 96)) hx hb dX8_readText_212 (by decide) ?_
                  refine g_icmp_le (tgt := 226) (a := su + t6) (b := 96) hx hb (by omega) (by omega) dX8_readText_214 (by decide) (fun c214 => ?_) (fun c214 => ?_)
                  · refine lv_iload_n hx hb dX8_readText_226 rfl (lv_at hl 4 rfl) ?_
                    refine lv_istore_n (lv' := [(3, .int (oI tm)), (2, .int (nI (su + t6))), (4, .int (nI a)), (0, .ref mo), (1, .int (nI it))]) hx hb dX8_readText_227 rfl hl (by decide) rfl (fun ls hl => ?_)
                    refine lv_iinc (v := (nI (it + 1))) (lv' := [(1, .int (nI (it + 1))), (3, .int (oI tm)), (2, .int (nI (su + t6))), (4, .int (nI a)), (0, .ref mo)]) hx hb dX8_readText_228 hl (k := 4) rfl (g_inc it 1) (by decide) rfl (fun ls hl => ?_)
                    refine lv_goto (tgt := 12) hx hb dX8_readText_231 (by decide) ?_
                    have e_3 : (oI tm) = (oI (if 96 < su + t6 ∧ tm = none then some a else tm)) := (by rw [if_neg (fun q => by omega)])
                    have hl := lv_sub hl (l' := [(0, .ref mo), (1, .int (nI (it + 1))), (2, .int (nI (su + t6))), (3, .int (oI tm))]) [4, 0, 2, 1] rfl
                    rw [e_3] at hl
                    exact ih_lp (it + 1) a6 (su + t6) (if 96 < su + t6 ∧ tm = none then some a else tm) (by omega) (by omega) (by omega) (fun q => ct_n q) (ct_s hct (by omega)) ((paF_s2 (by omega) (by omega) hit).trans hs) (by omega) σ18 ⟨_, hMo, hRd.step hit (by omega) (by omega) ht1 ht2 hp2 hT hJ h7 h8 h9⟩ hag hL H locs ls hz hP hS hl
                  · refine lv_iload_n hx hb dX8_readText_217 rfl (lv_at hl 4 rfl) ?_
                    rcases htm : tm with _ | tk0
                    · refine g_top (y := (-5)) rfl ?_
                      refine lv_if_ge (tgt := 226) hx hb dX8_readText_218 (by decide) (fun c218 => absurd c218 (by decide)) (fun c218 => ?_)
                      refine lv_iload hx hb dX8_readText_221 (lv_at hl 1 rfl) ?_
                      refine lv_goto (tgt := 227) hx hb dX8_readText_223 (by decide) ?_
                      refine lv_istore_n (lv' := [(3, .int (nI a)), (2, .int (nI (su + t6))), (4, .int (nI a)), (0, .ref mo), (1, .int (nI it))]) hx hb dX8_readText_227 rfl hl (by decide) rfl (fun ls hl => ?_)
                      refine lv_iinc (v := (nI (it + 1))) (lv' := [(1, .int (nI (it + 1))), (3, .int (nI a)), (2, .int (nI (su + t6))), (4, .int (nI a)), (0, .ref mo)]) hx hb dX8_readText_228 hl (k := 4) rfl (g_inc it 1) (by decide) rfl (fun ls hl => ?_)
                      refine lv_goto (tgt := 12) hx hb dX8_readText_231 (by decide) ?_
                      have e_3 : (nI a) = (oI (if 96 < su + t6 ∧ tm = none then some a else tm)) := (by rw [if_pos ⟨c214, htm⟩]; rfl)
                      have hl := lv_sub hl (l' := [(0, .ref mo), (1, .int (nI (it + 1))), (2, .int (nI (su + t6))), (3, .int (nI a))]) [4, 0, 2, 1] rfl
                      rw [e_3] at hl
                      exact ih_lp (it + 1) a6 (su + t6) (if 96 < su + t6 ∧ tm = none then some a else tm) (by omega) (by omega) (by omega) (fun q => ct_n q) (ct_s hct (by omega)) ((paF_s2 (by omega) (by omega) hit).trans hs) (by omega) σ18 ⟨_, hMo, hRd.step hit (by omega) (by omega) ht1 ht2 hp2 hT hJ h7 h8 h9⟩ hag hL H locs ls hz hP hS hl
                    · refine g_top (y := (nI tk0)) rfl ?_
                      have htk := hct tk0 htm
                      refine g_if_ge hx hb (by omega) dX8_readText_218 (tgt := 226) (by decide) ?_
                      refine lv_iload_n hx hb dX8_readText_226 rfl (lv_at hl 4 rfl) ?_
                      refine lv_istore_n (lv' := [(3, .int (oI tm)), (2, .int (nI (su + t6))), (4, .int (nI a)), (0, .ref mo), (1, .int (nI it))]) hx hb dX8_readText_227 rfl hl (by decide) rfl (fun ls hl => ?_)
                      refine lv_iinc (v := (nI (it + 1))) (lv' := [(1, .int (nI (it + 1))), (3, .int (oI tm)), (2, .int (nI (su + t6))), (4, .int (nI a)), (0, .ref mo)]) hx hb dX8_readText_228 hl (k := 4) rfl (g_inc it 1) (by decide) rfl (fun ls hl => ?_)
                      refine lv_goto (tgt := 12) hx hb dX8_readText_231 (by decide) ?_
                      have e_3 : (oI tm) = (oI (if 96 < su + t6 ∧ tm = none then some a else tm)) := (by rw [if_neg (fun q => by rw [htm] at q; cases q.2)])
                      have hl := lv_sub hl (l' := [(0, .ref mo), (1, .int (nI (it + 1))), (2, .int (nI (su + t6))), (3, .int (oI tm))]) [4, 0, 2, 1] rfl
                      rw [e_3] at hl
                      exact ih_lp (it + 1) a6 (su + t6) (if 96 < su + t6 ∧ tm = none then some a else tm) (by omega) (by omega) (by omega) (fun q => ct_n q) (ct_s hct (by omega)) ((paF_s2 (by omega) (by omega) hit).trans hs) (by omega) σ18 ⟨_, hMo, hRd.step hit (by omega) (by omega) ht1 ht2 hp2 hT hJ h7 h8 h9⟩ hag hL H locs ls hz hP hS hl
                · refine lv_aload_n hx hb dX8_readText_168 rfl (lv_at hl 1 rfl) ?_
                  refine lv_dup hx hb dX8_readText_169 rfl ?_
                  refine g_get (C := RX8) (T := TX8) (N := 20) hx hb hts hown hK hP hMo.c0 nX8_readText_X8 rfl 8 (by decide) (by decide +kernel) rfl (v := .int (nI (tN A4 2))) rfl dX8_readText_170 ?_
                  refine g_top (y := (nI a4)) (congrArg nI hp2) ?_
                  refine lv_iconst (v := (nI 1)) hx hb dX8_readText_173 (by decide) ?_
                  refine lv_iadd hx hb dX8_readText_174 ?_
                  refine g_top (nI_add a4 1) ?_
                  refine g_put (C := RX8) (T := TX8) (N := 20) hx hb hts hown hK hP hL hS hMo.c0 nX8_readText_X8 tyX8 tyX8_ok nmX8 rfl 8 (by decide) (by decide +kernel) rfl rfl (v := .int (nI (a4 + 1))) rfl rfl (Nat.le_of_ble_eq_true rfl) dX8_readText_175 (fun H locs hq hP hL hS => ?_)
                  have hz := hq.trans hz
                  obtain ⟨σ19, e19⟩ : ∃ υ0 : gS, υ0 = gup σ18 mo (gO 8 [.ref (mo + 1), .ref (mo + 2), .ref (mo + 3), .int (nI (tN A4 0)), .ref (mo + 4), .ref (mo + 5), .int (nI (tN A4 1)), .ref (mo + 6), .int (nI (a4 + 1)), .ref (mo + 7), .ref (mo + 8), .ref (mo + 9), .int (nI (tN A4 3)), .ref (mo + 10), .ref (mo + 11), .ref (mo + 12), .int (nI (tN A4 4)), .ref (mo + 13), .ref (mo + 14), .ref (mo + 15)]) := ⟨_, rfl⟩
                  have hP : gH D ka σ19 H := by rw [e19]; exact hP
                  have hL : gL lo σ19 := by rw [e19]; exact hL
                  have hMo : MoAt σ19 mo (sPut A4 0 2 (nI (a4 + 1))) := by rw [e19]; exact hMo.p8 (a4 + 1) (by omega)
                  have hag := hag.upe e19 (zo_0 (by decide))
                  obtain ⟨hx1, hx2⟩ := x_y c165
                  have hp2 : tN (sPut A4 0 2 (nI (a4 + 1))) 2 = a4 + 1 := tN_s (by omega)
                  have hT : ∀ k : Nat, k < 2 → tN (sPut A4 0 2 (nI (a4 + 1))) k = tN A k := fun k hk => (tN_n (by omega)).trans (hT k hk)
                  have hJ : ∀ j : Nat, 1 ≤ j → j ≤ 6 → (sPut A4 0 2 (nI (a4 + 1))) j = A j := fun j h1 h2 => (sPut_n (by omega)).trans (hJ j h1 h2)
                  have hp1 : tN (sPut A4 0 2 (nI (a4 + 1))) 1 = n := (hT 1 (by decide)).trans hn0
                  have hp6 : ∀ j : Nat, j < n → (sPut A4 0 2 (nI (a4 + 1))) 6 j = f j := fun j hj => by rw [hJ 6 (by decide) (by decide)]; exact h6 j hj
                  refine lv_aload_n hx hb dX8_readText_178 rfl (lv_at hl 1 rfl) ?_
                  refine g_get (C := RX8) (T := TX8) (N := 20) hx hb hts hown hK hP hMo.c0 nX8_readText_X8 rfl 11 (by decide) (by decide +kernel) rfl (v := .ref (mo + 9)) rfl dX8_readText_179 ?_
                  refine lv_iload_n hx hb dX8_readText_182 rfl (lv_at hl 2 rfl) ?_
                  refine lv_aload_n hx hb dX8_readText_183 rfl (lv_at hl 1 rfl) ?_
                  refine g_runV (As := []) (rest := [.int (nI it), .ref (mo + 9)]) (own := RX8) (C := RX8) (T := TX8) (N := 20) 0 hx hb hml hown hts hK hz hP hL hS hlo hl.1 (c_X8_times l mo (sPut A4 0 2 (nI (a4 + 1))) f n (a4 + 1) σ19 sz hMo hp2 hp1 hn (by omega) hp6) gX8_readText_X8_times rfl rfl rfl (by decide +kernel) ⟨Nat.le_of_ble_eq_true rfl, Nat.le_of_ble_eq_true rfl⟩ hMo.c0 rfl rfl rfl (Nat.le_of_ble_eq_true rfl) dX8_readText_184 ⟨Nat.le_of_ble_eq_true rfl, Nat.le_of_ble_eq_true rfl⟩ (g_kxi0 (fun r_20 τ_20 H locs z1 hz hp hP hL hS => ?_))
                  obtain ⟨hz1, ⟨T_20, hm_20, hq2, hqj, hqt⟩, htp, htl, ha_20⟩ := hp
                  have hz := hz.trans hz1
                  have hMo := hm_20
                  have hag := hag.tr ha_20 (fun q h => h)
                  have hix := it_x hso2 hlf hx1
                  have hT : ∀ k : Nat, k < 2 → tN T_20 k = tN A k := fun k hk => (hqt k (by omega)).trans (hT k hk)
                  have hJ : ∀ j : Nat, 1 ≤ j → j ≤ 6 → T_20 j = A j := fun j h1 h2 => (hqj j (by omega)).trans (hJ j h1 h2)
                  have h7 : T_20 7 = upd (A2 7) it (soI (sgI f n a)) := (hqj 7 (by decide)).trans h7
                  have h8 : T_20 8 = upd (A2 8) it ld := (hqj 8 (by decide)).trans h8
                  have h9 : T_20 9 = upd (A2 9) it (nI 1) := (hqj 9 (by decide)).trans h9
                  have ht96 := tmF_t f n (a4 + 1)
                  have hta := tmF_a f n (a4 + 1)
                  rcases htp with ⟨ht1, ht2, ht3⟩ | ⟨ht2, ht1 | ⟨ht1, ht3⟩⟩
                  · refine g_top (y := (nI ((tmF f n (a4 + 1)).2.2))) ht2 ?_
                    refine g_iast hx hb hK hP hL hS hMo.c9 (i := nI it) (vp_in_nI (by omega) (by omega)) dX8_readText_187 (fun H locs hq hP hL hS => ?_)
                    rw [nI_clamp (n := it) (by omega)] at hP hL
                    have hz := hq.trans hz
                    obtain ⟨σ21, e21⟩ : ∃ υ0 : gS, υ0 = gup τ_20 (mo + 9) (gI 60 (upd (T_20 9) it ((nI ((tmF f n (a4 + 1)).2.2))))) := ⟨_, rfl⟩
                    have hP : gH D ka σ21 H := by rw [e21]; exact hP
                    have hL : gL lo σ21 := by rw [e21]; exact hL
                    have hMo : MoAt σ21 mo (sRow T_20 9 (upd (T_20 9) it ((nI ((tmF f n (a4 + 1)).2.2))))) := by rw [e21]; exact hMo.w9 (upd (T_20 9) it ((nI ((tmF f n (a4 + 1)).2.2))))
                    have hag := hag.upe e21 (zo_k (by decide))
                    refine lv_aload_n hx hb dX8_readText_188 rfl (lv_at hl 1 rfl) ?_
                    refine g_get (C := RX8) (T := TX8) (N := 20) hx hb hts hown hK hP hMo.c0 nX8_readText_X8 rfl 11 (by decide) (by decide +kernel) rfl (v := .ref (mo + 9)) rfl dX8_readText_189 ?_
                    refine lv_iload_n hx hb dX8_readText_192 rfl (lv_at hl 2 rfl) ?_
                    refine g_iald hx hb hK hP hMo.c9 (i := nI it) (vp_in_nI (by omega) (by omega)) dX8_readText_193 ?_
                    rw [nI_clamp (n := it) (by omega)]
                    refine g_top (y := (nI ((tmF f n (a4 + 1)).2.2))) (by rw [sRow_s, upd_s]) ?_
                    refine g_if_ge hx hb (by omega) dX8_readText_194 (tgt := 202) (by decide) ?_
                    obtain ⟨A5, a6, t6, hMo, hit, ht1, ht2, hua, hub, hp2, hT, hJ, h7, h8, h9⟩ : ∃ (A5 : sS) (a6 t6 : Nat), MoAt σ21 mo A5 ∧ itF f n a = (true, a6, soI (sgI f n a), ld, t6) ∧ 1 ≤ t6 ∧ t6 ≤ 96 ∧ a < a6 ∧ a6 ≤ n ∧ tN A5 2 = a6 ∧ (∀ k : Nat, k < 2 → tN A5 k = tN A k) ∧ (∀ j : Nat, 1 ≤ j → j ≤ 6 → A5 j = A j) ∧ A5 7 = upd (A2 7) it (soI (sgI f n a)) ∧ A5 8 = upd (A2 8) it ld ∧ A5 9 = upd (A2 9) it (nI t6) := ⟨_, (tmF f n (a4 + 1)).2.1, (tmF f n (a4 + 1)).2.2, hMo, by rw [hix, ht1], ht3, ht96, by omega, htl, hq2, hT, fun j h1 h2 => (sRow_n (by omega)).trans (hJ j h1 h2), h7, h8, (by rw [sRow_s, h9, upd_upd])⟩
                    refine lv_iload_n hx hb dX8_readText_202 rfl (lv_at hl 3 rfl) ?_
                    refine lv_aload_n hx hb dX8_readText_203 rfl (lv_at hl 1 rfl) ?_
                    refine g_get (C := RX8) (T := TX8) (N := 20) hx hb hts hown hK hP hMo.c0 nX8_readText_X8 rfl 11 (by decide) (by decide +kernel) rfl (v := .ref (mo + 9)) rfl dX8_readText_204 ?_
                    refine lv_iload_n hx hb dX8_readText_207 rfl (lv_at hl 2 rfl) ?_
                    refine g_iald hx hb hK hP hMo.c9 (i := nI it) (vp_in_nI (by omega) (by omega)) dX8_readText_208 ?_
                    rw [nI_clamp (n := it) (by omega)]
                    refine g_top (y := (nI t6)) (by rw [h9, upd_s]) ?_
                    refine lv_iadd hx hb dX8_readText_209 ?_
                    refine g_top (nI_add su t6) ?_
                    refine lv_istore_n (lv' := [(2, .int (nI (su + t6))), (4, .int (nI a)), (0, .ref mo), (1, .int (nI it)), (3, .int (oI tm))]) hx hb dX8_readText_210 rfl hl (by decide) rfl (fun ls hl => ?_)
                    refine lv_iload_n hx hb dX8_readText_211 rfl (lv_at hl 0 rfl) ?_
                    refine lv_bipush (v := (nI 96)) hx hb dX8_readText_212 (by decide) ?_
                    refine g_icmp_le (tgt := 226) (a := su + t6) (b := 96) hx hb (by omega) (by omega) dX8_readText_214 (by decide) (fun c214 => ?_) (fun c214 => ?_)
                    · refine lv_iload_n hx hb dX8_readText_226 rfl (lv_at hl 4 rfl) ?_
                      refine lv_istore_n (lv' := [(3, .int (oI tm)), (2, .int (nI (su + t6))), (4, .int (nI a)), (0, .ref mo), (1, .int (nI it))]) hx hb dX8_readText_227 rfl hl (by decide) rfl (fun ls hl => ?_)
                      refine lv_iinc (v := (nI (it + 1))) (lv' := [(1, .int (nI (it + 1))), (3, .int (oI tm)), (2, .int (nI (su + t6))), (4, .int (nI a)), (0, .ref mo)]) hx hb dX8_readText_228 hl (k := 4) rfl (g_inc it 1) (by decide) rfl (fun ls hl => ?_)
                      refine lv_goto (tgt := 12) hx hb dX8_readText_231 (by decide) ?_
                      have e_3 : (oI tm) = (oI (if 96 < su + t6 ∧ tm = none then some a else tm)) := (by rw [if_neg (fun q => by omega)])
                      have hl := lv_sub hl (l' := [(0, .ref mo), (1, .int (nI (it + 1))), (2, .int (nI (su + t6))), (3, .int (oI tm))]) [4, 0, 2, 1] rfl
                      rw [e_3] at hl
                      exact ih_lp (it + 1) a6 (su + t6) (if 96 < su + t6 ∧ tm = none then some a else tm) (by omega) (by omega) (by omega) (fun q => ct_n q) (ct_s hct (by omega)) ((paF_s2 (by omega) (by omega) hit).trans hs) (by omega) σ21 ⟨_, hMo, hRd.step hit (by omega) (by omega) ht1 ht2 hp2 hT hJ h7 h8 h9⟩ hag hL H locs ls hz hP hS hl
                    · refine lv_iload_n hx hb dX8_readText_217 rfl (lv_at hl 4 rfl) ?_
                      rcases htm : tm with _ | tk0
                      · refine g_top (y := (-5)) rfl ?_
                        refine lv_if_ge (tgt := 226) hx hb dX8_readText_218 (by decide) (fun c218 => absurd c218 (by decide)) (fun c218 => ?_)
                        refine lv_iload hx hb dX8_readText_221 (lv_at hl 1 rfl) ?_
                        refine lv_goto (tgt := 227) hx hb dX8_readText_223 (by decide) ?_
                        refine lv_istore_n (lv' := [(3, .int (nI a)), (2, .int (nI (su + t6))), (4, .int (nI a)), (0, .ref mo), (1, .int (nI it))]) hx hb dX8_readText_227 rfl hl (by decide) rfl (fun ls hl => ?_)
                        refine lv_iinc (v := (nI (it + 1))) (lv' := [(1, .int (nI (it + 1))), (3, .int (nI a)), (2, .int (nI (su + t6))), (4, .int (nI a)), (0, .ref mo)]) hx hb dX8_readText_228 hl (k := 4) rfl (g_inc it 1) (by decide) rfl (fun ls hl => ?_)
                        refine lv_goto (tgt := 12) hx hb dX8_readText_231 (by decide) ?_
                        have e_3 : (nI a) = (oI (if 96 < su + t6 ∧ tm = none then some a else tm)) := (by rw [if_pos ⟨c214, htm⟩]; rfl)
                        have hl := lv_sub hl (l' := [(0, .ref mo), (1, .int (nI (it + 1))), (2, .int (nI (su + t6))), (3, .int (nI a))]) [4, 0, 2, 1] rfl
                        rw [e_3] at hl
                        exact ih_lp (it + 1) a6 (su + t6) (if 96 < su + t6 ∧ tm = none then some a else tm) (by omega) (by omega) (by omega) (fun q => ct_n q) (ct_s hct (by omega)) ((paF_s2 (by omega) (by omega) hit).trans hs) (by omega) σ21 ⟨_, hMo, hRd.step hit (by omega) (by omega) ht1 ht2 hp2 hT hJ h7 h8 h9⟩ hag hL H locs ls hz hP hS hl
                      · refine g_top (y := (nI tk0)) rfl ?_
                        have htk := hct tk0 htm
                        refine g_if_ge hx hb (by omega) dX8_readText_218 (tgt := 226) (by decide) ?_
                        refine lv_iload_n hx hb dX8_readText_226 rfl (lv_at hl 4 rfl) ?_
                        refine lv_istore_n (lv' := [(3, .int (oI tm)), (2, .int (nI (su + t6))), (4, .int (nI a)), (0, .ref mo), (1, .int (nI it))]) hx hb dX8_readText_227 rfl hl (by decide) rfl (fun ls hl => ?_)
                        refine lv_iinc (v := (nI (it + 1))) (lv' := [(1, .int (nI (it + 1))), (3, .int (oI tm)), (2, .int (nI (su + t6))), (4, .int (nI a)), (0, .ref mo)]) hx hb dX8_readText_228 hl (k := 4) rfl (g_inc it 1) (by decide) rfl (fun ls hl => ?_)
                        refine lv_goto (tgt := 12) hx hb dX8_readText_231 (by decide) ?_
                        have e_3 : (oI tm) = (oI (if 96 < su + t6 ∧ tm = none then some a else tm)) := (by rw [if_neg (fun q => by rw [htm] at q; cases q.2)])
                        have hl := lv_sub hl (l' := [(0, .ref mo), (1, .int (nI (it + 1))), (2, .int (nI (su + t6))), (3, .int (oI tm))]) [4, 0, 2, 1] rfl
                        rw [e_3] at hl
                        exact ih_lp (it + 1) a6 (su + t6) (if 96 < su + t6 ∧ tm = none then some a else tm) (by omega) (by omega) (by omega) (fun q => ct_n q) (ct_s hct (by omega)) ((paF_s2 (by omega) (by omega) hit).trans hs) (by omega) σ21 ⟨_, hMo, hRd.step hit (by omega) (by omega) ht1 ht2 hp2 hT hJ h7 h8 h9⟩ hag hL H locs ls hz hP hS hl
                  · refine g_top (y := (-5)) ht2 ?_
                    refine g_iast hx hb hK hP hL hS hMo.c9 (i := nI it) (vp_in_nI (by omega) (by omega)) dX8_readText_187 (fun H locs hq hP hL hS => ?_)
                    rw [nI_clamp (n := it) (by omega)] at hP hL
                    have hz := hq.trans hz
                    obtain ⟨σ22, e22⟩ : ∃ υ0 : gS, υ0 = gup τ_20 (mo + 9) (gI 60 (upd (T_20 9) it ((-5)))) := ⟨_, rfl⟩
                    have hP : gH D ka σ22 H := by rw [e22]; exact hP
                    have hL : gL lo σ22 := by rw [e22]; exact hL
                    have hMo : MoAt σ22 mo (sRow T_20 9 (upd (T_20 9) it ((-5)))) := by rw [e22]; exact hMo.w9 (upd (T_20 9) it ((-5)))
                    have hag := hag.upe e22 (zo_k (by decide))
                    refine lv_aload_n hx hb dX8_readText_188 rfl (lv_at hl 1 rfl) ?_
                    refine g_get (C := RX8) (T := TX8) (N := 20) hx hb hts hown hK hP hMo.c0 nX8_readText_X8 rfl 11 (by decide) (by decide +kernel) rfl (v := .ref (mo + 9)) rfl dX8_readText_189 ?_
                    refine lv_iload_n hx hb dX8_readText_192 rfl (lv_at hl 2 rfl) ?_
                    refine g_iald hx hb hK hP hMo.c9 (i := nI it) (vp_in_nI (by omega) (by omega)) dX8_readText_193 ?_
                    rw [nI_clamp (n := it) (by omega)]
                    refine g_top (y := (-5)) (by rw [sRow_s, upd_s]) ?_
                    refine lv_if_ge (tgt := 202) hx hb dX8_readText_194 (by decide) (fun c194 => absurd c194 (by decide)) (fun c194 => ?_)
                    refine lv_aload_n hx hb dX8_readText_197 rfl (lv_at hl 1 rfl) ?_
                    refine g_get (C := RX8) (T := TX8) (N := 20) hx hb hts hown hK hP hMo.c0 nX8_readText_X8 rfl 8 (by decide) (by decide +kernel) rfl (v := .int (nI (tN (sRow T_20 9 (upd (T_20 9) it ((-5)))) 2))) rfl dX8_readText_198 ?_
                    refine g_top (y := (nI ((tmF f n (a4 + 1)).2.1))) (congrArg nI hq2) ?_
                    exact g_iret (z := sz) hx hb hr hlk hz hP hL hS dX8_readText_201 (gxi_i ⟨rfl, ⟨_, hMo, RdP.y hT (fun j h1 h2 => (sRow_n (by omega)).trans (hJ j h1 h2)) (by omega) (by rw [ffI, if_neg (by omega), ← hs]; exact paF_f2 (by omega) (by omega) (by rw [hix]; exact ht1) (by rw [hix]))⟩, hag⟩)
                  · refine g_top (y := (-5)) ht2 ?_
                    refine g_iast hx hb hK hP hL hS hMo.c9 (i := nI it) (vp_in_nI (by omega) (by omega)) dX8_readText_187 (fun H locs hq hP hL hS => ?_)
                    rw [nI_clamp (n := it) (by omega)] at hP hL
                    have hz := hq.trans hz
                    obtain ⟨σ23, e23⟩ : ∃ υ0 : gS, υ0 = gup τ_20 (mo + 9) (gI 60 (upd (T_20 9) it ((-5)))) := ⟨_, rfl⟩
                    have hP : gH D ka σ23 H := by rw [e23]; exact hP
                    have hL : gL lo σ23 := by rw [e23]; exact hL
                    have hMo : MoAt σ23 mo (sRow T_20 9 (upd (T_20 9) it ((-5)))) := by rw [e23]; exact hMo.w9 (upd (T_20 9) it ((-5)))
                    have hag := hag.upe e23 (zo_k (by decide))
                    refine lv_aload_n hx hb dX8_readText_188 rfl (lv_at hl 1 rfl) ?_
                    refine g_get (C := RX8) (T := TX8) (N := 20) hx hb hts hown hK hP hMo.c0 nX8_readText_X8 rfl 11 (by decide) (by decide +kernel) rfl (v := .ref (mo + 9)) rfl dX8_readText_189 ?_
                    refine lv_iload_n hx hb dX8_readText_192 rfl (lv_at hl 2 rfl) ?_
                    refine g_iald hx hb hK hP hMo.c9 (i := nI it) (vp_in_nI (by omega) (by omega)) dX8_readText_193 ?_
                    rw [nI_clamp (n := it) (by omega)]
                    refine g_top (y := (-5)) (by rw [sRow_s, upd_s]) ?_
                    refine lv_if_ge (tgt := 202) hx hb dX8_readText_194 (by decide) (fun c194 => absurd c194 (by decide)) (fun c194 => ?_)
                    refine lv_aload_n hx hb dX8_readText_197 rfl (lv_at hl 1 rfl) ?_
                    refine g_get (C := RX8) (T := TX8) (N := 20) hx hb hts hown hK hP hMo.c0 nX8_readText_X8 rfl 8 (by decide) (by decide +kernel) rfl (v := .int (nI (tN (sRow T_20 9 (upd (T_20 9) it ((-5)))) 2))) rfl dX8_readText_198 ?_
                    refine g_top (y := (nI ((tmF f n (a4 + 1)).2.1))) (congrArg nI hq2) ?_
                    exact g_iret (z := sz) hx hb hr hlk hz hP hL hS dX8_readText_201 (gxi_i ⟨rfl, ⟨_, hMo, RdP.y hT (fun j h1 h2 => (sRow_n (by omega)).trans (hJ j h1 h2)) (by omega) (by rw [ffI, if_neg (by omega), ← hs]; exact paF_d (by omega) (by omega) (hix.trans (by rw [ht1])) ht3)⟩, hag⟩)
          · refine lv_aload_n hx hb dX8_readText_56 rfl (lv_at hl 0 rfl) ?_
            refine g_get (C := RX8) (T := TX8) (N := 20) hx hb hts hown hK hP hMo.c0 nX8_readText_X8 rfl 8 (by decide) (by decide +kernel) rfl (v := .int (nI (tN A2 2))) rfl dX8_readText_57 ?_
            refine g_top (y := (nI a)) (congrArg nI hp2) ?_
            exact g_iret (z := sz) hx hb hr hlk hz hP hL hS dX8_readText_60 (gxi_i ⟨rfl, ⟨_, hMo, RdP.y hRd.2.1 hRd.2.2.1 (by omega) (by rw [ffI, if_neg (by omega), ← hs]; exact paF_f2 (by omega) (by omega) (it_n (so_2 (Int32.not_le.mp c53))).1 (it_n (so_2 (Int32.not_le.mp c53))).2)⟩, hag⟩)
      · refine lv_aload_n hx hb dX8_readText_23 rfl (lv_at hl 0 rfl) ?_
        refine g_get (C := RX8) (T := TX8) (N := 20) hx hb hts hown hK hP hMo.c0 nX8_readText_X8 rfl 8 (by decide) (by decide +kernel) rfl (v := .int (nI (tN A2 2))) rfl dX8_readText_24 ?_
        refine g_top (y := (nI a)) (congrArg nI hp2) ?_
        refine g_if_ne (tgt := 234) hx hb (by omega) dX8_readText_27 (by decide) (fun c27 => ?_) (fun c27 => ?_)
        · refine lv_aload_n hx hb dX8_readText_234 rfl (lv_at hl 0 rfl) ?_
          refine lv_iload_n hx hb dX8_readText_235 rfl (lv_at hl 1 rfl) ?_
          refine g_put (C := RX8) (T := TX8) (N := 20) hx hb hts hown hK hP hL hS hMo.c0 nX8_readText_X8 tyX8 tyX8_ok nmX8 rfl 12 (by decide) (by decide +kernel) rfl rfl (v := .int (nI it)) rfl rfl (Nat.le_of_ble_eq_true rfl) dX8_readText_236 (fun H locs hq hP hL hS => ?_)
          have hz := hq.trans hz
          obtain ⟨σ24, e24⟩ : ∃ υ0 : gS, υ0 = gup υ mo (gO 8 [.ref (mo + 1), .ref (mo + 2), .ref (mo + 3), .int (nI (tN A2 0)), .ref (mo + 4), .ref (mo + 5), .int (nI (tN A2 1)), .ref (mo + 6), .int (nI (tN A2 2)), .ref (mo + 7), .ref (mo + 8), .ref (mo + 9), .int (nI it), .ref (mo + 10), .ref (mo + 11), .ref (mo + 12), .int (nI (tN A2 4)), .ref (mo + 13), .ref (mo + 14), .ref (mo + 15)]) := ⟨_, rfl⟩
          have hP : gH D ka σ24 H := by rw [e24]; exact hP
          have hL : gL lo σ24 := by rw [e24]; exact hL
          have hMo : MoAt σ24 mo (sPut A2 0 3 (nI it)) := by rw [e24]; exact hMo.p12 it (by omega)
          have hag := hag.upe e24 (zo_0 (by decide))
          refine lv_iload_n hx hb dX8_readText_239 rfl (lv_at hl 3 rfl) ?_
          exact g_iret (z := sz) hx hb hr hlk hz hP hL hS dX8_readText_240 (gxi_i ⟨rfl, ⟨_, hMo, hRd.fin (by omega) (by omega) (by omega) hs hsn hct⟩, hag⟩)
        · refine lv_aload_n hx hb dX8_readText_30 rfl (lv_at hl 0 rfl) ?_
          refine g_get (C := RX8) (T := TX8) (N := 20) hx hb hts hown hK hP hMo.c0 nX8_readText_X8 rfl 8 (by decide) (by decide +kernel) rfl (v := .int (nI (tN A2 2))) rfl dX8_readText_31 ?_
          refine g_top (y := (nI a)) (congrArg nI hp2) ?_
          refine lv_aload_n hx hb dX8_readText_34 rfl (lv_at hl 0 rfl) ?_
          refine g_get (C := RX8) (T := TX8) (N := 20) hx hb hts hown hK hP hMo.c0 nX8_readText_X8 rfl 6 (by decide) (by decide +kernel) rfl (v := .int (nI (tN A2 1))) rfl dX8_readText_35 ?_
          refine g_top (y := (nI n)) (congrArg nI hp1) ?_
          refine g_icmp_eq (tgt := 56) (a := a) (b := n) hx hb (by omega) (by omega) dX8_readText_38 (by decide) (fun c38 => ?_) (fun c38 => ?_)
          · refine lv_aload_n hx hb dX8_readText_56 rfl (lv_at hl 0 rfl) ?_
            refine g_get (C := RX8) (T := TX8) (N := 20) hx hb hts hown hK hP hMo.c0 nX8_readText_X8 rfl 8 (by decide) (by decide +kernel) rfl (v := .int (nI (tN A2 2))) rfl dX8_readText_57 ?_
            refine g_top (y := (nI a)) (congrArg nI hp2) ?_
            exact g_iret (z := sz) hx hb hr hlk hz hP hL hS dX8_readText_60 (gxi_i ⟨rfl, ⟨_, hMo, RdP.y hRd.2.1 hRd.2.2.1 (by omega) (by rw [ffI, if_pos (by omega), show a = 0 by omega])⟩, hag⟩)
          · exact False.elim (by omega)
  exact lp _ 0 0 0 none (by omega) (by omega) (by omega) (fun _ => by omega) (fun k2 hk2 => by cases hk2) rfl (Nat.lt_succ_self _) σ1 ⟨_, hMo, hRd0⟩ hag hL H locs ls hz hP hS (lv_sub hl [3, 2, 1, 0] rfl)
