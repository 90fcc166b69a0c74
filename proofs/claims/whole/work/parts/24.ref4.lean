/-! the reference acts -/
theorem bnp {p q : Bool} (h : p ≠ q) : q = !p := by cases p <;> cases q <;> first | rfl | exact absurd rfl h
theorem lou_s {A : sS} {a k : Nat} {v : Int32} (h : a ≤ k) : sRow (sRow A 1 (filF (A 1) (100 + a) (100 + k) v)) 1 (upd ((sRow A 1 (filF (A 1) (100 + a) (100 + k) v)) 1) (100 + k) v) = sRow A 1 (filF (A 1) (100 + a) (100 + (k + 1)) v) := by
  rw [sRow_2, sRow_s, filF_s (by omega)]; rfl
theorem inB_01 (a : Int32) : inB a (nI 0) (nI 1) = inN a 2 := inB_inN a (n := 2) (by decide)
theorem nX8_setSort_X8 : ∀ w ∈ wsX80, w ∈ wsX8_setSort := by decide +kernel
set_option maxHeartbeats 4000000 in
set_option maxRecDepth 100000 in
theorem c_X8_setSort (l : Launch) (mo : Nat) (S : sS) (tf : Nat → Int32) (tn P : Nat) (C : Nat → sS) (kp : Nat → Bool) (a1 a2 : Int32) (σ : gS) (sz : Nat) (hW : Me σ mo S tf tn P C kp) (hok : okS S) (hokC : ∀ k : Nat, k < P → okS (C k)) : gM l yX8_setSort wsX8_setSort ({ frames := 2, cells := 0, slots := 0, locals := 43 } : Room) 0 0 [.ref mo, .int a1, .int a2] σ sz (gxi (fun r τ n => mP mo σ S tf tn P C kp sz (o_setSort S a1 a2) r τ n)) := by
  refine gM_of (cc := cX8_setSort) (maxL := 4) (ret := (some .int)) (by decide) rfl (Nat.le_of_ble_eq_true rfl) ?_
  intro D ka lo hL hlo p e s m below meth c hx hb hr hts hown hml hlk hnm hK H locs ls hz hP hS hl
  have hl : lv_has ls 4 [(0, .ref mo), (1, .int a1), (2, .int a2)] := hl
  have hown : s.vm.findClass RX8 = some m.cls := hown
  obtain ⟨A, hMo, hA⟩ := hW
  have hR := hA.2.2.1
  have hR0 := hR
  have hP0 := hA.1
  have htn0 := hA.2.1
  have hP5 : P ≤ 5 := hA.2.2.2.2.2.2.2.2
  have htn : tn ≤ 60 := hA.2.2.2.2.2.2.2.1
  obtain ⟨hB, hN, hKs, hRs⟩ := id hok
  have hag : gAs (gZo mo 16) σ σ := gAs.rf
  refine lv_aload_n hx hb dX8_setSort_0 rfl (lv_at hl 0 rfl) ?_
  refine lv_iload_n hx hb dX8_setSort_1 rfl (lv_at hl 1 rfl) ?_
  refine g_runV (As := [.int a1]) (rest := []) (own := RX8) (C := RX8) (T := TX8) (N := 20) 1 hx hb hml hown hts hK hz hP hL hS hlo hl.1 (c_X8_noBeat l mo A S a1 σ sz hMo hR (by omega)) gX8_setSort_X8_noBeat rfl rfl rfl (by decide +kernel) ⟨Nat.le_of_ble_eq_true rfl, Nat.le_of_ble_eq_true rfl⟩ hMo.c0 rfl rfl rfl (Nat.le_of_ble_eq_true rfl) dX8_setSort_2 ⟨Nat.le_of_ble_eq_true rfl, Nat.le_of_ble_eq_true rfl⟩ (g_ki0 (fun H locs hz hP hL hS => ?_))
  refine g_ifb_eq (tgt := 10) hx hb dX8_setSort_5 (by decide) (fun c5 => ?_) (fun c5 => ?_)
  · have c5 : inN a1 (sB S) = true := by simpa using c5
    obtain ⟨ha1e, ha1l⟩ := tk_in c5 (by omega)
    refine lv_iload_n hx hb dX8_setSort_10 rfl (lv_at hl 2 rfl) ?_
    refine lv_iconst (v := (nI 0)) hx hb dX8_setSort_11 (by decide) ?_
    refine lv_iconst (v := (nI 2)) hx hb dX8_setSort_12 (by decide) ?_
    refine g_runS (As := [.int a2, .int (nI 0), .int (nI 2)]) (rest := []) (own := RX8) 3 hx hb hml hown hts hK hz hP hL hS hlo hl.1 (c_X8_in l a2 ((nI 0)) ((nI 2)) σ sz) gX8_setSort_X8_in rfl rfl rfl (by decide +kernel) ⟨Nat.le_of_ble_eq_true rfl, Nat.le_of_ble_eq_true rfl⟩ rfl rfl (Nat.le_of_ble_eq_true rfl) dX8_setSort_13 ⟨Nat.le_of_ble_eq_true rfl, Nat.le_of_ble_eq_true rfl⟩ (g_ki0 (fun H locs hz hP hL hS => ?_))
    refine g_ifb_ne (tgt := 22) hx hb dX8_setSort_16 (by decide) (fun c16 => ?_) (fun c16 => ?_)
    · refine lv_aload_n hx hb dX8_setSort_22 rfl (lv_at hl 0 rfl) ?_
      refine g_runV (As := []) (rest := []) (own := RX8) (C := RX8) (T := TX8) (N := 20) 0 hx hb hml hown hts hK hz hP hL hS hlo hl.1 (c_X8_begin l mo A σ sz hMo) gX8_setSort_X8_begin rfl rfl rfl (by decide +kernel) ⟨Nat.le_of_ble_eq_true rfl, Nat.le_of_ble_eq_true rfl⟩ hMo.c0 rfl rfl rfl (Nat.le_of_ble_eq_true rfl) dX8_setSort_23 ⟨Nat.le_of_ble_eq_true rfl, Nat.le_of_ble_eq_true rfl⟩ (g_kxv0 (fun τ_1 H locs z1 hz hp hP hL hS => ?_))
      obtain ⟨hz1, ⟨A_1, hm_1, hb_1, hr_1⟩, ha_1⟩ := hp
      have hz := hz.trans hz1
      have hMo := hm_1
      have hag := hag.tr ha_1 (fun q h => h)
      have hR : Rr S (A_1 1) := by rw [hr_1 1 (by decide)]; exact hR
      refine lv_aload_n hx hb dX8_setSort_26 rfl (lv_at hl 0 rfl) ?_
      refine g_get (C := RX8) (T := TX8) (N := 20) hx hb hts hown hK hP hMo.c0 nX8_setSort_X8 rfl 0 (by decide) (by decide +kernel) rfl (v := .ref (mo + 1)) rfl dX8_setSort_27 ?_
      refine lv_iconst (v := (nI 4)) hx hb dX8_setSort_30 (by decide) ?_
      refine lv_iload_n hx hb dX8_setSort_31 rfl (lv_at hl 1 rfl) ?_
      refine g_top (y := (nI (tk a1))) ha1e ?_
      refine lv_iadd hx hb dX8_setSort_32 ?_
      refine g_top (nI_add 4 (tk a1)) ?_
      refine g_iald hx hb hK hP hMo.c1 (i := nI (4 + (tk a1))) (vp_in_nI (by omega) (by omega)) dX8_setSort_33 ?_
      rw [nI_clamp (n := 4 + (tk a1)) (by omega)]
      refine g_top (y := (S 0 (tk a1))) (hR.so ha1l) ?_
      refine lv_istore_n (lv' := [(3, .int (S 0 (tk a1))), (0, .ref mo), (1, .int a1), (2, .int a2)]) hx hb dX8_setSort_34 rfl hl (by decide) rfl (fun ls hl => ?_)
      refine lv_aload_n hx hb dX8_setSort_35 rfl (lv_at hl 1 rfl) ?_
      refine g_get (C := RX8) (T := TX8) (N := 20) hx hb hts hown hK hP hMo.c0 nX8_setSort_X8 rfl 0 (by decide) (by decide +kernel) rfl (v := .ref (mo + 1)) rfl dX8_setSort_36 ?_
      refine lv_iconst (v := (nI 4)) hx hb dX8_setSort_39 (by decide) ?_
      refine lv_iload_n hx hb dX8_setSort_40 rfl (lv_at hl 2 rfl) ?_
      refine g_top (y := (nI (tk a1))) ha1e ?_
      refine lv_iadd hx hb dX8_setSort_41 ?_
      refine g_top (nI_add 4 (tk a1)) ?_
      refine lv_iload_n hx hb dX8_setSort_42 rfl (lv_at hl 3 rfl) ?_
      refine g_iast hx hb hK hP hL hS hMo.c1 (i := nI (4 + (tk a1))) (vp_in_nI (by omega) (by omega)) dX8_setSort_43 (fun H locs hq hP hL hS => ?_)
      rw [nI_clamp (n := 4 + (tk a1)) (by omega)] at hP hL
      have hz := hq.trans hz
      obtain ⟨σ2, e2⟩ : ∃ υ0 : gS, υ0 = gup τ_1 (mo + 1) (gI 292 (upd (A_1 1) (4 + (tk a1)) a2)) := ⟨_, rfl⟩
      have hP : gH D ka σ2 H := by rw [e2]; exact hP
      have hL : gL lo σ2 := by rw [e2]; exact hL
      have hMo : MoAt σ2 mo (sRow A_1 1 (upd (A_1 1) (4 + (tk a1)) a2)) := by rw [e2]; exact hMo.w1 (upd (A_1 1) (4 + (tk a1)) a2)
      have hag := hag.upe e2 (zo_k (by decide))
      refine lv_aload_n hx hb dX8_setSort_44 rfl (lv_at hl 1 rfl) ?_
      refine lv_iload_n hx hb dX8_setSort_45 rfl (lv_at hl 0 rfl) ?_
      refine g_runV (As := [.int (S 0 (tk a1))]) (rest := []) (own := RX8) (C := RX8) (T := TX8) (N := 20) 1 hx hb hml hown hts hK hz hP hL hS hlo hl.1 (c_X8_done l mo (sRow A_1 1 (upd (A_1 1) (4 + (tk a1)) a2)) P ((S 0 (tk a1))) σ2 sz hMo (by first | exact hP0 | (show tN A_1 0 = P; show (A_1 0 0).toNatClampNeg = P; rw [hr_1 0 (by decide)]; exact hP0)) hP5) gX8_setSort_X8_done rfl rfl rfl (by decide +kernel) ⟨Nat.le_of_ble_eq_true rfl, Nat.le_of_ble_eq_true rfl⟩ hMo.c0 rfl rfl rfl (Nat.le_of_ble_eq_true rfl) dX8_setSort_46 ⟨Nat.le_of_ble_eq_true rfl, Nat.le_of_ble_eq_true rfl⟩ (g_kxi0 (fun r_3 τ_3 H locs z1 hz hp hP hL hS => ?_))
      obtain ⟨hr9_3, hz1, ⟨D_3, hm_3, hd1_3, hd2_3, hd3_3, hd4_3⟩, ha_3⟩ := hp
      have hz := hz.trans hz1
      have hMo := hm_3
      have hag := hag.tr ha_3 (fun q h => h)
      subst hr9_3
      exact g_iret (z := sz) hx hb hr hlk hz hP hL hS dX8_setSort_49 (gxi_i (mP_s (by unfold o_setSort; rw [if_pos (by first | exact c5 | exact nb c5 | exact Ne.symm c5 | exact fun q => q c5 | exact fun q => q c5.symm | omega), if_pos (by first | exact c16 | exact nb c16 | exact Ne.symm c16 | exact fun q => q c16 | exact fun q => q c16.symm | omega)]) ⟨_, hMo, MeP.done hA hok hokC (fun j hj => by first | exact hb_1 j hj | exact hbx j hj) (fun i h1 h2 => (sRow_n (by omega)).trans (hr_1 i (by omega))) (by first | exact hr_1 0 (by decide) | exact h0x) (by rw [sRow_s]; exact hR.setSort hok ha1l) hd1_3 hd2_3 hd3_3 hd4_3⟩ rfl hag))
    · refine lv_bipush (v := (-2)) hx hb dX8_setSort_19 (by decide) ?_
      exact g_iret (z := sz) hx hb hr hlk hz hP hL hS dX8_setSort_21 (gxi_i (mP_n (by unfold o_setSort; rw [if_pos (by first | exact c5 | exact nb c5 | exact Ne.symm c5 | exact fun q => q c5 | exact fun q => q c5.symm | omega), if_neg (by first | exact c16 | exact nb c16 | exact Ne.symm c16 | exact fun q => q c16 | exact fun q => q c16.symm | omega)]) ⟨_, hMo, hA⟩ rfl hag))
  · have c5 : inN a1 (sB S) = false := by simpa using c5
    refine lv_iconst (v := (-1)) hx hb dX8_setSort_8 (by decide) ?_
    exact g_iret (z := sz) hx hb hr hlk hz hP hL hS dX8_setSort_9 (gxi_i (mP_n (by unfold o_setSort; rw [if_neg (by first | exact c5 | exact nb c5 | exact Ne.symm c5 | exact fun q => q c5 | exact fun q => q c5.symm | omega)]) ⟨_, hMo, hA⟩ rfl hag))

theorem nX8_setReserve_X8 : ∀ w ∈ wsX80, w ∈ wsX8_setReserve := by decide +kernel
set_option maxHeartbeats 4000000 in
set_option maxRecDepth 100000 in
theorem c_X8_setReserve (l : Launch) (mo : Nat) (S : sS) (tf : Nat → Int32) (tn P : Nat) (C : Nat → sS) (kp : Nat → Bool) (a1 : Int32) (σ : gS) (sz : Nat) (hW : Me σ mo S tf tn P C kp) (hok : okS S) (hokC : ∀ k : Nat, k < P → okS (C k)) : gM l yX8_setReserve wsX8_setReserve ({ frames := 1, cells := 0, slots := 0, locals := 22 } : Room) 0 0 [.ref mo, .int a1] σ sz (gxi (fun r τ n => mP mo σ S tf tn P C kp sz (o_setReserve S a1) r τ n)) := by
  refine gM_of (cc := cX8_setReserve) (maxL := 3) (ret := (some .int)) (by decide) rfl (Nat.le_of_ble_eq_true rfl) ?_
  intro D ka lo hL hlo p e s m below meth c hx hb hr hts hown hml hlk hnm hK H locs ls hz hP hS hl
  have hl : lv_has ls 3 [(0, .ref mo), (1, .int a1)] := hl
  have hown : s.vm.findClass RX8 = some m.cls := hown
  obtain ⟨A, hMo, hA⟩ := hW
  have hR := hA.2.2.1
  have hR0 := hR
  have hP0 := hA.1
  have htn0 := hA.2.1
  have hP5 : P ≤ 5 := hA.2.2.2.2.2.2.2.2
  have htn : tn ≤ 60 := hA.2.2.2.2.2.2.2.1
  obtain ⟨hB, hN, hKs, hRs⟩ := id hok
  have hag : gAs (gZo mo 16) σ σ := gAs.rf
  refine lv_iload_n hx hb dX8_setReserve_0 rfl (lv_at hl 1 rfl) ?_
  refine lv_iconst (v := (nI 1)) hx hb dX8_setReserve_1 (by decide) ?_
  refine lv_bipush (v := (nI 8)) hx hb dX8_setReserve_2 (by decide) ?_
  refine g_runS (As := [.int a1, .int (nI 1), .int (nI 8)]) (rest := []) (own := RX8) 3 hx hb hml hown hts hK hz hP hL hS hlo hl.1 (c_X8_in l a1 ((nI 1)) ((nI 8)) σ sz) gX8_setReserve_X8_in rfl rfl rfl (by decide +kernel) ⟨Nat.le_of_ble_eq_true rfl, Nat.le_of_ble_eq_true rfl⟩ rfl rfl (Nat.le_of_ble_eq_true rfl) dX8_setReserve_4 ⟨Nat.le_of_ble_eq_true rfl, Nat.le_of_ble_eq_true rfl⟩ (g_ki0 (fun H locs hz hP hL hS => ?_))
  refine g_ifb_ne (tgt := 13) hx hb dX8_setReserve_7 (by decide) (fun c7 => ?_) (fun c7 => ?_)
  · obtain ⟨ha1e, ha1l⟩ := tk_wi (by decide) (by decide) c7
    refine lv_aload_n hx hb dX8_setReserve_13 rfl (lv_at hl 0 rfl) ?_
    refine g_runV (As := []) (rest := []) (own := RX8) (C := RX8) (T := TX8) (N := 20) 0 hx hb hml hown hts hK hz hP hL hS hlo hl.1 (c_X8_begin l mo A σ sz hMo) gX8_setReserve_X8_begin rfl rfl rfl (by decide +kernel) ⟨Nat.le_of_ble_eq_true rfl, Nat.le_of_ble_eq_true rfl⟩ hMo.c0 rfl rfl rfl (Nat.le_of_ble_eq_true rfl) dX8_setReserve_14 ⟨Nat.le_of_ble_eq_true rfl, Nat.le_of_ble_eq_true rfl⟩ (g_kxv0 (fun τ_1 H locs z1 hz hp hP hL hS => ?_))
    obtain ⟨hz1, ⟨A_1, hm_1, hb_1, hr_1⟩, ha_1⟩ := hp
    have hz := hz.trans hz1
    have hMo := hm_1
    have hag := hag.tr ha_1 (fun q h => h)
    have hR : Rr S (A_1 1) := by rw [hr_1 1 (by decide)]; exact hR
    refine lv_aload_n hx hb dX8_setReserve_17 rfl (lv_at hl 0 rfl) ?_
    refine g_get (C := RX8) (T := TX8) (N := 20) hx hb hts hown hK hP hMo.c0 nX8_setReserve_X8 rfl 0 (by decide) (by decide +kernel) rfl (v := .ref (mo + 1)) rfl dX8_setReserve_18 ?_
    refine lv_iconst (v := (nI 3)) hx hb dX8_setReserve_21 (by decide) ?_
    refine g_iald hx hb hK hP hMo.c1 (i := nI 3) (vp_in_nI (by omega) (by omega)) dX8_setReserve_22 ?_
    rw [nI_clamp (n := 3) (by omega)]
    refine g_top (y := (nI (sR S))) hR.r3 ?_
    refine lv_istore_n (lv' := [(2, .int (nI (sR S))), (0, .ref mo), (1, .int a1)]) hx hb dX8_setReserve_23 rfl hl (by decide) rfl (fun ls hl => ?_)
    refine lv_aload_n hx hb dX8_setReserve_24 rfl (lv_at hl 1 rfl) ?_
    refine g_get (C := RX8) (T := TX8) (N := 20) hx hb hts hown hK hP hMo.c0 nX8_setReserve_X8 rfl 0 (by decide) (by decide +kernel) rfl (v := .ref (mo + 1)) rfl dX8_setReserve_25 ?_
    refine lv_iconst (v := (nI 3)) hx hb dX8_setReserve_28 (by decide) ?_
    refine lv_iload_n hx hb dX8_setReserve_29 rfl (lv_at hl 2 rfl) ?_
    refine g_top (y := (nI (tk a1))) ha1e ?_
    refine g_iast hx hb hK hP hL hS hMo.c1 (i := nI 3) (vp_in_nI (by omega) (by omega)) dX8_setReserve_30 (fun H locs hq hP hL hS => ?_)
    rw [nI_clamp (n := 3) (by omega)] at hP hL
    have hz := hq.trans hz
    obtain ⟨σ2, e2⟩ : ∃ υ0 : gS, υ0 = gup τ_1 (mo + 1) (gI 292 (upd (A_1 1) 3 ((nI (tk a1))))) := ⟨_, rfl⟩
    have hP : gH D ka σ2 H := by rw [e2]; exact hP
    have hL : gL lo σ2 := by rw [e2]; exact hL
    have hMo : MoAt σ2 mo (sRow A_1 1 (upd (A_1 1) 3 ((nI (tk a1))))) := by rw [e2]; exact hMo.w1 (upd (A_1 1) 3 ((nI (tk a1))))
    have hag := hag.upe e2 (zo_k (by decide))
    refine lv_aload_n hx hb dX8_setReserve_31 rfl (lv_at hl 1 rfl) ?_
    refine lv_iload_n hx hb dX8_setReserve_32 rfl (lv_at hl 0 rfl) ?_
    refine g_runV (As := [.int (nI (sR S))]) (rest := []) (own := RX8) (C := RX8) (T := TX8) (N := 20) 1 hx hb hml hown hts hK hz hP hL hS hlo hl.1 (c_X8_done l mo (sRow A_1 1 (upd (A_1 1) 3 ((nI (tk a1))))) P ((nI (sR S))) σ2 sz hMo (by first | exact hP0 | (show tN A_1 0 = P; show (A_1 0 0).toNatClampNeg = P; rw [hr_1 0 (by decide)]; exact hP0)) hP5) gX8_setReserve_X8_done rfl rfl rfl (by decide +kernel) ⟨Nat.le_of_ble_eq_true rfl, Nat.le_of_ble_eq_true rfl⟩ hMo.c0 rfl rfl rfl (Nat.le_of_ble_eq_true rfl) dX8_setReserve_33 ⟨Nat.le_of_ble_eq_true rfl, Nat.le_of_ble_eq_true rfl⟩ (g_kxi0 (fun r_3 τ_3 H locs z1 hz hp hP hL hS => ?_))
    obtain ⟨hr9_3, hz1, ⟨D_3, hm_3, hd1_3, hd2_3, hd3_3, hd4_3⟩, ha_3⟩ := hp
    have hz := hz.trans hz1
    have hMo := hm_3
    have hag := hag.tr ha_3 (fun q h => h)
    subst hr9_3
    exact g_iret (z := sz) hx hb hr hlk hz hP hL hS dX8_setReserve_36 (gxi_i (mP_s (by unfold o_setReserve; rw [if_pos (by first | exact c7 | exact nb c7 | exact Ne.symm c7 | exact fun q => q c7 | exact fun q => q c7.symm | omega)]) ⟨_, hMo, MeP.done hA hok hokC (fun j hj => by first | exact hb_1 j hj | exact hbx j hj) (fun i h1 h2 => (sRow_n (by omega)).trans (hr_1 i (by omega))) (by first | exact hr_1 0 (by decide) | exact h0x) (by rw [sRow_s]; exact hR.setRes hok (by omega)) hd1_3 hd2_3 hd3_3 hd4_3⟩ rfl hag))
  · refine lv_bipush (v := (-2)) hx hb dX8_setReserve_10 (by decide) ?_
    exact g_iret (z := sz) hx hb hr hlk hz hP hL hS dX8_setReserve_12 (gxi_i (mP_n (by unfold o_setReserve; rw [if_neg (by first | exact c7 | exact nb c7 | exact Ne.symm c7 | exact fun q => q c7 | exact fun q => q c7.symm | omega)]) ⟨_, hMo, hA⟩ rfl hag))

theorem nX8_setPresent_X8 : ∀ w ∈ wsX80, w ∈ wsX8_setPresent := by decide +kernel
set_option maxHeartbeats 4000000 in
set_option maxRecDepth 100000 in
theorem c_X8_setPresent (l : Launch) (mo : Nat) (S : sS) (tf : Nat → Int32) (tn P : Nat) (C : Nat → sS) (kp : Nat → Bool) (a1 : Int32) (a2 : Bool) (σ : gS) (sz : Nat) (hW : Me σ mo S tf tn P C kp) (hok : okS S) (hokC : ∀ k : Nat, k < P → okS (C k)) (hpb : smB (S 8 2) (sN S)) : gM l yX8_setPresent wsX8_setPresent ({ frames := 2, cells := 0, slots := 0, locals := 44 } : Room) 0 0 [.ref mo, .int a1, .int (bI a2)] σ sz (gxi (fun r τ n => mP mo σ S tf tn P C kp sz (o_setPresent S a1 a2) r τ n)) := by
  refine gM_of (cc := cX8_setPresent) (maxL := 4) (ret := (some .int)) (by decide) rfl (Nat.le_of_ble_eq_true rfl) ?_
  intro D ka lo hL hlo p e s m below meth c hx hb hr hts hown hml hlk hnm hK H locs ls hz hP hS hl
  have hl : lv_has ls 4 [(0, .ref mo), (1, .int a1), (2, .int (bI a2))] := hl
  have hown : s.vm.findClass RX8 = some m.cls := hown
  obtain ⟨A, hMo, hA⟩ := hW
  have hR := hA.2.2.1
  have hR0 := hR
  have hP0 := hA.1
  have htn0 := hA.2.1
  have hP5 : P ≤ 5 := hA.2.2.2.2.2.2.2.2
  have htn : tn ≤ 60 := hA.2.2.2.2.2.2.2.1
  obtain ⟨hB, hN, hKs, hRs⟩ := id hok
  have hag : gAs (gZo mo 16) σ σ := gAs.rf
  refine lv_aload_n hx hb dX8_setPresent_0 rfl (lv_at hl 0 rfl) ?_
  refine lv_iload_n hx hb dX8_setPresent_1 rfl (lv_at hl 1 rfl) ?_
  refine g_runV (As := [.int a1]) (rest := []) (own := RX8) (C := RX8) (T := TX8) (N := 20) 1 hx hb hml hown hts hK hz hP hL hS hlo hl.1 (c_X8_noSinger l mo A S a1 σ sz hMo hR (by omega)) gX8_setPresent_X8_noSinger rfl rfl rfl (by decide +kernel) ⟨Nat.le_of_ble_eq_true rfl, Nat.le_of_ble_eq_true rfl⟩ hMo.c0 rfl rfl rfl (Nat.le_of_ble_eq_true rfl) dX8_setPresent_2 ⟨Nat.le_of_ble_eq_true rfl, Nat.le_of_ble_eq_true rfl⟩ (g_ki0 (fun H locs hz hP hL hS => ?_))
  refine g_ifb_eq (tgt := 10) hx hb dX8_setPresent_5 (by decide) (fun c5 => ?_) (fun c5 => ?_)
  · have c5 : inN a1 (sN S) = true := by simpa using c5
    obtain ⟨ha1e, ha1l⟩ := tk_in c5 (by omega)
    refine lv_iload_n hx hb dX8_setPresent_10 rfl (lv_at hl 2 rfl) ?_
    refine g_ifb_eq (tgt := 18) hx hb dX8_setPresent_11 (by decide) (fun c11 => ?_) (fun c11 => ?_)
    · refine lv_iconst (v := (nI 0)) hx hb dX8_setPresent_18 (by decide) ?_
      refine g_top (y := (bI a2)) (by rw [c11]; rfl) ?_
      refine lv_istore_n (lv' := [(3, .int (bI a2)), (0, .ref mo), (1, .int a1), (2, .int (bI a2))]) hx hb dX8_setPresent_19 rfl hl (by decide) rfl (fun ls hl => ?_)
      refine lv_aload_n hx hb dX8_setPresent_20 rfl (lv_at hl 1 rfl) ?_
      refine lv_iload_n hx hb dX8_setPresent_21 rfl (lv_at hl 2 rfl) ?_
      refine g_top (y := (nI (tk a1))) ha1e ?_
      refine lv_iconst (v := (nI 2)) hx hb dX8_setPresent_22 (by decide) ?_
      refine g_runV (As := [.int (nI (tk a1)), .int (nI 2)]) (rest := []) (own := RX8) (C := RX8) (T := TX8) (N := 20) 2 hx hb hml hown hts hK hz hP hL hS hlo hl.1 (c_X8_of l mo A S (tk a1) 2 σ sz hMo hR (by omega) (by omega) (by omega)) gX8_setPresent_X8_of rfl rfl rfl (by decide +kernel) ⟨Nat.le_of_ble_eq_true rfl, Nat.le_of_ble_eq_true rfl⟩ hMo.c0 rfl rfl rfl (Nat.le_of_ble_eq_true rfl) dX8_setPresent_23 ⟨Nat.le_of_ble_eq_true rfl, Nat.le_of_ble_eq_true rfl⟩ (g_ki0 (fun H locs hz hP hL hS => ?_))
      refine lv_iload_n hx hb dX8_setPresent_26 rfl (lv_at hl 0 rfl) ?_
      refine g_icmpb_ne (tgt := 33) hx hb dX8_setPresent_27 (by decide) (fun c27 => ?_) (fun c27 => ?_)
      · refine lv_aload_n hx hb dX8_setPresent_33 rfl (lv_at hl 1 rfl) ?_
        refine g_runV (As := []) (rest := []) (own := RX8) (C := RX8) (T := TX8) (N := 20) 0 hx hb hml hown hts hK hz hP hL hS hlo hl.1 (c_X8_begin l mo A σ sz hMo) gX8_setPresent_X8_begin rfl rfl rfl (by decide +kernel) ⟨Nat.le_of_ble_eq_true rfl, Nat.le_of_ble_eq_true rfl⟩ hMo.c0 rfl rfl rfl (Nat.le_of_ble_eq_true rfl) dX8_setPresent_34 ⟨Nat.le_of_ble_eq_true rfl, Nat.le_of_ble_eq_true rfl⟩ (g_kxv0 (fun τ_1 H locs z1 hz hp hP hL hS => ?_))
        obtain ⟨hz1, ⟨A_1, hm_1, hb_1, hr_1⟩, ha_1⟩ := hp
        have hz := hz.trans hz1
        have hMo := hm_1
        have hag := hag.tr ha_1 (fun q h => h)
        have hR : Rr S (A_1 1) := by rw [hr_1 1 (by decide)]; exact hR
        refine lv_aload_n hx hb dX8_setPresent_37 rfl (lv_at hl 1 rfl) ?_
        refine g_get (C := RX8) (T := TX8) (N := 20) hx hb hts hown hK hP hMo.c0 nX8_setPresent_X8 rfl 0 (by decide) (by decide +kernel) rfl (v := .ref (mo + 1)) rfl dX8_setPresent_38 ?_
        refine lv_sipush (v := (nI 196)) hx hb dX8_setPresent_41 (by decide) ?_
        refine lv_iconst (v := (nI 3)) hx hb dX8_setPresent_44 (by decide) ?_
        refine lv_iload_n hx hb dX8_setPresent_45 rfl (lv_at hl 2 rfl) ?_
        refine g_top (y := (nI (tk a1))) ha1e ?_
        refine lv_imul hx hb dX8_setPresent_46 ?_
        refine g_top (pk_mul 3 (tk a1)) ?_
        refine lv_iadd hx hb dX8_setPresent_47 ?_
        refine g_top (nI_add 196 (3 * (tk a1))) ?_
        refine lv_iconst (v := (nI 2)) hx hb dX8_setPresent_48 (by decide) ?_
        refine lv_iadd hx hb dX8_setPresent_49 ?_
        refine g_top (nI_add (196 + (3 * (tk a1))) 2) ?_
        refine lv_iload_n hx hb dX8_setPresent_50 rfl (lv_at hl 0 rfl) ?_
        refine g_iast hx hb hK hP hL hS hMo.c1 (i := nI ((196 + (3 * (tk a1))) + 2)) (vp_in_nI (by omega) (by omega)) dX8_setPresent_51 (fun H locs hq hP hL hS => ?_)
        rw [nI_clamp (n := (196 + (3 * (tk a1))) + 2) (by omega)] at hP hL
        have hz := hq.trans hz
        obtain ⟨σ2, e2⟩ : ∃ υ0 : gS, υ0 = gup τ_1 (mo + 1) (gI 292 (upd (A_1 1) ((196 + (3 * (tk a1))) + 2) ((bI a2)))) := ⟨_, rfl⟩
        have hP : gH D ka σ2 H := by rw [e2]; exact hP
        have hL : gL lo σ2 := by rw [e2]; exact hL
        have hMo : MoAt σ2 mo (sRow A_1 1 (upd (A_1 1) ((196 + (3 * (tk a1))) + 2) ((bI a2)))) := by rw [e2]; exact hMo.w1 (upd (A_1 1) ((196 + (3 * (tk a1))) + 2) ((bI a2)))
        have hag := hag.upe e2 (zo_k (by decide))
        have hR : Rr (prsS S (tk a1)) ((sRow A_1 1 (upd (A_1 1) ((196 + (3 * (tk a1))) + 2) ((bI a2)))) 1) := by rw [sRow_s, show a2 = !presB S (tk a1) from bnp c27]; exact hR.setPres hok ha1l
        have hN9 : sN (prsS S (tk a1)) ≤ 12 := hN
        refine lv_aload_n hx hb dX8_setPresent_52 rfl (lv_at hl 1 rfl) ?_
        refine lv_aload_n hx hb dX8_setPresent_53 rfl (lv_at hl 1 rfl) ?_
        refine g_runV (As := []) (rest := [.ref mo]) (own := RX8) (C := RX8) (T := TX8) (N := 20) 0 hx hb hml hown hts hK hz hP hL hS hlo hl.1 (c_X8_presentOnes l mo (sRow A_1 1 (upd (A_1 1) ((196 + (3 * (tk a1))) + 2) ((bI a2)))) (prsS S (tk a1))  σ2 sz hMo hR (by omega)) gX8_setPresent_X8_presentOnes rfl rfl rfl (by decide +kernel) ⟨Nat.le_of_ble_eq_true rfl, Nat.le_of_ble_eq_true rfl⟩ hMo.c0 rfl rfl rfl (Nat.le_of_ble_eq_true rfl) dX8_setPresent_54 ⟨Nat.le_of_ble_eq_true rfl, Nat.le_of_ble_eq_true rfl⟩ (g_ki0 (fun H locs hz hP hL hS => ?_))
        refine g_top (y := (bcI (prsS S (tk a1) 8 2))) ((bcI_n (x := prsS S (tk a1) 8 2) (n := sN S) (smB_xor hpb ha1l (by omega)) (by omega)).symm) ?_
        refine g_runV (As := [.int (bcI (prsS S (tk a1) 8 2))]) (rest := []) (own := RX8) (C := RX8) (T := TX8) (N := 20) 1 hx hb hml hown hts hK hz hP hL hS hlo hl.1 (c_X8_done l mo (sRow A_1 1 (upd (A_1 1) ((196 + (3 * (tk a1))) + 2) ((bI a2)))) P ((bcI (prsS S (tk a1) 8 2))) σ2 sz hMo (by first | exact hP0 | (show tN A_1 0 = P; show (A_1 0 0).toNatClampNeg = P; rw [hr_1 0 (by decide)]; exact hP0)) hP5) gX8_setPresent_X8_done rfl rfl rfl (by decide +kernel) ⟨Nat.le_of_ble_eq_true rfl, Nat.le_of_ble_eq_true rfl⟩ hMo.c0 rfl rfl rfl (Nat.le_of_ble_eq_true rfl) dX8_setPresent_57 ⟨Nat.le_of_ble_eq_true rfl, Nat.le_of_ble_eq_true rfl⟩ (g_kxi0 (fun r_3 τ_3 H locs z1 hz hp hP hL hS => ?_))
        obtain ⟨hr9_3, hz1, ⟨D_3, hm_3, hd1_3, hd2_3, hd3_3, hd4_3⟩, ha_3⟩ := hp
        have hz := hz.trans hz1
        have hMo := hm_3
        have hag := hag.tr ha_3 (fun q h => h)
        subst hr9_3
        exact g_iret (z := sz) hx hb hr hlk hz hP hL hS dX8_setPresent_60 (gxi_i (mP_s (by unfold o_setPresent; rw [if_pos (by first | exact c5 | exact nb c5 | exact Ne.symm c5 | exact fun q => q c5 | exact fun q => q c5.symm | omega), if_pos (by first | exact c27 | exact nb c27 | exact Ne.symm c27 | exact fun q => q c27 | exact fun q => q c27.symm | omega)]) ⟨_, hMo, MeP.done hA hok hokC (fun j hj => by first | exact hb_1 j hj | exact hbx j hj) (fun i h1 h2 => (sRow_n (by omega)).trans (hr_1 i (by omega))) (by first | exact hr_1 0 (by decide) | exact h0x) hR hd1_3 hd2_3 hd3_3 hd4_3⟩ rfl hag))
      · refine lv_bipush (v := (-5)) hx hb dX8_setPresent_30 (by decide) ?_
        exact g_iret (z := sz) hx hb hr hlk hz hP hL hS dX8_setPresent_32 (gxi_i (mP_n (by unfold o_setPresent; rw [if_pos (by first | exact c5 | exact nb c5 | exact Ne.symm c5 | exact fun q => q c5 | exact fun q => q c5.symm | omega), if_neg (by first | exact c27 | exact nb c27 | exact Ne.symm c27 | exact fun q => q c27 | exact fun q => q c27.symm | omega)]) ⟨_, hMo, hA⟩ rfl hag))
    · refine lv_iconst (v := (nI 1)) hx hb dX8_setPresent_14 (by decide) ?_
      refine lv_goto (tgt := 19) hx hb dX8_setPresent_15 (by decide) ?_
      refine g_top (y := (bI a2)) (by rw [c11]; rfl) ?_
      refine lv_istore_n (lv' := [(3, .int (bI a2)), (0, .ref mo), (1, .int a1), (2, .int (bI a2))]) hx hb dX8_setPresent_19 rfl hl (by decide) rfl (fun ls hl => ?_)
      refine lv_aload_n hx hb dX8_setPresent_20 rfl (lv_at hl 1 rfl) ?_
      refine lv_iload_n hx hb dX8_setPresent_21 rfl (lv_at hl 2 rfl) ?_
      refine g_top (y := (nI (tk a1))) ha1e ?_
      refine lv_iconst (v := (nI 2)) hx hb dX8_setPresent_22 (by decide) ?_
      refine g_runV (As := [.int (nI (tk a1)), .int (nI 2)]) (rest := []) (own := RX8) (C := RX8) (T := TX8) (N := 20) 2 hx hb hml hown hts hK hz hP hL hS hlo hl.1 (c_X8_of l mo A S (tk a1) 2 σ sz hMo hR (by omega) (by omega) (by omega)) gX8_setPresent_X8_of rfl rfl rfl (by decide +kernel) ⟨Nat.le_of_ble_eq_true rfl, Nat.le_of_ble_eq_true rfl⟩ hMo.c0 rfl rfl rfl (Nat.le_of_ble_eq_true rfl) dX8_setPresent_23 ⟨Nat.le_of_ble_eq_true rfl, Nat.le_of_ble_eq_true rfl⟩ (g_ki0 (fun H locs hz hP hL hS => ?_))
      refine lv_iload_n hx hb dX8_setPresent_26 rfl (lv_at hl 0 rfl) ?_
      refine g_icmpb_ne (tgt := 33) hx hb dX8_setPresent_27 (by decide) (fun c27 => ?_) (fun c27 => ?_)
      · refine lv_aload_n hx hb dX8_setPresent_33 rfl (lv_at hl 1 rfl) ?_
        refine g_runV (As := []) (rest := []) (own := RX8) (C := RX8) (T := TX8) (N := 20) 0 hx hb hml hown hts hK hz hP hL hS hlo hl.1 (c_X8_begin l mo A σ sz hMo) gX8_setPresent_X8_begin rfl rfl rfl (by decide +kernel) ⟨Nat.le_of_ble_eq_true rfl, Nat.le_of_ble_eq_true rfl⟩ hMo.c0 rfl rfl rfl (Nat.le_of_ble_eq_true rfl) dX8_setPresent_34 ⟨Nat.le_of_ble_eq_true rfl, Nat.le_of_ble_eq_true rfl⟩ (g_kxv0 (fun τ_4 H locs z1 hz hp hP hL hS => ?_))
        obtain ⟨hz1, ⟨A_4, hm_4, hb_4, hr_4⟩, ha_4⟩ := hp
        have hz := hz.trans hz1
        have hMo := hm_4
        have hag := hag.tr ha_4 (fun q h => h)
        have hR : Rr S (A_4 1) := by rw [hr_4 1 (by decide)]; exact hR
        refine lv_aload_n hx hb dX8_setPresent_37 rfl (lv_at hl 1 rfl) ?_
        refine g_get (C := RX8) (T := TX8) (N := 20) hx hb hts hown hK hP hMo.c0 nX8_setPresent_X8 rfl 0 (by decide) (by decide +kernel) rfl (v := .ref (mo + 1)) rfl dX8_setPresent_38 ?_
        refine lv_sipush (v := (nI 196)) hx hb dX8_setPresent_41 (by decide) ?_
        refine lv_iconst (v := (nI 3)) hx hb dX8_setPresent_44 (by decide) ?_
        refine lv_iload_n hx hb dX8_setPresent_45 rfl (lv_at hl 2 rfl) ?_
        refine g_top (y := (nI (tk a1))) ha1e ?_
        refine lv_imul hx hb dX8_setPresent_46 ?_
        refine g_top (pk_mul 3 (tk a1)) ?_
        refine lv_iadd hx hb dX8_setPresent_47 ?_
        refine g_top (nI_add 196 (3 * (tk a1))) ?_
        refine lv_iconst (v := (nI 2)) hx hb dX8_setPresent_48 (by decide) ?_
        refine lv_iadd hx hb dX8_setPresent_49 ?_
        refine g_top (nI_add (196 + (3 * (tk a1))) 2) ?_
        refine lv_iload_n hx hb dX8_setPresent_50 rfl (lv_at hl 0 rfl) ?_
        refine g_iast hx hb hK hP hL hS hMo.c1 (i := nI ((196 + (3 * (tk a1))) + 2)) (vp_in_nI (by omega) (by omega)) dX8_setPresent_51 (fun H locs hq hP hL hS => ?_)
        rw [nI_clamp (n := (196 + (3 * (tk a1))) + 2) (by omega)] at hP hL
        have hz := hq.trans hz
        obtain ⟨σ5, e5⟩ : ∃ υ0 : gS, υ0 = gup τ_4 (mo + 1) (gI 292 (upd (A_4 1) ((196 + (3 * (tk a1))) + 2) ((bI a2)))) := ⟨_, rfl⟩
        have hP : gH D ka σ5 H := by rw [e5]; exact hP
        have hL : gL lo σ5 := by rw [e5]; exact hL
        have hMo : MoAt σ5 mo (sRow A_4 1 (upd (A_4 1) ((196 + (3 * (tk a1))) + 2) ((bI a2)))) := by rw [e5]; exact hMo.w1 (upd (A_4 1) ((196 + (3 * (tk a1))) + 2) ((bI a2)))
        have hag := hag.upe e5 (zo_k (by decide))
        have hR : Rr (prsS S (tk a1)) ((sRow A_4 1 (upd (A_4 1) ((196 + (3 * (tk a1))) + 2) ((bI a2)))) 1) := by rw [sRow_s, show a2 = !presB S (tk a1) from bnp c27]; exact hR.setPres hok ha1l
        have hN9 : sN (prsS S (tk a1)) ≤ 12 := hN
        refine lv_aload_n hx hb dX8_setPresent_52 rfl (lv_at hl 1 rfl) ?_
        refine lv_aload_n hx hb dX8_setPresent_53 rfl (lv_at hl 1 rfl) ?_
        refine g_runV (As := []) (rest := [.ref mo]) (own := RX8) (C := RX8) (T := TX8) (N := 20) 0 hx hb hml hown hts hK hz hP hL hS hlo hl.1 (c_X8_presentOnes l mo (sRow A_4 1 (upd (A_4 1) ((196 + (3 * (tk a1))) + 2) ((bI a2)))) (prsS S (tk a1))  σ5 sz hMo hR (by omega)) gX8_setPresent_X8_presentOnes rfl rfl rfl (by decide +kernel) ⟨Nat.le_of_ble_eq_true rfl, Nat.le_of_ble_eq_true rfl⟩ hMo.c0 rfl rfl rfl (Nat.le_of_ble_eq_true rfl) dX8_setPresent_54 ⟨Nat.le_of_ble_eq_true rfl, Nat.le_of_ble_eq_true rfl⟩ (g_ki0 (fun H locs hz hP hL hS => ?_))
        refine g_top (y := (bcI (prsS S (tk a1) 8 2))) ((bcI_n (x := prsS S (tk a1) 8 2) (n := sN S) (smB_xor hpb ha1l (by omega)) (by omega)).symm) ?_
        refine g_runV (As := [.int (bcI (prsS S (tk a1) 8 2))]) (rest := []) (own := RX8) (C := RX8) (T := TX8) (N := 20) 1 hx hb hml hown hts hK hz hP hL hS hlo hl.1 (c_X8_done l mo (sRow A_4 1 (upd (A_4 1) ((196 + (3 * (tk a1))) + 2) ((bI a2)))) P ((bcI (prsS S (tk a1) 8 2))) σ5 sz hMo (by first | exact hP0 | (show tN A_4 0 = P; show (A_4 0 0).toNatClampNeg = P; rw [hr_4 0 (by decide)]; exact hP0)) hP5) gX8_setPresent_X8_done rfl rfl rfl (by decide +kernel) ⟨Nat.le_of_ble_eq_true rfl, Nat.le_of_ble_eq_true rfl⟩ hMo.c0 rfl rfl rfl (Nat.le_of_ble_eq_true rfl) dX8_setPresent_57 ⟨Nat.le_of_ble_eq_true rfl, Nat.le_of_ble_eq_true rfl⟩ (g_kxi0 (fun r_6 τ_6 H locs z1 hz hp hP hL hS => ?_))
        obtain ⟨hr9_6, hz1, ⟨D_6, hm_6, hd1_6, hd2_6, hd3_6, hd4_6⟩, ha_6⟩ := hp
        have hz := hz.trans hz1
        have hMo := hm_6
        have hag := hag.tr ha_6 (fun q h => h)
        subst hr9_6
        exact g_iret (z := sz) hx hb hr hlk hz hP hL hS dX8_setPresent_60 (gxi_i (mP_s (by unfold o_setPresent; rw [if_pos (by first | exact c5 | exact nb c5 | exact Ne.symm c5 | exact fun q => q c5 | exact fun q => q c5.symm | omega), if_pos (by first | exact c27 | exact nb c27 | exact Ne.symm c27 | exact fun q => q c27 | exact fun q => q c27.symm | omega)]) ⟨_, hMo, MeP.done hA hok hokC (fun j hj => by first | exact hb_4 j hj | exact hbx j hj) (fun i h1 h2 => (sRow_n (by omega)).trans (hr_4 i (by omega))) (by first | exact hr_4 0 (by decide) | exact h0x) hR hd1_6 hd2_6 hd3_6 hd4_6⟩ rfl hag))
      · refine lv_bipush (v := (-5)) hx hb dX8_setPresent_30 (by decide) ?_
        exact g_iret (z := sz) hx hb hr hlk hz hP hL hS dX8_setPresent_32 (gxi_i (mP_n (by unfold o_setPresent; rw [if_pos (by first | exact c5 | exact nb c5 | exact Ne.symm c5 | exact fun q => q c5 | exact fun q => q c5.symm | omega), if_neg (by first | exact c27 | exact nb c27 | exact Ne.symm c27 | exact fun q => q c27 | exact fun q => q c27.symm | omega)]) ⟨_, hMo, hA⟩ rfl hag))
  · have c5 : inN a1 (sN S) = false := by simpa using c5
    refine lv_iconst (v := (-1)) hx hb dX8_setPresent_8 (by decide) ?_
    exact g_iret (z := sz) hx hb hr hlk hz hP hL hS dX8_setPresent_9 (gxi_i (mP_n (by unfold o_setPresent; rw [if_neg (by first | exact c5 | exact nb c5 | exact Ne.symm c5 | exact fun q => q c5 | exact fun q => q c5.symm | omega)]) ⟨_, hMo, hA⟩ rfl hag))

theorem nX8_setMark_X8 : ∀ w ∈ wsX80, w ∈ wsX8_setMark := by decide +kernel
set_option maxHeartbeats 4000000 in
set_option maxRecDepth 100000 in
theorem c_X8_setMark (l : Launch) (mo : Nat) (A : sS) (i b : Nat) (σ : gS) (sz : Nat) (hMo : MoAt σ mo A) (hi : i < 12) (hb0 : b < 96) : gM l yX8_setMark wsX8_setMark ({ frames := 0, cells := 0, slots := 0, locals := 0 } : Room) 0 0 [.ref mo, .int (nI i), .int (nI b)] σ sz (gxv (fun τ n => n = sz ∧ MoAt τ mo (sRow A 1 (upd (A 1) (232 + 3 * i + b / 32) (A 1 (232 + 3 * i + b / 32) ^^^ bitI (b % 32)))) ∧ gAs (gZo mo 16) σ τ)) := by
  refine gM_of (cc := cX8_setMark) (maxL := 3) (ret := none) (by decide) rfl (Nat.le_of_ble_eq_true rfl) ?_
  intro D ka lo hL hlo p e s m below meth c hx hb hr hts hown hml hlk hnm hK H locs ls hz hP hS hl
  have hl : lv_has ls 3 [(0, .ref mo), (1, .int (nI i)), (2, .int (nI b))] := hl
  have hown : s.vm.findClass RX8 = some m.cls := hown
  have hag : gAs (gZo mo 16) σ σ := gAs.rf
  refine lv_aload_n hx hb dX8_setMark_0 rfl (lv_at hl 0 rfl) ?_
  refine g_get (C := RX8) (T := TX8) (N := 20) hx hb hts hown hK hP hMo.c0 nX8_setMark_X8 rfl 0 (by decide) (by decide +kernel) rfl (v := .ref (mo + 1)) rfl dX8_setMark_1 ?_
  refine lv_sipush (v := (nI 232)) hx hb dX8_setMark_4 (by decide) ?_
  refine lv_iconst (v := (nI 3)) hx hb dX8_setMark_7 (by decide) ?_
  refine lv_iload_n hx hb dX8_setMark_8 rfl (lv_at hl 1 rfl) ?_
  refine lv_imul hx hb dX8_setMark_9 ?_
  refine g_top (pk_mul 3 i) ?_
  refine lv_iadd hx hb dX8_setMark_10 ?_
  refine g_top (nI_add 232 (3 * i)) ?_
  refine lv_iload_n hx hb dX8_setMark_11 rfl (lv_at hl 2 rfl) ?_
  refine lv_bipush (v := (nI 32)) hx hb dX8_setMark_12 (by decide) ?_
  refine lv_idiv hx hb dX8_setMark_14 (by decide) ?_
  refine g_top (pk_div (a := b) (d := 32) (by omega) (by omega) (by omega)) ?_
  refine lv_iadd hx hb dX8_setMark_15 ?_
  refine g_top (nI_add (232 + (3 * i)) (b / 32)) ?_
  refine lv_dup2_11 hx hb dX8_setMark_16 rfl rfl ?_
  refine g_iald hx hb hK hP hMo.c1 (i := nI ((232 + (3 * i)) + (b / 32))) (vp_in_nI (by omega) (by omega)) dX8_setMark_17 ?_
  rw [nI_clamp (n := (232 + (3 * i)) + (b / 32)) (by omega)]
  refine lv_iconst (v := (nI 1)) hx hb dX8_setMark_18 (by decide) ?_
  refine lv_iload_n hx hb dX8_setMark_19 rfl (lv_at hl 2 rfl) ?_
  refine lv_bipush (v := (nI 32)) hx hb dX8_setMark_20 (by decide) ?_
  refine lv_irem hx hb dX8_setMark_22 (by decide) ?_
  refine g_top (pk_rem (a := b) (d := 32) (by omega) (by omega) (by omega)) ?_
  refine lv_ishl hx hb dX8_setMark_23 ?_
  refine lv_ixor hx hb dX8_setMark_24 ?_
  refine g_iast hx hb hK hP hL hS hMo.c1 (i := nI ((232 + (3 * i)) + (b / 32))) (vp_in_nI (by omega) (by omega)) dX8_setMark_25 (fun H locs hq hP hL hS => ?_)
  rw [nI_clamp (n := (232 + (3 * i)) + (b / 32)) (by omega)] at hP hL
  have hz := hq.trans hz
  obtain ⟨σ1, e1⟩ : ∃ υ0 : gS, υ0 = gup σ (mo + 1) (gI 292 (upd (A 1) ((232 + (3 * i)) + (b / 32)) ((((A 1) ((232 + (3 * i)) + (b / 32))) ^^^ ((nI 1) <<< ((nI (b % 32)) &&& 31)))))) := ⟨_, rfl⟩
  have hP : gH D ka σ1 H := by rw [e1]; exact hP
  have hL : gL lo σ1 := by rw [e1]; exact hL
  have hMo : MoAt σ1 mo (sRow A 1 (upd (A 1) ((232 + (3 * i)) + (b / 32)) ((((A 1) ((232 + (3 * i)) + (b / 32))) ^^^ ((nI 1) <<< ((nI (b % 32)) &&& 31)))))) := by rw [e1]; exact hMo.w1 (upd (A 1) ((232 + (3 * i)) + (b / 32)) ((((A 1) ((232 + (3 * i)) + (b / 32))) ^^^ ((nI 1) <<< ((nI (b % 32)) &&& 31)))))
  have hag := hag.upe e1 (zo_k (by decide))
  exact g_vret (z := sz) hx hb hr hlk hz hP hL hS dX8_setMark_26 (gxv_i ⟨rfl, hMo, hag⟩)

set_option maxHeartbeats 4000000 in
set_option maxRecDepth 100000 in
theorem c_X8_mark (l : Launch) (mo : Nat) (S : sS) (tf : Nat → Int32) (tn P : Nat) (C : Nat → sS) (kp : Nat → Bool) (a1 a2 : Int32) (a3 : Bool) (σ : gS) (sz : Nat) (hW : Me σ mo S tf tn P C kp) (hok : okS S) (hokC : ∀ k : Nat, k < P → okS (C k)) : gM l yX8_mark wsX8_mark ({ frames := 2, cells := 0, slots := 0, locals := 45 } : Room) 0 0 [.ref mo, .int a1, .int a2, .int (bI a3)] σ sz (gxi (fun r τ n => mP mo σ S tf tn P C kp sz (o_mark S a1 a2 a3) r τ n)) := by
  refine gM_of (cc := cX8_mark) (maxL := 4) (ret := (some .int)) (by decide) rfl (Nat.le_of_ble_eq_true rfl) ?_
  intro D ka lo hL hlo p e s m below meth c hx hb hr hts hown hml hlk hnm hK H locs ls hz hP hS hl
  have hl : lv_has ls 4 [(0, .ref mo), (1, .int a1), (2, .int a2), (3, .int (bI a3))] := hl
  have hown : s.vm.findClass RX8 = some m.cls := hown
  obtain ⟨A, hMo, hA⟩ := hW
  have hR := hA.2.2.1
  have hR0 := hR
  have hP0 := hA.1
  have htn0 := hA.2.1
  have hP5 : P ≤ 5 := hA.2.2.2.2.2.2.2.2
  have htn : tn ≤ 60 := hA.2.2.2.2.2.2.2.1
  obtain ⟨hB, hN, hKs, hRs⟩ := id hok
  have hag : gAs (gZo mo 16) σ σ := gAs.rf
  refine lv_aload_n hx hb dX8_mark_0 rfl (lv_at hl 0 rfl) ?_
  refine lv_iload_n hx hb dX8_mark_1 rfl (lv_at hl 1 rfl) ?_
  refine g_runV (As := [.int a1]) (rest := []) (own := RX8) (C := RX8) (T := TX8) (N := 20) 1 hx hb hml hown hts hK hz hP hL hS hlo hl.1 (c_X8_noSinger l mo A S a1 σ sz hMo hR (by omega)) gX8_mark_X8_noSinger rfl rfl rfl (by decide +kernel) ⟨Nat.le_of_ble_eq_true rfl, Nat.le_of_ble_eq_true rfl⟩ hMo.c0 rfl rfl rfl (Nat.le_of_ble_eq_true rfl) dX8_mark_2 ⟨Nat.le_of_ble_eq_true rfl, Nat.le_of_ble_eq_true rfl⟩ (g_ki0 (fun H locs hz hP hL hS => ?_))
  refine g_ifb_ne (tgt := 16) hx hb dX8_mark_5 (by decide) (fun c5 => ?_) (fun c5 => ?_)
  · have c5 : inN a1 (sN S) = false := by simpa using c5
    refine lv_iconst (v := (-1)) hx hb dX8_mark_16 (by decide) ?_
    exact g_iret (z := sz) hx hb hr hlk hz hP hL hS dX8_mark_17 (gxi_i (mP_n (by unfold o_mark; rw [if_neg (by first | exact c5 | exact nb c5 | exact Ne.symm c5 | exact fun q => q c5 | exact fun q => q c5.symm | omega)]) ⟨_, hMo, hA⟩ rfl hag))
  · have c5 : inN a1 (sN S) = true := by simpa using c5
    obtain ⟨ha1e, ha1l⟩ := tk_in c5 (by omega)
    refine lv_aload_n hx hb dX8_mark_8 rfl (lv_at hl 0 rfl) ?_
    refine lv_iload_n hx hb dX8_mark_9 rfl (lv_at hl 2 rfl) ?_
    refine g_runV (As := [.int a2]) (rest := []) (own := RX8) (C := RX8) (T := TX8) (N := 20) 1 hx hb hml hown hts hK hz hP hL hS hlo hl.1 (c_X8_noBeat l mo A S a2 σ sz hMo hR (by omega)) gX8_mark_X8_noBeat rfl rfl rfl (by decide +kernel) ⟨Nat.le_of_ble_eq_true rfl, Nat.le_of_ble_eq_true rfl⟩ hMo.c0 rfl rfl rfl (Nat.le_of_ble_eq_true rfl) dX8_mark_10 ⟨Nat.le_of_ble_eq_true rfl, Nat.le_of_ble_eq_true rfl⟩ (g_ki0 (fun H locs hz hP hL hS => ?_))
    refine g_ifb_eq (tgt := 18) hx hb dX8_mark_13 (by decide) (fun c13 => ?_) (fun c13 => ?_)
    · have c13 : inN a2 (sB S) = true := by simpa using c13
      obtain ⟨ha2e, ha2l⟩ := tk_in c13 (by omega)
      refine lv_aload_n hx hb dX8_mark_18 rfl (lv_at hl 0 rfl) ?_
      refine lv_iload_n hx hb dX8_mark_19 rfl (lv_at hl 1 rfl) ?_
      refine g_top (y := (nI (tk a1))) ha1e ?_
      refine lv_iload_n hx hb dX8_mark_20 rfl (lv_at hl 2 rfl) ?_
      refine g_top (y := (nI (tk a2))) ha2e ?_
      refine g_runV (As := [.int (nI (tk a1)), .int (nI (tk a2))]) (rest := []) (own := RX8) (C := RX8) (T := TX8) (N := 20) 2 hx hb hml hown hts hK hz hP hL hS hlo hl.1 (c_X8_isMarked l mo A S (tk a1) (tk a2) σ sz hMo hR (by omega) (by omega) (by omega) (by omega)) gX8_mark_X8_isMarked rfl rfl rfl (by decide +kernel) ⟨Nat.le_of_ble_eq_true rfl, Nat.le_of_ble_eq_true rfl⟩ hMo.c0 rfl rfl rfl (Nat.le_of_ble_eq_true rfl) dX8_mark_21 ⟨Nat.le_of_ble_eq_true rfl, Nat.le_of_ble_eq_true rfl⟩ (g_ki0 (fun H locs hz hP hL hS => ?_))
      refine lv_iload_n hx hb dX8_mark_24 rfl (lv_at hl 3 rfl) ?_
      refine g_icmpb_ne (tgt := 31) hx hb dX8_mark_25 (by decide) (fun c25 => ?_) (fun c25 => ?_)
      · refine lv_aload_n hx hb dX8_mark_31 rfl (lv_at hl 0 rfl) ?_
        refine g_runV (As := []) (rest := []) (own := RX8) (C := RX8) (T := TX8) (N := 20) 0 hx hb hml hown hts hK hz hP hL hS hlo hl.1 (c_X8_begin l mo A σ sz hMo) gX8_mark_X8_begin rfl rfl rfl (by decide +kernel) ⟨Nat.le_of_ble_eq_true rfl, Nat.le_of_ble_eq_true rfl⟩ hMo.c0 rfl rfl rfl (Nat.le_of_ble_eq_true rfl) dX8_mark_32 ⟨Nat.le_of_ble_eq_true rfl, Nat.le_of_ble_eq_true rfl⟩ (g_kxv0 (fun τ_1 H locs z1 hz hp hP hL hS => ?_))
        obtain ⟨hz1, ⟨A_1, hm_1, hb_1, hr_1⟩, ha_1⟩ := hp
        have hz := hz.trans hz1
        have hMo := hm_1
        have hag := hag.tr ha_1 (fun q h => h)
        have hR : Rr S (A_1 1) := by rw [hr_1 1 (by decide)]; exact hR
        refine lv_aload_n hx hb dX8_mark_35 rfl (lv_at hl 0 rfl) ?_
        refine lv_iload_n hx hb dX8_mark_36 rfl (lv_at hl 1 rfl) ?_
        refine g_top (y := (nI (tk a1))) ha1e ?_
        refine lv_iload_n hx hb dX8_mark_37 rfl (lv_at hl 2 rfl) ?_
        refine g_top (y := (nI (tk a2))) ha2e ?_
        refine g_runV (As := [.int (nI (tk a1)), .int (nI (tk a2))]) (rest := []) (own := RX8) (C := RX8) (T := TX8) (N := 20) 2 hx hb hml hown hts hK hz hP hL hS hlo hl.1 (c_X8_setMark l mo A_1 (tk a1) (tk a2) τ_1 sz hMo (by omega) (by omega)) gX8_mark_X8_setMark rfl rfl rfl (by decide +kernel) ⟨Nat.le_of_ble_eq_true rfl, Nat.le_of_ble_eq_true rfl⟩ hMo.c0 rfl rfl rfl (Nat.le_of_ble_eq_true rfl) dX8_mark_38 ⟨Nat.le_of_ble_eq_true rfl, Nat.le_of_ble_eq_true rfl⟩ (g_kxv0 (fun τ_2 H locs z1 hz hp hP hL hS => ?_))
        obtain ⟨hz1, hm_2, ha_2⟩ := hp
        have hz := hz.trans hz1
        have hMo := hm_2
        have hag := hag.tr ha_2 (fun q h => h)
        have hR : Rr (mrkS S (tk a1) (tk a2)) ((sRow A_1 1 (upd (A_1 1) (232 + 3 * (tk a1) + (tk a2) / 32) (A_1 1 (232 + 3 * (tk a1) + (tk a2) / 32) ^^^ bitI ((tk a2) % 32)))) 1) := by rw [sRow_s]; exact hR.setMark hok ha1l ha2l
        have hN9 : sN (mrkS S (tk a1) (tk a2)) = sN S := rfl
        have hB9 : sB (mrkS S (tk a1) (tk a2)) = sB S := rfl
        refine lv_aload_n hx hb dX8_mark_41 rfl (lv_at hl 0 rfl) ?_
        refine lv_aload_n hx hb dX8_mark_42 rfl (lv_at hl 0 rfl) ?_
        refine lv_iload_n hx hb dX8_mark_43 rfl (lv_at hl 1 rfl) ?_
        refine g_top (y := (nI (tk a1))) ha1e ?_
        refine g_runV (As := [.int (nI (tk a1))]) (rest := [.ref mo]) (own := RX8) (C := RX8) (T := TX8) (N := 20) 1 hx hb hml hown hts hK hz hP hL hS hlo hl.1 (c_X8_marksOf l mo (sRow A_1 1 (upd (A_1 1) (232 + 3 * (tk a1) + (tk a2) / 32) (A_1 1 (232 + 3 * (tk a1) + (tk a2) / 32) ^^^ bitI ((tk a2) % 32)))) (mrkS S (tk a1) (tk a2)) (tk a1) τ_2 sz hMo hR (by omega) (by omega) (by omega)) gX8_mark_X8_marksOf rfl rfl rfl (by decide +kernel) ⟨Nat.le_of_ble_eq_true rfl, Nat.le_of_ble_eq_true rfl⟩ hMo.c0 rfl rfl rfl (Nat.le_of_ble_eq_true rfl) dX8_mark_44 ⟨Nat.le_of_ble_eq_true rfl, Nat.le_of_ble_eq_true rfl⟩ (g_ki0 (fun H locs hz hP hL hS => ?_))
        refine g_runV (As := [.int (nI (cntF (fun b => markB (mrkS S (tk a1) (tk a2)) (tk a1) b) (sB (mrkS S (tk a1) (tk a2)))))]) (rest := []) (own := RX8) (C := RX8) (T := TX8) (N := 20) 1 hx hb hml hown hts hK hz hP hL hS hlo hl.1 (c_X8_done l mo (sRow A_1 1 (upd (A_1 1) (232 + 3 * (tk a1) + (tk a2) / 32) (A_1 1 (232 + 3 * (tk a1) + (tk a2) / 32) ^^^ bitI ((tk a2) % 32)))) P ((nI (cntF (fun b => markB (mrkS S (tk a1) (tk a2)) (tk a1) b) (sB (mrkS S (tk a1) (tk a2)))))) τ_2 sz hMo (by first | exact hP0 | (show tN A_1 0 = P; show (A_1 0 0).toNatClampNeg = P; rw [hr_1 0 (by decide)]; exact hP0)) hP5) gX8_mark_X8_done rfl rfl rfl (by decide +kernel) ⟨Nat.le_of_ble_eq_true rfl, Nat.le_of_ble_eq_true rfl⟩ hMo.c0 rfl rfl rfl (Nat.le_of_ble_eq_true rfl) dX8_mark_47 ⟨Nat.le_of_ble_eq_true rfl, Nat.le_of_ble_eq_true rfl⟩ (g_kxi0 (fun r_3 τ_3 H locs z1 hz hp hP hL hS => ?_))
        obtain ⟨hr9_3, hz1, ⟨D_3, hm_3, hd1_3, hd2_3, hd3_3, hd4_3⟩, ha_3⟩ := hp
        have hz := hz.trans hz1
        have hMo := hm_3
        have hag := hag.tr ha_3 (fun q h => h)
        subst hr9_3
        exact g_iret (z := sz) hx hb hr hlk hz hP hL hS dX8_mark_50 (gxi_i (mP_s (by unfold o_mark; rw [if_pos (by first | exact c5 | exact nb c5 | exact Ne.symm c5 | exact fun q => q c5 | exact fun q => q c5.symm | omega), if_pos (by first | exact c13 | exact nb c13 | exact Ne.symm c13 | exact fun q => q c13 | exact fun q => q c13.symm | omega), if_pos (by first | exact c25 | exact nb c25 | exact Ne.symm c25 | exact fun q => q c25 | exact fun q => q c25.symm | omega)]) ⟨_, hMo, MeP.done hA hok hokC (fun j hj => by first | exact hb_1 j hj | exact hbx j hj) (fun i h1 h2 => (sRow_n (by omega)).trans (hr_1 i (by omega))) (by first | exact hr_1 0 (by decide) | exact h0x) hR hd1_3 hd2_3 hd3_3 hd4_3⟩ rfl hag))
      · refine lv_bipush (v := (-5)) hx hb dX8_mark_28 (by decide) ?_
        exact g_iret (z := sz) hx hb hr hlk hz hP hL hS dX8_mark_30 (gxi_i (mP_n (by unfold o_mark; rw [if_pos (by first | exact c5 | exact nb c5 | exact Ne.symm c5 | exact fun q => q c5 | exact fun q => q c5.symm | omega), if_pos (by first | exact c13 | exact nb c13 | exact Ne.symm c13 | exact fun q => q c13 | exact fun q => q c13.symm | omega), if_neg (by first | exact c25 | exact nb c25 | exact Ne.symm c25 | exact fun q => q c25 | exact fun q => q c25.symm | omega)]) ⟨_, hMo, hA⟩ rfl hag))
    · have c13 : inN a2 (sB S) = false := by simpa using c13
      refine lv_iconst (v := (-1)) hx hb dX8_mark_16 (by decide) ?_
      exact g_iret (z := sz) hx hb hr hlk hz hP hL hS dX8_mark_17 (gxi_i (mP_n (by unfold o_mark; rw [if_pos (by first | exact c5 | exact nb c5 | exact Ne.symm c5 | exact fun q => q c5 | exact fun q => q c5.symm | omega), if_neg (by first | exact c13 | exact nb c13 | exact Ne.symm c13 | exact fun q => q c13 | exact fun q => q c13.symm | omega)]) ⟨_, hMo, hA⟩ rfl hag))

theorem nX8_setLoudness_X8 : ∀ w ∈ wsX80, w ∈ wsX8_setLoudness := by decide +kernel
set_option maxHeartbeats 4000000 in
set_option maxRecDepth 100000 in
theorem c_X8_setLoudness (l : Launch) (mo : Nat) (S : sS) (tf : Nat → Int32) (tn P : Nat) (C : Nat → sS) (kp : Nat → Bool) (a1 a2 a3 : Int32) (σ : gS) (sz : Nat) (hW : Me σ mo S tf tn P C kp) (hok : okS S) (hokC : ∀ k : Nat, k < P → okS (C k)) : gM l yX8_setLoudness wsX8_setLoudness ({ frames := 2, cells := 0, slots := 0, locals := 43 } : Room) 0 0 [.ref mo, .int a1, .int a2, .int a3] σ sz (gxi (fun r τ n => mP mo σ S tf tn P C kp sz (o_setLoudness S a1 a2 a3) r τ n)) := by
  refine gM_of (cc := cX8_setLoudness) (maxL := 6) (ret := (some .int)) (by decide) rfl (Nat.le_of_ble_eq_true rfl) ?_
  intro D ka lo hL hlo p e s m below meth c hx hb hr hts hown hml hlk hnm hK H locs ls hz hP hS hl
  have hl : lv_has ls 6 [(0, .ref mo), (1, .int a1), (2, .int a2), (3, .int a3)] := hl
  have hown : s.vm.findClass RX8 = some m.cls := hown
  obtain ⟨A, hMo, hA⟩ := hW
  have hR := hA.2.2.1
  have hR0 := hR
  have hP0 := hA.1
  have htn0 := hA.2.1
  have hP5 : P ≤ 5 := hA.2.2.2.2.2.2.2.2
  have htn : tn ≤ 60 := hA.2.2.2.2.2.2.2.1
  obtain ⟨hB, hN, hKs, hRs⟩ := id hok
  have hag : gAs (gZo mo 16) σ σ := gAs.rf
  refine lv_aload_n hx hb dX8_setLoudness_0 rfl (lv_at hl 0 rfl) ?_
  refine lv_iload_n hx hb dX8_setLoudness_1 rfl (lv_at hl 1 rfl) ?_
  refine g_runV (As := [.int a1]) (rest := []) (own := RX8) (C := RX8) (T := TX8) (N := 20) 1 hx hb hml hown hts hK hz hP hL hS hlo hl.1 (c_X8_noBeat l mo A S a1 σ sz hMo hR (by omega)) gX8_setLoudness_X8_noBeat rfl rfl rfl (by decide +kernel) ⟨Nat.le_of_ble_eq_true rfl, Nat.le_of_ble_eq_true rfl⟩ hMo.c0 rfl rfl rfl (Nat.le_of_ble_eq_true rfl) dX8_setLoudness_2 ⟨Nat.le_of_ble_eq_true rfl, Nat.le_of_ble_eq_true rfl⟩ (g_ki0 (fun H locs hz hP hL hS => ?_))
  refine g_ifb_ne (tgt := 16) hx hb dX8_setLoudness_5 (by decide) (fun c5 => ?_) (fun c5 => ?_)
  · have c5 : inN a1 (sB S) = false := by simpa using c5
    refine lv_iconst (v := (-1)) hx hb dX8_setLoudness_16 (by decide) ?_
    exact g_iret (z := sz) hx hb hr hlk hz hP hL hS dX8_setLoudness_17 (gxi_i (mP_n (by unfold o_setLoudness; rw [if_neg (by first | exact c5 | exact nb c5 | exact Ne.symm c5 | exact fun q => q c5 | exact fun q => q c5.symm | omega)]) ⟨_, hMo, hA⟩ rfl hag))
  · have c5 : inN a1 (sB S) = true := by simpa using c5
    obtain ⟨ha1e, ha1l⟩ := tk_in c5 (by omega)
    refine lv_aload_n hx hb dX8_setLoudness_8 rfl (lv_at hl 0 rfl) ?_
    refine lv_iload_n hx hb dX8_setLoudness_9 rfl (lv_at hl 2 rfl) ?_
    refine g_runV (As := [.int a2]) (rest := []) (own := RX8) (C := RX8) (T := TX8) (N := 20) 1 hx hb hml hown hts hK hz hP hL hS hlo hl.1 (c_X8_noBeat l mo A S a2 σ sz hMo hR (by omega)) gX8_setLoudness_X8_noBeat rfl rfl rfl (by decide +kernel) ⟨Nat.le_of_ble_eq_true rfl, Nat.le_of_ble_eq_true rfl⟩ hMo.c0 rfl rfl rfl (Nat.le_of_ble_eq_true rfl) dX8_setLoudness_10 ⟨Nat.le_of_ble_eq_true rfl, Nat.le_of_ble_eq_true rfl⟩ (g_ki0 (fun H locs hz hP hL hS => ?_))
    refine g_ifb_eq (tgt := 18) hx hb dX8_setLoudness_13 (by decide) (fun c13 => ?_) (fun c13 => ?_)
    · have c13 : inN a2 (sB S) = true := by simpa using c13
      obtain ⟨ha2e, ha2l⟩ := tk_in c13 (by omega)
      refine lv_iload_n hx hb dX8_setLoudness_18 rfl (lv_at hl 2 rfl) ?_
      refine g_top (y := (nI (tk a2))) ha2e ?_
      refine lv_iload_n hx hb dX8_setLoudness_19 rfl (lv_at hl 1 rfl) ?_
      refine g_top (y := (nI (tk a1))) ha1e ?_
      refine g_icmp_lt (tgt := 32) (a := tk a2) (b := tk a1) hx hb (by omega) (by omega) dX8_setLoudness_20 (by decide) (fun c20 => ?_) (fun c20 => ?_)
      · refine lv_bipush (v := (-2)) hx hb dX8_setLoudness_32 (by decide) ?_
        exact g_iret (z := sz) hx hb hr hlk hz hP hL hS dX8_setLoudness_34 (gxi_i (mP_n (by unfold o_setLoudness; rw [if_pos (by first | exact c5 | exact nb c5 | exact Ne.symm c5 | exact fun q => q c5 | exact fun q => q c5.symm | omega), if_pos (by first | exact c13 | exact nb c13 | exact Ne.symm c13 | exact fun q => q c13 | exact fun q => q c13.symm | omega), if_neg (by first | exact c20 | exact nb c20 | exact Ne.symm c20 | exact fun q => q c20 | exact fun q => q c20.symm | omega)]) ⟨_, hMo, hA⟩ rfl hag))
      · refine lv_iload_n hx hb dX8_setLoudness_23 rfl (lv_at hl 3 rfl) ?_
        refine lv_iconst (v := (nI 1)) hx hb dX8_setLoudness_24 (by decide) ?_
        refine lv_iconst (v := (nI 5)) hx hb dX8_setLoudness_25 (by decide) ?_
        refine g_runS (As := [.int a3, .int (nI 1), .int (nI 5)]) (rest := []) (own := RX8) 3 hx hb hml hown hts hK hz hP hL hS hlo hl.1 (c_X8_in l a3 ((nI 1)) ((nI 5)) σ sz) gX8_setLoudness_X8_in rfl rfl rfl (by decide +kernel) ⟨Nat.le_of_ble_eq_true rfl, Nat.le_of_ble_eq_true rfl⟩ rfl rfl (Nat.le_of_ble_eq_true rfl) dX8_setLoudness_26 ⟨Nat.le_of_ble_eq_true rfl, Nat.le_of_ble_eq_true rfl⟩ (g_ki0 (fun H locs hz hP hL hS => ?_))
        refine g_ifb_ne (tgt := 35) hx hb dX8_setLoudness_29 (by decide) (fun c29 => ?_) (fun c29 => ?_)
        · refine lv_aload_n hx hb dX8_setLoudness_35 rfl (lv_at hl 0 rfl) ?_
          refine g_runV (As := []) (rest := []) (own := RX8) (C := RX8) (T := TX8) (N := 20) 0 hx hb hml hown hts hK hz hP hL hS hlo hl.1 (c_X8_begin l mo A σ sz hMo) gX8_setLoudness_X8_begin rfl rfl rfl (by decide +kernel) ⟨Nat.le_of_ble_eq_true rfl, Nat.le_of_ble_eq_true rfl⟩ hMo.c0 rfl rfl rfl (Nat.le_of_ble_eq_true rfl) dX8_setLoudness_36 ⟨Nat.le_of_ble_eq_true rfl, Nat.le_of_ble_eq_true rfl⟩ (g_kxv0 (fun τ_1 H locs z1 hz hp hP hL hS => ?_))
          obtain ⟨hz1, ⟨A_1, hm_1, hb_1, hr_1⟩, ha_1⟩ := hp
          have hz := hz.trans hz1
          have hMo := hm_1
          have hag := hag.tr ha_1 (fun q h => h)
          have hR : Rr S (A_1 1) := by rw [hr_1 1 (by decide)]; exact hR
          refine lv_iconst (v := (nI 0)) hx hb dX8_setLoudness_39 (by decide) ?_
          refine lv_istore (lv' := [(4, .int (nI 0)), (0, .ref mo), (1, .int a1), (2, .int a2), (3, .int a3)]) hx hb dX8_setLoudness_40 hl (by decide) rfl (fun ls hl => ?_)
          refine lv_iload_n hx hb dX8_setLoudness_42 rfl (lv_at hl 2 rfl) ?_
          refine g_top (y := (nI (tk a1))) ha1e ?_
          refine lv_istore (lv' := [(5, .int (nI (tk a1))), (4, .int (nI 0)), (0, .ref mo), (1, .int a1), (2, .int a2), (3, .int a3)]) hx hb dX8_setLoudness_43 hl (by decide) rfl (fun ls hl => ?_)
          have lp : ∀ (fu_lp : Nat) (u : Nat), (tk a1 ≤ u) → (u ≤ tk a2 + 1) → (tk a2 + 1 - u < fu_lp) → ∀ (υ : gS), (MoAt υ mo (sRow A_1 1 (filF (A_1 1) (100 + tk a1) (100 + u) a3))) → (gAs (gZo mo 16) σ υ) → gL lo υ → ∀ (H : Heap) (locs : List Loc) (ls : Array Slot), H.size = sz → gH D ka υ H → va_S (gA lo) s.heap H locs → lv_has ls 6 [(0, .ref mo), (1, .int a1), (2, .int a2), (3, .int a3), (4, .int (nI (sndN S (tk a1) (u - tk a1)))), (5, .int (nI u))] → W p l e ({ frames := 2, cells := 0, slots := 0, locals := 43 } : Room) s m ([.ref mo, .int a1, .int a2, .int a3] : List Value).toArray below meth c H locs (0) (0) (MQ below (gQ D ka lo (gxi (fun r τ n => mP mo σ S tf tn P C kp sz (o_setLoudness S a1 a2 a3) r τ n))) ([.ref mo, .int a1, .int a2, .int a3] : List Value).toArray s 0 0 (gA lo)) (F0 m 45 ls []) := by
            intro fu_lp
            induction fu_lp with
            | zero => intro u hu1 hu2 hm_lp; exact absurd hm_lp (Nat.not_lt_zero _)
            | succ fu_lp ih_lp =>
              intro u hu1 hu2 hm_lp υ hMo hag hL H locs ls hz hP hS hl
              have hsl := sndN_le S (tk a1) (u - tk a1)
              refine lv_iload hx hb dX8_setLoudness_45 (lv_at hl 5 rfl) ?_
              refine lv_iload_n hx hb dX8_setLoudness_47 rfl (lv_at hl 2 rfl) ?_
              refine g_top (y := (nI (tk a2))) ha2e ?_
              refine g_icmp_gt (tgt := 87) (a := u) (b := tk a2) hx hb (by omega) (by omega) dX8_setLoudness_48 (by decide) (fun c48 => ?_) (fun c48 => ?_)
              · refine lv_aload_n hx hb dX8_setLoudness_87 rfl (lv_at hl 0 rfl) ?_
                refine lv_iload hx hb dX8_setLoudness_88 (lv_at hl 4 rfl) ?_
                refine g_runV (As := [.int (nI (sndN S (tk a1) (u - tk a1)))]) (rest := []) (own := RX8) (C := RX8) (T := TX8) (N := 20) 1 hx hb hml hown hts hK hz hP hL hS hlo hl.1 (c_X8_done l mo (sRow A_1 1 (filF (A_1 1) (100 + tk a1) (100 + u) a3)) P ((nI (sndN S (tk a1) (u - tk a1)))) υ sz hMo (by first | exact hP0 | (show tN A_1 0 = P; show (A_1 0 0).toNatClampNeg = P; rw [hr_1 0 (by decide)]; exact hP0)) hP5) gX8_setLoudness_X8_done rfl rfl rfl (by decide +kernel) ⟨Nat.le_of_ble_eq_true rfl, Nat.le_of_ble_eq_true rfl⟩ hMo.c0 rfl rfl rfl (Nat.le_of_ble_eq_true rfl) dX8_setLoudness_90 ⟨Nat.le_of_ble_eq_true rfl, Nat.le_of_ble_eq_true rfl⟩ (g_kxi0 (fun r_2 τ_2 H locs z1 hz hp hP hL hS => ?_))
                obtain ⟨hr9_2, hz1, ⟨D_2, hm_2, hd1_2, hd2_2, hd3_2, hd4_2⟩, ha_2⟩ := hp
                have hz := hz.trans hz1
                have hMo := hm_2
                have hag := hag.tr ha_2 (fun q h => h)
                subst hr9_2
                exact g_iret (z := sz) hx hb hr hlk hz hP hL hS dX8_setLoudness_93 (gxi_i (mP_s (by rw [o_setLoudness, if_pos (by first | exact c5 | exact nb c5 | exact Ne.symm c5 | exact fun q => q c5 | exact fun q => q c5.symm | omega), if_pos (by first | exact c13 | exact nb c13 | exact Ne.symm c13 | exact fun q => q c13 | exact fun q => q c13.symm | omega), if_pos (by first | exact c20 | exact nb c20 | exact Ne.symm c20 | exact fun q => q c20 | exact fun q => q c20.symm | omega), if_pos (by first | exact c29 | exact nb c29 | exact Ne.symm c29 | exact fun q => q c29 | exact fun q => q c29.symm | omega), show tk a2 + 1 = u by omega]) ⟨_, hMo, MeP.done hA hok hokC (fun j hj => by first | exact hb_1 j hj | exact hbx j hj) (fun i h1 h2 => (sRow_n (by omega)).trans (hr_1 i (by omega))) (by first | exact hr_1 0 (by decide) | exact h0x) (by rw [sRow_s]; exact hR.setLoud hok (by omega)) hd1_2 hd2_2 hd3_2 hd4_2⟩ rfl hag))
              · refine lv_aload_n hx hb dX8_setLoudness_51 rfl (lv_at hl 0 rfl) ?_
                refine g_get (C := RX8) (T := TX8) (N := 20) hx hb hts hown hK hP hMo.c0 nX8_setLoudness_X8 rfl 0 (by decide) (by decide +kernel) rfl (v := .ref (mo + 1)) rfl dX8_setLoudness_52 ?_
                refine lv_bipush (v := (nI 100)) hx hb dX8_setLoudness_55 (by decide) ?_
                refine lv_iload hx hb dX8_setLoudness_57 (lv_at hl 5 rfl) ?_
                refine lv_iadd hx hb dX8_setLoudness_59 ?_
                refine g_top (nI_add 100 u) ?_
                refine lv_iload_n hx hb dX8_setLoudness_60 rfl (lv_at hl 3 rfl) ?_
                refine g_iast hx hb hK hP hL hS hMo.c1 (i := nI (100 + u)) (vp_in_nI (by omega) (by omega)) dX8_setLoudness_61 (fun H locs hq hP hL hS => ?_)
                rw [nI_clamp (n := 100 + u) (by omega)] at hP hL
                have hz := hq.trans hz
                obtain ⟨σ3, e3⟩ : ∃ υ0 : gS, υ0 = gup υ (mo + 1) (gI 292 (upd ((sRow A_1 1 (filF (A_1 1) (100 + tk a1) (100 + u) a3)) 1) (100 + u) a3)) := ⟨_, rfl⟩
                have hP : gH D ka σ3 H := by rw [e3]; exact hP
                have hL : gL lo σ3 := by rw [e3]; exact hL
                have hMo : MoAt σ3 mo (sRow (sRow A_1 1 (filF (A_1 1) (100 + tk a1) (100 + u) a3)) 1 (upd ((sRow A_1 1 (filF (A_1 1) (100 + tk a1) (100 + u) a3)) 1) (100 + u) a3)) := by rw [e3]; exact hMo.w1 (upd ((sRow A_1 1 (filF (A_1 1) (100 + tk a1) (100 + u) a3)) 1) (100 + u) a3)
                have hag := hag.upe e3 (zo_k (by decide))
                have hMo : MoAt σ3 mo (sRow A_1 1 (filF (A_1 1) (100 + tk a1) (100 + (u + 1)) a3)) := by rw [← lou_s hu1]; exact hMo
                have hR : Rr (louS S (tk a1) (u + 1) a3) ((sRow A_1 1 (filF (A_1 1) (100 + tk a1) (100 + (u + 1)) a3)) 1) := by rw [sRow_s]; exact hR.setLoud hok (by omega)
                have hB9 : sB (louS S (tk a1) (u + 1) a3) = sB S := rfl
                refine lv_iload hx hb dX8_setLoudness_62 (lv_at hl 4 rfl) ?_
                refine lv_aload_n hx hb dX8_setLoudness_64 rfl (lv_at hl 0 rfl) ?_
                refine lv_iload hx hb dX8_setLoudness_65 (lv_at hl 5 rfl) ?_
                refine g_runV (As := [.int (nI u)]) (rest := [.int (nI (sndN S (tk a1) (u - tk a1)))]) (own := RX8) (C := RX8) (T := TX8) (N := 20) 1 hx hb hml hown hts hK hz hP hL hS hlo hl.1 (c_X8_isRest l mo (sRow A_1 1 (filF (A_1 1) (100 + tk a1) (100 + (u + 1)) a3)) (louS S (tk a1) (u + 1) a3) u σ3 sz hMo hR (by omega) (by omega)) gX8_setLoudness_X8_isRest rfl rfl rfl (by decide +kernel) ⟨Nat.le_of_ble_eq_true rfl, Nat.le_of_ble_eq_true rfl⟩ hMo.c0 rfl rfl rfl (Nat.le_of_ble_eq_true rfl) dX8_setLoudness_67 ⟨Nat.le_of_ble_eq_true rfl, Nat.le_of_ble_eq_true rfl⟩ (g_ki0 (fun H locs hz hP hL hS => ?_))
                refine g_ifb_eq (tgt := 77) hx hb dX8_setLoudness_70 (by decide) (fun c70 => ?_) (fun c70 => ?_)
                · refine lv_iconst (v := (nI 1)) hx hb dX8_setLoudness_77 (by decide) ?_
                  refine lv_iadd hx hb dX8_setLoudness_78 ?_
                  refine g_top (nI_add (sndN S (tk a1) (u - tk a1)) 1) ?_
                  refine lv_istore (lv' := [(4, .int (nI ((sndN S (tk a1) (u - tk a1)) + 1))), (0, .ref mo), (1, .int a1), (2, .int a2), (3, .int a3), (5, .int (nI u))]) hx hb dX8_setLoudness_79 hl (by decide) rfl (fun ls hl => ?_)
                  refine lv_iinc (v := (nI (u + 1))) (lv' := [(5, .int (nI (u + 1))), (4, .int (nI ((sndN S (tk a1) (u - tk a1)) + 1))), (0, .ref mo), (1, .int a1), (2, .int a2), (3, .int a3)]) hx hb dX8_setLoudness_81 hl (k := 5) rfl (g_inc u 1) (by decide) rfl (fun ls hl => ?_)
                  refine lv_goto (tgt := 45) hx hb dX8_setLoudness_84 (by decide) ?_
                  have e_4 : (nI ((sndN S (tk a1) (u - tk a1)) + 1)) = (nI (sndN S (tk a1) ((u + 1) - tk a1))) := (by rw [show u + 1 - tk a1 = (u - tk a1) + 1 by omega]; exact congrArg nI (sndN_f (by rw [show tk a1 + (u - tk a1) = u by omega]; exact c70)).symm)
                  have hl := lv_sub hl (l' := [(0, .ref mo), (1, .int a1), (2, .int a2), (3, .int a3), (4, .int (nI ((sndN S (tk a1) (u - tk a1)) + 1))), (5, .int (nI (u + 1)))]) [2, 3, 4, 5, 1, 0] rfl
                  rw [e_4] at hl
                  exact ih_lp (u + 1) (by omega) (by omega) (by omega) σ3 hMo hag hL H locs ls hz hP hS hl
                · refine lv_iconst (v := (nI 0)) hx hb dX8_setLoudness_73 (by decide) ?_
                  refine lv_goto (tgt := 78) hx hb dX8_setLoudness_74 (by decide) ?_
                  refine lv_iadd hx hb dX8_setLoudness_78 ?_
                  refine g_top (nI_add (sndN S (tk a1) (u - tk a1)) 0) ?_
                  refine lv_istore (lv' := [(4, .int (nI ((sndN S (tk a1) (u - tk a1)) + 0))), (0, .ref mo), (1, .int a1), (2, .int a2), (3, .int a3), (5, .int (nI u))]) hx hb dX8_setLoudness_79 hl (by decide) rfl (fun ls hl => ?_)
                  refine lv_iinc (v := (nI (u + 1))) (lv' := [(5, .int (nI (u + 1))), (4, .int (nI ((sndN S (tk a1) (u - tk a1)) + 0))), (0, .ref mo), (1, .int a1), (2, .int a2), (3, .int a3)]) hx hb dX8_setLoudness_81 hl (k := 5) rfl (g_inc u 1) (by decide) rfl (fun ls hl => ?_)
                  refine lv_goto (tgt := 45) hx hb dX8_setLoudness_84 (by decide) ?_
                  have e_4 : (nI ((sndN S (tk a1) (u - tk a1)) + 0)) = (nI (sndN S (tk a1) ((u + 1) - tk a1))) := (by rw [show u + 1 - tk a1 = (u - tk a1) + 1 by omega]; exact congrArg nI (sndN_t (by rw [show tk a1 + (u - tk a1) = u by omega]; exact c70)).symm)
                  have hl := lv_sub hl (l' := [(0, .ref mo), (1, .int a1), (2, .int a2), (3, .int a3), (4, .int (nI ((sndN S (tk a1) (u - tk a1)) + 0))), (5, .int (nI (u + 1)))]) [2, 3, 4, 5, 1, 0] rfl
                  rw [e_4] at hl
                  exact ih_lp (u + 1) (by omega) (by omega) (by omega) σ3 hMo hag hL H locs ls hz hP hS hl
          exact lp _ (tk a1) (Nat.le_refl _) (by omega) (Nat.lt_succ_self _) τ_1 (by rw [filF_0, sRow_id]; exact hMo) hag hL H locs ls hz hP hS (lv_sub hl [2, 3, 4, 5, 1, 0] (by rw [Nat.sub_self]; rfl))
        · refine lv_bipush (v := (-2)) hx hb dX8_setLoudness_32 (by decide) ?_
          exact g_iret (z := sz) hx hb hr hlk hz hP hL hS dX8_setLoudness_34 (gxi_i (mP_n (by unfold o_setLoudness; rw [if_pos (by first | exact c5 | exact nb c5 | exact Ne.symm c5 | exact fun q => q c5 | exact fun q => q c5.symm | omega), if_pos (by first | exact c13 | exact nb c13 | exact Ne.symm c13 | exact fun q => q c13 | exact fun q => q c13.symm | omega), if_pos (by first | exact c20 | exact nb c20 | exact Ne.symm c20 | exact fun q => q c20 | exact fun q => q c20.symm | omega), if_neg (by first | exact c29 | exact nb c29 | exact Ne.symm c29 | exact fun q => q c29 | exact fun q => q c29.symm | omega)]) ⟨_, hMo, hA⟩ rfl hag))
    · have c13 : inN a2 (sB S) = false := by simpa using c13
      refine lv_iconst (v := (-1)) hx hb dX8_setLoudness_16 (by decide) ?_
      exact g_iret (z := sz) hx hb hr hlk hz hP hL hS dX8_setLoudness_17 (gxi_i (mP_n (by unfold o_setLoudness; rw [if_pos (by first | exact c5 | exact nb c5 | exact Ne.symm c5 | exact fun q => q c5 | exact fun q => q c5.symm | omega), if_neg (by first | exact c13 | exact nb c13 | exact Ne.symm c13 | exact fun q => q c13 | exact fun q => q c13.symm | omega)]) ⟨_, hMo, hA⟩ rfl hag))
