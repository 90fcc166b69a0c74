/-! the reference: read -/
theorem nX8_read_X8 : ∀ w ∈ wsX80, w ∈ wsX8_read := by decide +kernel
set_option maxHeartbeats 4000000 in
set_option maxRecDepth 100000 in
theorem c_X8_read (l : Launch) (mo : Nat) (S : sS) (tf : Nat → Int32) (tn P : Nat) (C : Nat → sS) (kp : Nat → Bool) (σ : gS) (sz : Nat) (hW : Me σ mo S tf tn P C kp) (hok : okS S) (hokC : ∀ k : Nat, k < P → okS (C k)) : gM l yX8_read wsX8_read ({ frames := 3, cells := 0, slots := 0, locals := 67 } : Room) 0 0 [.ref mo] σ sz (gxi (fun r τ n => mP mo σ S tf tn P C kp sz (o_read S tf tn) r τ n)) := by
  refine gM_of (cc := cX8_read) (maxL := 5) (ret := (some .int)) (by decide) rfl (Nat.le_of_ble_eq_true rfl) ?_
  intro D ka lo hL hlo p e s m below meth c hx hb hr hts hown hml hlk hnm hK H locs ls hz hP hS hl
  have hl : lv_has ls 5 [(0, .ref mo)] := hl
  have hown : s.vm.findClass RX8 = some m.cls := hown
  obtain ⟨A, hMo, hA⟩ := hW
  have hR := hA.2.2.1
  have hR0 := hR
  have hP0 := hA.1
  have htn0 := hA.2.1
  have hP5 : P ≤ 5 := hA.2.2.2.2.2.2.2.2
  have htn : tn ≤ 60 := hA.2.2.2.2.2.2.2.1
  obtain ⟨hB, hN, hKs, hRs⟩ := id hok
  have hag : gAs (gZo mo 16) σ σ := gAs.rf
  refine lv_aload_n hx hb dX8_read_0 rfl (lv_at hl 0 rfl) ?_
  refine g_runV (As := []) (rest := []) (own := RX8) (C := RX8) (T := TX8) (N := 20) 0 hx hb hml hown hts hK hz hP hL hS hlo hl.1 (c_X8_readText l mo A tf tn σ sz hMo htn0 htn hA.2.2.2.2.2.2.1) gX8_read_X8_readText rfl rfl rfl (by decide +kernel) ⟨Nat.le_of_ble_eq_true rfl, Nat.le_of_ble_eq_true rfl⟩ hMo.c0 rfl rfl rfl (Nat.le_of_ble_eq_true rfl) dX8_read_1 ⟨Nat.le_of_ble_eq_true rfl, Nat.le_of_ble_eq_true rfl⟩ (g_kxi0 (fun r_1 τ_1 H locs z1 hz hp hP hL hS => ?_))
  obtain ⟨hz1, ⟨Q_, hm_1, hrp⟩, ha_1⟩ := hp
  have hz := hz.trans hz1
  have hMo := hm_1
  have hag := hag.tr ha_1 (fun q h => h)
  have hA : MeP Q_ S tf tn P C kp := hA.scr2 hrp.1 (fun j h1 h2 _ => hrp.2.1 j h1 h2)
  have hR := hA.2.2.1
  have hRq := hR
  have hP0 := hA.1
  refine lv_istore_n (lv' := [(1, .int r_1), (0, .ref mo)]) hx hb dX8_read_4 rfl hl (by decide) rfl (fun ls hl => ?_)
  refine lv_iload_n hx hb dX8_read_5 rfl (lv_at hl 0 rfl) ?_
  refine lv_if_lt (tgt := 14) hx hb dX8_read_6 (by decide) (fun c6 => ?_) (fun c6 => ?_)
  · obtain ⟨hf1, hf2, hi60, hsu, ht9, hwr⟩ := hrp.neg c6
    refine lv_aload_n hx hb dX8_read_14 rfl (lv_at hl 1 rfl) ?_
    refine g_runV (As := []) (rest := []) (own := RX8) (C := RX8) (T := TX8) (N := 20) 0 hx hb hml hown hts hK hz hP hL hS hlo hl.1 (c_X8_begin l mo Q_ τ_1 sz hMo) gX8_read_X8_begin rfl rfl rfl (by decide +kernel) ⟨Nat.le_of_ble_eq_true rfl, Nat.le_of_ble_eq_true rfl⟩ hMo.c0 rfl rfl rfl (Nat.le_of_ble_eq_true rfl) dX8_read_15 ⟨Nat.le_of_ble_eq_true rfl, Nat.le_of_ble_eq_true rfl⟩ (g_kxv0 (fun τ_2 H locs z1 hz hp hP hL hS => ?_))
    obtain ⟨hz1, ⟨A_2, hm_2, hb_2, hr_2⟩, ha_2⟩ := hp
    have hz := hz.trans hz1
    have hMo := hm_2
    have hag := hag.tr ha_2 (fun q h => h)
    have hR : Rr S (A_2 1) := by rw [hr_2 1 (by decide)]; exact hR
    have hrw : RdW A_2 A_2 (apA (Q_ 7) (Q_ 8) (Q_ 9) 0 (clearS S)) := ⟨fun j hj => rfl, fun x hx => rfl, fun b hb2 => absurd hb2 (by rw [show sB (apA (Q_ 7) (Q_ 8) (Q_ 9) 0 (clearS S)) = 0 from rfl]; exact Nat.not_lt_zero b)⟩
    refine lv_iconst (v := (nI 0)) hx hb dX8_read_18 (by decide) ?_
    refine lv_istore_n (lv' := [(2, .int (nI 0)), (1, .int r_1), (0, .ref mo)]) hx hb dX8_read_19 rfl hl (by decide) rfl (fun ls hl => ?_)
    refine lv_iconst (v := (nI 0)) hx hb dX8_read_20 (by decide) ?_
    refine lv_istore_n (lv' := [(3, .int (nI 0)), (2, .int (nI 0)), (1, .int r_1), (0, .ref mo)]) hx hb dX8_read_21 rfl hl (by decide) rfl (fun ls hl => ?_)
    have lp : ∀ (fu_lp : Nat) (k : Nat), (k ≤ tN Q_ 3) → (tN Q_ 3 - k < fu_lp) → ∀ (υ : gS), (∃ A2 : sS, MoAt υ mo A2 ∧ RdW A_2 A2 (apA (Q_ 7) (Q_ 8) (Q_ 9) k (clearS S))) → (gAs (gZo mo 16) σ υ) → gL lo υ → ∀ (H : Heap) (locs : List Loc) (ls : Array Slot), H.size = sz → gH D ka υ H → va_S (gA lo) s.heap H locs → lv_has ls 5 [(0, .ref mo), (1, .int r_1), (2, .int (nI (suF (fun j => tk (Q_ 9 j)) k))), (3, .int (nI k))] → W p l e ({ frames := 3, cells := 0, slots := 0, locals := 67 } : Room) s m ([.ref mo] : List Value).toArray below meth c H locs (0) (0) (MQ below (gQ D ka lo (gxi (fun r τ n => mP mo σ S tf tn P C kp sz (o_read S tf tn) r τ n))) ([.ref mo] : List Value).toArray s 0 0 (gA lo)) (F0 m 22 ls []) := by
      intro fu_lp
      induction fu_lp with
      | zero => intro k hk9 hm_lp; exact absurd hm_lp (Nat.not_lt_zero _)
      | succ fu_lp ih_lp =>
        intro k hk9 hm_lp υ hEx hag hL H locs ls hz hP hS hl
        obtain ⟨W3, hMo, hrw⟩ := hEx
        have hq9 : ∀ j : Nat, j ≠ 1 → j ≠ 2 → W3 j = Q_ j := fun j h1 h2 => (hrw.1 j h1).trans (hr_2 j h2)
        have hs60 : suF (fun j => tk (Q_ 9 j)) k ≤ 96 := Nat.le_trans (suF_mono hk9) hsu
        refine lv_iload_n hx hb dX8_read_22 rfl (lv_at hl 3 rfl) ?_
        refine lv_aload_n hx hb dX8_read_23 rfl (lv_at hl 0 rfl) ?_
        refine g_get (C := RX8) (T := TX8) (N := 20) hx hb hts hown hK hP hMo.c0 nX8_read_X8 rfl 12 (by decide) (by decide +kernel) rfl (v := .int (nI (tN W3 3))) rfl dX8_read_24 ?_
        refine g_top (y := (nI (tN Q_ 3))) (by show nI (tN W3 3) = nI (tN Q_ 3); show nI ((W3 0 3).toNatClampNeg) = _; rw [hq9 0 (by decide) (by decide)]) ?_
        refine g_icmp_ge (tgt := 88) (a := k) (b := tN Q_ 3) hx hb (by omega) (by omega) dX8_read_27 (by decide) (fun c27 => ?_) (fun c27 => ?_)
        · have hkk : k = tN Q_ 3 := by omega
          have hVe : wrF tf tn 60 0 (clearS S) = apA (Q_ 7) (Q_ 8) (Q_ 9) k (clearS S) := by rw [hwr (clearS S), hkk]
          have hapB : sB (wrF tf tn 60 0 (clearS S)) = suF (fun j => tk (Q_ 9 j)) k := by rw [hVe]; exact apA_B _ _ _ _ rfl k (by omega)
          refine lv_aload_n hx hb dX8_read_88 rfl (lv_at hl 0 rfl) ?_
          refine g_get (C := RX8) (T := TX8) (N := 20) hx hb hts hown hK hP hMo.c0 nX8_read_X8 rfl 0 (by decide) (by decide +kernel) rfl (v := .ref (mo + 1)) rfl dX8_read_89 ?_
          refine lv_iconst (v := (nI 0)) hx hb dX8_read_92 (by decide) ?_
          refine lv_iload_n hx hb dX8_read_93 rfl (lv_at hl 2 rfl) ?_
          refine g_iast hx hb hK hP hL hS hMo.c1 (i := nI 0) (vp_in_nI (by omega) (by omega)) dX8_read_94 (fun H locs hq hP hL hS => ?_)
          rw [nI_clamp (n := 0) (by omega)] at hP hL
          have hz := hq.trans hz
          obtain ⟨σ4, e4⟩ : ∃ υ0 : gS, υ0 = gup υ (mo + 1) (gI 292 (upd (W3 1) 0 ((nI (suF (fun j => tk (Q_ 9 j)) k))))) := ⟨_, rfl⟩
          have hP : gH D ka σ4 H := by rw [e4]; exact hP
          have hL : gL lo σ4 := by rw [e4]; exact hL
          have hMo : MoAt σ4 mo (sRow W3 1 (upd (W3 1) 0 ((nI (suF (fun j => tk (Q_ 9 j)) k))))) := by rw [e4]; exact hMo.w1 (upd (W3 1) 0 ((nI (suF (fun j => tk (Q_ 9 j)) k))))
          have hag := hag.upe e4 (zo_k (by decide))
          refine lv_aload_n hx hb dX8_read_95 rfl (lv_at hl 0 rfl) ?_
          refine g_get (C := RX8) (T := TX8) (N := 20) hx hb hts hown hK hP hMo.c0 nX8_read_X8 rfl 0 (by decide) (by decide +kernel) rfl (v := .ref (mo + 1)) rfl dX8_read_96 ?_
          refine lv_iconst (v := (nI 2)) hx hb dX8_read_99 (by decide) ?_
          refine lv_iconst (v := (nI 0)) hx hb dX8_read_100 (by decide) ?_
          refine g_iast hx hb hK hP hL hS hMo.c1 (i := nI 2) (vp_in_nI (by omega) (by omega)) dX8_read_101 (fun H locs hq hP hL hS => ?_)
          rw [nI_clamp (n := 2) (by omega)] at hP hL
          have hz := hq.trans hz
          obtain ⟨σ5, e5⟩ : ∃ υ0 : gS, υ0 = gup σ4 (mo + 1) (gI 292 (upd ((sRow W3 1 (upd (W3 1) 0 ((nI (suF (fun j => tk (Q_ 9 j)) k))))) 1) 2 ((nI 0)))) := ⟨_, rfl⟩
          have hP : gH D ka σ5 H := by rw [e5]; exact hP
          have hL : gL lo σ5 := by rw [e5]; exact hL
          have hMo : MoAt σ5 mo (sRow (sRow W3 1 (upd (W3 1) 0 ((nI (suF (fun j => tk (Q_ 9 j)) k))))) 1 (upd ((sRow W3 1 (upd (W3 1) 0 ((nI (suF (fun j => tk (Q_ 9 j)) k))))) 1) 2 ((nI 0)))) := by rw [e5]; exact hMo.w1 (upd ((sRow W3 1 (upd (W3 1) 0 ((nI (suF (fun j => tk (Q_ 9 j)) k))))) 1) 2 ((nI 0)))
          have hag := hag.upe e5 (zo_k (by decide))
          refine lv_aload_n hx hb dX8_read_102 rfl (lv_at hl 0 rfl) ?_
          refine g_runV (As := []) (rest := []) (own := RX8) (C := RX8) (T := TX8) (N := 20) 0 hx hb hml hown hts hK hz hP hL hS hlo hl.1 (c_X8_clearMarks l mo (sRow (sRow W3 1 (upd (W3 1) 0 ((nI (suF (fun j => tk (Q_ 9 j)) k))))) 1 (upd ((sRow W3 1 (upd (W3 1) 0 ((nI (suF (fun j => tk (Q_ 9 j)) k))))) 1) 2 ((nI 0)))) σ5 sz hMo) gX8_read_X8_clearMarks rfl rfl rfl (by decide +kernel) ⟨Nat.le_of_ble_eq_true rfl, Nat.le_of_ble_eq_true rfl⟩ hMo.c0 rfl rfl rfl (Nat.le_of_ble_eq_true rfl) dX8_read_103 ⟨Nat.le_of_ble_eq_true rfl, Nat.le_of_ble_eq_true rfl⟩ (g_kxv0 (fun τ_6 H locs z1 hz hp hP hL hS => ?_))
          obtain ⟨hz1, hm_6, ha_6⟩ := hp
          have hz := hz.trans hz1
          have hMo := hm_6
          have hag := hag.tr ha_6 (fun q h => h)
          obtain ⟨A3, hMo, hA3r, hA31⟩ : ∃ A3 : sS, MoAt τ_6 mo A3 ∧ (∀ i : Nat, i ≠ 1 → A3 i = W3 i) ∧ A3 1 = filF (upd (upd (W3 1) 0 (nI (suF (fun j => tk (Q_ 9 j)) k))) 2 (nI 0)) 232 268 0 := ⟨_, hMo, fun i hi => (sRow_n hi).trans ((sRow_n hi).trans (sRow_n hi)), by rw [sRow_s, sRow_s, sRow_s]⟩
          have hbx : ∀ j : Nat, j < 292 → A3 2 j = Q_ 1 j := fun j hj => by rw [hA3r 2 (by decide), hrw.1 2 (by decide)]; exact hb_2 j hj
          have hkx : ∀ i : Nat, 3 ≤ i → A3 i = Q_ i := fun i hi => (hA3r i (by omega)).trans (hq9 i (by omega) (by omega))
          have h0x : A3 0 = Q_ 0 := (hA3r 0 (by decide)).trans (hq9 0 (by decide) (by decide))
          have hP0 : tN A3 0 = P := by show (A3 0 0).toNatClampNeg = P; rw [h0x]; exact hP0
          have ho1 : ∀ x : Nat, x ≠ 0 → x ≠ 2 → (x < 232 ∨ 268 ≤ x) → A3 1 x = W3 1 x := fun x h1 h2 h3 => by rw [hA31, filF_out h3, upd_n h2, upd_n h1]
          have hr1 : A_2 1 = Q_ 1 := hr_2 1 (by decide)
          have hRv : Rr (wrF tf tn 60 0 (clearS S)) (A3 1) := by
            refine hRq.readN hok (by rw [hapB]; exact hs60) (fun j h1 h2 => by rw [hVe]; exact apA_o _ _ _ _ h1 h2 k) (fun j h1 => by rw [hVe]; exact apA_8 _ _ _ _ h1 k) ?_ ?_ ?_ ?_ (fun b hb2 => ?_) (fun x h1 h2 => ?_) (fun x h1 h2 => ?_)
            · rw [hapB, hA31, filF_out (by omega), upd_n (by omega), upd_s]
            · rw [ho1 1 (by decide) (by decide) (by omega), hrw.2.1 1 (by omega), hr1]
            · rw [hA31, filF_out (by omega), upd_s]
            · rw [ho1 3 (by decide) (by decide) (by omega), hrw.2.1 3 (by omega), hr1]
            · have hb3 := hb2
              rw [hapB] at hb3
              rw [ho1 _ (by omega) (by omega) (by omega), ho1 _ (by omega) (by omega) (by omega)]
              rw [hVe] at hb2 ⊢
              exact hrw.2.2 b hb2
            · rw [ho1 _ (by omega) (by omega) (by omega), hrw.2.1 x (by omega), hr1]
            · rw [hA31, filF_in (by omega)]
          refine lv_aload_n hx hb dX8_read_106 rfl (lv_at hl 0 rfl) ?_
          refine lv_iload_n hx hb dX8_read_107 rfl (lv_at hl 2 rfl) ?_
          refine g_runV (As := [.int (nI (suF (fun j => tk (Q_ 9 j)) k))]) (rest := []) (own := RX8) (C := RX8) (T := TX8) (N := 20) 1 hx hb hml hown hts hK hz hP hL hS hlo hl.1 (c_X8_done l mo A3 P ((nI (suF (fun j => tk (Q_ 9 j)) k))) τ_6 sz hMo (by first | exact hP0 | (show tN A_2 0 = P; show (A_2 0 0).toNatClampNeg = P; rw [hr_2 0 (by decide)]; exact hP0)) hP5) gX8_read_X8_done rfl rfl rfl (by decide +kernel) ⟨Nat.le_of_ble_eq_true rfl, Nat.le_of_ble_eq_true rfl⟩ hMo.c0 rfl rfl rfl (Nat.le_of_ble_eq_true rfl) dX8_read_108 ⟨Nat.le_of_ble_eq_true rfl, Nat.le_of_ble_eq_true rfl⟩ (g_kxi0 (fun r_7 τ_7 H locs z1 hz hp hP hL hS => ?_))
          obtain ⟨hr9_7, hz1, ⟨D_7, hm_7, hd1_7, hd2_7, hd3_7, hd4_7⟩, ha_7⟩ := hp
          have hz := hz.trans hz1
          have hMo := hm_7
          have hag := hag.tr ha_7 (fun q h => h)
          subst hr9_7
          exact g_iret (z := sz) hx hb hr hlk hz hP hL hS dX8_read_111 (gxi_i (mP_s (by rw [o_read, if_pos (by rw [hf2]; decide), hapB]) ⟨_, hMo, MeP.done hA hok hokC (fun j hj => by first | exact hb_2 j hj | exact hbx j hj) (fun i h1 h2 => hkx i h1) (by first | exact hr_2 0 (by decide) | exact h0x) hRv hd1_7 hd2_7 hd3_7 hd4_7⟩ rfl hag))
        · obtain ⟨t9, ht9a, ht9b, ht9c⟩ := ht9 k (by omega)
          have ht9d : tk (Q_ 9 k) = t9 := by rw [ht9a]; exact tk_n (by omega)
          have hsk : suF (fun j => tk (Q_ 9 j)) (k + 1) = suF (fun j => tk (Q_ 9 j)) k + tk (Q_ 9 k) := rfl
          have hsk2 : suF (fun j => tk (Q_ 9 j)) (k + 1) ≤ 96 := Nat.le_trans (suF_mono (by omega)) hsu
          have hapB : sB (apA (Q_ 7) (Q_ 8) (Q_ 9) k (clearS S)) = suF (fun j => tk (Q_ 9 j)) k := apA_B _ _ _ _ rfl k (by omega)
          refine lv_iconst (v := (nI 0)) hx hb dX8_read_30 (by decide) ?_
          refine lv_istore (lv' := [(4, .int (nI 0)), (0, .ref mo), (1, .int r_1), (2, .int (nI (suF (fun j => tk (Q_ 9 j)) k))), (3, .int (nI k))]) hx hb dX8_read_31 hl (by decide) rfl (fun ls hl => ?_)
          have lq : ∀ (fu_lq : Nat) (i : Nat), (i ≤ tk (Q_ 9 k)) → (tk (Q_ 9 k) - i < fu_lq) → ∀ (υ : gS), (∃ A2 : sS, MoAt υ mo A2 ∧ RdW A_2 A2 (appF (apA (Q_ 7) (Q_ 8) (Q_ 9) k (clearS S)) (Q_ 7 k) (Q_ 8 k) i)) → (gAs (gZo mo 16) σ υ) → gL lo υ → ∀ (H : Heap) (locs : List Loc) (ls : Array Slot), H.size = sz → gH D ka υ H → va_S (gA lo) s.heap H locs → lv_has ls 5 [(0, .ref mo), (1, .int r_1), (2, .int (nI (suF (fun j => tk (Q_ 9 j)) k + i))), (3, .int (nI k)), (4, .int (nI i))] → W p l e ({ frames := 3, cells := 0, slots := 0, locals := 67 } : Room) s m ([.ref mo] : List Value).toArray below meth c H locs (0) (0) (MQ below (gQ D ka lo (gxi (fun r τ n => mP mo σ S tf tn P C kp sz (o_read S tf tn) r τ n))) ([.ref mo] : List Value).toArray s 0 0 (gA lo)) (F0 m 33 ls []) := by
            intro fu_lq
            induction fu_lq with
            | zero => intro i hi9 hm_lq; exact absurd hm_lq (Nat.not_lt_zero _)
            | succ fu_lq ih_lq =>
              intro i hi9 hm_lq υ hEx hag hL H locs ls hz hP hS hl
              obtain ⟨W8, hMo, hrw⟩ := hEx
              have hq9 : ∀ j : Nat, j ≠ 1 → j ≠ 2 → W8 j = Q_ j := fun j h1 h2 => (hrw.1 j h1).trans (hr_2 j h2)
              have hs60 : suF (fun j => tk (Q_ 9 j)) k ≤ 96 := Nat.le_trans (suF_mono hk9) hsu
              refine lv_iload hx hb dX8_read_33 (lv_at hl 4 rfl) ?_
              refine lv_aload_n hx hb dX8_read_35 rfl (lv_at hl 0 rfl) ?_
              refine g_get (C := RX8) (T := TX8) (N := 20) hx hb hts hown hK hP hMo.c0 nX8_read_X8 rfl 11 (by decide) (by decide +kernel) rfl (v := .ref (mo + 9)) rfl dX8_read_36 ?_
              refine lv_iload_n hx hb dX8_read_39 rfl (lv_at hl 3 rfl) ?_
              refine g_iald hx hb hK hP hMo.c9 (i := nI k) (vp_in_nI (by omega) (by omega)) dX8_read_40 ?_
              rw [nI_clamp (n := k) (by omega)]
              refine g_top (y := (nI (tk (Q_ 9 k)))) (by rw [hq9 9 (by decide) (by decide), ht9d]; exact ht9a) ?_
              refine g_icmp_ge (tgt := 82) (a := i) (b := tk (Q_ 9 k)) hx hb (by omega) (by omega) dX8_read_41 (by decide) (fun c41 => ?_) (fun c41 => ?_)
              · refine lv_iinc (v := (nI (k + 1))) (lv' := [(3, .int (nI (k + 1))), (0, .ref mo), (1, .int r_1), (2, .int (nI (suF (fun j => tk (Q_ 9 j)) k + i))), (4, .int (nI i))]) hx hb dX8_read_82 hl (k := 3) rfl (g_inc k 1) (by decide) rfl (fun ls hl => ?_)
                refine lv_goto (tgt := 22) hx hb dX8_read_85 (by decide) ?_
                have e_2 : (nI (suF (fun j => tk (Q_ 9 j)) k + i)) = (nI (suF (fun j => tk (Q_ 9 j)) (k + 1))) := (congrArg nI (by rw [suF]; omega))
                have hl := lv_sub hl (l' := [(0, .ref mo), (1, .int r_1), (2, .int (nI (suF (fun j => tk (Q_ 9 j)) k + i))), (3, .int (nI (k + 1)))]) [1, 2, 3, 0] rfl
                rw [e_2] at hl
                exact ih_lp (k + 1) (by omega) (by omega) υ ⟨_, hMo, (by rw [show i = tk (Q_ 9 k) by omega] at hrw; exact hrw)⟩ hag hL H locs ls hz hP hS hl
              · have hbB : sB (appF (apA (Q_ 7) (Q_ 8) (Q_ 9) k (clearS S)) (Q_ 7 k) (Q_ 8 k) i) = suF (fun j => tk (Q_ 9 j)) k + i := by rw [appF_B _ _ _ _ (by omega), hapB]
                refine lv_aload_n hx hb dX8_read_44 rfl (lv_at hl 0 rfl) ?_
                refine g_get (C := RX8) (T := TX8) (N := 20) hx hb hts hown hK hP hMo.c0 nX8_read_X8 rfl 0 (by decide) (by decide +kernel) rfl (v := .ref (mo + 1)) rfl dX8_read_45 ?_
                refine lv_iconst (v := (nI 4)) hx hb dX8_read_48 (by decide) ?_
                refine lv_iload_n hx hb dX8_read_49 rfl (lv_at hl 2 rfl) ?_
                refine lv_iadd hx hb dX8_read_50 ?_
                refine g_top (nI_add 4 (suF (fun j => tk (Q_ 9 j)) k + i)) ?_
                refine lv_aload_n hx hb dX8_read_51 rfl (lv_at hl 0 rfl) ?_
                refine g_get (C := RX8) (T := TX8) (N := 20) hx hb hts hown hK hP hMo.c0 nX8_read_X8 rfl 9 (by decide) (by decide +kernel) rfl (v := .ref (mo + 7)) rfl dX8_read_52 ?_
                refine lv_iload_n hx hb dX8_read_55 rfl (lv_at hl 3 rfl) ?_
                refine g_iald hx hb hK hP hMo.c7 (i := nI k) (vp_in_nI (by omega) (by omega)) dX8_read_56 ?_
                rw [nI_clamp (n := k) (by omega)]
                refine g_top (y := (Q_ 7 k)) (by rw [hq9 7 (by decide) (by decide)]) ?_
                refine g_iast hx hb hK hP hL hS hMo.c1 (i := nI (4 + (suF (fun j => tk (Q_ 9 j)) k + i))) (vp_in_nI (by omega) (by omega)) dX8_read_57 (fun H locs hq hP hL hS => ?_)
                rw [nI_clamp (n := 4 + (suF (fun j => tk (Q_ 9 j)) k + i)) (by omega)] at hP hL
                have hz := hq.trans hz
                obtain ⟨σ9, e9⟩ : ∃ υ0 : gS, υ0 = gup υ (mo + 1) (gI 292 (upd (W8 1) (4 + (suF (fun j => tk (Q_ 9 j)) k + i)) ((Q_ 7 k)))) := ⟨_, rfl⟩
                have hP : gH D ka σ9 H := by rw [e9]; exact hP
                have hL : gL lo σ9 := by rw [e9]; exact hL
                have hMo : MoAt σ9 mo (sRow W8 1 (upd (W8 1) (4 + (suF (fun j => tk (Q_ 9 j)) k + i)) ((Q_ 7 k)))) := by rw [e9]; exact hMo.w1 (upd (W8 1) (4 + (suF (fun j => tk (Q_ 9 j)) k + i)) ((Q_ 7 k)))
                have hag := hag.upe e9 (zo_k (by decide))
                refine lv_aload_n hx hb dX8_read_58 rfl (lv_at hl 0 rfl) ?_
                refine g_get (C := RX8) (T := TX8) (N := 20) hx hb hts hown hK hP hMo.c0 nX8_read_X8 rfl 0 (by decide) (by decide +kernel) rfl (v := .ref (mo + 1)) rfl dX8_read_59 ?_
                refine lv_bipush (v := (nI 100)) hx hb dX8_read_62 (by decide) ?_
                refine lv_iload_n hx hb dX8_read_64 rfl (lv_at hl 2 rfl) ?_
                refine lv_iadd hx hb dX8_read_65 ?_
                refine g_top (nI_add 100 (suF (fun j => tk (Q_ 9 j)) k + i)) ?_
                refine lv_aload_n hx hb dX8_read_66 rfl (lv_at hl 0 rfl) ?_
                refine g_get (C := RX8) (T := TX8) (N := 20) hx hb hts hown hK hP hMo.c0 nX8_read_X8 rfl 10 (by decide) (by decide +kernel) rfl (v := .ref (mo + 8)) rfl dX8_read_67 ?_
                refine lv_iload_n hx hb dX8_read_70 rfl (lv_at hl 3 rfl) ?_
                refine g_iald hx hb hK hP hMo.c8 (i := nI k) (vp_in_nI (by omega) (by omega)) dX8_read_71 ?_
                rw [nI_clamp (n := k) (by omega)]
                refine g_top (y := (Q_ 8 k)) (by rw [sRow_n (by decide), hq9 8 (by decide) (by decide)]) ?_
                refine g_iast hx hb hK hP hL hS hMo.c1 (i := nI (100 + (suF (fun j => tk (Q_ 9 j)) k + i))) (vp_in_nI (by omega) (by omega)) dX8_read_72 (fun H locs hq hP hL hS => ?_)
                rw [nI_clamp (n := 100 + (suF (fun j => tk (Q_ 9 j)) k + i)) (by omega)] at hP hL
                have hz := hq.trans hz
                obtain ⟨σ10, e10⟩ : ∃ υ0 : gS, υ0 = gup σ9 (mo + 1) (gI 292 (upd ((sRow W8 1 (upd (W8 1) (4 + (suF (fun j => tk (Q_ 9 j)) k + i)) ((Q_ 7 k)))) 1) (100 + (suF (fun j => tk (Q_ 9 j)) k + i)) ((Q_ 8 k)))) := ⟨_, rfl⟩
                have hP : gH D ka σ10 H := by rw [e10]; exact hP
                have hL : gL lo σ10 := by rw [e10]; exact hL
                have hMo : MoAt σ10 mo (sRow (sRow W8 1 (upd (W8 1) (4 + (suF (fun j => tk (Q_ 9 j)) k + i)) ((Q_ 7 k)))) 1 (upd ((sRow W8 1 (upd (W8 1) (4 + (suF (fun j => tk (Q_ 9 j)) k + i)) ((Q_ 7 k)))) 1) (100 + (suF (fun j => tk (Q_ 9 j)) k + i)) ((Q_ 8 k)))) := by rw [e10]; exact hMo.w1 (upd ((sRow W8 1 (upd (W8 1) (4 + (suF (fun j => tk (Q_ 9 j)) k + i)) ((Q_ 7 k)))) 1) (100 + (suF (fun j => tk (Q_ 9 j)) k + i)) ((Q_ 8 k)))
                have hag := hag.upe e10 (zo_k (by decide))
                refine lv_iinc (v := (nI (suF (fun j => tk (Q_ 9 j)) k + i + 1))) (lv' := [(2, .int (nI (suF (fun j => tk (Q_ 9 j)) k + i + 1))), (0, .ref mo), (1, .int r_1), (3, .int (nI k)), (4, .int (nI i))]) hx hb dX8_read_73 hl (k := 2) rfl (g_inc (suF (fun j => tk (Q_ 9 j)) k + i) 1) (by decide) rfl (fun ls hl => ?_)
                refine lv_iinc (v := (nI (i + 1))) (lv' := [(4, .int (nI (i + 1))), (2, .int (nI (suF (fun j => tk (Q_ 9 j)) k + i + 1))), (0, .ref mo), (1, .int r_1), (3, .int (nI k))]) hx hb dX8_read_76 hl (k := 4) rfl (g_inc i 1) (by decide) rfl (fun ls hl => ?_)
                refine lv_goto (tgt := 33) hx hb dX8_read_79 (by decide) ?_
                exact ih_lq (i + 1) (by omega) (by omega) σ10 ⟨_, hMo, hrw.step hbB (by omega)⟩ hag hL H locs ls hz hP hS (lv_sub hl [2, 3, 1, 4, 0] rfl)
          exact lq _ 0 (by omega) (Nat.lt_succ_self _) υ ⟨_, hMo, hrw⟩ hag hL H locs ls hz hP hS (lv_sub hl [1, 2, 3, 4, 0] rfl)
    exact lp _ 0 (by omega) (Nat.lt_succ_self _) τ_2 ⟨_, hMo, hrw⟩ hag hL H locs ls hz hP hS (lv_sub hl [3, 2, 1, 0] rfl)
  · refine lv_bipush (v := (-100)) hx hb dX8_read_9 (by decide) ?_
    refine lv_iload_n hx hb dX8_read_11 rfl (lv_at hl 0 rfl) ?_
    refine lv_isub hx hb dX8_read_12 ?_
    exact g_iret (z := sz) hx hb hr hlk hz hP hL hS dX8_read_13 (gxi_i (mP_n (by rw [o_read, if_neg (by rw [← hrp.pos c6]; exact c6), ← hrp.pos c6]) ⟨_, hMo, hA⟩ rfl hag))
