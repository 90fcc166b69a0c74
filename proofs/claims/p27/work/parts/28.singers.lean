set_option maxHeartbeats 4000000 in
set_option maxRecDepth 100000 in
theorem c_L_singers (l : Launch) (o b : Nat) (S : sS) (tf : Nat → Int32) (tn P : Nat) (C : Nat → sS) (kp : Nat → Bool) (zp : Nat) (σ : gS) (sz : Nat) (hW : Wo σ o b S tf tn P C kp zp) (hY : okY S) (hzp : zp ≤ sz) : gM l yL_singers wsL_singers ({ frames := 7, cells := 0, slots := 0, locals := 162 } : Room) 0 0 [.ref o] σ sz (gxi (fun r τ n => r = nI 1 ∧ Wo τ o b S tf tn P C kp zp ∧ n = sz ∧ gAs (gZo o 39) σ τ)) := by
  refine gM_of (cc := cL_singers) (maxL := 18) (ret := (some .boolean)) (by decide) rfl (Nat.le_of_ble_eq_true rfl) ?_
  intro D ka lo hL hlo p e s m below meth c hx hb hr hts hown hml hlk hnm hK H locs ls hz hP hS hl
  have hl : lv_has ls 18 [(0, .ref o)] := hl
  have hown : s.vm.findClass RL = some m.cls := hown
  have hoz := hW.oz
  obtain ⟨⟨hB, hN, hKs, hRs⟩, -⟩ := id hY.1
  have hag : gAs (gZo o 39) σ σ := gAs.rf
  refine lv_iconst (v := (nI 0)) hx hb dL_singers_0 (by decide) ?_
  refine lv_istore_n (lv' := [(1, .int (nI 0)), (0, .ref o)]) hx hb dL_singers_1 rfl hl (by decide) rfl (fun ls hl => ?_)
  refine lv_iconst (v := (nI 0)) hx hb dL_singers_2 (by decide) ?_
  refine lv_istore_n (lv' := [(2, .int (nI 0)), (1, .int (nI 0)), (0, .ref o)]) hx hb dL_singers_3 rfl hl (by decide) rfl (fun ls hl => ?_)
  refine lv_iconst (v := (nI 0)) hx hb dL_singers_4 (by decide) ?_
  refine lv_istore_n (lv' := [(3, .int (nI 0)), (2, .int (nI 0)), (1, .int (nI 0)), (0, .ref o)]) hx hb dL_singers_5 rfl hl (by decide) rfl (fun ls hl => ?_)
  have lpA : ∀ (fu_lpA : Nat) (i : Nat), (i ≤ sN S) → (sN S - i < fu_lpA) → ∀ (υ : gS), (Wo υ o b S tf tn P C kp zp) → (gAs (gZo o 39) σ υ) → gL lo υ → ∀ (H : Heap) (locs : List Loc) (ls : Array Slot), H.size = sz → gH D ka υ H → va_S (gA lo) s.heap H locs → lv_has ls 18 [(0, .ref o), (1, .int (nI (cntF (presB S) i))), (2, .int (nI (suF (fun x => cntF (markB S x) (sB S)) i))), (3, .int (nI i))] → W p l e ({ frames := 7, cells := 0, slots := 0, locals := 162 } : Room) s m ([.ref o] : List Value).toArray below meth c H locs (0) (0) (MQ below (gQ D ka lo (gxi (fun r τ n => r = nI 1 ∧ Wo τ o b S tf tn P C kp zp ∧ n = sz ∧ gAs (gZo o 39) σ τ))) ([.ref o] : List Value).toArray s 0 0 (gA lo)) (F0 m 6 ls []) := by
    intro fu_lpA
    induction fu_lpA with
    | zero => intro i hi hm_lpA; exact absurd hm_lpA (Nat.not_lt_zero _)
    | succ fu_lpA ih_lpA =>
      intro i hi hm_lpA υ hW hag hL H locs ls hz hP hS hl
      refine lv_iload_n hx hb dL_singers_6 rfl (lv_at hl 3 rfl) ?_
      refine lv_aload_n hx hb dL_singers_7 rfl (lv_at hl 0 rfl) ?_
      refine lv_iconst (v := (nI 3)) hx hb dL_singers_8 (by decide) ?_
      refine g_runV (As := [.int (nI 3)]) (rest := [.int (nI i)]) (own := RL) (C := RX7) (T := TX7) (N := 7) 1 hx hb hml hown hts hK hz hP hL hS hlo hl.1 (c_X7_count l o b S tf tn P C kp zp ((nI 3))  υ sz hW hY.1.1 ) gL_singers_X7_count rfl rfl rfl (by decide +kernel) ⟨Nat.le_of_ble_eq_true rfl, Nat.le_of_ble_eq_true rfl⟩ hW.c0 rfl rfl rfl (Nat.le_of_ble_eq_true rfl) dL_singers_9 ⟨Nat.le_of_ble_eq_true rfl, Nat.le_of_ble_eq_true rfl⟩ (g_kxi0 (fun r_1 τ_1 H locs z_1 hz hp hP hL hS => ?_))
      obtain ⟨hr_1, hW, hz_1, ha_1⟩ := hp
      have hz := hz.trans hz_1
      subst hr_1
      have hag := hag.tr ha_1 (fun q h => h)
      refine g_top (y := (nI (sN S))) yc_3 ?_
      refine g_icmp_ge (tgt := 432) (a := i) (b := sN S) hx hb (by omega) (by omega) dL_singers_12 (by decide) (fun c12 => ?_) (fun c12 => ?_)
      · have hie : i = sN S := by omega
        rw [hie] at hl
        refine lv_aload_n hx hb dL_singers_432 rfl (lv_at hl 0 rfl) ?_
        refine lv_iconst (v := (nI 4)) hx hb dL_singers_433 (by decide) ?_
        refine g_runV (As := [.int (nI 4)]) (rest := []) (own := RL) (C := RX7) (T := TX7) (N := 7) 1 hx hb hml hown hts hK hz hP hL hS hlo hl.1 (c_X7_count l o b S tf tn P C kp zp ((nI 4))  τ_1 sz hW hY.1.1 ) gL_singers_X7_count rfl rfl rfl (by decide +kernel) ⟨Nat.le_of_ble_eq_true rfl, Nat.le_of_ble_eq_true rfl⟩ hW.c0 rfl rfl rfl (Nat.le_of_ble_eq_true rfl) dL_singers_434 ⟨Nat.le_of_ble_eq_true rfl, Nat.le_of_ble_eq_true rfl⟩ (g_kxi0 (fun r_2 τ_2 H locs z_2 hz hp hP hL hS => ?_))
        obtain ⟨hr_2, hW, hz_2, ha_2⟩ := hp
        have hz := hz.trans hz_2
        subst hr_2
        have hag := hag.tr ha_2 (fun q h => h)
        have hct4 := cntF_le (presB S) (sN S)
        refine g_top (y := (nI (cntF (presB S) (sN S)))) (yc_4 hY) ?_
        refine lv_iload_n hx hb dL_singers_437 rfl (lv_at hl 1 rfl) ?_
        refine lv_icmp_ne (tgt := 469) hx hb dL_singers_438 (by decide) (fun c438 => absurd rfl c438) (fun c438 => ?_)
        refine lv_aload_n hx hb dL_singers_441 rfl (lv_at hl 0 rfl) ?_
        refine lv_bipush (v := (nI 6)) hx hb dL_singers_442 (by decide) ?_
        refine g_runV (As := [.int (nI 6)]) (rest := []) (own := RL) (C := RX7) (T := TX7) (N := 7) 1 hx hb hml hown hts hK hz hP hL hS hlo hl.1 (c_X7_count l o b S tf tn P C kp zp ((nI 6))  τ_2 sz hW hY.1.1 ) gL_singers_X7_count rfl rfl rfl (by decide +kernel) ⟨Nat.le_of_ble_eq_true rfl, Nat.le_of_ble_eq_true rfl⟩ hW.c0 rfl rfl rfl (Nat.le_of_ble_eq_true rfl) dL_singers_444 ⟨Nat.le_of_ble_eq_true rfl, Nat.le_of_ble_eq_true rfl⟩ (g_kxi0 (fun r_3 τ_3 H locs z_3 hz hp hP hL hS => ?_))
        obtain ⟨hr_3, hW, hz_3, ha_3⟩ := hp
        have hz := hz.trans hz_3
        subst hr_3
        have hag := hag.tr ha_3 (fun q h => h)
        have hmt := mk_le hY
        refine g_top (y := (nI (suF (fun x => cntF (markB S x) (sB S)) (sN S)))) (yc_6 hY) ?_
        refine lv_iload_n hx hb dL_singers_447 rfl (lv_at hl 2 rfl) ?_
        refine lv_icmp_ne (tgt := 469) hx hb dL_singers_448 (by decide) (fun c448 => absurd rfl c448) (fun c448 => ?_)
        refine lv_aload_n hx hb dL_singers_451 rfl (lv_at hl 0 rfl) ?_
        refine lv_aload_n hx hb dL_singers_452 rfl (lv_at hl 0 rfl) ?_
        refine lv_iconst (v := (nI 3)) hx hb dL_singers_453 (by decide) ?_
        refine g_runV (As := [.int (nI 3)]) (rest := [.ref o]) (own := RL) (C := RX7) (T := TX7) (N := 7) 1 hx hb hml hown hts hK hz hP hL hS hlo hl.1 (c_X7_count l o b S tf tn P C kp zp ((nI 3))  τ_3 sz hW hY.1.1 ) gL_singers_X7_count rfl rfl rfl (by decide +kernel) ⟨Nat.le_of_ble_eq_true rfl, Nat.le_of_ble_eq_true rfl⟩ hW.c0 rfl rfl rfl (Nat.le_of_ble_eq_true rfl) dL_singers_454 ⟨Nat.le_of_ble_eq_true rfl, Nat.le_of_ble_eq_true rfl⟩ (g_kxi0 (fun r_4 τ_4 H locs z_4 hz hp hP hL hS => ?_))
        obtain ⟨hr_4, hW, hz_4, ha_4⟩ := hp
        have hz := hz.trans hz_4
        subst hr_4
        have hag := hag.tr ha_4 (fun q h => h)
        refine g_top (y := (nI (sN S))) yc_3 ?_
        refine lv_iconst (v := (nI 0)) hx hb dL_singers_457 (by decide) ?_
        refine g_runV (As := [.int (nI (sN S)), .int (nI 0)]) (rest := []) (own := RL) (C := RX7) (T := TX7) (N := 7) 2 hx hb hml hown hts hK hz hP hL hS hlo hl.1 (c_X7_singer l o b S tf tn P C kp zp ((nI (sN S))) ((nI 0))  τ_4 sz hW hY.1.1 ) gL_singers_X7_singer rfl rfl rfl (by decide +kernel) ⟨Nat.le_of_ble_eq_true rfl, Nat.le_of_ble_eq_true rfl⟩ hW.c0 rfl rfl rfl (Nat.le_of_ble_eq_true rfl) dL_singers_458 ⟨Nat.le_of_ble_eq_true rfl, Nat.le_of_ble_eq_true rfl⟩ (g_kxi0 (fun r_5 τ_5 H locs z_5 hz hp hP hL hS => ?_))
        obtain ⟨hr_5, hW, hz_5, ha_5⟩ := hp
        have hz := hz.trans hz_5
        subst hr_5
        have hag := hag.tr ha_5 (fun q h => h)
        refine g_top (y := (-1)) (yn_out _ _) ?_
        refine lv_iconst (v := (-1)) hx hb dL_singers_461 (by decide) ?_
        refine lv_icmp_ne (tgt := 469) hx hb dL_singers_462 (by decide) (fun c462 => by first | exact absurd (by decide) c462 | exact absurd c462 (by decide)) (fun c462 => ?_)
        refine lv_iconst (v := (nI 1)) hx hb dL_singers_465 (by decide) ?_
        refine lv_goto (tgt := 470) hx hb dL_singers_466 (by decide) ?_
        exact g_zret (z := sz) hx hb hr hlk hz hP hL hS rfl dL_singers_470 (gxi_i ⟨rfl, hW, rfl, hag⟩)
      · have hil : i < sN S := by omega
        have hcp := cntF_le (presB S) i
        refine lv_aload_n hx hb dL_singers_15 rfl (lv_at hl 0 rfl) ?_
        refine lv_iload_n hx hb dL_singers_16 rfl (lv_at hl 3 rfl) ?_
        refine lv_iconst (v := (nI 0)) hx hb dL_singers_17 (by decide) ?_
        refine g_runV (As := [.int (nI i), .int (nI 0)]) (rest := []) (own := RL) (C := RX7) (T := TX7) (N := 7) 2 hx hb hml hown hts hK hz hP hL hS hlo hl.1 (c_X7_singer l o b S tf tn P C kp zp ((nI i)) ((nI 0))  τ_1 sz hW hY.1.1 ) gL_singers_X7_singer rfl rfl rfl (by decide +kernel) ⟨Nat.le_of_ble_eq_true rfl, Nat.le_of_ble_eq_true rfl⟩ hW.c0 rfl rfl rfl (Nat.le_of_ble_eq_true rfl) dL_singers_18 ⟨Nat.le_of_ble_eq_true rfl, Nat.le_of_ble_eq_true rfl⟩ (g_kxi0 (fun r_6 τ_6 H locs z_6 hz hp hP hL hS => ?_))
        obtain ⟨hr_6, hW, hz_6, ha_6⟩ := hp
        have hz := hz.trans hz_6
        subst hr_6
        have hag := hag.tr ha_6 (fun q h => h)
        have hbr := hY.br (i := i) (by omega)
        refine g_top (y := (nI (tk (S 3 i)))) (yn_0 hY (by omega)) ?_
        refine lv_istore (lv' := [(4, .int (nI (tk (S 3 i)))), (0, .ref o), (1, .int (nI (cntF (presB S) i))), (2, .int (nI (suF (fun x => cntF (markB S x) (sB S)) i))), (3, .int (nI i))]) hx hb dL_singers_21 hl (by decide) rfl (fun ls hl => ?_)
        refine lv_iload hx hb dL_singers_23 (lv_at hl 0 rfl) ?_
        refine lv_istore (lv' := [(5, .int (nI (tk (S 3 i)))), (4, .int (nI (tk (S 3 i)))), (0, .ref o), (1, .int (nI (cntF (presB S) i))), (2, .int (nI (suF (fun x => cntF (markB S x) (sB S)) i))), (3, .int (nI i))]) hx hb dL_singers_25 hl (by decide) rfl (fun ls hl => ?_)
        refine lv_iload hx hb dL_singers_27 (lv_at hl 1 rfl) ?_
        refine lv_istore (lv' := [(6, .int (nI (tk (S 3 i)))), (5, .int (nI (tk (S 3 i)))), (4, .int (nI (tk (S 3 i)))), (0, .ref o), (1, .int (nI (cntF (presB S) i))), (2, .int (nI (suF (fun x => cntF (markB S x) (sB S)) i))), (3, .int (nI i))]) hx hb dL_singers_29 hl (by decide) rfl (fun ls hl => ?_)
        refine lv_iconst (v := (nI 0)) hx hb dL_singers_31 (by decide) ?_
        refine lv_istore (lv' := [(7, .int (nI 0)), (6, .int (nI (tk (S 3 i)))), (5, .int (nI (tk (S 3 i)))), (4, .int (nI (tk (S 3 i)))), (0, .ref o), (1, .int (nI (cntF (presB S) i))), (2, .int (nI (suF (fun x => cntF (markB S x) (sB S)) i))), (3, .int (nI i))]) hx hb dL_singers_32 hl (by decide) rfl (fun ls hl => ?_)
        refine lv_iconst (v := (nI 0)) hx hb dL_singers_34 (by decide) ?_
        refine lv_istore (lv' := [(8, .int (nI 0)), (7, .int (nI 0)), (6, .int (nI (tk (S 3 i)))), (5, .int (nI (tk (S 3 i)))), (4, .int (nI (tk (S 3 i)))), (0, .ref o), (1, .int (nI (cntF (presB S) i))), (2, .int (nI (suF (fun x => cntF (markB S x) (sB S)) i))), (3, .int (nI i))]) hx hb dL_singers_35 hl (by decide) rfl (fun ls hl => ?_)
        refine lv_iconst (v := (nI 0)) hx hb dL_singers_37 (by decide) ?_
        refine lv_istore (lv' := [(9, .int (nI 0)), (8, .int (nI 0)), (7, .int (nI 0)), (6, .int (nI (tk (S 3 i)))), (5, .int (nI (tk (S 3 i)))), (4, .int (nI (tk (S 3 i)))), (0, .ref o), (1, .int (nI (cntF (presB S) i))), (2, .int (nI (suF (fun x => cntF (markB S x) (sB S)) i))), (3, .int (nI i))]) hx hb dL_singers_38 hl (by decide) rfl (fun ls hl => ?_)
        refine lv_iconst (v := (nI 0)) hx hb dL_singers_40 (by decide) ?_
        refine lv_istore (lv' := [(10, .int (nI 0)), (9, .int (nI 0)), (8, .int (nI 0)), (7, .int (nI 0)), (6, .int (nI (tk (S 3 i)))), (5, .int (nI (tk (S 3 i)))), (4, .int (nI (tk (S 3 i)))), (0, .ref o), (1, .int (nI (cntF (presB S) i))), (2, .int (nI (suF (fun x => cntF (markB S x) (sB S)) i))), (3, .int (nI i))]) hx hb dL_singers_41 hl (by decide) rfl (fun ls hl => ?_)
        refine lv_iconst (v := (nI 0)) hx hb dL_singers_43 (by decide) ?_
        refine lv_istore (lv' := [(11, .int (nI 0)), (10, .int (nI 0)), (9, .int (nI 0)), (8, .int (nI 0)), (7, .int (nI 0)), (6, .int (nI (tk (S 3 i)))), (5, .int (nI (tk (S 3 i)))), (4, .int (nI (tk (S 3 i)))), (0, .ref o), (1, .int (nI (cntF (presB S) i))), (2, .int (nI (suF (fun x => cntF (markB S x) (sB S)) i))), (3, .int (nI i))]) hx hb dL_singers_44 hl (by decide) rfl (fun ls hl => ?_)
        refine lv_iconst (v := (nI 0)) hx hb dL_singers_46 (by decide) ?_
        refine lv_istore (lv' := [(12, .int (nI 0)), (11, .int (nI 0)), (10, .int (nI 0)), (9, .int (nI 0)), (8, .int (nI 0)), (7, .int (nI 0)), (6, .int (nI (tk (S 3 i)))), (5, .int (nI (tk (S 3 i)))), (4, .int (nI (tk (S 3 i)))), (0, .ref o), (1, .int (nI (cntF (presB S) i))), (2, .int (nI (suF (fun x => cntF (markB S x) (sB S)) i))), (3, .int (nI i))]) hx hb dL_singers_47 hl (by decide) rfl (fun ls hl => ?_)
        have lpB : ∀ (fu_lpB : Nat) (j : Nat), (j ≤ sB S) → (sB S - j < fu_lpB) → ∀ (υ : gS), (Wo υ o b S tf tn P C kp zp) → (gAs (gZo o 39) σ υ) → gL lo υ → ∀ (H : Heap) (locs : List Loc) (ls : Array Slot), H.size = sz → gH D ka υ H → va_S (gA lo) s.heap H locs → lv_has ls 18 [(0, .ref o), (1, .int (nI (cntF (presB S) i))), (2, .int (nI (suF (fun x => cntF (markB S x) (sB S)) i))), (3, .int (nI i)), (4, .int (nI (tk (S 3 i)))), (5, .int (nI (lfN S i j))), (6, .int (nI (lsN S i j))), (7, .int (nI (dnQ S i 0 j))), (8, .int (nI (dnQ S i 2 j))), (9, .int (nI (dnQ S i 1 j))), (10, .int (nI (rnF (doS S i) j))), (11, .int (nI (lgF (doS S i) j))), (12, .int (nI j))] → W p l e ({ frames := 7, cells := 0, slots := 0, locals := 162 } : Room) s m ([.ref o] : List Value).toArray below meth c H locs (0) (0) (MQ below (gQ D ka lo (gxi (fun r τ n => r = nI 1 ∧ Wo τ o b S tf tn P C kp zp ∧ n = sz ∧ gAs (gZo o 39) σ τ))) ([.ref o] : List Value).toArray s 0 0 (gA lo)) (F0 m 49 ls []) := by
          intro fu_lpB
          induction fu_lpB with
          | zero => intro j hj hm_lpB; exact absurd hm_lpB (Nat.not_lt_zero _)
          | succ fu_lpB ih_lpB =>
            intro j hj hm_lpB υ hW hag hL H locs ls hz hP hS hl
            refine lv_iload hx hb dL_singers_49 (lv_at hl 12 rfl) ?_
            refine lv_aload_n hx hb dL_singers_51 rfl (lv_at hl 0 rfl) ?_
            refine lv_iconst (v := (nI 0)) hx hb dL_singers_52 (by decide) ?_
            refine g_runV (As := [.int (nI 0)]) (rest := [.int (nI j)]) (own := RL) (C := RX7) (T := TX7) (N := 7) 1 hx hb hml hown hts hK hz hP hL hS hlo hl.1 (c_X7_count l o b S tf tn P C kp zp ((nI 0))  υ sz hW hY.1.1 ) gL_singers_X7_count rfl rfl rfl (by decide +kernel) ⟨Nat.le_of_ble_eq_true rfl, Nat.le_of_ble_eq_true rfl⟩ hW.c0 rfl rfl rfl (Nat.le_of_ble_eq_true rfl) dL_singers_53 ⟨Nat.le_of_ble_eq_true rfl, Nat.le_of_ble_eq_true rfl⟩ (g_kxi0 (fun r_7 τ_7 H locs z_7 hz hp hP hL hS => ?_))
            obtain ⟨hr_7, hW, hz_7, ha_7⟩ := hp
            have hz := hz.trans hz_7
            subst hr_7
            have hag := hag.tr ha_7 (fun q h => h)
            refine g_top (y := (nI (sB S))) yc_0 ?_
            refine g_icmp_ge (tgt := 337) (a := j) (b := sB S) hx hb (by omega) (by omega) dL_singers_56 (by decide) (fun c56 => ?_) (fun c56 => ?_)
            · have hje : j = sB S := by omega
              rw [hje] at hl
              refine lv_iload_n hx hb dL_singers_337 rfl (lv_at hl 1 rfl) ?_
              refine lv_aload_n hx hb dL_singers_338 rfl (lv_at hl 0 rfl) ?_
              refine lv_iload_n hx hb dL_singers_339 rfl (lv_at hl 3 rfl) ?_
              refine lv_iconst (v := (nI 2)) hx hb dL_singers_340 (by decide) ?_
              refine g_runV (As := [.int (nI i), .int (nI 2)]) (rest := [.int (nI (cntF (presB S) i))]) (own := RL) (C := RX7) (T := TX7) (N := 7) 2 hx hb hml hown hts hK hz hP hL hS hlo hl.1 (c_X7_singer l o b S tf tn P C kp zp ((nI i)) ((nI 2))  τ_7 sz hW hY.1.1 ) gL_singers_X7_singer rfl rfl rfl (by decide +kernel) ⟨Nat.le_of_ble_eq_true rfl, Nat.le_of_ble_eq_true rfl⟩ hW.c0 rfl rfl rfl (Nat.le_of_ble_eq_true rfl) dL_singers_341 ⟨Nat.le_of_ble_eq_true rfl, Nat.le_of_ble_eq_true rfl⟩ (g_kxi0 (fun r_8 τ_8 H locs z_8 hz hp hP hL hS => ?_))
              obtain ⟨hr_8, hW, hz_8, ha_8⟩ := hp
              have hz := hz.trans hz_8
              subst hr_8
              have hag := hag.tr ha_8 (fun q h => h)
              have hpb := Bool.toNat_le (presB S i)
              refine g_top (y := (nI ((presB S i).toNat))) (yn_2 hY (by omega)) ?_
              refine lv_iadd hx hb dL_singers_344 ?_
              refine g_top (nI_add (cntF (presB S) i) ((presB S i).toNat)) ?_
              refine g_top (y := (nI (cntF (presB S) (i + 1)))) (congrArg nI cn_s) ?_
              refine lv_istore_n (lv' := [(1, .int (nI (cntF (presB S) (i + 1)))), (0, .ref o), (2, .int (nI (suF (fun x => cntF (markB S x) (sB S)) i))), (3, .int (nI i)), (4, .int (nI (tk (S 3 i)))), (5, .int (nI (lfN S i (sB S)))), (6, .int (nI (lsN S i (sB S)))), (7, .int (nI (dnQ S i 0 (sB S)))), (8, .int (nI (dnQ S i 2 (sB S)))), (9, .int (nI (dnQ S i 1 (sB S)))), (10, .int (nI (rnF (doS S i) (sB S)))), (11, .int (nI (lgF (doS S i) (sB S)))), (12, .int (nI (sB S)))]) hx hb dL_singers_345 rfl hl (by decide) rfl (fun ls hl => ?_)
              refine lv_iload_n hx hb dL_singers_346 rfl (lv_at hl 2 rfl) ?_
              refine lv_aload_n hx hb dL_singers_347 rfl (lv_at hl 1 rfl) ?_
              refine lv_iload_n hx hb dL_singers_348 rfl (lv_at hl 3 rfl) ?_
              refine lv_iconst (v := (nI 3)) hx hb dL_singers_349 (by decide) ?_
              refine g_runV (As := [.int (nI i), .int (nI 3)]) (rest := [.int (nI (suF (fun x => cntF (markB S x) (sB S)) i))]) (own := RL) (C := RX7) (T := TX7) (N := 7) 2 hx hb hml hown hts hK hz hP hL hS hlo hl.1 (c_X7_singer l o b S tf tn P C kp zp ((nI i)) ((nI 3))  τ_8 sz hW hY.1.1 ) gL_singers_X7_singer rfl rfl rfl (by decide +kernel) ⟨Nat.le_of_ble_eq_true rfl, Nat.le_of_ble_eq_true rfl⟩ hW.c0 rfl rfl rfl (Nat.le_of_ble_eq_true rfl) dL_singers_350 ⟨Nat.le_of_ble_eq_true rfl, Nat.le_of_ble_eq_true rfl⟩ (g_kxi0 (fun r_9 τ_9 H locs z_9 hz hp hP hL hS => ?_))
              obtain ⟨hr_9, hW, hz_9, ha_9⟩ := hp
              have hz := hz.trans hz_9
              subst hr_9
              have hag := hag.tr ha_9 (fun q h => h)
              have hmk := cntF_le (markB S i) (sB S)
              refine g_top (y := (nI (cntF (markB S i) (sB S)))) (yn_3 hY (by omega)) ?_
              refine lv_iadd hx hb dL_singers_353 ?_
              refine g_top (nI_add (suF (fun x => cntF (markB S x) (sB S)) i) (cntF (markB S i) (sB S))) ?_
              refine g_top (y := (nI (suF (fun x => cntF (markB S x) (sB S)) (i + 1)))) rfl ?_
              refine lv_istore_n (lv' := [(2, .int (nI (suF (fun x => cntF (markB S x) (sB S)) (i + 1)))), (1, .int (nI (cntF (presB S) (i + 1)))), (0, .ref o), (3, .int (nI i)), (4, .int (nI (tk (S 3 i)))), (5, .int (nI (lfN S i (sB S)))), (6, .int (nI (lsN S i (sB S)))), (7, .int (nI (dnQ S i 0 (sB S)))), (8, .int (nI (dnQ S i 2 (sB S)))), (9, .int (nI (dnQ S i 1 (sB S)))), (10, .int (nI (rnF (doS S i) (sB S)))), (11, .int (nI (lgF (doS S i) (sB S)))), (12, .int (nI (sB S)))]) hx hb dL_singers_354 rfl hl (by decide) rfl (fun ls hl => ?_)
              refine lv_aload_n hx hb dL_singers_355 rfl (lv_at hl 2 rfl) ?_
              refine lv_iload_n hx hb dL_singers_356 rfl (lv_at hl 3 rfl) ?_
              refine lv_iconst (v := (nI 4)) hx hb dL_singers_357 (by decide) ?_
              refine g_runV (As := [.int (nI i), .int (nI 4)]) (rest := []) (own := RL) (C := RX7) (T := TX7) (N := 7) 2 hx hb hml hown hts hK hz hP hL hS hlo hl.1 (c_X7_singer l o b S tf tn P C kp zp ((nI i)) ((nI 4))  τ_9 sz hW hY.1.1 ) gL_singers_X7_singer rfl rfl rfl (by decide +kernel) ⟨Nat.le_of_ble_eq_true rfl, Nat.le_of_ble_eq_true rfl⟩ hW.c0 rfl rfl rfl (Nat.le_of_ble_eq_true rfl) dL_singers_358 ⟨Nat.le_of_ble_eq_true rfl, Nat.le_of_ble_eq_true rfl⟩ (g_kxi0 (fun r_10 τ_10 H locs z_10 hz hp hP hL hS => ?_))
              obtain ⟨hr_10, hW, hz_10, ha_10⟩ := hp
              have hz := hz.trans hz_10
              subst hr_10
              have hag := hag.tr ha_10 (fun q h => h)
              have hdn0 := dn_le S i 0 (sB S)
              refine g_top (y := (nI (dnQ S i 0 (sB S)))) (yn_4 hY (by omega)) ?_
              refine lv_iload hx hb dL_singers_361 (lv_at hl 7 rfl) ?_
              refine lv_icmp_ne (tgt := 424) hx hb dL_singers_363 (by decide) (fun c363 => absurd rfl c363) (fun c363 => ?_)
              refine lv_aload_n hx hb dL_singers_366 rfl (lv_at hl 2 rfl) ?_
              refine lv_iload_n hx hb dL_singers_367 rfl (lv_at hl 3 rfl) ?_
              refine lv_iconst (v := (nI 5)) hx hb dL_singers_368 (by decide) ?_
              refine g_runV (As := [.int (nI i), .int (nI 5)]) (rest := []) (own := RL) (C := RX7) (T := TX7) (N := 7) 2 hx hb hml hown hts hK hz hP hL hS hlo hl.1 (c_X7_singer l o b S tf tn P C kp zp ((nI i)) ((nI 5))  τ_10 sz hW hY.1.1 ) gL_singers_X7_singer rfl rfl rfl (by decide +kernel) ⟨Nat.le_of_ble_eq_true rfl, Nat.le_of_ble_eq_true rfl⟩ hW.c0 rfl rfl rfl (Nat.le_of_ble_eq_true rfl) dL_singers_369 ⟨Nat.le_of_ble_eq_true rfl, Nat.le_of_ble_eq_true rfl⟩ (g_kxi0 (fun r_11 τ_11 H locs z_11 hz hp hP hL hS => ?_))
              obtain ⟨hr_11, hW, hz_11, ha_11⟩ := hp
              have hz := hz.trans hz_11
              subst hr_11
              have hag := hag.tr ha_11 (fun q h => h)
              have hdn2 := dn_le S i 2 (sB S)
              refine g_top (y := (nI (dnQ S i 2 (sB S)))) (yn_5 hY (by omega)) ?_
              refine lv_iload hx hb dL_singers_372 (lv_at hl 8 rfl) ?_
              refine lv_icmp_ne (tgt := 424) hx hb dL_singers_374 (by decide) (fun c374 => absurd rfl c374) (fun c374 => ?_)
              refine lv_aload_n hx hb dL_singers_377 rfl (lv_at hl 2 rfl) ?_
              refine lv_iload_n hx hb dL_singers_378 rfl (lv_at hl 3 rfl) ?_
              refine lv_bipush (v := (nI 6)) hx hb dL_singers_379 (by decide) ?_
              refine g_runV (As := [.int (nI i), .int (nI 6)]) (rest := []) (own := RL) (C := RX7) (T := TX7) (N := 7) 2 hx hb hml hown hts hK hz hP hL hS hlo hl.1 (c_X7_singer l o b S tf tn P C kp zp ((nI i)) ((nI 6))  τ_11 sz hW hY.1.1 ) gL_singers_X7_singer rfl rfl rfl (by decide +kernel) ⟨Nat.le_of_ble_eq_true rfl, Nat.le_of_ble_eq_true rfl⟩ hW.c0 rfl rfl rfl (Nat.le_of_ble_eq_true rfl) dL_singers_381 ⟨Nat.le_of_ble_eq_true rfl, Nat.le_of_ble_eq_true rfl⟩ (g_kxi0 (fun r_12 τ_12 H locs z_12 hz hp hP hL hS => ?_))
              obtain ⟨hr_12, hW, hz_12, ha_12⟩ := hp
              have hz := hz.trans hz_12
              subst hr_12
              have hag := hag.tr ha_12 (fun q h => h)
              have hls := lsN_le S i (sB S)
              refine g_top (y := (nI (lsN S i (sB S)))) (yn_6 hY (by omega)) ?_
              refine lv_iload hx hb dL_singers_384 (lv_at hl 6 rfl) ?_
              refine lv_icmp_ne (tgt := 424) hx hb dL_singers_386 (by decide) (fun c386 => absurd rfl c386) (fun c386 => ?_)
              refine lv_aload_n hx hb dL_singers_389 rfl (lv_at hl 2 rfl) ?_
              refine lv_iload_n hx hb dL_singers_390 rfl (lv_at hl 3 rfl) ?_
              refine lv_bipush (v := (nI 7)) hx hb dL_singers_391 (by decide) ?_
              refine g_runV (As := [.int (nI i), .int (nI 7)]) (rest := []) (own := RL) (C := RX7) (T := TX7) (N := 7) 2 hx hb hml hown hts hK hz hP hL hS hlo hl.1 (c_X7_singer l o b S tf tn P C kp zp ((nI i)) ((nI 7))  τ_12 sz hW hY.1.1 ) gL_singers_X7_singer rfl rfl rfl (by decide +kernel) ⟨Nat.le_of_ble_eq_true rfl, Nat.le_of_ble_eq_true rfl⟩ hW.c0 rfl rfl rfl (Nat.le_of_ble_eq_true rfl) dL_singers_393 ⟨Nat.le_of_ble_eq_true rfl, Nat.le_of_ble_eq_true rfl⟩ (g_kxi0 (fun r_13 τ_13 H locs z_13 hz hp hP hL hS => ?_))
              obtain ⟨hr_13, hW, hz_13, ha_13⟩ := hp
              have hz := hz.trans hz_13
              subst hr_13
              have hag := hag.tr ha_13 (fun q h => h)
              have hlg := lgF_le (doS S i) (sB S)
              refine g_top (y := (nI (lgF (doS S i) (sB S)))) (yn_7 hY (by omega)) ?_
              refine lv_iload hx hb dL_singers_396 (lv_at hl 11 rfl) ?_
              refine lv_icmp_ne (tgt := 424) hx hb dL_singers_398 (by decide) (fun c398 => absurd rfl c398) (fun c398 => ?_)
              have hd1e := dn_le S i 1 (sB S)
              refine lv_aload_n hx hb dL_singers_401 rfl (lv_at hl 2 rfl) ?_
              refine lv_iload_n hx hb dL_singers_402 rfl (lv_at hl 3 rfl) ?_
              refine lv_iconst (v := (nI 3)) hx hb dL_singers_403 (by decide) ?_
              refine g_runV (As := [.int (nI i), .int (nI 3)]) (rest := []) (own := RL) (C := RX7) (T := TX7) (N := 7) 2 hx hb hml hown hts hK hz hP hL hS hlo hl.1 (c_X7_singer l o b S tf tn P C kp zp ((nI i)) ((nI 3))  τ_13 sz hW hY.1.1 ) gL_singers_X7_singer rfl rfl rfl (by decide +kernel) ⟨Nat.le_of_ble_eq_true rfl, Nat.le_of_ble_eq_true rfl⟩ hW.c0 rfl rfl rfl (Nat.le_of_ble_eq_true rfl) dL_singers_404 ⟨Nat.le_of_ble_eq_true rfl, Nat.le_of_ble_eq_true rfl⟩ (g_kxi0 (fun r_14 τ_14 H locs z_14 hz hp hP hL hS => ?_))
              obtain ⟨hr_14, hW, hz_14, ha_14⟩ := hp
              have hz := hz.trans hz_14
              subst hr_14
              have hag := hag.tr ha_14 (fun q h => h)
              have hmk := cntF_le (markB S i) (sB S)
              refine g_top (y := (nI (cntF (markB S i) (sB S)))) (yn_3 hY (by omega)) ?_
              refine lv_iload hx hb dL_singers_407 (lv_at hl 9 rfl) ?_
              refine g_icmp_lt (tgt := 424) (a := cntF (markB S i) (sB S)) (b := dnQ S i 1 (sB S)) hx hb (by omega) (by omega) dL_singers_409 (by decide) (fun c409 => absurd c409 (Nat.not_lt.mpr (mk_ge S i (sB S)))) (fun c409 => ?_)
              refine lv_aload_n hx hb dL_singers_412 rfl (lv_at hl 2 rfl) ?_
              refine lv_iload_n hx hb dL_singers_413 rfl (lv_at hl 3 rfl) ?_
              refine lv_bipush (v := (nI 8)) hx hb dL_singers_414 (by decide) ?_
              refine g_runV (As := [.int (nI i), .int (nI 8)]) (rest := []) (own := RL) (C := RX7) (T := TX7) (N := 7) 2 hx hb hml hown hts hK hz hP hL hS hlo hl.1 (c_X7_singer l o b S tf tn P C kp zp ((nI i)) ((nI 8))  τ_14 sz hW hY.1.1 ) gL_singers_X7_singer rfl rfl rfl (by decide +kernel) ⟨Nat.le_of_ble_eq_true rfl, Nat.le_of_ble_eq_true rfl⟩ hW.c0 rfl rfl rfl (Nat.le_of_ble_eq_true rfl) dL_singers_416 ⟨Nat.le_of_ble_eq_true rfl, Nat.le_of_ble_eq_true rfl⟩ (g_kxi0 (fun r_15 τ_15 H locs z_15 hz hp hP hL hS => ?_))
              obtain ⟨hr_15, hW, hz_15, ha_15⟩ := hp
              have hz := hz.trans hz_15
              subst hr_15
              have hag := hag.tr ha_15 (fun q h => h)
              refine g_top (y := (-2)) (yn_8 hY (by omega)) ?_
              refine lv_bipush (v := (-2)) hx hb dL_singers_419 (by decide) ?_
              refine lv_icmp_eq (tgt := 426) hx hb dL_singers_421 (by decide) (fun c421 => ?_) (fun c421 => by first | exact absurd (by decide) c421 | exact absurd c421 (by decide))
              refine lv_iinc (v := (nI (i + 1))) (lv' := [(3, .int (nI (i + 1))), (2, .int (nI (suF (fun x => cntF (markB S x) (sB S)) (i + 1)))), (1, .int (nI (cntF (presB S) (i + 1)))), (0, .ref o), (4, .int (nI (tk (S 3 i)))), (5, .int (nI (lfN S i (sB S)))), (6, .int (nI (lsN S i (sB S)))), (7, .int (nI (dnQ S i 0 (sB S)))), (8, .int (nI (dnQ S i 2 (sB S)))), (9, .int (nI (dnQ S i 1 (sB S)))), (10, .int (nI (rnF (doS S i) (sB S)))), (11, .int (nI (lgF (doS S i) (sB S)))), (12, .int (nI (sB S)))]) hx hb dL_singers_426 hl (k := 3) rfl (g_inc i 1) (by decide) rfl (fun ls hl => ?_)
              refine lv_goto (tgt := 6) hx hb dL_singers_429 (by decide) ?_
              exact ih_lpA (i + 1) (by omega) (by omega) τ_15 hW hag hL H locs ls hz hP hS (lv_sub hl [3, 2, 1, 0] rfl)
            · have hjl : j < sB S := by omega
              have hlf0 := lfN_le hY (i := i) (k := j) hil (by omega)
              have hls0 := lsN_le S i j
              have hd00 := dn_le S i 0 j
              have hd20 := dn_le S i 2 j
              have hd10 := dn_le S i 1 j
              have hrn0 := rnF_le (doS S i) j
              have hlg0 := lgF_le (doS S i) j
              have jn : ∀ (υ : gS), (Wo υ o b S tf tn P C kp zp) → (gAs (gZo o 39) σ υ) → gL lo υ → ∀ (H : Heap) (locs : List Loc) (ls : Array Slot), H.size = sz → gH D ka υ H → va_S (gA lo) s.heap H locs → lv_has ls 18 [(0, .ref o), (1, .int (nI (cntF (presB S) i))), (2, .int (nI (suF (fun x => cntF (markB S x) (sB S)) i))), (3, .int (nI i)), (4, .int (nI (tk (S 3 i)))), (5, .int (nI (lfN S i j))), (6, .int (nI (lsN S i j))), (7, .int (nI (dnQ S i 0 j))), (8, .int (nI (dnQ S i 2 j))), (9, .int (nI (dnQ S i 1 j))), (10, .int (nI (rnF (doS S i) j))), (11, .int (nI (lgF (doS S i) j))), (12, .int (nI j))] → W p l e ({ frames := 7, cells := 0, slots := 0, locals := 162 } : Room) s m ([.ref o] : List Value).toArray below meth c H locs (0) (0) (MQ below (gQ D ka lo (gxi (fun r τ n => r = nI 1 ∧ Wo τ o b S tf tn P C kp zp ∧ n = sz ∧ gAs (gZo o 39) σ τ))) ([.ref o] : List Value).toArray s 0 0 (gA lo)) (F0 m 109 ls [.int (bI (toSing S i j))]) := by
                intro υ hW hag hL H locs ls hz hP hS hl
                have hdl := dosQ_lt S i j
                rcases d4 (show dosQ S i j < 4 from hdl) with hd | hd | hd | hd
                · skip
                  have htsg := (do_0.mp hd).1
                  refine g_top (y := nI 1) (by rw [htsg]; rfl) ?_
                  have h0 := lfN_s0 hY hil hjl hd
                  refine lv_istore (lv' := [(14, .int (nI 1)), (0, .ref o), (1, .int (nI (cntF (presB S) i))), (2, .int (nI (suF (fun x => cntF (markB S x) (sB S)) i))), (3, .int (nI i)), (4, .int (nI (tk (S 3 i)))), (5, .int (nI (lfN S i j))), (6, .int (nI (lsN S i j))), (7, .int (nI (dnQ S i 0 j))), (8, .int (nI (dnQ S i 2 j))), (9, .int (nI (dnQ S i 1 j))), (10, .int (nI (rnF (doS S i) j))), (11, .int (nI (lgF (doS S i) j))), (12, .int (nI j))]) hx hb dL_singers_109 hl (by decide) rfl (fun ls hl => ?_)
                  refine lv_aload_n hx hb dL_singers_111 rfl (lv_at hl 1 rfl) ?_
                  refine lv_iload_n hx hb dL_singers_112 rfl (lv_at hl 4 rfl) ?_
                  refine lv_iload hx hb dL_singers_113 (lv_at hl 13 rfl) ?_
                  refine g_runV (As := [.int (nI i), .int (nI j)]) (rest := []) (own := RL) (C := RX7) (T := TX7) (N := 7) 2 hx hb hml hown hts hK hz hP hL hS hlo hl.1 (c_X7_does l o b S tf tn P C kp zp ((nI i)) ((nI j))  υ sz hW hY.1.1 ) gL_singers_X7_does rfl rfl rfl (by decide +kernel) ⟨Nat.le_of_ble_eq_true rfl, Nat.le_of_ble_eq_true rfl⟩ hW.c0 rfl rfl rfl (Nat.le_of_ble_eq_true rfl) dL_singers_115 ⟨Nat.le_of_ble_eq_true rfl, Nat.le_of_ble_eq_true rfl⟩ (g_kxi0 (fun r_16 τ_16 H locs z_16 hz hp hP hL hS => ?_))
                  obtain ⟨hr_16, hW, hz_16, ha_16⟩ := hp
                  have hz := hz.trans hz_16
                  subst hr_16
                  have hag := hag.tr ha_16 (fun q h => h)
                  have hdo := dosQ_lt S i j
                  refine g_top (y := (nI (dosQ S i j))) (yd hY (by omega) (by omega)) ?_
                  refine g_top (y := (nI 0)) (congrArg nI hd) ?_
                  refine lv_istore (lv' := [(15, .int (nI 0)), (14, .int (nI 1)), (0, .ref o), (1, .int (nI (cntF (presB S) i))), (2, .int (nI (suF (fun x => cntF (markB S x) (sB S)) i))), (3, .int (nI i)), (4, .int (nI (tk (S 3 i)))), (5, .int (nI (lfN S i j))), (6, .int (nI (lsN S i j))), (7, .int (nI (dnQ S i 0 j))), (8, .int (nI (dnQ S i 2 j))), (9, .int (nI (dnQ S i 1 j))), (10, .int (nI (rnF (doS S i) j))), (11, .int (nI (lgF (doS S i) j))), (12, .int (nI j))]) hx hb dL_singers_118 hl (by decide) rfl (fun ls hl => ?_)
                  refine lv_aload_n hx hb dL_singers_120 rfl (lv_at hl 2 rfl) ?_
                  refine lv_iload hx hb dL_singers_121 (lv_at hl 14 rfl) ?_
                  refine lv_iconst (v := (nI 1)) hx hb dL_singers_123 (by decide) ?_
                  refine g_runV (As := [.int (nI j), .int (nI 1)]) (rest := []) (own := RL) (C := RX7) (T := TX7) (N := 7) 2 hx hb hml hown hts hK hz hP hL hS hlo hl.1 (c_X7_beat l o b S tf tn P C kp zp ((nI j)) ((nI 1))  τ_16 sz hW hY.1.1 ) gL_singers_X7_beat rfl rfl rfl (by decide +kernel) ⟨Nat.le_of_ble_eq_true rfl, Nat.le_of_ble_eq_true rfl⟩ hW.c0 rfl rfl rfl (Nat.le_of_ble_eq_true rfl) dL_singers_124 ⟨Nat.le_of_ble_eq_true rfl, Nat.le_of_ble_eq_true rfl⟩ (g_kxi0 (fun r_17 τ_17 H locs z_17 hz hp hP hL hS => ?_))
                  obtain ⟨hr_17, hW, hz_17, ha_17⟩ := hp
                  have hz := hz.trans hz_17
                  subst hr_17
                  have hag := hag.tr ha_17 (fun q h => h)
                  have hxlo := hY.lo (b := j) (by omega)
                  refine g_top (y := (nI (tk (S 1 j)))) (yb_1 hY (by omega)) ?_
                  refine lv_istore (lv' := [(16, .int (nI (tk (S 1 j)))), (15, .int (nI 0)), (14, .int (nI 1)), (0, .ref o), (1, .int (nI (cntF (presB S) i))), (2, .int (nI (suF (fun x => cntF (markB S x) (sB S)) i))), (3, .int (nI i)), (4, .int (nI (tk (S 3 i)))), (5, .int (nI (lfN S i j))), (6, .int (nI (lsN S i j))), (7, .int (nI (dnQ S i 0 j))), (8, .int (nI (dnQ S i 2 j))), (9, .int (nI (dnQ S i 1 j))), (10, .int (nI (rnF (doS S i) j))), (11, .int (nI (lgF (doS S i) j))), (12, .int (nI j))]) hx hb dL_singers_127 hl (by decide) rfl (fun ls hl => ?_)
                  refine lv_iload hx hb dL_singers_129 (lv_at hl 2 rfl) ?_
                  refine lv_iload hx hb dL_singers_131 (lv_at hl 1 rfl) ?_
                  refine lv_iconst (v := (nI 3)) hx hb dL_singers_133 (by decide) ?_
                  refine lv_icmp_ge (tgt := 141) hx hb dL_singers_134 (by decide) (fun c134 => by first | exact absurd (by decide) c134 | exact absurd c134 (by decide)) (fun c134 => ?_)
                  refine lv_iconst (v := (nI 1)) hx hb dL_singers_137 (by decide) ?_
                  refine lv_goto (tgt := 142) hx hb dL_singers_138 (by decide) ?_
                  refine lv_icmp_ne (tgt := 181) hx hb dL_singers_142 (by decide) (fun c142 => by first | exact absurd (by decide) c142 | exact absurd c142 (by decide)) (fun c142 => ?_)
                  refine lv_iload hx hb dL_singers_145 (lv_at hl 1 rfl) ?_
                  refine lv_if_ne (tgt := 157) hx hb dL_singers_147 (by decide) (fun c147 => by first | exact absurd (by decide) c147 | exact absurd c147 (by decide)) (fun c147 => ?_)
                  refine lv_iload hx hb dL_singers_150 (lv_at hl 8 rfl) ?_
                  refine lv_iload hx hb dL_singers_152 (lv_at hl 0 rfl) ?_
                  refine g_icmp_lt (tgt := 181) (a := lfN S i j) (b := tk (S 1 j)) hx hb (by omega) (by omega) dL_singers_154 (by decide) (fun c154 => False.elim (by omega)) (fun c154 => ?_)
                  refine lv_iload hx hb dL_singers_157 (lv_at hl 1 rfl) ?_
                  refine lv_iconst (v := (nI 2)) hx hb dL_singers_159 (by decide) ?_
                  refine lv_icmp_ne (tgt := 170) hx hb dL_singers_160 (by decide) (fun c160 => ?_) (fun c160 => by first | exact absurd (by decide) c160 | exact absurd c160 (by decide))
                  refine lv_iload hx hb dL_singers_170 (lv_at hl 1 rfl) ?_
                  refine lv_if_lt (tgt := 181) hx hb dL_singers_172 (by decide) (fun c172 => by first | exact absurd (by decide) c172 | exact absurd c172 (by decide)) (fun c172 => ?_)
                  refine lv_iload hx hb dL_singers_175 (lv_at hl 1 rfl) ?_
                  refine lv_iconst (v := (nI 3)) hx hb dL_singers_177 (by decide) ?_
                  refine lv_icmp_le (tgt := 183) hx hb dL_singers_178 (by decide) (fun c178 => ?_) (fun c178 => by first | exact absurd (by decide) c178 | exact absurd c178 (by decide))
                  refine lv_iload hx hb dL_singers_183 (lv_at hl 8 rfl) ?_
                  refine lv_aload_n hx hb dL_singers_185 rfl (lv_at hl 3 rfl) ?_
                  refine lv_iload_n hx hb dL_singers_186 rfl (lv_at hl 6 rfl) ?_
                  refine lv_iconst (v := (nI 1)) hx hb dL_singers_187 (by decide) ?_
                  refine g_runV (As := [.int (nI i), .int (nI 1)]) (rest := [.int (nI (lfN S i j))]) (own := RL) (C := RX7) (T := TX7) (N := 7) 2 hx hb hml hown hts hK hz hP hL hS hlo hl.1 (c_X7_singer l o b S tf tn P C kp zp ((nI i)) ((nI 1))  τ_17 sz hW hY.1.1 ) gL_singers_X7_singer rfl rfl rfl (by decide +kernel) ⟨Nat.le_of_ble_eq_true rfl, Nat.le_of_ble_eq_true rfl⟩ hW.c0 rfl rfl rfl (Nat.le_of_ble_eq_true rfl) dL_singers_188 ⟨Nat.le_of_ble_eq_true rfl, Nat.le_of_ble_eq_true rfl⟩ (g_kxi0 (fun r_18 τ_18 H locs z_18 hz hp hP hL hS => ?_))
                  obtain ⟨hr_18, hW, hz_18, ha_18⟩ := hp
                  have hz := hz.trans hz_18
                  subst hr_18
                  have hag := hag.tr ha_18 (fun q h => h)
                  have hrc := hY.rc (i := i) (by omega)
                  refine g_top (y := (nI (tk (S 4 i)))) (yn_1 hY (by omega)) ?_
                  refine lv_iadd hx hb dL_singers_191 ?_
                  refine g_top (nI_add (lfN S i j) (tk (S 4 i))) ?_
                  refine lv_istore (lv' := [(17, .int (nI ((lfN S i j) + (tk (S 4 i))))), (16, .int (nI (tk (S 1 j)))), (15, .int (nI 0)), (14, .int (nI 1)), (0, .ref o), (1, .int (nI (cntF (presB S) i))), (2, .int (nI (suF (fun x => cntF (markB S x) (sB S)) i))), (3, .int (nI i)), (4, .int (nI (tk (S 3 i)))), (5, .int (nI (lfN S i j))), (6, .int (nI (lsN S i j))), (7, .int (nI (dnQ S i 0 j))), (8, .int (nI (dnQ S i 2 j))), (9, .int (nI (dnQ S i 1 j))), (10, .int (nI (rnF (doS S i) j))), (11, .int (nI (lgF (doS S i) j))), (12, .int (nI j))]) hx hb dL_singers_192 hl (by decide) rfl (fun ls hl => ?_)
                  refine lv_iload hx hb dL_singers_194 (lv_at hl 2 rfl) ?_
                  refine lv_if_ne (tgt := 207) hx hb dL_singers_196 (by decide) (fun c196 => by first | exact absurd (by decide) c196 | exact absurd c196 (by decide)) (fun c196 => ?_)
                  refine lv_iload hx hb dL_singers_199 (lv_at hl 9 rfl) ?_
                  refine lv_iload hx hb dL_singers_201 (lv_at hl 1 rfl) ?_
                  refine lv_isub hx hb dL_singers_203 ?_
                  refine g_top (pk_sub (by omega : tk (S 1 j) ≤ lfN S i j)) ?_
                  refine lv_goto (tgt := 221) hx hb dL_singers_204 (by decide) ?_
                  refine g_top (y := (nI (lfN S i (j + 1)))) (congrArg nI h0.1) ?_
                  have hlf := lfN_le hY (i := i) (k := j + 1) hil (by omega)
                  refine lv_istore (lv' := [(5, .int (nI (lfN S i (j + 1)))), (17, .int (nI ((lfN S i j) + (tk (S 4 i))))), (16, .int (nI (tk (S 1 j)))), (15, .int (nI 0)), (14, .int (nI 1)), (0, .ref o), (1, .int (nI (cntF (presB S) i))), (2, .int (nI (suF (fun x => cntF (markB S x) (sB S)) i))), (3, .int (nI i)), (4, .int (nI (tk (S 3 i)))), (6, .int (nI (lsN S i j))), (7, .int (nI (dnQ S i 0 j))), (8, .int (nI (dnQ S i 2 j))), (9, .int (nI (dnQ S i 1 j))), (10, .int (nI (rnF (doS S i) j))), (11, .int (nI (lgF (doS S i) j))), (12, .int (nI j))]) hx hb dL_singers_221 hl (by decide) rfl (fun ls hl => ?_)
                  refine lv_iload hx hb dL_singers_223 (lv_at hl 0 rfl) ?_
                  refine lv_iload hx hb dL_singers_225 (lv_at hl 10 rfl) ?_
                  refine g_icmp_ge (tgt := 235) (a := lfN S i (j + 1)) (b := lsN S i j) hx hb (by omega) (by omega) dL_singers_227 (by decide) (fun c227 => ?_) (fun c227 => ?_)
                  · refine lv_iload hx hb dL_singers_235 (lv_at hl 10 rfl) ?_
                    refine g_top (y := (nI (lsN S i (j + 1)))) (congrArg nI (ls_1 (by omega))) ?_
                    refine lv_istore (lv' := [(6, .int (nI (lsN S i (j + 1)))), (5, .int (nI (lfN S i (j + 1)))), (17, .int (nI ((lfN S i j) + (tk (S 4 i))))), (16, .int (nI (tk (S 1 j)))), (15, .int (nI 0)), (14, .int (nI 1)), (0, .ref o), (1, .int (nI (cntF (presB S) i))), (2, .int (nI (suF (fun x => cntF (markB S x) (sB S)) i))), (3, .int (nI i)), (4, .int (nI (tk (S 3 i)))), (7, .int (nI (dnQ S i 0 j))), (8, .int (nI (dnQ S i 2 j))), (9, .int (nI (dnQ S i 1 j))), (10, .int (nI (rnF (doS S i) j))), (11, .int (nI (lgF (doS S i) j))), (12, .int (nI j))]) hx hb dL_singers_237 hl (by decide) rfl (fun ls hl => ?_)
                    refine lv_iload hx hb dL_singers_239 (lv_at hl 11 rfl) ?_
                    refine lv_iload hx hb dL_singers_241 (lv_at hl 4 rfl) ?_
                    refine lv_if_ne (tgt := 250) hx hb dL_singers_243 (by decide) (fun c243 => by first | exact absurd (by decide) c243 | exact absurd c243 (by decide)) (fun c243 => ?_)
                    refine lv_iconst (v := (nI 1)) hx hb dL_singers_246 (by decide) ?_
                    refine lv_goto (tgt := 251) hx hb dL_singers_247 (by decide) ?_
                    refine lv_iadd hx hb dL_singers_251 ?_
                    refine g_top (nI_add (dnQ S i 0 j) 1) ?_
                    refine g_top (y := (nI (dnQ S i 0 (j + 1)))) (congrArg nI (dn_t hd)) ?_
                    refine lv_istore (lv' := [(7, .int (nI (dnQ S i 0 (j + 1)))), (6, .int (nI (lsN S i (j + 1)))), (5, .int (nI (lfN S i (j + 1)))), (17, .int (nI ((lfN S i j) + (tk (S 4 i))))), (16, .int (nI (tk (S 1 j)))), (15, .int (nI 0)), (14, .int (nI 1)), (0, .ref o), (1, .int (nI (cntF (presB S) i))), (2, .int (nI (suF (fun x => cntF (markB S x) (sB S)) i))), (3, .int (nI i)), (4, .int (nI (tk (S 3 i)))), (8, .int (nI (dnQ S i 2 j))), (9, .int (nI (dnQ S i 1 j))), (10, .int (nI (rnF (doS S i) j))), (11, .int (nI (lgF (doS S i) j))), (12, .int (nI j))]) hx hb dL_singers_252 hl (by decide) rfl (fun ls hl => ?_)
                    refine lv_iload hx hb dL_singers_254 (lv_at hl 13 rfl) ?_
                    refine lv_iload hx hb dL_singers_256 (lv_at hl 5 rfl) ?_
                    refine lv_iconst (v := (nI 1)) hx hb dL_singers_258 (by decide) ?_
                    refine lv_icmp_ne (tgt := 266) hx hb dL_singers_259 (by decide) (fun c259 => ?_) (fun c259 => by first | exact absurd (by decide) c259 | exact absurd c259 (by decide))
                    refine lv_iconst (v := (nI 0)) hx hb dL_singers_266 (by decide) ?_
                    refine lv_iadd hx hb dL_singers_267 ?_
                    refine g_top (nI_add (dnQ S i 1 j) 0) ?_
                    refine g_top (y := (nI (dnQ S i 1 (j + 1)))) (congrArg nI (dn_f (by rw [hd]; decide))) ?_
                    refine lv_istore (lv' := [(9, .int (nI (dnQ S i 1 (j + 1)))), (7, .int (nI (dnQ S i 0 (j + 1)))), (6, .int (nI (lsN S i (j + 1)))), (5, .int (nI (lfN S i (j + 1)))), (17, .int (nI ((lfN S i j) + (tk (S 4 i))))), (16, .int (nI (tk (S 1 j)))), (15, .int (nI 0)), (14, .int (nI 1)), (0, .ref o), (1, .int (nI (cntF (presB S) i))), (2, .int (nI (suF (fun x => cntF (markB S x) (sB S)) i))), (3, .int (nI i)), (4, .int (nI (tk (S 3 i)))), (8, .int (nI (dnQ S i 2 j))), (10, .int (nI (rnF (doS S i) j))), (11, .int (nI (lgF (doS S i) j))), (12, .int (nI j))]) hx hb dL_singers_268 hl (by decide) rfl (fun ls hl => ?_)
                    refine lv_iload hx hb dL_singers_270 (lv_at hl 13 rfl) ?_
                    refine lv_iload hx hb dL_singers_272 (lv_at hl 6 rfl) ?_
                    refine lv_iconst (v := (nI 2)) hx hb dL_singers_274 (by decide) ?_
                    refine lv_icmp_ne (tgt := 282) hx hb dL_singers_275 (by decide) (fun c275 => ?_) (fun c275 => by first | exact absurd (by decide) c275 | exact absurd c275 (by decide))
                    refine lv_iconst (v := (nI 0)) hx hb dL_singers_282 (by decide) ?_
                    refine lv_iadd hx hb dL_singers_283 ?_
                    refine g_top (nI_add (dnQ S i 2 j) 0) ?_
                    refine g_top (y := (nI (dnQ S i 2 (j + 1)))) (congrArg nI (dn_f (by rw [hd]; decide))) ?_
                    refine lv_istore (lv' := [(8, .int (nI (dnQ S i 2 (j + 1)))), (9, .int (nI (dnQ S i 1 (j + 1)))), (7, .int (nI (dnQ S i 0 (j + 1)))), (6, .int (nI (lsN S i (j + 1)))), (5, .int (nI (lfN S i (j + 1)))), (17, .int (nI ((lfN S i j) + (tk (S 4 i))))), (16, .int (nI (tk (S 1 j)))), (15, .int (nI 0)), (14, .int (nI 1)), (0, .ref o), (1, .int (nI (cntF (presB S) i))), (2, .int (nI (suF (fun x => cntF (markB S x) (sB S)) i))), (3, .int (nI i)), (4, .int (nI (tk (S 3 i)))), (10, .int (nI (rnF (doS S i) j))), (11, .int (nI (lgF (doS S i) j))), (12, .int (nI j))]) hx hb dL_singers_284 hl (by decide) rfl (fun ls hl => ?_)
                    refine lv_iload hx hb dL_singers_286 (lv_at hl 7 rfl) ?_
                    refine lv_if_ne (tgt := 298) hx hb dL_singers_288 (by decide) (fun c288 => by first | exact absurd (by decide) c288 | exact absurd c288 (by decide)) (fun c288 => ?_)
                    refine lv_iload hx hb dL_singers_291 (lv_at hl 14 rfl) ?_
                    refine lv_iconst (v := (nI 1)) hx hb dL_singers_293 (by decide) ?_
                    refine lv_iadd hx hb dL_singers_294 ?_
                    refine g_top (nI_add (rnF (doS S i) j) 1) ?_
                    refine lv_goto (tgt := 299) hx hb dL_singers_295 (by decide) ?_
                    refine g_top (y := (nI (rnF (doS S i) (j + 1)))) (congrArg nI (rn_t hd)) ?_
                    have hrn := rnF_le (doS S i) (j + 1)
                    refine lv_istore (lv' := [(10, .int (nI (rnF (doS S i) (j + 1)))), (8, .int (nI (dnQ S i 2 (j + 1)))), (9, .int (nI (dnQ S i 1 (j + 1)))), (7, .int (nI (dnQ S i 0 (j + 1)))), (6, .int (nI (lsN S i (j + 1)))), (5, .int (nI (lfN S i (j + 1)))), (17, .int (nI ((lfN S i j) + (tk (S 4 i))))), (16, .int (nI (tk (S 1 j)))), (15, .int (nI 0)), (14, .int (nI 1)), (0, .ref o), (1, .int (nI (cntF (presB S) i))), (2, .int (nI (suF (fun x => cntF (markB S x) (sB S)) i))), (3, .int (nI i)), (4, .int (nI (tk (S 3 i)))), (11, .int (nI (lgF (doS S i) j))), (12, .int (nI j))]) hx hb dL_singers_299 hl (by decide) rfl (fun ls hl => ?_)
                    refine lv_iload hx hb dL_singers_301 (lv_at hl 0 rfl) ?_
                    refine lv_iload hx hb dL_singers_303 (lv_at hl 15 rfl) ?_
                    refine g_icmp_le (tgt := 313) (a := rnF (doS S i) (j + 1)) (b := lgF (doS S i) j) hx hb (by omega) (by omega) dL_singers_305 (by decide) (fun c305 => ?_) (fun c305 => ?_)
                    · refine lv_iload hx hb dL_singers_313 (lv_at hl 15 rfl) ?_
                      refine g_top (y := (nI (lgF (doS S i) (j + 1)))) (congrArg nI (lg_1 (by omega))) ?_
                      refine lv_istore (lv' := [(11, .int (nI (lgF (doS S i) (j + 1)))), (10, .int (nI (rnF (doS S i) (j + 1)))), (8, .int (nI (dnQ S i 2 (j + 1)))), (9, .int (nI (dnQ S i 1 (j + 1)))), (7, .int (nI (dnQ S i 0 (j + 1)))), (6, .int (nI (lsN S i (j + 1)))), (5, .int (nI (lfN S i (j + 1)))), (17, .int (nI ((lfN S i j) + (tk (S 4 i))))), (16, .int (nI (tk (S 1 j)))), (15, .int (nI 0)), (14, .int (nI 1)), (0, .ref o), (1, .int (nI (cntF (presB S) i))), (2, .int (nI (suF (fun x => cntF (markB S x) (sB S)) i))), (3, .int (nI i)), (4, .int (nI (tk (S 3 i)))), (12, .int (nI j))]) hx hb dL_singers_315 hl (by decide) rfl (fun ls hl => ?_)
                      refine lv_aload_n hx hb dL_singers_317 rfl (lv_at hl 11 rfl) ?_
                      refine lv_iload_n hx hb dL_singers_318 rfl (lv_at hl 14 rfl) ?_
                      refine lv_iload hx hb dL_singers_319 (lv_at hl 16 rfl) ?_
                      refine g_runV (As := [.int (nI i), .int (nI j)]) (rest := []) (own := RL) (C := RX7) (T := TX7) (N := 7) 2 hx hb hml hown hts hK hz hP hL hS hlo hl.1 (c_X7_left l o b S tf tn P C kp zp ((nI i)) ((nI j))  τ_18 sz hW hY.1.1 ) gL_singers_X7_left rfl rfl rfl (by decide +kernel) ⟨Nat.le_of_ble_eq_true rfl, Nat.le_of_ble_eq_true rfl⟩ hW.c0 rfl rfl rfl (Nat.le_of_ble_eq_true rfl) dL_singers_321 ⟨Nat.le_of_ble_eq_true rfl, Nat.le_of_ble_eq_true rfl⟩ (g_kxi0 (fun r_19 τ_19 H locs z_19 hz hp hP hL hS => ?_))
                      obtain ⟨hr_19, hW, hz_19, ha_19⟩ := hp
                      have hz := hz.trans hz_19
                      subst hr_19
                      have hag := hag.tr ha_19 (fun q h => h)
                      have hlf := lfN_le hY (i := i) (k := j + 1) (by omega) (by omega)
                      refine g_top (y := (nI (lfN S i (j + 1)))) (yl hY (by omega) (by omega)) ?_
                      refine lv_iload hx hb dL_singers_324 (lv_at hl 6 rfl) ?_
                      refine lv_icmp_eq (tgt := 331) hx hb dL_singers_326 (by decide) (fun c326 => ?_) (fun c326 => absurd rfl c326)
                      refine lv_iinc (v := (nI (j + 1))) (lv' := [(12, .int (nI (j + 1))), (11, .int (nI (lgF (doS S i) (j + 1)))), (10, .int (nI (rnF (doS S i) (j + 1)))), (8, .int (nI (dnQ S i 2 (j + 1)))), (9, .int (nI (dnQ S i 1 (j + 1)))), (7, .int (nI (dnQ S i 0 (j + 1)))), (6, .int (nI (lsN S i (j + 1)))), (5, .int (nI (lfN S i (j + 1)))), (17, .int (nI ((lfN S i j) + (tk (S 4 i))))), (16, .int (nI (tk (S 1 j)))), (15, .int (nI 0)), (14, .int (nI 1)), (0, .ref o), (1, .int (nI (cntF (presB S) i))), (2, .int (nI (suF (fun x => cntF (markB S x) (sB S)) i))), (3, .int (nI i)), (4, .int (nI (tk (S 3 i))))]) hx hb dL_singers_331 hl (k := 16) rfl (g_inc j 1) (by decide) rfl (fun ls hl => ?_)
                      refine lv_goto (tgt := 49) hx hb dL_singers_334 (by decide) ?_
                      exact ih_lpB (j + 1) (by omega) (by omega) τ_19 hW hag hL H locs ls hz hP hS (lv_sub hl [12, 13, 14, 15, 16, 7, 6, 5, 3, 4, 2, 1, 0] rfl)
                    · refine lv_iload hx hb dL_singers_308 (lv_at hl 0 rfl) ?_
                      refine lv_goto (tgt := 315) hx hb dL_singers_310 (by decide) ?_
                      refine g_top (y := (nI (lgF (doS S i) (j + 1)))) (congrArg nI (lg_2 (by omega))) ?_
                      refine lv_istore (lv' := [(11, .int (nI (lgF (doS S i) (j + 1)))), (10, .int (nI (rnF (doS S i) (j + 1)))), (8, .int (nI (dnQ S i 2 (j + 1)))), (9, .int (nI (dnQ S i 1 (j + 1)))), (7, .int (nI (dnQ S i 0 (j + 1)))), (6, .int (nI (lsN S i (j + 1)))), (5, .int (nI (lfN S i (j + 1)))), (17, .int (nI ((lfN S i j) + (tk (S 4 i))))), (16, .int (nI (tk (S 1 j)))), (15, .int (nI 0)), (14, .int (nI 1)), (0, .ref o), (1, .int (nI (cntF (presB S) i))), (2, .int (nI (suF (fun x => cntF (markB S x) (sB S)) i))), (3, .int (nI i)), (4, .int (nI (tk (S 3 i)))), (12, .int (nI j))]) hx hb dL_singers_315 hl (by decide) rfl (fun ls hl => ?_)
                      refine lv_aload_n hx hb dL_singers_317 rfl (lv_at hl 11 rfl) ?_
                      refine lv_iload_n hx hb dL_singers_318 rfl (lv_at hl 14 rfl) ?_
                      refine lv_iload hx hb dL_singers_319 (lv_at hl 16 rfl) ?_
                      refine g_runV (As := [.int (nI i), .int (nI j)]) (rest := []) (own := RL) (C := RX7) (T := TX7) (N := 7) 2 hx hb hml hown hts hK hz hP hL hS hlo hl.1 (c_X7_left l o b S tf tn P C kp zp ((nI i)) ((nI j))  τ_18 sz hW hY.1.1 ) gL_singers_X7_left rfl rfl rfl (by decide +kernel) ⟨Nat.le_of_ble_eq_true rfl, Nat.le_of_ble_eq_true rfl⟩ hW.c0 rfl rfl rfl (Nat.le_of_ble_eq_true rfl) dL_singers_321 ⟨Nat.le_of_ble_eq_true rfl, Nat.le_of_ble_eq_true rfl⟩ (g_kxi0 (fun r_20 τ_20 H locs z_20 hz hp hP hL hS => ?_))
                      obtain ⟨hr_20, hW, hz_20, ha_20⟩ := hp
                      have hz := hz.trans hz_20
                      subst hr_20
                      have hag := hag.tr ha_20 (fun q h => h)
                      have hlf := lfN_le hY (i := i) (k := j + 1) (by omega) (by omega)
                      refine g_top (y := (nI (lfN S i (j + 1)))) (yl hY (by omega) (by omega)) ?_
                      refine lv_iload hx hb dL_singers_324 (lv_at hl 6 rfl) ?_
                      refine lv_icmp_eq (tgt := 331) hx hb dL_singers_326 (by decide) (fun c326 => ?_) (fun c326 => absurd rfl c326)
                      refine lv_iinc (v := (nI (j + 1))) (lv' := [(12, .int (nI (j + 1))), (11, .int (nI (lgF (doS S i) (j + 1)))), (10, .int (nI (rnF (doS S i) (j + 1)))), (8, .int (nI (dnQ S i 2 (j + 1)))), (9, .int (nI (dnQ S i 1 (j + 1)))), (7, .int (nI (dnQ S i 0 (j + 1)))), (6, .int (nI (lsN S i (j + 1)))), (5, .int (nI (lfN S i (j + 1)))), (17, .int (nI ((lfN S i j) + (tk (S 4 i))))), (16, .int (nI (tk (S 1 j)))), (15, .int (nI 0)), (14, .int (nI 1)), (0, .ref o), (1, .int (nI (cntF (presB S) i))), (2, .int (nI (suF (fun x => cntF (markB S x) (sB S)) i))), (3, .int (nI i)), (4, .int (nI (tk (S 3 i))))]) hx hb dL_singers_331 hl (k := 16) rfl (g_inc j 1) (by decide) rfl (fun ls hl => ?_)
                      refine lv_goto (tgt := 49) hx hb dL_singers_334 (by decide) ?_
                      exact ih_lpB (j + 1) (by omega) (by omega) τ_20 hW hag hL H locs ls hz hP hS (lv_sub hl [12, 13, 14, 15, 16, 7, 6, 5, 3, 4, 2, 1, 0] rfl)
                  · refine lv_iload hx hb dL_singers_230 (lv_at hl 0 rfl) ?_
                    refine lv_goto (tgt := 237) hx hb dL_singers_232 (by decide) ?_
                    refine g_top (y := (nI (lsN S i (j + 1)))) (congrArg nI (ls_2 (by omega))) ?_
                    refine lv_istore (lv' := [(6, .int (nI (lsN S i (j + 1)))), (5, .int (nI (lfN S i (j + 1)))), (17, .int (nI ((lfN S i j) + (tk (S 4 i))))), (16, .int (nI (tk (S 1 j)))), (15, .int (nI 0)), (14, .int (nI 1)), (0, .ref o), (1, .int (nI (cntF (presB S) i))), (2, .int (nI (suF (fun x => cntF (markB S x) (sB S)) i))), (3, .int (nI i)), (4, .int (nI (tk (S 3 i)))), (7, .int (nI (dnQ S i 0 j))), (8, .int (nI (dnQ S i 2 j))), (9, .int (nI (dnQ S i 1 j))), (10, .int (nI (rnF (doS S i) j))), (11, .int (nI (lgF (doS S i) j))), (12, .int (nI j))]) hx hb dL_singers_237 hl (by decide) rfl (fun ls hl => ?_)
                    refine lv_iload hx hb dL_singers_239 (lv_at hl 11 rfl) ?_
                    refine lv_iload hx hb dL_singers_241 (lv_at hl 4 rfl) ?_
                    refine lv_if_ne (tgt := 250) hx hb dL_singers_243 (by decide) (fun c243 => by first | exact absurd (by decide) c243 | exact absurd c243 (by decide)) (fun c243 => ?_)
                    refine lv_iconst (v := (nI 1)) hx hb dL_singers_246 (by decide) ?_
                    refine lv_goto (tgt := 251) hx hb dL_singers_247 (by decide) ?_
                    refine lv_iadd hx hb dL_singers_251 ?_
                    refine g_top (nI_add (dnQ S i 0 j) 1) ?_
                    refine g_top (y := (nI (dnQ S i 0 (j + 1)))) (congrArg nI (dn_t hd)) ?_
                    refine lv_istore (lv' := [(7, .int (nI (dnQ S i 0 (j + 1)))), (6, .int (nI (lsN S i (j + 1)))), (5, .int (nI (lfN S i (j + 1)))), (17, .int (nI ((lfN S i j) + (tk (S 4 i))))), (16, .int (nI (tk (S 1 j)))), (15, .int (nI 0)), (14, .int (nI 1)), (0, .ref o), (1, .int (nI (cntF (presB S) i))), (2, .int (nI (suF (fun x => cntF (markB S x) (sB S)) i))), (3, .int (nI i)), (4, .int (nI (tk (S 3 i)))), (8, .int (nI (dnQ S i 2 j))), (9, .int (nI (dnQ S i 1 j))), (10, .int (nI (rnF (doS S i) j))), (11, .int (nI (lgF (doS S i) j))), (12, .int (nI j))]) hx hb dL_singers_252 hl (by decide) rfl (fun ls hl => ?_)
                    refine lv_iload hx hb dL_singers_254 (lv_at hl 13 rfl) ?_
                    refine lv_iload hx hb dL_singers_256 (lv_at hl 5 rfl) ?_
                    refine lv_iconst (v := (nI 1)) hx hb dL_singers_258 (by decide) ?_
                    refine lv_icmp_ne (tgt := 266) hx hb dL_singers_259 (by decide) (fun c259 => ?_) (fun c259 => by first | exact absurd (by decide) c259 | exact absurd c259 (by decide))
                    refine lv_iconst (v := (nI 0)) hx hb dL_singers_266 (by decide) ?_
                    refine lv_iadd hx hb dL_singers_267 ?_
                    refine g_top (nI_add (dnQ S i 1 j) 0) ?_
                    refine g_top (y := (nI (dnQ S i 1 (j + 1)))) (congrArg nI (dn_f (by rw [hd]; decide))) ?_
                    refine lv_istore (lv' := [(9, .int (nI (dnQ S i 1 (j + 1)))), (7, .int (nI (dnQ S i 0 (j + 1)))), (6, .int (nI (lsN S i (j + 1)))), (5, .int (nI (lfN S i (j + 1)))), (17, .int (nI ((lfN S i j) + (tk (S 4 i))))), (16, .int (nI (tk (S 1 j)))), (15, .int (nI 0)), (14, .int (nI 1)), (0, .ref o), (1, .int (nI (cntF (presB S) i))), (2, .int (nI (suF (fun x => cntF (markB S x) (sB S)) i))), (3, .int (nI i)), (4, .int (nI (tk (S 3 i)))), (8, .int (nI (dnQ S i 2 j))), (10, .int (nI (rnF (doS S i) j))), (11, .int (nI (lgF (doS S i) j))), (12, .int (nI j))]) hx hb dL_singers_268 hl (by decide) rfl (fun ls hl => ?_)
                    refine lv_iload hx hb dL_singers_270 (lv_at hl 13 rfl) ?_
                    refine lv_iload hx hb dL_singers_272 (lv_at hl 6 rfl) ?_
                    refine lv_iconst (v := (nI 2)) hx hb dL_singers_274 (by decide) ?_
                    refine lv_icmp_ne (tgt := 282) hx hb dL_singers_275 (by decide) (fun c275 => ?_) (fun c275 => by first | exact absurd (by decide) c275 | exact absurd c275 (by decide))
                    refine lv_iconst (v := (nI 0)) hx hb dL_singers_282 (by decide) ?_
                    refine lv_iadd hx hb dL_singers_283 ?_
                    refine g_top (nI_add (dnQ S i 2 j) 0) ?_
                    refine g_top (y := (nI (dnQ S i 2 (j + 1)))) (congrArg nI (dn_f (by rw [hd]; decide))) ?_
                    refine lv_istore (lv' := [(8, .int (nI (dnQ S i 2 (j + 1)))), (9, .int (nI (dnQ S i 1 (j + 1)))), (7, .int (nI (dnQ S i 0 (j + 1)))), (6, .int (nI (lsN S i (j + 1)))), (5, .int (nI (lfN S i (j + 1)))), (17, .int (nI ((lfN S i j) + (tk (S 4 i))))), (16, .int (nI (tk (S 1 j)))), (15, .int (nI 0)), (14, .int (nI 1)), (0, .ref o), (1, .int (nI (cntF (presB S) i))), (2, .int (nI (suF (fun x => cntF (markB S x) (sB S)) i))), (3, .int (nI i)), (4, .int (nI (tk (S 3 i)))), (10, .int (nI (rnF (doS S i) j))), (11, .int (nI (lgF (doS S i) j))), (12, .int (nI j))]) hx hb dL_singers_284 hl (by decide) rfl (fun ls hl => ?_)
                    refine lv_iload hx hb dL_singers_286 (lv_at hl 7 rfl) ?_
                    refine lv_if_ne (tgt := 298) hx hb dL_singers_288 (by decide) (fun c288 => by first | exact absurd (by decide) c288 | exact absurd c288 (by decide)) (fun c288 => ?_)
                    refine lv_iload hx hb dL_singers_291 (lv_at hl 14 rfl) ?_
                    refine lv_iconst (v := (nI 1)) hx hb dL_singers_293 (by decide) ?_
                    refine lv_iadd hx hb dL_singers_294 ?_
                    refine g_top (nI_add (rnF (doS S i) j) 1) ?_
                    refine lv_goto (tgt := 299) hx hb dL_singers_295 (by decide) ?_
                    refine g_top (y := (nI (rnF (doS S i) (j + 1)))) (congrArg nI (rn_t hd)) ?_
                    have hrn := rnF_le (doS S i) (j + 1)
                    refine lv_istore (lv' := [(10, .int (nI (rnF (doS S i) (j + 1)))), (8, .int (nI (dnQ S i 2 (j + 1)))), (9, .int (nI (dnQ S i 1 (j + 1)))), (7, .int (nI (dnQ S i 0 (j + 1)))), (6, .int (nI (lsN S i (j + 1)))), (5, .int (nI (lfN S i (j + 1)))), (17, .int (nI ((lfN S i j) + (tk (S 4 i))))), (16, .int (nI (tk (S 1 j)))), (15, .int (nI 0)), (14, .int (nI 1)), (0, .ref o), (1, .int (nI (cntF (presB S) i))), (2, .int (nI (suF (fun x => cntF (markB S x) (sB S)) i))), (3, .int (nI i)), (4, .int (nI (tk (S 3 i)))), (11, .int (nI (lgF (doS S i) j))), (12, .int (nI j))]) hx hb dL_singers_299 hl (by decide) rfl (fun ls hl => ?_)
                    refine lv_iload hx hb dL_singers_301 (lv_at hl 0 rfl) ?_
                    refine lv_iload hx hb dL_singers_303 (lv_at hl 15 rfl) ?_
                    refine g_icmp_le (tgt := 313) (a := rnF (doS S i) (j + 1)) (b := lgF (doS S i) j) hx hb (by omega) (by omega) dL_singers_305 (by decide) (fun c305 => ?_) (fun c305 => ?_)
                    · refine lv_iload hx hb dL_singers_313 (lv_at hl 15 rfl) ?_
                      refine g_top (y := (nI (lgF (doS S i) (j + 1)))) (congrArg nI (lg_1 (by omega))) ?_
                      refine lv_istore (lv' := [(11, .int (nI (lgF (doS S i) (j + 1)))), (10, .int (nI (rnF (doS S i) (j + 1)))), (8, .int (nI (dnQ S i 2 (j + 1)))), (9, .int (nI (dnQ S i 1 (j + 1)))), (7, .int (nI (dnQ S i 0 (j + 1)))), (6, .int (nI (lsN S i (j + 1)))), (5, .int (nI (lfN S i (j + 1)))), (17, .int (nI ((lfN S i j) + (tk (S 4 i))))), (16, .int (nI (tk (S 1 j)))), (15, .int (nI 0)), (14, .int (nI 1)), (0, .ref o), (1, .int (nI (cntF (presB S) i))), (2, .int (nI (suF (fun x => cntF (markB S x) (sB S)) i))), (3, .int (nI i)), (4, .int (nI (tk (S 3 i)))), (12, .int (nI j))]) hx hb dL_singers_315 hl (by decide) rfl (fun ls hl => ?_)
                      refine lv_aload_n hx hb dL_singers_317 rfl (lv_at hl 11 rfl) ?_
                      refine lv_iload_n hx hb dL_singers_318 rfl (lv_at hl 14 rfl) ?_
                      refine lv_iload hx hb dL_singers_319 (lv_at hl 16 rfl) ?_
                      refine g_runV (As := [.int (nI i), .int (nI j)]) (rest := []) (own := RL) (C := RX7) (T := TX7) (N := 7) 2 hx hb hml hown hts hK hz hP hL hS hlo hl.1 (c_X7_left l o b S tf tn P C kp zp ((nI i)) ((nI j))  τ_18 sz hW hY.1.1 ) gL_singers_X7_left rfl rfl rfl (by decide +kernel) ⟨Nat.le_of_ble_eq_true rfl, Nat.le_of_ble_eq_true rfl⟩ hW.c0 rfl rfl rfl (Nat.le_of_ble_eq_true rfl) dL_singers_321 ⟨Nat.le_of_ble_eq_true rfl, Nat.le_of_ble_eq_true rfl⟩ (g_kxi0 (fun r_21 τ_21 H locs z_21 hz hp hP hL hS => ?_))
                      obtain ⟨hr_21, hW, hz_21, ha_21⟩ := hp
                      have hz := hz.trans hz_21
                      subst hr_21
                      have hag := hag.tr ha_21 (fun q h => h)
                      have hlf := lfN_le hY (i := i) (k := j + 1) (by omega) (by omega)
                      refine g_top (y := (nI (lfN S i (j + 1)))) (yl hY (by omega) (by omega)) ?_
                      refine lv_iload hx hb dL_singers_324 (lv_at hl 6 rfl) ?_
                      refine lv_icmp_eq (tgt := 331) hx hb dL_singers_326 (by decide) (fun c326 => ?_) (fun c326 => absurd rfl c326)
                      refine lv_iinc (v := (nI (j + 1))) (lv' := [(12, .int (nI (j + 1))), (11, .int (nI (lgF (doS S i) (j + 1)))), (10, .int (nI (rnF (doS S i) (j + 1)))), (8, .int (nI (dnQ S i 2 (j + 1)))), (9, .int (nI (dnQ S i 1 (j + 1)))), (7, .int (nI (dnQ S i 0 (j + 1)))), (6, .int (nI (lsN S i (j + 1)))), (5, .int (nI (lfN S i (j + 1)))), (17, .int (nI ((lfN S i j) + (tk (S 4 i))))), (16, .int (nI (tk (S 1 j)))), (15, .int (nI 0)), (14, .int (nI 1)), (0, .ref o), (1, .int (nI (cntF (presB S) i))), (2, .int (nI (suF (fun x => cntF (markB S x) (sB S)) i))), (3, .int (nI i)), (4, .int (nI (tk (S 3 i))))]) hx hb dL_singers_331 hl (k := 16) rfl (g_inc j 1) (by decide) rfl (fun ls hl => ?_)
                      refine lv_goto (tgt := 49) hx hb dL_singers_334 (by decide) ?_
                      exact ih_lpB (j + 1) (by omega) (by omega) τ_21 hW hag hL H locs ls hz hP hS (lv_sub hl [12, 13, 14, 15, 16, 7, 6, 5, 3, 4, 2, 1, 0] rfl)
                    · refine lv_iload hx hb dL_singers_308 (lv_at hl 0 rfl) ?_
                      refine lv_goto (tgt := 315) hx hb dL_singers_310 (by decide) ?_
                      refine g_top (y := (nI (lgF (doS S i) (j + 1)))) (congrArg nI (lg_2 (by omega))) ?_
                      refine lv_istore (lv' := [(11, .int (nI (lgF (doS S i) (j + 1)))), (10, .int (nI (rnF (doS S i) (j + 1)))), (8, .int (nI (dnQ S i 2 (j + 1)))), (9, .int (nI (dnQ S i 1 (j + 1)))), (7, .int (nI (dnQ S i 0 (j + 1)))), (6, .int (nI (lsN S i (j + 1)))), (5, .int (nI (lfN S i (j + 1)))), (17, .int (nI ((lfN S i j) + (tk (S 4 i))))), (16, .int (nI (tk (S 1 j)))), (15, .int (nI 0)), (14, .int (nI 1)), (0, .ref o), (1, .int (nI (cntF (presB S) i))), (2, .int (nI (suF (fun x => cntF (markB S x) (sB S)) i))), (3, .int (nI i)), (4, .int (nI (tk (S 3 i)))), (12, .int (nI j))]) hx hb dL_singers_315 hl (by decide) rfl (fun ls hl => ?_)
                      refine lv_aload_n hx hb dL_singers_317 rfl (lv_at hl 11 rfl) ?_
                      refine lv_iload_n hx hb dL_singers_318 rfl (lv_at hl 14 rfl) ?_
                      refine lv_iload hx hb dL_singers_319 (lv_at hl 16 rfl) ?_
                      refine g_runV (As := [.int (nI i), .int (nI j)]) (rest := []) (own := RL) (C := RX7) (T := TX7) (N := 7) 2 hx hb hml hown hts hK hz hP hL hS hlo hl.1 (c_X7_left l o b S tf tn P C kp zp ((nI i)) ((nI j))  τ_18 sz hW hY.1.1 ) gL_singers_X7_left rfl rfl rfl (by decide +kernel) ⟨Nat.le_of_ble_eq_true rfl, Nat.le_of_ble_eq_true rfl⟩ hW.c0 rfl rfl rfl (Nat.le_of_ble_eq_true rfl) dL_singers_321 ⟨Nat.le_of_ble_eq_true rfl, Nat.le_of_ble_eq_true rfl⟩ (g_kxi0 (fun r_22 τ_22 H locs z_22 hz hp hP hL hS => ?_))
                      obtain ⟨hr_22, hW, hz_22, ha_22⟩ := hp
                      have hz := hz.trans hz_22
                      subst hr_22
                      have hag := hag.tr ha_22 (fun q h => h)
                      have hlf := lfN_le hY (i := i) (k := j + 1) (by omega) (by omega)
                      refine g_top (y := (nI (lfN S i (j + 1)))) (yl hY (by omega) (by omega)) ?_
                      refine lv_iload hx hb dL_singers_324 (lv_at hl 6 rfl) ?_
                      refine lv_icmp_eq (tgt := 331) hx hb dL_singers_326 (by decide) (fun c326 => ?_) (fun c326 => absurd rfl c326)
                      refine lv_iinc (v := (nI (j + 1))) (lv' := [(12, .int (nI (j + 1))), (11, .int (nI (lgF (doS S i) (j + 1)))), (10, .int (nI (rnF (doS S i) (j + 1)))), (8, .int (nI (dnQ S i 2 (j + 1)))), (9, .int (nI (dnQ S i 1 (j + 1)))), (7, .int (nI (dnQ S i 0 (j + 1)))), (6, .int (nI (lsN S i (j + 1)))), (5, .int (nI (lfN S i (j + 1)))), (17, .int (nI ((lfN S i j) + (tk (S 4 i))))), (16, .int (nI (tk (S 1 j)))), (15, .int (nI 0)), (14, .int (nI 1)), (0, .ref o), (1, .int (nI (cntF (presB S) i))), (2, .int (nI (suF (fun x => cntF (markB S x) (sB S)) i))), (3, .int (nI i)), (4, .int (nI (tk (S 3 i))))]) hx hb dL_singers_331 hl (k := 16) rfl (g_inc j 1) (by decide) rfl (fun ls hl => ?_)
                      refine lv_goto (tgt := 49) hx hb dL_singers_334 (by decide) ?_
                      exact ih_lpB (j + 1) (by omega) (by omega) τ_22 hW hag hL H locs ls hz hP hS (lv_sub hl [12, 13, 14, 15, 16, 7, 6, 5, 3, 4, 2, 1, 0] rfl)
                · skip
                  have htsg := (do_1.mp hd).1
                  refine g_top (y := nI 1) (by rw [htsg]; rfl) ?_
                  have hd0 : dosQ S i j ≠ 0 := by rw [hd]; decide
                  refine lv_istore (lv' := [(14, .int (nI 1)), (0, .ref o), (1, .int (nI (cntF (presB S) i))), (2, .int (nI (suF (fun x => cntF (markB S x) (sB S)) i))), (3, .int (nI i)), (4, .int (nI (tk (S 3 i)))), (5, .int (nI (lfN S i j))), (6, .int (nI (lsN S i j))), (7, .int (nI (dnQ S i 0 j))), (8, .int (nI (dnQ S i 2 j))), (9, .int (nI (dnQ S i 1 j))), (10, .int (nI (rnF (doS S i) j))), (11, .int (nI (lgF (doS S i) j))), (12, .int (nI j))]) hx hb dL_singers_109 hl (by decide) rfl (fun ls hl => ?_)
                  refine lv_aload_n hx hb dL_singers_111 rfl (lv_at hl 1 rfl) ?_
                  refine lv_iload_n hx hb dL_singers_112 rfl (lv_at hl 4 rfl) ?_
                  refine lv_iload hx hb dL_singers_113 (lv_at hl 13 rfl) ?_
                  refine g_runV (As := [.int (nI i), .int (nI j)]) (rest := []) (own := RL) (C := RX7) (T := TX7) (N := 7) 2 hx hb hml hown hts hK hz hP hL hS hlo hl.1 (c_X7_does l o b S tf tn P C kp zp ((nI i)) ((nI j))  υ sz hW hY.1.1 ) gL_singers_X7_does rfl rfl rfl (by decide +kernel) ⟨Nat.le_of_ble_eq_true rfl, Nat.le_of_ble_eq_true rfl⟩ hW.c0 rfl rfl rfl (Nat.le_of_ble_eq_true rfl) dL_singers_115 ⟨Nat.le_of_ble_eq_true rfl, Nat.le_of_ble_eq_true rfl⟩ (g_kxi0 (fun r_23 τ_23 H locs z_23 hz hp hP hL hS => ?_))
                  obtain ⟨hr_23, hW, hz_23, ha_23⟩ := hp
                  have hz := hz.trans hz_23
                  subst hr_23
                  have hag := hag.tr ha_23 (fun q h => h)
                  have hdo := dosQ_lt S i j
                  refine g_top (y := (nI (dosQ S i j))) (yd hY (by omega) (by omega)) ?_
                  refine g_top (y := (nI 1)) (congrArg nI hd) ?_
                  refine lv_istore (lv' := [(15, .int (nI 1)), (14, .int (nI 1)), (0, .ref o), (1, .int (nI (cntF (presB S) i))), (2, .int (nI (suF (fun x => cntF (markB S x) (sB S)) i))), (3, .int (nI i)), (4, .int (nI (tk (S 3 i)))), (5, .int (nI (lfN S i j))), (6, .int (nI (lsN S i j))), (7, .int (nI (dnQ S i 0 j))), (8, .int (nI (dnQ S i 2 j))), (9, .int (nI (dnQ S i 1 j))), (10, .int (nI (rnF (doS S i) j))), (11, .int (nI (lgF (doS S i) j))), (12, .int (nI j))]) hx hb dL_singers_118 hl (by decide) rfl (fun ls hl => ?_)
                  refine lv_aload_n hx hb dL_singers_120 rfl (lv_at hl 2 rfl) ?_
                  refine lv_iload hx hb dL_singers_121 (lv_at hl 14 rfl) ?_
                  refine lv_iconst (v := (nI 1)) hx hb dL_singers_123 (by decide) ?_
                  refine g_runV (As := [.int (nI j), .int (nI 1)]) (rest := []) (own := RL) (C := RX7) (T := TX7) (N := 7) 2 hx hb hml hown hts hK hz hP hL hS hlo hl.1 (c_X7_beat l o b S tf tn P C kp zp ((nI j)) ((nI 1))  τ_23 sz hW hY.1.1 ) gL_singers_X7_beat rfl rfl rfl (by decide +kernel) ⟨Nat.le_of_ble_eq_true rfl, Nat.le_of_ble_eq_true rfl⟩ hW.c0 rfl rfl rfl (Nat.le_of_ble_eq_true rfl) dL_singers_124 ⟨Nat.le_of_ble_eq_true rfl, Nat.le_of_ble_eq_true rfl⟩ (g_kxi0 (fun r_24 τ_24 H locs z_24 hz hp hP hL hS => ?_))
                  obtain ⟨hr_24, hW, hz_24, ha_24⟩ := hp
                  have hz := hz.trans hz_24
                  subst hr_24
                  have hag := hag.tr ha_24 (fun q h => h)
                  have hxlo := hY.lo (b := j) (by omega)
                  refine g_top (y := (nI (tk (S 1 j)))) (yb_1 hY (by omega)) ?_
                  refine lv_istore (lv' := [(16, .int (nI (tk (S 1 j)))), (15, .int (nI 1)), (14, .int (nI 1)), (0, .ref o), (1, .int (nI (cntF (presB S) i))), (2, .int (nI (suF (fun x => cntF (markB S x) (sB S)) i))), (3, .int (nI i)), (4, .int (nI (tk (S 3 i)))), (5, .int (nI (lfN S i j))), (6, .int (nI (lsN S i j))), (7, .int (nI (dnQ S i 0 j))), (8, .int (nI (dnQ S i 2 j))), (9, .int (nI (dnQ S i 1 j))), (10, .int (nI (rnF (doS S i) j))), (11, .int (nI (lgF (doS S i) j))), (12, .int (nI j))]) hx hb dL_singers_127 hl (by decide) rfl (fun ls hl => ?_)
                  refine lv_iload hx hb dL_singers_129 (lv_at hl 2 rfl) ?_
                  refine lv_iload hx hb dL_singers_131 (lv_at hl 1 rfl) ?_
                  refine lv_iconst (v := (nI 3)) hx hb dL_singers_133 (by decide) ?_
                  refine lv_icmp_ge (tgt := 141) hx hb dL_singers_134 (by decide) (fun c134 => by first | exact absurd (by decide) c134 | exact absurd c134 (by decide)) (fun c134 => ?_)
                  refine lv_iconst (v := (nI 1)) hx hb dL_singers_137 (by decide) ?_
                  refine lv_goto (tgt := 142) hx hb dL_singers_138 (by decide) ?_
                  refine lv_icmp_ne (tgt := 181) hx hb dL_singers_142 (by decide) (fun c142 => by first | exact absurd (by decide) c142 | exact absurd c142 (by decide)) (fun c142 => ?_)
                  refine lv_iload hx hb dL_singers_145 (lv_at hl 1 rfl) ?_
                  refine lv_if_ne (tgt := 157) hx hb dL_singers_147 (by decide) (fun c147 => ?_) (fun c147 => by first | exact absurd (by decide) c147 | exact absurd c147 (by decide))
                  refine lv_iload hx hb dL_singers_157 (lv_at hl 1 rfl) ?_
                  refine lv_iconst (v := (nI 2)) hx hb dL_singers_159 (by decide) ?_
                  refine lv_icmp_ne (tgt := 170) hx hb dL_singers_160 (by decide) (fun c160 => ?_) (fun c160 => by first | exact absurd (by decide) c160 | exact absurd c160 (by decide))
                  refine lv_iload hx hb dL_singers_170 (lv_at hl 1 rfl) ?_
                  refine lv_if_lt (tgt := 181) hx hb dL_singers_172 (by decide) (fun c172 => by first | exact absurd (by decide) c172 | exact absurd c172 (by decide)) (fun c172 => ?_)
                  refine lv_iload hx hb dL_singers_175 (lv_at hl 1 rfl) ?_
                  refine lv_iconst (v := (nI 3)) hx hb dL_singers_177 (by decide) ?_
                  refine lv_icmp_le (tgt := 183) hx hb dL_singers_178 (by decide) (fun c178 => ?_) (fun c178 => by first | exact absurd (by decide) c178 | exact absurd c178 (by decide))
                  refine lv_iload hx hb dL_singers_183 (lv_at hl 8 rfl) ?_
                  refine lv_aload_n hx hb dL_singers_185 rfl (lv_at hl 3 rfl) ?_
                  refine lv_iload_n hx hb dL_singers_186 rfl (lv_at hl 6 rfl) ?_
                  refine lv_iconst (v := (nI 1)) hx hb dL_singers_187 (by decide) ?_
                  refine g_runV (As := [.int (nI i), .int (nI 1)]) (rest := [.int (nI (lfN S i j))]) (own := RL) (C := RX7) (T := TX7) (N := 7) 2 hx hb hml hown hts hK hz hP hL hS hlo hl.1 (c_X7_singer l o b S tf tn P C kp zp ((nI i)) ((nI 1))  τ_24 sz hW hY.1.1 ) gL_singers_X7_singer rfl rfl rfl (by decide +kernel) ⟨Nat.le_of_ble_eq_true rfl, Nat.le_of_ble_eq_true rfl⟩ hW.c0 rfl rfl rfl (Nat.le_of_ble_eq_true rfl) dL_singers_188 ⟨Nat.le_of_ble_eq_true rfl, Nat.le_of_ble_eq_true rfl⟩ (g_kxi0 (fun r_25 τ_25 H locs z_25 hz hp hP hL hS => ?_))
                  obtain ⟨hr_25, hW, hz_25, ha_25⟩ := hp
                  have hz := hz.trans hz_25
                  subst hr_25
                  have hag := hag.tr ha_25 (fun q h => h)
                  have hrc := hY.rc (i := i) (by omega)
                  refine g_top (y := (nI (tk (S 4 i)))) (yn_1 hY (by omega)) ?_
                  refine lv_iadd hx hb dL_singers_191 ?_
                  refine g_top (nI_add (lfN S i j) (tk (S 4 i))) ?_
                  refine lv_istore (lv' := [(17, .int (nI ((lfN S i j) + (tk (S 4 i))))), (16, .int (nI (tk (S 1 j)))), (15, .int (nI 1)), (14, .int (nI 1)), (0, .ref o), (1, .int (nI (cntF (presB S) i))), (2, .int (nI (suF (fun x => cntF (markB S x) (sB S)) i))), (3, .int (nI i)), (4, .int (nI (tk (S 3 i)))), (5, .int (nI (lfN S i j))), (6, .int (nI (lsN S i j))), (7, .int (nI (dnQ S i 0 j))), (8, .int (nI (dnQ S i 2 j))), (9, .int (nI (dnQ S i 1 j))), (10, .int (nI (rnF (doS S i) j))), (11, .int (nI (lgF (doS S i) j))), (12, .int (nI j))]) hx hb dL_singers_192 hl (by decide) rfl (fun ls hl => ?_)
                  refine lv_iload hx hb dL_singers_194 (lv_at hl 2 rfl) ?_
                  refine lv_if_ne (tgt := 207) hx hb dL_singers_196 (by decide) (fun c196 => ?_) (fun c196 => by first | exact absurd (by decide) c196 | exact absurd c196 (by decide))
                  refine lv_iload hx hb dL_singers_207 (lv_at hl 0 rfl) ?_
                  refine lv_iload hx hb dL_singers_209 (lv_at hl 8 rfl) ?_
                  refine g_icmp_le (tgt := 219) (a := (lfN S i j) + (tk (S 4 i))) (b := tk (S 3 i)) hx hb (by omega) (by omega) dL_singers_211 (by decide) (fun c211 => ?_) (fun c211 => ?_)
                  · refine lv_iload hx hb dL_singers_219 (lv_at hl 0 rfl) ?_
                    refine g_top (y := (nI (lfN S i (j + 1)))) (congrArg nI (lf_a hY hil hjl hd0 c211)) ?_
                    have hlf := lfN_le hY (i := i) (k := j + 1) hil (by omega)
                    refine lv_istore (lv' := [(5, .int (nI (lfN S i (j + 1)))), (17, .int (nI ((lfN S i j) + (tk (S 4 i))))), (16, .int (nI (tk (S 1 j)))), (15, .int (nI 1)), (14, .int (nI 1)), (0, .ref o), (1, .int (nI (cntF (presB S) i))), (2, .int (nI (suF (fun x => cntF (markB S x) (sB S)) i))), (3, .int (nI i)), (4, .int (nI (tk (S 3 i)))), (6, .int (nI (lsN S i j))), (7, .int (nI (dnQ S i 0 j))), (8, .int (nI (dnQ S i 2 j))), (9, .int (nI (dnQ S i 1 j))), (10, .int (nI (rnF (doS S i) j))), (11, .int (nI (lgF (doS S i) j))), (12, .int (nI j))]) hx hb dL_singers_221 hl (by decide) rfl (fun ls hl => ?_)
                    refine lv_iload hx hb dL_singers_223 (lv_at hl 0 rfl) ?_
                    refine lv_iload hx hb dL_singers_225 (lv_at hl 10 rfl) ?_
                    refine g_icmp_ge (tgt := 235) (a := lfN S i (j + 1)) (b := lsN S i j) hx hb (by omega) (by omega) dL_singers_227 (by decide) (fun c227 => ?_) (fun c227 => ?_)
                    · refine lv_iload hx hb dL_singers_235 (lv_at hl 10 rfl) ?_
                      refine g_top (y := (nI (lsN S i (j + 1)))) (congrArg nI (ls_1 (by omega))) ?_
                      refine lv_istore (lv' := [(6, .int (nI (lsN S i (j + 1)))), (5, .int (nI (lfN S i (j + 1)))), (17, .int (nI ((lfN S i j) + (tk (S 4 i))))), (16, .int (nI (tk (S 1 j)))), (15, .int (nI 1)), (14, .int (nI 1)), (0, .ref o), (1, .int (nI (cntF (presB S) i))), (2, .int (nI (suF (fun x => cntF (markB S x) (sB S)) i))), (3, .int (nI i)), (4, .int (nI (tk (S 3 i)))), (7, .int (nI (dnQ S i 0 j))), (8, .int (nI (dnQ S i 2 j))), (9, .int (nI (dnQ S i 1 j))), (10, .int (nI (rnF (doS S i) j))), (11, .int (nI (lgF (doS S i) j))), (12, .int (nI j))]) hx hb dL_singers_237 hl (by decide) rfl (fun ls hl => ?_)
                      refine lv_iload hx hb dL_singers_239 (lv_at hl 11 rfl) ?_
                      refine lv_iload hx hb dL_singers_241 (lv_at hl 4 rfl) ?_
                      refine lv_if_ne (tgt := 250) hx hb dL_singers_243 (by decide) (fun c243 => ?_) (fun c243 => by first | exact absurd (by decide) c243 | exact absurd c243 (by decide))
                      refine lv_iconst (v := (nI 0)) hx hb dL_singers_250 (by decide) ?_
                      refine lv_iadd hx hb dL_singers_251 ?_
                      refine g_top (nI_add (dnQ S i 0 j) 0) ?_
                      refine g_top (y := (nI (dnQ S i 0 (j + 1)))) (congrArg nI (dn_f (by rw [hd]; decide))) ?_
                      refine lv_istore (lv' := [(7, .int (nI (dnQ S i 0 (j + 1)))), (6, .int (nI (lsN S i (j + 1)))), (5, .int (nI (lfN S i (j + 1)))), (17, .int (nI ((lfN S i j) + (tk (S 4 i))))), (16, .int (nI (tk (S 1 j)))), (15, .int (nI 1)), (14, .int (nI 1)), (0, .ref o), (1, .int (nI (cntF (presB S) i))), (2, .int (nI (suF (fun x => cntF (markB S x) (sB S)) i))), (3, .int (nI i)), (4, .int (nI (tk (S 3 i)))), (8, .int (nI (dnQ S i 2 j))), (9, .int (nI (dnQ S i 1 j))), (10, .int (nI (rnF (doS S i) j))), (11, .int (nI (lgF (doS S i) j))), (12, .int (nI j))]) hx hb dL_singers_252 hl (by decide) rfl (fun ls hl => ?_)
                      refine lv_iload hx hb dL_singers_254 (lv_at hl 13 rfl) ?_
                      refine lv_iload hx hb dL_singers_256 (lv_at hl 5 rfl) ?_
                      refine lv_iconst (v := (nI 1)) hx hb dL_singers_258 (by decide) ?_
                      refine lv_icmp_ne (tgt := 266) hx hb dL_singers_259 (by decide) (fun c259 => by first | exact absurd (by decide) c259 | exact absurd c259 (by decide)) (fun c259 => ?_)
                      refine lv_iconst (v := (nI 1)) hx hb dL_singers_262 (by decide) ?_
                      refine lv_goto (tgt := 267) hx hb dL_singers_263 (by decide) ?_
                      refine lv_iadd hx hb dL_singers_267 ?_
                      refine g_top (nI_add (dnQ S i 1 j) 1) ?_
                      refine g_top (y := (nI (dnQ S i 1 (j + 1)))) (congrArg nI (dn_t hd)) ?_
                      refine lv_istore (lv' := [(9, .int (nI (dnQ S i 1 (j + 1)))), (7, .int (nI (dnQ S i 0 (j + 1)))), (6, .int (nI (lsN S i (j + 1)))), (5, .int (nI (lfN S i (j + 1)))), (17, .int (nI ((lfN S i j) + (tk (S 4 i))))), (16, .int (nI (tk (S 1 j)))), (15, .int (nI 1)), (14, .int (nI 1)), (0, .ref o), (1, .int (nI (cntF (presB S) i))), (2, .int (nI (suF (fun x => cntF (markB S x) (sB S)) i))), (3, .int (nI i)), (4, .int (nI (tk (S 3 i)))), (8, .int (nI (dnQ S i 2 j))), (10, .int (nI (rnF (doS S i) j))), (11, .int (nI (lgF (doS S i) j))), (12, .int (nI j))]) hx hb dL_singers_268 hl (by decide) rfl (fun ls hl => ?_)
                      refine lv_iload hx hb dL_singers_270 (lv_at hl 13 rfl) ?_
                      refine lv_iload hx hb dL_singers_272 (lv_at hl 6 rfl) ?_
                      refine lv_iconst (v := (nI 2)) hx hb dL_singers_274 (by decide) ?_
                      refine lv_icmp_ne (tgt := 282) hx hb dL_singers_275 (by decide) (fun c275 => ?_) (fun c275 => by first | exact absurd (by decide) c275 | exact absurd c275 (by decide))
                      refine lv_iconst (v := (nI 0)) hx hb dL_singers_282 (by decide) ?_
                      refine lv_iadd hx hb dL_singers_283 ?_
                      refine g_top (nI_add (dnQ S i 2 j) 0) ?_
                      refine g_top (y := (nI (dnQ S i 2 (j + 1)))) (congrArg nI (dn_f (by rw [hd]; decide))) ?_
                      refine lv_istore (lv' := [(8, .int (nI (dnQ S i 2 (j + 1)))), (9, .int (nI (dnQ S i 1 (j + 1)))), (7, .int (nI (dnQ S i 0 (j + 1)))), (6, .int (nI (lsN S i (j + 1)))), (5, .int (nI (lfN S i (j + 1)))), (17, .int (nI ((lfN S i j) + (tk (S 4 i))))), (16, .int (nI (tk (S 1 j)))), (15, .int (nI 1)), (14, .int (nI 1)), (0, .ref o), (1, .int (nI (cntF (presB S) i))), (2, .int (nI (suF (fun x => cntF (markB S x) (sB S)) i))), (3, .int (nI i)), (4, .int (nI (tk (S 3 i)))), (10, .int (nI (rnF (doS S i) j))), (11, .int (nI (lgF (doS S i) j))), (12, .int (nI j))]) hx hb dL_singers_284 hl (by decide) rfl (fun ls hl => ?_)
                      refine lv_iload hx hb dL_singers_286 (lv_at hl 7 rfl) ?_
                      refine lv_if_ne (tgt := 298) hx hb dL_singers_288 (by decide) (fun c288 => ?_) (fun c288 => by first | exact absurd (by decide) c288 | exact absurd c288 (by decide))
                      refine lv_iconst (v := (nI 0)) hx hb dL_singers_298 (by decide) ?_
                      refine g_top (y := (nI (rnF (doS S i) (j + 1)))) (congrArg nI (rn_f hd0)) ?_
                      have hrn := rnF_le (doS S i) (j + 1)
                      refine lv_istore (lv' := [(10, .int (nI (rnF (doS S i) (j + 1)))), (8, .int (nI (dnQ S i 2 (j + 1)))), (9, .int (nI (dnQ S i 1 (j + 1)))), (7, .int (nI (dnQ S i 0 (j + 1)))), (6, .int (nI (lsN S i (j + 1)))), (5, .int (nI (lfN S i (j + 1)))), (17, .int (nI ((lfN S i j) + (tk (S 4 i))))), (16, .int (nI (tk (S 1 j)))), (15, .int (nI 1)), (14, .int (nI 1)), (0, .ref o), (1, .int (nI (cntF (presB S) i))), (2, .int (nI (suF (fun x => cntF (markB S x) (sB S)) i))), (3, .int (nI i)), (4, .int (nI (tk (S 3 i)))), (11, .int (nI (lgF (doS S i) j))), (12, .int (nI j))]) hx hb dL_singers_299 hl (by decide) rfl (fun ls hl => ?_)
                      refine lv_iload hx hb dL_singers_301 (lv_at hl 0 rfl) ?_
                      refine lv_iload hx hb dL_singers_303 (lv_at hl 15 rfl) ?_
                      refine g_icmp_le (tgt := 313) (a := rnF (doS S i) (j + 1)) (b := lgF (doS S i) j) hx hb (by omega) (by omega) dL_singers_305 (by decide) (fun c305 => ?_) (fun c305 => ?_)
                      · refine lv_iload hx hb dL_singers_313 (lv_at hl 15 rfl) ?_
                        refine g_top (y := (nI (lgF (doS S i) (j + 1)))) (congrArg nI (lg_1 (by omega))) ?_
                        refine lv_istore (lv' := [(11, .int (nI (lgF (doS S i) (j + 1)))), (10, .int (nI (rnF (doS S i) (j + 1)))), (8, .int (nI (dnQ S i 2 (j + 1)))), (9, .int (nI (dnQ S i 1 (j + 1)))), (7, .int (nI (dnQ S i 0 (j + 1)))), (6, .int (nI (lsN S i (j + 1)))), (5, .int (nI (lfN S i (j + 1)))), (17, .int (nI ((lfN S i j) + (tk (S 4 i))))), (16, .int (nI (tk (S 1 j)))), (15, .int (nI 1)), (14, .int (nI 1)), (0, .ref o), (1, .int (nI (cntF (presB S) i))), (2, .int (nI (suF (fun x => cntF (markB S x) (sB S)) i))), (3, .int (nI i)), (4, .int (nI (tk (S 3 i)))), (12, .int (nI j))]) hx hb dL_singers_315 hl (by decide) rfl (fun ls hl => ?_)
                        refine lv_aload_n hx hb dL_singers_317 rfl (lv_at hl 11 rfl) ?_
                        refine lv_iload_n hx hb dL_singers_318 rfl (lv_at hl 14 rfl) ?_
                        refine lv_iload hx hb dL_singers_319 (lv_at hl 16 rfl) ?_
                        refine g_runV (As := [.int (nI i), .int (nI j)]) (rest := []) (own := RL) (C := RX7) (T := TX7) (N := 7) 2 hx hb hml hown hts hK hz hP hL hS hlo hl.1 (c_X7_left l o b S tf tn P C kp zp ((nI i)) ((nI j))  τ_25 sz hW hY.1.1 ) gL_singers_X7_left rfl rfl rfl (by decide +kernel) ⟨Nat.le_of_ble_eq_true rfl, Nat.le_of_ble_eq_true rfl⟩ hW.c0 rfl rfl rfl (Nat.le_of_ble_eq_true rfl) dL_singers_321 ⟨Nat.le_of_ble_eq_true rfl, Nat.le_of_ble_eq_true rfl⟩ (g_kxi0 (fun r_26 τ_26 H locs z_26 hz hp hP hL hS => ?_))
                        obtain ⟨hr_26, hW, hz_26, ha_26⟩ := hp
                        have hz := hz.trans hz_26
                        subst hr_26
                        have hag := hag.tr ha_26 (fun q h => h)
                        have hlf := lfN_le hY (i := i) (k := j + 1) (by omega) (by omega)
                        refine g_top (y := (nI (lfN S i (j + 1)))) (yl hY (by omega) (by omega)) ?_
                        refine lv_iload hx hb dL_singers_324 (lv_at hl 6 rfl) ?_
                        refine lv_icmp_eq (tgt := 331) hx hb dL_singers_326 (by decide) (fun c326 => ?_) (fun c326 => absurd rfl c326)
                        refine lv_iinc (v := (nI (j + 1))) (lv' := [(12, .int (nI (j + 1))), (11, .int (nI (lgF (doS S i) (j + 1)))), (10, .int (nI (rnF (doS S i) (j + 1)))), (8, .int (nI (dnQ S i 2 (j + 1)))), (9, .int (nI (dnQ S i 1 (j + 1)))), (7, .int (nI (dnQ S i 0 (j + 1)))), (6, .int (nI (lsN S i (j + 1)))), (5, .int (nI (lfN S i (j + 1)))), (17, .int (nI ((lfN S i j) + (tk (S 4 i))))), (16, .int (nI (tk (S 1 j)))), (15, .int (nI 1)), (14, .int (nI 1)), (0, .ref o), (1, .int (nI (cntF (presB S) i))), (2, .int (nI (suF (fun x => cntF (markB S x) (sB S)) i))), (3, .int (nI i)), (4, .int (nI (tk (S 3 i))))]) hx hb dL_singers_331 hl (k := 16) rfl (g_inc j 1) (by decide) rfl (fun ls hl => ?_)
                        refine lv_goto (tgt := 49) hx hb dL_singers_334 (by decide) ?_
                        exact ih_lpB (j + 1) (by omega) (by omega) τ_26 hW hag hL H locs ls hz hP hS (lv_sub hl [12, 13, 14, 15, 16, 7, 6, 5, 3, 4, 2, 1, 0] rfl)
                      · refine lv_iload hx hb dL_singers_308 (lv_at hl 0 rfl) ?_
                        refine lv_goto (tgt := 315) hx hb dL_singers_310 (by decide) ?_
                        refine g_top (y := (nI (lgF (doS S i) (j + 1)))) (congrArg nI (lg_2 (by omega))) ?_
                        refine lv_istore (lv' := [(11, .int (nI (lgF (doS S i) (j + 1)))), (10, .int (nI (rnF (doS S i) (j + 1)))), (8, .int (nI (dnQ S i 2 (j + 1)))), (9, .int (nI (dnQ S i 1 (j + 1)))), (7, .int (nI (dnQ S i 0 (j + 1)))), (6, .int (nI (lsN S i (j + 1)))), (5, .int (nI (lfN S i (j + 1)))), (17, .int (nI ((lfN S i j) + (tk (S 4 i))))), (16, .int (nI (tk (S 1 j)))), (15, .int (nI 1)), (14, .int (nI 1)), (0, .ref o), (1, .int (nI (cntF (presB S) i))), (2, .int (nI (suF (fun x => cntF (markB S x) (sB S)) i))), (3, .int (nI i)), (4, .int (nI (tk (S 3 i)))), (12, .int (nI j))]) hx hb dL_singers_315 hl (by decide) rfl (fun ls hl => ?_)
                        refine lv_aload_n hx hb dL_singers_317 rfl (lv_at hl 11 rfl) ?_
                        refine lv_iload_n hx hb dL_singers_318 rfl (lv_at hl 14 rfl) ?_
                        refine lv_iload hx hb dL_singers_319 (lv_at hl 16 rfl) ?_
                        refine g_runV (As := [.int (nI i), .int (nI j)]) (rest := []) (own := RL) (C := RX7) (T := TX7) (N := 7) 2 hx hb hml hown hts hK hz hP hL hS hlo hl.1 (c_X7_left l o b S tf tn P C kp zp ((nI i)) ((nI j))  τ_25 sz hW hY.1.1 ) gL_singers_X7_left rfl rfl rfl (by decide +kernel) ⟨Nat.le_of_ble_eq_true rfl, Nat.le_of_ble_eq_true rfl⟩ hW.c0 rfl rfl rfl (Nat.le_of_ble_eq_true rfl) dL_singers_321 ⟨Nat.le_of_ble_eq_true rfl, Nat.le_of_ble_eq_true rfl⟩ (g_kxi0 (fun r_27 τ_27 H locs z_27 hz hp hP hL hS => ?_))
                        obtain ⟨hr_27, hW, hz_27, ha_27⟩ := hp
                        have hz := hz.trans hz_27
                        subst hr_27
                        have hag := hag.tr ha_27 (fun q h => h)
                        have hlf := lfN_le hY (i := i) (k := j + 1) (by omega) (by omega)
                        refine g_top (y := (nI (lfN S i (j + 1)))) (yl hY (by omega) (by omega)) ?_
                        refine lv_iload hx hb dL_singers_324 (lv_at hl 6 rfl) ?_
                        refine lv_icmp_eq (tgt := 331) hx hb dL_singers_326 (by decide) (fun c326 => ?_) (fun c326 => absurd rfl c326)
                        refine lv_iinc (v := (nI (j + 1))) (lv' := [(12, .int (nI (j + 1))), (11, .int (nI (lgF (doS S i) (j + 1)))), (10, .int (nI (rnF (doS S i) (j + 1)))), (8, .int (nI (dnQ S i 2 (j + 1)))), (9, .int (nI (dnQ S i 1 (j + 1)))), (7, .int (nI (dnQ S i 0 (j + 1)))), (6, .int (nI (lsN S i (j + 1)))), (5, .int (nI (lfN S i (j + 1)))), (17, .int (nI ((lfN S i j) + (tk (S 4 i))))), (16, .int (nI (tk (S 1 j)))), (15, .int (nI 1)), (14, .int (nI 1)), (0, .ref o), (1, .int (nI (cntF (presB S) i))), (2, .int (nI (suF (fun x => cntF (markB S x) (sB S)) i))), (3, .int (nI i)), (4, .int (nI (tk (S 3 i))))]) hx hb dL_singers_331 hl (k := 16) rfl (g_inc j 1) (by decide) rfl (fun ls hl => ?_)
                        refine lv_goto (tgt := 49) hx hb dL_singers_334 (by decide) ?_
                        exact ih_lpB (j + 1) (by omega) (by omega) τ_27 hW hag hL H locs ls hz hP hS (lv_sub hl [12, 13, 14, 15, 16, 7, 6, 5, 3, 4, 2, 1, 0] rfl)
                    · refine lv_iload hx hb dL_singers_230 (lv_at hl 0 rfl) ?_
                      refine lv_goto (tgt := 237) hx hb dL_singers_232 (by decide) ?_
                      refine g_top (y := (nI (lsN S i (j + 1)))) (congrArg nI (ls_2 (by omega))) ?_
                      refine lv_istore (lv' := [(6, .int (nI (lsN S i (j + 1)))), (5, .int (nI (lfN S i (j + 1)))), (17, .int (nI ((lfN S i j) + (tk (S 4 i))))), (16, .int (nI (tk (S 1 j)))), (15, .int (nI 1)), (14, .int (nI 1)), (0, .ref o), (1, .int (nI (cntF (presB S) i))), (2, .int (nI (suF (fun x => cntF (markB S x) (sB S)) i))), (3, .int (nI i)), (4, .int (nI (tk (S 3 i)))), (7, .int (nI (dnQ S i 0 j))), (8, .int (nI (dnQ S i 2 j))), (9, .int (nI (dnQ S i 1 j))), (10, .int (nI (rnF (doS S i) j))), (11, .int (nI (lgF (doS S i) j))), (12, .int (nI j))]) hx hb dL_singers_237 hl (by decide) rfl (fun ls hl => ?_)
                      refine lv_iload hx hb dL_singers_239 (lv_at hl 11 rfl) ?_
                      refine lv_iload hx hb dL_singers_241 (lv_at hl 4 rfl) ?_
                      refine lv_if_ne (tgt := 250) hx hb dL_singers_243 (by decide) (fun c243 => ?_) (fun c243 => by first | exact absurd (by decide) c243 | exact absurd c243 (by decide))
                      refine lv_iconst (v := (nI 0)) hx hb dL_singers_250 (by decide) ?_
                      refine lv_iadd hx hb dL_singers_251 ?_
                      refine g_top (nI_add (dnQ S i 0 j) 0) ?_
                      refine g_top (y := (nI (dnQ S i 0 (j + 1)))) (congrArg nI (dn_f (by rw [hd]; decide))) ?_
                      refine lv_istore (lv' := [(7, .int (nI (dnQ S i 0 (j + 1)))), (6, .int (nI (lsN S i (j + 1)))), (5, .int (nI (lfN S i (j + 1)))), (17, .int (nI ((lfN S i j) + (tk (S 4 i))))), (16, .int (nI (tk (S 1 j)))), (15, .int (nI 1)), (14, .int (nI 1)), (0, .ref o), (1, .int (nI (cntF (presB S) i))), (2, .int (nI (suF (fun x => cntF (markB S x) (sB S)) i))), (3, .int (nI i)), (4, .int (nI (tk (S 3 i)))), (8, .int (nI (dnQ S i 2 j))), (9, .int (nI (dnQ S i 1 j))), (10, .int (nI (rnF (doS S i) j))), (11, .int (nI (lgF (doS S i) j))), (12, .int (nI j))]) hx hb dL_singers_252 hl (by decide) rfl (fun ls hl => ?_)
                      refine lv_iload hx hb dL_singers_254 (lv_at hl 13 rfl) ?_
                      refine lv_iload hx hb dL_singers_256 (lv_at hl 5 rfl) ?_
                      refine lv_iconst (v := (nI 1)) hx hb dL_singers_258 (by decide) ?_
                      refine lv_icmp_ne (tgt := 266) hx hb dL_singers_259 (by decide) (fun c259 => by first | exact absurd (by decide) c259 | exact absurd c259 (by decide)) (fun c259 => ?_)
                      refine lv_iconst (v := (nI 1)) hx hb dL_singers_262 (by decide) ?_
                      refine lv_goto (tgt := 267) hx hb dL_singers_263 (by decide) ?_
                      refine lv_iadd hx hb dL_singers_267 ?_
                      refine g_top (nI_add (dnQ S i 1 j) 1) ?_
                      refine g_top (y := (nI (dnQ S i 1 (j + 1)))) (congrArg nI (dn_t hd)) ?_
                      refine lv_istore (lv' := [(9, .int (nI (dnQ S i 1 (j + 1)))), (7, .int (nI (dnQ S i 0 (j + 1)))), (6, .int (nI (lsN S i (j + 1)))), (5, .int (nI (lfN S i (j + 1)))), (17, .int (nI ((lfN S i j) + (tk (S 4 i))))), (16, .int (nI (tk (S 1 j)))), (15, .int (nI 1)), (14, .int (nI 1)), (0, .ref o), (1, .int (nI (cntF (presB S) i))), (2, .int (nI (suF (fun x => cntF (markB S x) (sB S)) i))), (3, .int (nI i)), (4, .int (nI (tk (S 3 i)))), (8, .int (nI (dnQ S i 2 j))), (10, .int (nI (rnF (doS S i) j))), (11, .int (nI (lgF (doS S i) j))), (12, .int (nI j))]) hx hb dL_singers_268 hl (by decide) rfl (fun ls hl => ?_)
                      refine lv_iload hx hb dL_singers_270 (lv_at hl 13 rfl) ?_
                      refine lv_iload hx hb dL_singers_272 (lv_at hl 6 rfl) ?_
                      refine lv_iconst (v := (nI 2)) hx hb dL_singers_274 (by decide) ?_
                      refine lv_icmp_ne (tgt := 282) hx hb dL_singers_275 (by decide) (fun c275 => ?_) (fun c275 => by first | exact absurd (by decide) c275 | exact absurd c275 (by decide))
                      refine lv_iconst (v := (nI 0)) hx hb dL_singers_282 (by decide) ?_
                      refine lv_iadd hx hb dL_singers_283 ?_
                      refine g_top (nI_add (dnQ S i 2 j) 0) ?_
                      refine g_top (y := (nI (dnQ S i 2 (j + 1)))) (congrArg nI (dn_f (by rw [hd]; decide))) ?_
                      refine lv_istore (lv' := [(8, .int (nI (dnQ S i 2 (j + 1)))), (9, .int (nI (dnQ S i 1 (j + 1)))), (7, .int (nI (dnQ S i 0 (j + 1)))), (6, .int (nI (lsN S i (j + 1)))), (5, .int (nI (lfN S i (j + 1)))), (17, .int (nI ((lfN S i j) + (tk (S 4 i))))), (16, .int (nI (tk (S 1 j)))), (15, .int (nI 1)), (14, .int (nI 1)), (0, .ref o), (1, .int (nI (cntF (presB S) i))), (2, .int (nI (suF (fun x => cntF (markB S x) (sB S)) i))), (3, .int (nI i)), (4, .int (nI (tk (S 3 i)))), (10, .int (nI (rnF (doS S i) j))), (11, .int (nI (lgF (doS S i) j))), (12, .int (nI j))]) hx hb dL_singers_284 hl (by decide) rfl (fun ls hl => ?_)
                      refine lv_iload hx hb dL_singers_286 (lv_at hl 7 rfl) ?_
                      refine lv_if_ne (tgt := 298) hx hb dL_singers_288 (by decide) (fun c288 => ?_) (fun c288 => by first | exact absurd (by decide) c288 | exact absurd c288 (by decide))
                      refine lv_iconst (v := (nI 0)) hx hb dL_singers_298 (by decide) ?_
                      refine g_top (y := (nI (rnF (doS S i) (j + 1)))) (congrArg nI (rn_f hd0)) ?_
                      have hrn := rnF_le (doS S i) (j + 1)
                      refine lv_istore (lv' := [(10, .int (nI (rnF (doS S i) (j + 1)))), (8, .int (nI (dnQ S i 2 (j + 1)))), (9, .int (nI (dnQ S i 1 (j + 1)))), (7, .int (nI (dnQ S i 0 (j + 1)))), (6, .int (nI (lsN S i (j + 1)))), (5, .int (nI (lfN S i (j + 1)))), (17, .int (nI ((lfN S i j) + (tk (S 4 i))))), (16, .int (nI (tk (S 1 j)))), (15, .int (nI 1)), (14, .int (nI 1)), (0, .ref o), (1, .int (nI (cntF (presB S) i))), (2, .int (nI (suF (fun x => cntF (markB S x) (sB S)) i))), (3, .int (nI i)), (4, .int (nI (tk (S 3 i)))), (11, .int (nI (lgF (doS S i) j))), (12, .int (nI j))]) hx hb dL_singers_299 hl (by decide) rfl (fun ls hl => ?_)
                      refine lv_iload hx hb dL_singers_301 (lv_at hl 0 rfl) ?_
                      refine lv_iload hx hb dL_singers_303 (lv_at hl 15 rfl) ?_
                      refine g_icmp_le (tgt := 313) (a := rnF (doS S i) (j + 1)) (b := lgF (doS S i) j) hx hb (by omega) (by omega) dL_singers_305 (by decide) (fun c305 => ?_) (fun c305 => ?_)
                      · refine lv_iload hx hb dL_singers_313 (lv_at hl 15 rfl) ?_
                        refine g_top (y := (nI (lgF (doS S i) (j + 1)))) (congrArg nI (lg_1 (by omega))) ?_
                        refine lv_istore (lv' := [(11, .int (nI (lgF (doS S i) (j + 1)))), (10, .int (nI (rnF (doS S i) (j + 1)))), (8, .int (nI (dnQ S i 2 (j + 1)))), (9, .int (nI (dnQ S i 1 (j + 1)))), (7, .int (nI (dnQ S i 0 (j + 1)))), (6, .int (nI (lsN S i (j + 1)))), (5, .int (nI (lfN S i (j + 1)))), (17, .int (nI ((lfN S i j) + (tk (S 4 i))))), (16, .int (nI (tk (S 1 j)))), (15, .int (nI 1)), (14, .int (nI 1)), (0, .ref o), (1, .int (nI (cntF (presB S) i))), (2, .int (nI (suF (fun x => cntF (markB S x) (sB S)) i))), (3, .int (nI i)), (4, .int (nI (tk (S 3 i)))), (12, .int (nI j))]) hx hb dL_singers_315 hl (by decide) rfl (fun ls hl => ?_)
                        refine lv_aload_n hx hb dL_singers_317 rfl (lv_at hl 11 rfl) ?_
                        refine lv_iload_n hx hb dL_singers_318 rfl (lv_at hl 14 rfl) ?_
                        refine lv_iload hx hb dL_singers_319 (lv_at hl 16 rfl) ?_
                        refine g_runV (As := [.int (nI i), .int (nI j)]) (rest := []) (own := RL) (C := RX7) (T := TX7) (N := 7) 2 hx hb hml hown hts hK hz hP hL hS hlo hl.1 (c_X7_left l o b S tf tn P C kp zp ((nI i)) ((nI j))  τ_25 sz hW hY.1.1 ) gL_singers_X7_left rfl rfl rfl (by decide +kernel) ⟨Nat.le_of_ble_eq_true rfl, Nat.le_of_ble_eq_true rfl⟩ hW.c0 rfl rfl rfl (Nat.le_of_ble_eq_true rfl) dL_singers_321 ⟨Nat.le_of_ble_eq_true rfl, Nat.le_of_ble_eq_true rfl⟩ (g_kxi0 (fun r_28 τ_28 H locs z_28 hz hp hP hL hS => ?_))
                        obtain ⟨hr_28, hW, hz_28, ha_28⟩ := hp
                        have hz := hz.trans hz_28
                        subst hr_28
                        have hag := hag.tr ha_28 (fun q h => h)
                        have hlf := lfN_le hY (i := i) (k := j + 1) (by omega) (by omega)
                        refine g_top (y := (nI (lfN S i (j + 1)))) (yl hY (by omega) (by omega)) ?_
                        refine lv_iload hx hb dL_singers_324 (lv_at hl 6 rfl) ?_
                        refine lv_icmp_eq (tgt := 331) hx hb dL_singers_326 (by decide) (fun c326 => ?_) (fun c326 => absurd rfl c326)
                        refine lv_iinc (v := (nI (j + 1))) (lv' := [(12, .int (nI (j + 1))), (11, .int (nI (lgF (doS S i) (j + 1)))), (10, .int (nI (rnF (doS S i) (j + 1)))), (8, .int (nI (dnQ S i 2 (j + 1)))), (9, .int (nI (dnQ S i 1 (j + 1)))), (7, .int (nI (dnQ S i 0 (j + 1)))), (6, .int (nI (lsN S i (j + 1)))), (5, .int (nI (lfN S i (j + 1)))), (17, .int (nI ((lfN S i j) + (tk (S 4 i))))), (16, .int (nI (tk (S 1 j)))), (15, .int (nI 1)), (14, .int (nI 1)), (0, .ref o), (1, .int (nI (cntF (presB S) i))), (2, .int (nI (suF (fun x => cntF (markB S x) (sB S)) i))), (3, .int (nI i)), (4, .int (nI (tk (S 3 i))))]) hx hb dL_singers_331 hl (k := 16) rfl (g_inc j 1) (by decide) rfl (fun ls hl => ?_)
                        refine lv_goto (tgt := 49) hx hb dL_singers_334 (by decide) ?_
                        exact ih_lpB (j + 1) (by omega) (by omega) τ_28 hW hag hL H locs ls hz hP hS (lv_sub hl [12, 13, 14, 15, 16, 7, 6, 5, 3, 4, 2, 1, 0] rfl)
                      · refine lv_iload hx hb dL_singers_308 (lv_at hl 0 rfl) ?_
                        refine lv_goto (tgt := 315) hx hb dL_singers_310 (by decide) ?_
                        refine g_top (y := (nI (lgF (doS S i) (j + 1)))) (congrArg nI (lg_2 (by omega))) ?_
                        refine lv_istore (lv' := [(11, .int (nI (lgF (doS S i) (j + 1)))), (10, .int (nI (rnF (doS S i) (j + 1)))), (8, .int (nI (dnQ S i 2 (j + 1)))), (9, .int (nI (dnQ S i 1 (j + 1)))), (7, .int (nI (dnQ S i 0 (j + 1)))), (6, .int (nI (lsN S i (j + 1)))), (5, .int (nI (lfN S i (j + 1)))), (17, .int (nI ((lfN S i j) + (tk (S 4 i))))), (16, .int (nI (tk (S 1 j)))), (15, .int (nI 1)), (14, .int (nI 1)), (0, .ref o), (1, .int (nI (cntF (presB S) i))), (2, .int (nI (suF (fun x => cntF (markB S x) (sB S)) i))), (3, .int (nI i)), (4, .int (nI (tk (S 3 i)))), (12, .int (nI j))]) hx hb dL_singers_315 hl (by decide) rfl (fun ls hl => ?_)
                        refine lv_aload_n hx hb dL_singers_317 rfl (lv_at hl 11 rfl) ?_
                        refine lv_iload_n hx hb dL_singers_318 rfl (lv_at hl 14 rfl) ?_
                        refine lv_iload hx hb dL_singers_319 (lv_at hl 16 rfl) ?_
                        refine g_runV (As := [.int (nI i), .int (nI j)]) (rest := []) (own := RL) (C := RX7) (T := TX7) (N := 7) 2 hx hb hml hown hts hK hz hP hL hS hlo hl.1 (c_X7_left l o b S tf tn P C kp zp ((nI i)) ((nI j))  τ_25 sz hW hY.1.1 ) gL_singers_X7_left rfl rfl rfl (by decide +kernel) ⟨Nat.le_of_ble_eq_true rfl, Nat.le_of_ble_eq_true rfl⟩ hW.c0 rfl rfl rfl (Nat.le_of_ble_eq_true rfl) dL_singers_321 ⟨Nat.le_of_ble_eq_true rfl, Nat.le_of_ble_eq_true rfl⟩ (g_kxi0 (fun r_29 τ_29 H locs z_29 hz hp hP hL hS => ?_))
                        obtain ⟨hr_29, hW, hz_29, ha_29⟩ := hp
                        have hz := hz.trans hz_29
                        subst hr_29
                        have hag := hag.tr ha_29 (fun q h => h)
                        have hlf := lfN_le hY (i := i) (k := j + 1) (by omega) (by omega)
                        refine g_top (y := (nI (lfN S i (j + 1)))) (yl hY (by omega) (by omega)) ?_
                        refine lv_iload hx hb dL_singers_324 (lv_at hl 6 rfl) ?_
                        refine lv_icmp_eq (tgt := 331) hx hb dL_singers_326 (by decide) (fun c326 => ?_) (fun c326 => absurd rfl c326)
                        refine lv_iinc (v := (nI (j + 1))) (lv' := [(12, .int (nI (j + 1))), (11, .int (nI (lgF (doS S i) (j + 1)))), (10, .int (nI (rnF (doS S i) (j + 1)))), (8, .int (nI (dnQ S i 2 (j + 1)))), (9, .int (nI (dnQ S i 1 (j + 1)))), (7, .int (nI (dnQ S i 0 (j + 1)))), (6, .int (nI (lsN S i (j + 1)))), (5, .int (nI (lfN S i (j + 1)))), (17, .int (nI ((lfN S i j) + (tk (S 4 i))))), (16, .int (nI (tk (S 1 j)))), (15, .int (nI 1)), (14, .int (nI 1)), (0, .ref o), (1, .int (nI (cntF (presB S) i))), (2, .int (nI (suF (fun x => cntF (markB S x) (sB S)) i))), (3, .int (nI i)), (4, .int (nI (tk (S 3 i))))]) hx hb dL_singers_331 hl (k := 16) rfl (g_inc j 1) (by decide) rfl (fun ls hl => ?_)
                        refine lv_goto (tgt := 49) hx hb dL_singers_334 (by decide) ?_
                        exact ih_lpB (j + 1) (by omega) (by omega) τ_29 hW hag hL H locs ls hz hP hS (lv_sub hl [12, 13, 14, 15, 16, 7, 6, 5, 3, 4, 2, 1, 0] rfl)
                  · refine lv_iload hx hb dL_singers_214 (lv_at hl 8 rfl) ?_
                    refine lv_goto (tgt := 221) hx hb dL_singers_216 (by decide) ?_
                    refine g_top (y := (nI (lfN S i (j + 1)))) (congrArg nI (lf_b hY hil hjl hd0 (by omega))) ?_
                    have hlf := lfN_le hY (i := i) (k := j + 1) hil (by omega)
                    refine lv_istore (lv' := [(5, .int (nI (lfN S i (j + 1)))), (17, .int (nI ((lfN S i j) + (tk (S 4 i))))), (16, .int (nI (tk (S 1 j)))), (15, .int (nI 1)), (14, .int (nI 1)), (0, .ref o), (1, .int (nI (cntF (presB S) i))), (2, .int (nI (suF (fun x => cntF (markB S x) (sB S)) i))), (3, .int (nI i)), (4, .int (nI (tk (S 3 i)))), (6, .int (nI (lsN S i j))), (7, .int (nI (dnQ S i 0 j))), (8, .int (nI (dnQ S i 2 j))), (9, .int (nI (dnQ S i 1 j))), (10, .int (nI (rnF (doS S i) j))), (11, .int (nI (lgF (doS S i) j))), (12, .int (nI j))]) hx hb dL_singers_221 hl (by decide) rfl (fun ls hl => ?_)
                    refine lv_iload hx hb dL_singers_223 (lv_at hl 0 rfl) ?_
                    refine lv_iload hx hb dL_singers_225 (lv_at hl 10 rfl) ?_
                    refine g_icmp_ge (tgt := 235) (a := lfN S i (j + 1)) (b := lsN S i j) hx hb (by omega) (by omega) dL_singers_227 (by decide) (fun c227 => ?_) (fun c227 => ?_)
                    · refine lv_iload hx hb dL_singers_235 (lv_at hl 10 rfl) ?_
                      refine g_top (y := (nI (lsN S i (j + 1)))) (congrArg nI (ls_1 (by omega))) ?_
                      refine lv_istore (lv' := [(6, .int (nI (lsN S i (j + 1)))), (5, .int (nI (lfN S i (j + 1)))), (17, .int (nI ((lfN S i j) + (tk (S 4 i))))), (16, .int (nI (tk (S 1 j)))), (15, .int (nI 1)), (14, .int (nI 1)), (0, .ref o), (1, .int (nI (cntF (presB S) i))), (2, .int (nI (suF (fun x => cntF (markB S x) (sB S)) i))), (3, .int (nI i)), (4, .int (nI (tk (S 3 i)))), (7, .int (nI (dnQ S i 0 j))), (8, .int (nI (dnQ S i 2 j))), (9, .int (nI (dnQ S i 1 j))), (10, .int (nI (rnF (doS S i) j))), (11, .int (nI (lgF (doS S i) j))), (12, .int (nI j))]) hx hb dL_singers_237 hl (by decide) rfl (fun ls hl => ?_)
                      refine lv_iload hx hb dL_singers_239 (lv_at hl 11 rfl) ?_
                      refine lv_iload hx hb dL_singers_241 (lv_at hl 4 rfl) ?_
                      refine lv_if_ne (tgt := 250) hx hb dL_singers_243 (by decide) (fun c243 => ?_) (fun c243 => by first | exact absurd (by decide) c243 | exact absurd c243 (by decide))
                      refine lv_iconst (v := (nI 0)) hx hb dL_singers_250 (by decide) ?_
                      refine lv_iadd hx hb dL_singers_251 ?_
                      refine g_top (nI_add (dnQ S i 0 j) 0) ?_
                      refine g_top (y := (nI (dnQ S i 0 (j + 1)))) (congrArg nI (dn_f (by rw [hd]; decide))) ?_
                      refine lv_istore (lv' := [(7, .int (nI (dnQ S i 0 (j + 1)))), (6, .int (nI (lsN S i (j + 1)))), (5, .int (nI (lfN S i (j + 1)))), (17, .int (nI ((lfN S i j) + (tk (S 4 i))))), (16, .int (nI (tk (S 1 j)))), (15, .int (nI 1)), (14, .int (nI 1)), (0, .ref o), (1, .int (nI (cntF (presB S) i))), (2, .int (nI (suF (fun x => cntF (markB S x) (sB S)) i))), (3, .int (nI i)), (4, .int (nI (tk (S 3 i)))), (8, .int (nI (dnQ S i 2 j))), (9, .int (nI (dnQ S i 1 j))), (10, .int (nI (rnF (doS S i) j))), (11, .int (nI (lgF (doS S i) j))), (12, .int (nI j))]) hx hb dL_singers_252 hl (by decide) rfl (fun ls hl => ?_)
                      refine lv_iload hx hb dL_singers_254 (lv_at hl 13 rfl) ?_
                      refine lv_iload hx hb dL_singers_256 (lv_at hl 5 rfl) ?_
                      refine lv_iconst (v := (nI 1)) hx hb dL_singers_258 (by decide) ?_
                      refine lv_icmp_ne (tgt := 266) hx hb dL_singers_259 (by decide) (fun c259 => by first | exact absurd (by decide) c259 | exact absurd c259 (by decide)) (fun c259 => ?_)
                      refine lv_iconst (v := (nI 1)) hx hb dL_singers_262 (by decide) ?_
                      refine lv_goto (tgt := 267) hx hb dL_singers_263 (by decide) ?_
                      refine lv_iadd hx hb dL_singers_267 ?_
                      refine g_top (nI_add (dnQ S i 1 j) 1) ?_
                      refine g_top (y := (nI (dnQ S i 1 (j + 1)))) (congrArg nI (dn_t hd)) ?_
                      refine lv_istore (lv' := [(9, .int (nI (dnQ S i 1 (j + 1)))), (7, .int (nI (dnQ S i 0 (j + 1)))), (6, .int (nI (lsN S i (j + 1)))), (5, .int (nI (lfN S i (j + 1)))), (17, .int (nI ((lfN S i j) + (tk (S 4 i))))), (16, .int (nI (tk (S 1 j)))), (15, .int (nI 1)), (14, .int (nI 1)), (0, .ref o), (1, .int (nI (cntF (presB S) i))), (2, .int (nI (suF (fun x => cntF (markB S x) (sB S)) i))), (3, .int (nI i)), (4, .int (nI (tk (S 3 i)))), (8, .int (nI (dnQ S i 2 j))), (10, .int (nI (rnF (doS S i) j))), (11, .int (nI (lgF (doS S i) j))), (12, .int (nI j))]) hx hb dL_singers_268 hl (by decide) rfl (fun ls hl => ?_)
                      refine lv_iload hx hb dL_singers_270 (lv_at hl 13 rfl) ?_
                      refine lv_iload hx hb dL_singers_272 (lv_at hl 6 rfl) ?_
                      refine lv_iconst (v := (nI 2)) hx hb dL_singers_274 (by decide) ?_
                      refine lv_icmp_ne (tgt := 282) hx hb dL_singers_275 (by decide) (fun c275 => ?_) (fun c275 => by first | exact absurd (by decide) c275 | exact absurd c275 (by decide))
                      refine lv_iconst (v := (nI 0)) hx hb dL_singers_282 (by decide) ?_
                      refine lv_iadd hx hb dL_singers_283 ?_
                      refine g_top (nI_add (dnQ S i 2 j) 0) ?_
                      refine g_top (y := (nI (dnQ S i 2 (j + 1)))) (congrArg nI (dn_f (by rw [hd]; decide))) ?_
                      refine lv_istore (lv' := [(8, .int (nI (dnQ S i 2 (j + 1)))), (9, .int (nI (dnQ S i 1 (j + 1)))), (7, .int (nI (dnQ S i 0 (j + 1)))), (6, .int (nI (lsN S i (j + 1)))), (5, .int (nI (lfN S i (j + 1)))), (17, .int (nI ((lfN S i j) + (tk (S 4 i))))), (16, .int (nI (tk (S 1 j)))), (15, .int (nI 1)), (14, .int (nI 1)), (0, .ref o), (1, .int (nI (cntF (presB S) i))), (2, .int (nI (suF (fun x => cntF (markB S x) (sB S)) i))), (3, .int (nI i)), (4, .int (nI (tk (S 3 i)))), (10, .int (nI (rnF (doS S i) j))), (11, .int (nI (lgF (doS S i) j))), (12, .int (nI j))]) hx hb dL_singers_284 hl (by decide) rfl (fun ls hl => ?_)
                      refine lv_iload hx hb dL_singers_286 (lv_at hl 7 rfl) ?_
                      refine lv_if_ne (tgt := 298) hx hb dL_singers_288 (by decide) (fun c288 => ?_) (fun c288 => by first | exact absurd (by decide) c288 | exact absurd c288 (by decide))
                      refine lv_iconst (v := (nI 0)) hx hb dL_singers_298 (by decide) ?_
                      refine g_top (y := (nI (rnF (doS S i) (j + 1)))) (congrArg nI (rn_f hd0)) ?_
                      have hrn := rnF_le (doS S i) (j + 1)
                      refine lv_istore (lv' := [(10, .int (nI (rnF (doS S i) (j + 1)))), (8, .int (nI (dnQ S i 2 (j + 1)))), (9, .int (nI (dnQ S i 1 (j + 1)))), (7, .int (nI (dnQ S i 0 (j + 1)))), (6, .int (nI (lsN S i (j + 1)))), (5, .int (nI (lfN S i (j + 1)))), (17, .int (nI ((lfN S i j) + (tk (S 4 i))))), (16, .int (nI (tk (S 1 j)))), (15, .int (nI 1)), (14, .int (nI 1)), (0, .ref o), (1, .int (nI (cntF (presB S) i))), (2, .int (nI (suF (fun x => cntF (markB S x) (sB S)) i))), (3, .int (nI i)), (4, .int (nI (tk (S 3 i)))), (11, .int (nI (lgF (doS S i) j))), (12, .int (nI j))]) hx hb dL_singers_299 hl (by decide) rfl (fun ls hl => ?_)
                      refine lv_iload hx hb dL_singers_301 (lv_at hl 0 rfl) ?_
                      refine lv_iload hx hb dL_singers_303 (lv_at hl 15 rfl) ?_
                      refine g_icmp_le (tgt := 313) (a := rnF (doS S i) (j + 1)) (b := lgF (doS S i) j) hx hb (by omega) (by omega) dL_singers_305 (by decide) (fun c305 => ?_) (fun c305 => ?_)
                      · refine lv_iload hx hb dL_singers_313 (lv_at hl 15 rfl) ?_
                        refine g_top (y := (nI (lgF (doS S i) (j + 1)))) (congrArg nI (lg_1 (by omega))) ?_
                        refine lv_istore (lv' := [(11, .int (nI (lgF (doS S i) (j + 1)))), (10, .int (nI (rnF (doS S i) (j + 1)))), (8, .int (nI (dnQ S i 2 (j + 1)))), (9, .int (nI (dnQ S i 1 (j + 1)))), (7, .int (nI (dnQ S i 0 (j + 1)))), (6, .int (nI (lsN S i (j + 1)))), (5, .int (nI (lfN S i (j + 1)))), (17, .int (nI ((lfN S i j) + (tk (S 4 i))))), (16, .int (nI (tk (S 1 j)))), (15, .int (nI 1)), (14, .int (nI 1)), (0, .ref o), (1, .int (nI (cntF (presB S) i))), (2, .int (nI (suF (fun x => cntF (markB S x) (sB S)) i))), (3, .int (nI i)), (4, .int (nI (tk (S 3 i)))), (12, .int (nI j))]) hx hb dL_singers_315 hl (by decide) rfl (fun ls hl => ?_)
                        refine lv_aload_n hx hb dL_singers_317 rfl (lv_at hl 11 rfl) ?_
                        refine lv_iload_n hx hb dL_singers_318 rfl (lv_at hl 14 rfl) ?_
                        refine lv_iload hx hb dL_singers_319 (lv_at hl 16 rfl) ?_
                        refine g_runV (As := [.int (nI i), .int (nI j)]) (rest := []) (own := RL) (C := RX7) (T := TX7) (N := 7) 2 hx hb hml hown hts hK hz hP hL hS hlo hl.1 (c_X7_left l o b S tf tn P C kp zp ((nI i)) ((nI j))  τ_25 sz hW hY.1.1 ) gL_singers_X7_left rfl rfl rfl (by decide +kernel) ⟨Nat.le_of_ble_eq_true rfl, Nat.le_of_ble_eq_true rfl⟩ hW.c0 rfl rfl rfl (Nat.le_of_ble_eq_true rfl) dL_singers_321 ⟨Nat.le_of_ble_eq_true rfl, Nat.le_of_ble_eq_true rfl⟩ (g_kxi0 (fun r_30 τ_30 H locs z_30 hz hp hP hL hS => ?_))
                        obtain ⟨hr_30, hW, hz_30, ha_30⟩ := hp
                        have hz := hz.trans hz_30
                        subst hr_30
                        have hag := hag.tr ha_30 (fun q h => h)
                        have hlf := lfN_le hY (i := i) (k := j + 1) (by omega) (by omega)
                        refine g_top (y := (nI (lfN S i (j + 1)))) (yl hY (by omega) (by omega)) ?_
                        refine lv_iload hx hb dL_singers_324 (lv_at hl 6 rfl) ?_
                        refine lv_icmp_eq (tgt := 331) hx hb dL_singers_326 (by decide) (fun c326 => ?_) (fun c326 => absurd rfl c326)
                        refine lv_iinc (v := (nI (j + 1))) (lv' := [(12, .int (nI (j + 1))), (11, .int (nI (lgF (doS S i) (j + 1)))), (10, .int (nI (rnF (doS S i) (j + 1)))), (8, .int (nI (dnQ S i 2 (j + 1)))), (9, .int (nI (dnQ S i 1 (j + 1)))), (7, .int (nI (dnQ S i 0 (j + 1)))), (6, .int (nI (lsN S i (j + 1)))), (5, .int (nI (lfN S i (j + 1)))), (17, .int (nI ((lfN S i j) + (tk (S 4 i))))), (16, .int (nI (tk (S 1 j)))), (15, .int (nI 1)), (14, .int (nI 1)), (0, .ref o), (1, .int (nI (cntF (presB S) i))), (2, .int (nI (suF (fun x => cntF (markB S x) (sB S)) i))), (3, .int (nI i)), (4, .int (nI (tk (S 3 i))))]) hx hb dL_singers_331 hl (k := 16) rfl (g_inc j 1) (by decide) rfl (fun ls hl => ?_)
                        refine lv_goto (tgt := 49) hx hb dL_singers_334 (by decide) ?_
                        exact ih_lpB (j + 1) (by omega) (by omega) τ_30 hW hag hL H locs ls hz hP hS (lv_sub hl [12, 13, 14, 15, 16, 7, 6, 5, 3, 4, 2, 1, 0] rfl)
                      · refine lv_iload hx hb dL_singers_308 (lv_at hl 0 rfl) ?_
                        refine lv_goto (tgt := 315) hx hb dL_singers_310 (by decide) ?_
                        refine g_top (y := (nI (lgF (doS S i) (j + 1)))) (congrArg nI (lg_2 (by omega))) ?_
                        refine lv_istore (lv' := [(11, .int (nI (lgF (doS S i) (j + 1)))), (10, .int (nI (rnF (doS S i) (j + 1)))), (8, .int (nI (dnQ S i 2 (j + 1)))), (9, .int (nI (dnQ S i 1 (j + 1)))), (7, .int (nI (dnQ S i 0 (j + 1)))), (6, .int (nI (lsN S i (j + 1)))), (5, .int (nI (lfN S i (j + 1)))), (17, .int (nI ((lfN S i j) + (tk (S 4 i))))), (16, .int (nI (tk (S 1 j)))), (15, .int (nI 1)), (14, .int (nI 1)), (0, .ref o), (1, .int (nI (cntF (presB S) i))), (2, .int (nI (suF (fun x => cntF (markB S x) (sB S)) i))), (3, .int (nI i)), (4, .int (nI (tk (S 3 i)))), (12, .int (nI j))]) hx hb dL_singers_315 hl (by decide) rfl (fun ls hl => ?_)
                        refine lv_aload_n hx hb dL_singers_317 rfl (lv_at hl 11 rfl) ?_
                        refine lv_iload_n hx hb dL_singers_318 rfl (lv_at hl 14 rfl) ?_
                        refine lv_iload hx hb dL_singers_319 (lv_at hl 16 rfl) ?_
                        refine g_runV (As := [.int (nI i), .int (nI j)]) (rest := []) (own := RL) (C := RX7) (T := TX7) (N := 7) 2 hx hb hml hown hts hK hz hP hL hS hlo hl.1 (c_X7_left l o b S tf tn P C kp zp ((nI i)) ((nI j))  τ_25 sz hW hY.1.1 ) gL_singers_X7_left rfl rfl rfl (by decide +kernel) ⟨Nat.le_of_ble_eq_true rfl, Nat.le_of_ble_eq_true rfl⟩ hW.c0 rfl rfl rfl (Nat.le_of_ble_eq_true rfl) dL_singers_321 ⟨Nat.le_of_ble_eq_true rfl, Nat.le_of_ble_eq_true rfl⟩ (g_kxi0 (fun r_31 τ_31 H locs z_31 hz hp hP hL hS => ?_))
                        obtain ⟨hr_31, hW, hz_31, ha_31⟩ := hp
                        have hz := hz.trans hz_31
                        subst hr_31
                        have hag := hag.tr ha_31 (fun q h => h)
                        have hlf := lfN_le hY (i := i) (k := j + 1) (by omega) (by omega)
                        refine g_top (y := (nI (lfN S i (j + 1)))) (yl hY (by omega) (by omega)) ?_
                        refine lv_iload hx hb dL_singers_324 (lv_at hl 6 rfl) ?_
                        refine lv_icmp_eq (tgt := 331) hx hb dL_singers_326 (by decide) (fun c326 => ?_) (fun c326 => absurd rfl c326)
                        refine lv_iinc (v := (nI (j + 1))) (lv' := [(12, .int (nI (j + 1))), (11, .int (nI (lgF (doS S i) (j + 1)))), (10, .int (nI (rnF (doS S i) (j + 1)))), (8, .int (nI (dnQ S i 2 (j + 1)))), (9, .int (nI (dnQ S i 1 (j + 1)))), (7, .int (nI (dnQ S i 0 (j + 1)))), (6, .int (nI (lsN S i (j + 1)))), (5, .int (nI (lfN S i (j + 1)))), (17, .int (nI ((lfN S i j) + (tk (S 4 i))))), (16, .int (nI (tk (S 1 j)))), (15, .int (nI 1)), (14, .int (nI 1)), (0, .ref o), (1, .int (nI (cntF (presB S) i))), (2, .int (nI (suF (fun x => cntF (markB S x) (sB S)) i))), (3, .int (nI i)), (4, .int (nI (tk (S 3 i))))]) hx hb dL_singers_331 hl (k := 16) rfl (g_inc j 1) (by decide) rfl (fun ls hl => ?_)
                        refine lv_goto (tgt := 49) hx hb dL_singers_334 (by decide) ?_
                        exact ih_lpB (j + 1) (by omega) (by omega) τ_31 hW hag hL H locs ls hz hP hS (lv_sub hl [12, 13, 14, 15, 16, 7, 6, 5, 3, 4, 2, 1, 0] rfl)
                    · refine lv_iload hx hb dL_singers_230 (lv_at hl 0 rfl) ?_
                      refine lv_goto (tgt := 237) hx hb dL_singers_232 (by decide) ?_
                      refine g_top (y := (nI (lsN S i (j + 1)))) (congrArg nI (ls_2 (by omega))) ?_
                      refine lv_istore (lv' := [(6, .int (nI (lsN S i (j + 1)))), (5, .int (nI (lfN S i (j + 1)))), (17, .int (nI ((lfN S i j) + (tk (S 4 i))))), (16, .int (nI (tk (S 1 j)))), (15, .int (nI 1)), (14, .int (nI 1)), (0, .ref o), (1, .int (nI (cntF (presB S) i))), (2, .int (nI (suF (fun x => cntF (markB S x) (sB S)) i))), (3, .int (nI i)), (4, .int (nI (tk (S 3 i)))), (7, .int (nI (dnQ S i 0 j))), (8, .int (nI (dnQ S i 2 j))), (9, .int (nI (dnQ S i 1 j))), (10, .int (nI (rnF (doS S i) j))), (11, .int (nI (lgF (doS S i) j))), (12, .int (nI j))]) hx hb dL_singers_237 hl (by decide) rfl (fun ls hl => ?_)
                      refine lv_iload hx hb dL_singers_239 (lv_at hl 11 rfl) ?_
                      refine lv_iload hx hb dL_singers_241 (lv_at hl 4 rfl) ?_
                      refine lv_if_ne (tgt := 250) hx hb dL_singers_243 (by decide) (fun c243 => ?_) (fun c243 => by first | exact absurd (by decide) c243 | exact absurd c243 (by decide))
                      refine lv_iconst (v := (nI 0)) hx hb dL_singers_250 (by decide) ?_
                      refine lv_iadd hx hb dL_singers_251 ?_
                      refine g_top (nI_add (dnQ S i 0 j) 0) ?_
                      refine g_top (y := (nI (dnQ S i 0 (j + 1)))) (congrArg nI (dn_f (by rw [hd]; decide))) ?_
                      refine lv_istore (lv' := [(7, .int (nI (dnQ S i 0 (j + 1)))), (6, .int (nI (lsN S i (j + 1)))), (5, .int (nI (lfN S i (j + 1)))), (17, .int (nI ((lfN S i j) + (tk (S 4 i))))), (16, .int (nI (tk (S 1 j)))), (15, .int (nI 1)), (14, .int (nI 1)), (0, .ref o), (1, .int (nI (cntF (presB S) i))), (2, .int (nI (suF (fun x => cntF (markB S x) (sB S)) i))), (3, .int (nI i)), (4, .int (nI (tk (S 3 i)))), (8, .int (nI (dnQ S i 2 j))), (9, .int (nI (dnQ S i 1 j))), (10, .int (nI (rnF (doS S i) j))), (11, .int (nI (lgF (doS S i) j))), (12, .int (nI j))]) hx hb dL_singers_252 hl (by decide) rfl (fun ls hl => ?_)
                      refine lv_iload hx hb dL_singers_254 (lv_at hl 13 rfl) ?_
                      refine lv_iload hx hb dL_singers_256 (lv_at hl 5 rfl) ?_
                      refine lv_iconst (v := (nI 1)) hx hb dL_singers_258 (by decide) ?_
                      refine lv_icmp_ne (tgt := 266) hx hb dL_singers_259 (by decide) (fun c259 => by first | exact absurd (by decide) c259 | exact absurd c259 (by decide)) (fun c259 => ?_)
                      refine lv_iconst (v := (nI 1)) hx hb dL_singers_262 (by decide) ?_
                      refine lv_goto (tgt := 267) hx hb dL_singers_263 (by decide) ?_
                      refine lv_iadd hx hb dL_singers_267 ?_
                      refine g_top (nI_add (dnQ S i 1 j) 1) ?_
                      refine g_top (y := (nI (dnQ S i 1 (j + 1)))) (congrArg nI (dn_t hd)) ?_
                      refine lv_istore (lv' := [(9, .int (nI (dnQ S i 1 (j + 1)))), (7, .int (nI (dnQ S i 0 (j + 1)))), (6, .int (nI (lsN S i (j + 1)))), (5, .int (nI (lfN S i (j + 1)))), (17, .int (nI ((lfN S i j) + (tk (S 4 i))))), (16, .int (nI (tk (S 1 j)))), (15, .int (nI 1)), (14, .int (nI 1)), (0, .ref o), (1, .int (nI (cntF (presB S) i))), (2, .int (nI (suF (fun x => cntF (markB S x) (sB S)) i))), (3, .int (nI i)), (4, .int (nI (tk (S 3 i)))), (8, .int (nI (dnQ S i 2 j))), (10, .int (nI (rnF (doS S i) j))), (11, .int (nI (lgF (doS S i) j))), (12, .int (nI j))]) hx hb dL_singers_268 hl (by decide) rfl (fun ls hl => ?_)
                      refine lv_iload hx hb dL_singers_270 (lv_at hl 13 rfl) ?_
                      refine lv_iload hx hb dL_singers_272 (lv_at hl 6 rfl) ?_
                      refine lv_iconst (v := (nI 2)) hx hb dL_singers_274 (by decide) ?_
                      refine lv_icmp_ne (tgt := 282) hx hb dL_singers_275 (by decide) (fun c275 => ?_) (fun c275 => by first | exact absurd (by decide) c275 | exact absurd c275 (by decide))
                      refine lv_iconst (v := (nI 0)) hx hb dL_singers_282 (by decide) ?_
                      refine lv_iadd hx hb dL_singers_283 ?_
                      refine g_top (nI_add (dnQ S i 2 j) 0) ?_
                      refine g_top (y := (nI (dnQ S i 2 (j + 1)))) (congrArg nI (dn_f (by rw [hd]; decide))) ?_
                      refine lv_istore (lv' := [(8, .int (nI (dnQ S i 2 (j + 1)))), (9, .int (nI (dnQ S i 1 (j + 1)))), (7, .int (nI (dnQ S i 0 (j + 1)))), (6, .int (nI (lsN S i (j + 1)))), (5, .int (nI (lfN S i (j + 1)))), (17, .int (nI ((lfN S i j) + (tk (S 4 i))))), (16, .int (nI (tk (S 1 j)))), (15, .int (nI 1)), (14, .int (nI 1)), (0, .ref o), (1, .int (nI (cntF (presB S) i))), (2, .int (nI (suF (fun x => cntF (markB S x) (sB S)) i))), (3, .int (nI i)), (4, .int (nI (tk (S 3 i)))), (10, .int (nI (rnF (doS S i) j))), (11, .int (nI (lgF (doS S i) j))), (12, .int (nI j))]) hx hb dL_singers_284 hl (by decide) rfl (fun ls hl => ?_)
                      refine lv_iload hx hb dL_singers_286 (lv_at hl 7 rfl) ?_
                      refine lv_if_ne (tgt := 298) hx hb dL_singers_288 (by decide) (fun c288 => ?_) (fun c288 => by first | exact absurd (by decide) c288 | exact absurd c288 (by decide))
                      refine lv_iconst (v := (nI 0)) hx hb dL_singers_298 (by decide) ?_
                      refine g_top (y := (nI (rnF (doS S i) (j + 1)))) (congrArg nI (rn_f hd0)) ?_
                      have hrn := rnF_le (doS S i) (j + 1)
                      refine lv_istore (lv' := [(10, .int (nI (rnF (doS S i) (j + 1)))), (8, .int (nI (dnQ S i 2 (j + 1)))), (9, .int (nI (dnQ S i 1 (j + 1)))), (7, .int (nI (dnQ S i 0 (j + 1)))), (6, .int (nI (lsN S i (j + 1)))), (5, .int (nI (lfN S i (j + 1)))), (17, .int (nI ((lfN S i j) + (tk (S 4 i))))), (16, .int (nI (tk (S 1 j)))), (15, .int (nI 1)), (14, .int (nI 1)), (0, .ref o), (1, .int (nI (cntF (presB S) i))), (2, .int (nI (suF (fun x => cntF (markB S x) (sB S)) i))), (3, .int (nI i)), (4, .int (nI (tk (S 3 i)))), (11, .int (nI (lgF (doS S i) j))), (12, .int (nI j))]) hx hb dL_singers_299 hl (by decide) rfl (fun ls hl => ?_)
                      refine lv_iload hx hb dL_singers_301 (lv_at hl 0 rfl) ?_
                      refine lv_iload hx hb dL_singers_303 (lv_at hl 15 rfl) ?_
                      refine g_icmp_le (tgt := 313) (a := rnF (doS S i) (j + 1)) (b := lgF (doS S i) j) hx hb (by omega) (by omega) dL_singers_305 (by decide) (fun c305 => ?_) (fun c305 => ?_)
                      · refine lv_iload hx hb dL_singers_313 (lv_at hl 15 rfl) ?_
                        refine g_top (y := (nI (lgF (doS S i) (j + 1)))) (congrArg nI (lg_1 (by omega))) ?_
                        refine lv_istore (lv' := [(11, .int (nI (lgF (doS S i) (j + 1)))), (10, .int (nI (rnF (doS S i) (j + 1)))), (8, .int (nI (dnQ S i 2 (j + 1)))), (9, .int (nI (dnQ S i 1 (j + 1)))), (7, .int (nI (dnQ S i 0 (j + 1)))), (6, .int (nI (lsN S i (j + 1)))), (5, .int (nI (lfN S i (j + 1)))), (17, .int (nI ((lfN S i j) + (tk (S 4 i))))), (16, .int (nI (tk (S 1 j)))), (15, .int (nI 1)), (14, .int (nI 1)), (0, .ref o), (1, .int (nI (cntF (presB S) i))), (2, .int (nI (suF (fun x => cntF (markB S x) (sB S)) i))), (3, .int (nI i)), (4, .int (nI (tk (S 3 i)))), (12, .int (nI j))]) hx hb dL_singers_315 hl (by decide) rfl (fun ls hl => ?_)
                        refine lv_aload_n hx hb dL_singers_317 rfl (lv_at hl 11 rfl) ?_
                        refine lv_iload_n hx hb dL_singers_318 rfl (lv_at hl 14 rfl) ?_
                        refine lv_iload hx hb dL_singers_319 (lv_at hl 16 rfl) ?_
                        refine g_runV (As := [.int (nI i), .int (nI j)]) (rest := []) (own := RL) (C := RX7) (T := TX7) (N := 7) 2 hx hb hml hown hts hK hz hP hL hS hlo hl.1 (c_X7_left l o b S tf tn P C kp zp ((nI i)) ((nI j))  τ_25 sz hW hY.1.1 ) gL_singers_X7_left rfl rfl rfl (by decide +kernel) ⟨Nat.le_of_ble_eq_true rfl, Nat.le_of_ble_eq_true rfl⟩ hW.c0 rfl rfl rfl (Nat.le_of_ble_eq_true rfl) dL_singers_321 ⟨Nat.le_of_ble_eq_true rfl, Nat.le_of_ble_eq_true rfl⟩ (g_kxi0 (fun r_32 τ_32 H locs z_32 hz hp hP hL hS => ?_))
                        obtain ⟨hr_32, hW, hz_32, ha_32⟩ := hp
                        have hz := hz.trans hz_32
                        subst hr_32
                        have hag := hag.tr ha_32 (fun q h => h)
                        have hlf := lfN_le hY (i := i) (k := j + 1) (by omega) (by omega)
                        refine g_top (y := (nI (lfN S i (j + 1)))) (yl hY (by omega) (by omega)) ?_
                        refine lv_iload hx hb dL_singers_324 (lv_at hl 6 rfl) ?_
                        refine lv_icmp_eq (tgt := 331) hx hb dL_singers_326 (by decide) (fun c326 => ?_) (fun c326 => absurd rfl c326)
                        refine lv_iinc (v := (nI (j + 1))) (lv' := [(12, .int (nI (j + 1))), (11, .int (nI (lgF (doS S i) (j + 1)))), (10, .int (nI (rnF (doS S i) (j + 1)))), (8, .int (nI (dnQ S i 2 (j + 1)))), (9, .int (nI (dnQ S i 1 (j + 1)))), (7, .int (nI (dnQ S i 0 (j + 1)))), (6, .int (nI (lsN S i (j + 1)))), (5, .int (nI (lfN S i (j + 1)))), (17, .int (nI ((lfN S i j) + (tk (S 4 i))))), (16, .int (nI (tk (S 1 j)))), (15, .int (nI 1)), (14, .int (nI 1)), (0, .ref o), (1, .int (nI (cntF (presB S) i))), (2, .int (nI (suF (fun x => cntF (markB S x) (sB S)) i))), (3, .int (nI i)), (4, .int (nI (tk (S 3 i))))]) hx hb dL_singers_331 hl (k := 16) rfl (g_inc j 1) (by decide) rfl (fun ls hl => ?_)
                        refine lv_goto (tgt := 49) hx hb dL_singers_334 (by decide) ?_
                        exact ih_lpB (j + 1) (by omega) (by omega) τ_32 hW hag hL H locs ls hz hP hS (lv_sub hl [12, 13, 14, 15, 16, 7, 6, 5, 3, 4, 2, 1, 0] rfl)
                      · refine lv_iload hx hb dL_singers_308 (lv_at hl 0 rfl) ?_
                        refine lv_goto (tgt := 315) hx hb dL_singers_310 (by decide) ?_
                        refine g_top (y := (nI (lgF (doS S i) (j + 1)))) (congrArg nI (lg_2 (by omega))) ?_
                        refine lv_istore (lv' := [(11, .int (nI (lgF (doS S i) (j + 1)))), (10, .int (nI (rnF (doS S i) (j + 1)))), (8, .int (nI (dnQ S i 2 (j + 1)))), (9, .int (nI (dnQ S i 1 (j + 1)))), (7, .int (nI (dnQ S i 0 (j + 1)))), (6, .int (nI (lsN S i (j + 1)))), (5, .int (nI (lfN S i (j + 1)))), (17, .int (nI ((lfN S i j) + (tk (S 4 i))))), (16, .int (nI (tk (S 1 j)))), (15, .int (nI 1)), (14, .int (nI 1)), (0, .ref o), (1, .int (nI (cntF (presB S) i))), (2, .int (nI (suF (fun x => cntF (markB S x) (sB S)) i))), (3, .int (nI i)), (4, .int (nI (tk (S 3 i)))), (12, .int (nI j))]) hx hb dL_singers_315 hl (by decide) rfl (fun ls hl => ?_)
                        refine lv_aload_n hx hb dL_singers_317 rfl (lv_at hl 11 rfl) ?_
                        refine lv_iload_n hx hb dL_singers_318 rfl (lv_at hl 14 rfl) ?_
                        refine lv_iload hx hb dL_singers_319 (lv_at hl 16 rfl) ?_
                        refine g_runV (As := [.int (nI i), .int (nI j)]) (rest := []) (own := RL) (C := RX7) (T := TX7) (N := 7) 2 hx hb hml hown hts hK hz hP hL hS hlo hl.1 (c_X7_left l o b S tf tn P C kp zp ((nI i)) ((nI j))  τ_25 sz hW hY.1.1 ) gL_singers_X7_left rfl rfl rfl (by decide +kernel) ⟨Nat.le_of_ble_eq_true rfl, Nat.le_of_ble_eq_true rfl⟩ hW.c0 rfl rfl rfl (Nat.le_of_ble_eq_true rfl) dL_singers_321 ⟨Nat.le_of_ble_eq_true rfl, Nat.le_of_ble_eq_true rfl⟩ (g_kxi0 (fun r_33 τ_33 H locs z_33 hz hp hP hL hS => ?_))
                        obtain ⟨hr_33, hW, hz_33, ha_33⟩ := hp
                        have hz := hz.trans hz_33
                        subst hr_33
                        have hag := hag.tr ha_33 (fun q h => h)
                        have hlf := lfN_le hY (i := i) (k := j + 1) (by omega) (by omega)
                        refine g_top (y := (nI (lfN S i (j + 1)))) (yl hY (by omega) (by omega)) ?_
                        refine lv_iload hx hb dL_singers_324 (lv_at hl 6 rfl) ?_
                        refine lv_icmp_eq (tgt := 331) hx hb dL_singers_326 (by decide) (fun c326 => ?_) (fun c326 => absurd rfl c326)
                        refine lv_iinc (v := (nI (j + 1))) (lv' := [(12, .int (nI (j + 1))), (11, .int (nI (lgF (doS S i) (j + 1)))), (10, .int (nI (rnF (doS S i) (j + 1)))), (8, .int (nI (dnQ S i 2 (j + 1)))), (9, .int (nI (dnQ S i 1 (j + 1)))), (7, .int (nI (dnQ S i 0 (j + 1)))), (6, .int (nI (lsN S i (j + 1)))), (5, .int (nI (lfN S i (j + 1)))), (17, .int (nI ((lfN S i j) + (tk (S 4 i))))), (16, .int (nI (tk (S 1 j)))), (15, .int (nI 1)), (14, .int (nI 1)), (0, .ref o), (1, .int (nI (cntF (presB S) i))), (2, .int (nI (suF (fun x => cntF (markB S x) (sB S)) i))), (3, .int (nI i)), (4, .int (nI (tk (S 3 i))))]) hx hb dL_singers_331 hl (k := 16) rfl (g_inc j 1) (by decide) rfl (fun ls hl => ?_)
                        refine lv_goto (tgt := 49) hx hb dL_singers_334 (by decide) ?_
                        exact ih_lpB (j + 1) (by omega) (by omega) τ_33 hW hag hL H locs ls hz hP hS (lv_sub hl [12, 13, 14, 15, 16, 7, 6, 5, 3, 4, 2, 1, 0] rfl)
                · skip
                  have htsg := (do_2.mp hd).1
                  refine g_top (y := nI 1) (by rw [htsg]; rfl) ?_
                  have h2 := gasp_lt hY hil hjl hd
                  have hd0 : dosQ S i j ≠ 0 := by rw [hd]; decide
                  refine lv_istore (lv' := [(14, .int (nI 1)), (0, .ref o), (1, .int (nI (cntF (presB S) i))), (2, .int (nI (suF (fun x => cntF (markB S x) (sB S)) i))), (3, .int (nI i)), (4, .int (nI (tk (S 3 i)))), (5, .int (nI (lfN S i j))), (6, .int (nI (lsN S i j))), (7, .int (nI (dnQ S i 0 j))), (8, .int (nI (dnQ S i 2 j))), (9, .int (nI (dnQ S i 1 j))), (10, .int (nI (rnF (doS S i) j))), (11, .int (nI (lgF (doS S i) j))), (12, .int (nI j))]) hx hb dL_singers_109 hl (by decide) rfl (fun ls hl => ?_)
                  refine lv_aload_n hx hb dL_singers_111 rfl (lv_at hl 1 rfl) ?_
                  refine lv_iload_n hx hb dL_singers_112 rfl (lv_at hl 4 rfl) ?_
                  refine lv_iload hx hb dL_singers_113 (lv_at hl 13 rfl) ?_
                  refine g_runV (As := [.int (nI i), .int (nI j)]) (rest := []) (own := RL) (C := RX7) (T := TX7) (N := 7) 2 hx hb hml hown hts hK hz hP hL hS hlo hl.1 (c_X7_does l o b S tf tn P C kp zp ((nI i)) ((nI j))  υ sz hW hY.1.1 ) gL_singers_X7_does rfl rfl rfl (by decide +kernel) ⟨Nat.le_of_ble_eq_true rfl, Nat.le_of_ble_eq_true rfl⟩ hW.c0 rfl rfl rfl (Nat.le_of_ble_eq_true rfl) dL_singers_115 ⟨Nat.le_of_ble_eq_true rfl, Nat.le_of_ble_eq_true rfl⟩ (g_kxi0 (fun r_34 τ_34 H locs z_34 hz hp hP hL hS => ?_))
                  obtain ⟨hr_34, hW, hz_34, ha_34⟩ := hp
                  have hz := hz.trans hz_34
                  subst hr_34
                  have hag := hag.tr ha_34 (fun q h => h)
                  have hdo := dosQ_lt S i j
                  refine g_top (y := (nI (dosQ S i j))) (yd hY (by omega) (by omega)) ?_
                  refine g_top (y := (nI 2)) (congrArg nI hd) ?_
                  refine lv_istore (lv' := [(15, .int (nI 2)), (14, .int (nI 1)), (0, .ref o), (1, .int (nI (cntF (presB S) i))), (2, .int (nI (suF (fun x => cntF (markB S x) (sB S)) i))), (3, .int (nI i)), (4, .int (nI (tk (S 3 i)))), (5, .int (nI (lfN S i j))), (6, .int (nI (lsN S i j))), (7, .int (nI (dnQ S i 0 j))), (8, .int (nI (dnQ S i 2 j))), (9, .int (nI (dnQ S i 1 j))), (10, .int (nI (rnF (doS S i) j))), (11, .int (nI (lgF (doS S i) j))), (12, .int (nI j))]) hx hb dL_singers_118 hl (by decide) rfl (fun ls hl => ?_)
                  refine lv_aload_n hx hb dL_singers_120 rfl (lv_at hl 2 rfl) ?_
                  refine lv_iload hx hb dL_singers_121 (lv_at hl 14 rfl) ?_
                  refine lv_iconst (v := (nI 1)) hx hb dL_singers_123 (by decide) ?_
                  refine g_runV (As := [.int (nI j), .int (nI 1)]) (rest := []) (own := RL) (C := RX7) (T := TX7) (N := 7) 2 hx hb hml hown hts hK hz hP hL hS hlo hl.1 (c_X7_beat l o b S tf tn P C kp zp ((nI j)) ((nI 1))  τ_34 sz hW hY.1.1 ) gL_singers_X7_beat rfl rfl rfl (by decide +kernel) ⟨Nat.le_of_ble_eq_true rfl, Nat.le_of_ble_eq_true rfl⟩ hW.c0 rfl rfl rfl (Nat.le_of_ble_eq_true rfl) dL_singers_124 ⟨Nat.le_of_ble_eq_true rfl, Nat.le_of_ble_eq_true rfl⟩ (g_kxi0 (fun r_35 τ_35 H locs z_35 hz hp hP hL hS => ?_))
                  obtain ⟨hr_35, hW, hz_35, ha_35⟩ := hp
                  have hz := hz.trans hz_35
                  subst hr_35
                  have hag := hag.tr ha_35 (fun q h => h)
                  have hxlo := hY.lo (b := j) (by omega)
                  refine g_top (y := (nI (tk (S 1 j)))) (yb_1 hY (by omega)) ?_
                  refine lv_istore (lv' := [(16, .int (nI (tk (S 1 j)))), (15, .int (nI 2)), (14, .int (nI 1)), (0, .ref o), (1, .int (nI (cntF (presB S) i))), (2, .int (nI (suF (fun x => cntF (markB S x) (sB S)) i))), (3, .int (nI i)), (4, .int (nI (tk (S 3 i)))), (5, .int (nI (lfN S i j))), (6, .int (nI (lsN S i j))), (7, .int (nI (dnQ S i 0 j))), (8, .int (nI (dnQ S i 2 j))), (9, .int (nI (dnQ S i 1 j))), (10, .int (nI (rnF (doS S i) j))), (11, .int (nI (lgF (doS S i) j))), (12, .int (nI j))]) hx hb dL_singers_127 hl (by decide) rfl (fun ls hl => ?_)
                  refine lv_iload hx hb dL_singers_129 (lv_at hl 2 rfl) ?_
                  refine lv_iload hx hb dL_singers_131 (lv_at hl 1 rfl) ?_
                  refine lv_iconst (v := (nI 3)) hx hb dL_singers_133 (by decide) ?_
                  refine lv_icmp_ge (tgt := 141) hx hb dL_singers_134 (by decide) (fun c134 => by first | exact absurd (by decide) c134 | exact absurd c134 (by decide)) (fun c134 => ?_)
                  refine lv_iconst (v := (nI 1)) hx hb dL_singers_137 (by decide) ?_
                  refine lv_goto (tgt := 142) hx hb dL_singers_138 (by decide) ?_
                  refine lv_icmp_ne (tgt := 181) hx hb dL_singers_142 (by decide) (fun c142 => by first | exact absurd (by decide) c142 | exact absurd c142 (by decide)) (fun c142 => ?_)
                  refine lv_iload hx hb dL_singers_145 (lv_at hl 1 rfl) ?_
                  refine lv_if_ne (tgt := 157) hx hb dL_singers_147 (by decide) (fun c147 => ?_) (fun c147 => by first | exact absurd (by decide) c147 | exact absurd c147 (by decide))
                  refine lv_iload hx hb dL_singers_157 (lv_at hl 1 rfl) ?_
                  refine lv_iconst (v := (nI 2)) hx hb dL_singers_159 (by decide) ?_
                  refine lv_icmp_ne (tgt := 170) hx hb dL_singers_160 (by decide) (fun c160 => by first | exact absurd (by decide) c160 | exact absurd c160 (by decide)) (fun c160 => ?_)
                  refine lv_iload hx hb dL_singers_163 (lv_at hl 8 rfl) ?_
                  refine lv_iload hx hb dL_singers_165 (lv_at hl 0 rfl) ?_
                  refine g_icmp_ge (tgt := 181) (a := lfN S i j) (b := tk (S 1 j)) hx hb (by omega) (by omega) dL_singers_167 (by decide) (fun c167 => False.elim (by omega)) (fun c167 => ?_)
                  refine lv_iload hx hb dL_singers_170 (lv_at hl 1 rfl) ?_
                  refine lv_if_lt (tgt := 181) hx hb dL_singers_172 (by decide) (fun c172 => by first | exact absurd (by decide) c172 | exact absurd c172 (by decide)) (fun c172 => ?_)
                  refine lv_iload hx hb dL_singers_175 (lv_at hl 1 rfl) ?_
                  refine lv_iconst (v := (nI 3)) hx hb dL_singers_177 (by decide) ?_
                  refine lv_icmp_le (tgt := 183) hx hb dL_singers_178 (by decide) (fun c178 => ?_) (fun c178 => by first | exact absurd (by decide) c178 | exact absurd c178 (by decide))
                  refine lv_iload hx hb dL_singers_183 (lv_at hl 8 rfl) ?_
                  refine lv_aload_n hx hb dL_singers_185 rfl (lv_at hl 3 rfl) ?_
                  refine lv_iload_n hx hb dL_singers_186 rfl (lv_at hl 6 rfl) ?_
                  refine lv_iconst (v := (nI 1)) hx hb dL_singers_187 (by decide) ?_
                  refine g_runV (As := [.int (nI i), .int (nI 1)]) (rest := [.int (nI (lfN S i j))]) (own := RL) (C := RX7) (T := TX7) (N := 7) 2 hx hb hml hown hts hK hz hP hL hS hlo hl.1 (c_X7_singer l o b S tf tn P C kp zp ((nI i)) ((nI 1))  τ_35 sz hW hY.1.1 ) gL_singers_X7_singer rfl rfl rfl (by decide +kernel) ⟨Nat.le_of_ble_eq_true rfl, Nat.le_of_ble_eq_true rfl⟩ hW.c0 rfl rfl rfl (Nat.le_of_ble_eq_true rfl) dL_singers_188 ⟨Nat.le_of_ble_eq_true rfl, Nat.le_of_ble_eq_true rfl⟩ (g_kxi0 (fun r_36 τ_36 H locs z_36 hz hp hP hL hS => ?_))
                  obtain ⟨hr_36, hW, hz_36, ha_36⟩ := hp
                  have hz := hz.trans hz_36
                  subst hr_36
                  have hag := hag.tr ha_36 (fun q h => h)
                  have hrc := hY.rc (i := i) (by omega)
                  refine g_top (y := (nI (tk (S 4 i)))) (yn_1 hY (by omega)) ?_
                  refine lv_iadd hx hb dL_singers_191 ?_
                  refine g_top (nI_add (lfN S i j) (tk (S 4 i))) ?_
                  refine lv_istore (lv' := [(17, .int (nI ((lfN S i j) + (tk (S 4 i))))), (16, .int (nI (tk (S 1 j)))), (15, .int (nI 2)), (14, .int (nI 1)), (0, .ref o), (1, .int (nI (cntF (presB S) i))), (2, .int (nI (suF (fun x => cntF (markB S x) (sB S)) i))), (3, .int (nI i)), (4, .int (nI (tk (S 3 i)))), (5, .int (nI (lfN S i j))), (6, .int (nI (lsN S i j))), (7, .int (nI (dnQ S i 0 j))), (8, .int (nI (dnQ S i 2 j))), (9, .int (nI (dnQ S i 1 j))), (10, .int (nI (rnF (doS S i) j))), (11, .int (nI (lgF (doS S i) j))), (12, .int (nI j))]) hx hb dL_singers_192 hl (by decide) rfl (fun ls hl => ?_)
                  refine lv_iload hx hb dL_singers_194 (lv_at hl 2 rfl) ?_
                  refine lv_if_ne (tgt := 207) hx hb dL_singers_196 (by decide) (fun c196 => ?_) (fun c196 => by first | exact absurd (by decide) c196 | exact absurd c196 (by decide))
                  refine lv_iload hx hb dL_singers_207 (lv_at hl 0 rfl) ?_
                  refine lv_iload hx hb dL_singers_209 (lv_at hl 8 rfl) ?_
                  refine g_icmp_le (tgt := 219) (a := (lfN S i j) + (tk (S 4 i))) (b := tk (S 3 i)) hx hb (by omega) (by omega) dL_singers_211 (by decide) (fun c211 => ?_) (fun c211 => ?_)
                  · refine lv_iload hx hb dL_singers_219 (lv_at hl 0 rfl) ?_
                    refine g_top (y := (nI (lfN S i (j + 1)))) (congrArg nI (lf_a hY hil hjl hd0 c211)) ?_
                    have hlf := lfN_le hY (i := i) (k := j + 1) hil (by omega)
                    refine lv_istore (lv' := [(5, .int (nI (lfN S i (j + 1)))), (17, .int (nI ((lfN S i j) + (tk (S 4 i))))), (16, .int (nI (tk (S 1 j)))), (15, .int (nI 2)), (14, .int (nI 1)), (0, .ref o), (1, .int (nI (cntF (presB S) i))), (2, .int (nI (suF (fun x => cntF (markB S x) (sB S)) i))), (3, .int (nI i)), (4, .int (nI (tk (S 3 i)))), (6, .int (nI (lsN S i j))), (7, .int (nI (dnQ S i 0 j))), (8, .int (nI (dnQ S i 2 j))), (9, .int (nI (dnQ S i 1 j))), (10, .int (nI (rnF (doS S i) j))), (11, .int (nI (lgF (doS S i) j))), (12, .int (nI j))]) hx hb dL_singers_221 hl (by decide) rfl (fun ls hl => ?_)
                    refine lv_iload hx hb dL_singers_223 (lv_at hl 0 rfl) ?_
                    refine lv_iload hx hb dL_singers_225 (lv_at hl 10 rfl) ?_
                    refine g_icmp_ge (tgt := 235) (a := lfN S i (j + 1)) (b := lsN S i j) hx hb (by omega) (by omega) dL_singers_227 (by decide) (fun c227 => ?_) (fun c227 => ?_)
                    · refine lv_iload hx hb dL_singers_235 (lv_at hl 10 rfl) ?_
                      refine g_top (y := (nI (lsN S i (j + 1)))) (congrArg nI (ls_1 (by omega))) ?_
                      refine lv_istore (lv' := [(6, .int (nI (lsN S i (j + 1)))), (5, .int (nI (lfN S i (j + 1)))), (17, .int (nI ((lfN S i j) + (tk (S 4 i))))), (16, .int (nI (tk (S 1 j)))), (15, .int (nI 2)), (14, .int (nI 1)), (0, .ref o), (1, .int (nI (cntF (presB S) i))), (2, .int (nI (suF (fun x => cntF (markB S x) (sB S)) i))), (3, .int (nI i)), (4, .int (nI (tk (S 3 i)))), (7, .int (nI (dnQ S i 0 j))), (8, .int (nI (dnQ S i 2 j))), (9, .int (nI (dnQ S i 1 j))), (10, .int (nI (rnF (doS S i) j))), (11, .int (nI (lgF (doS S i) j))), (12, .int (nI j))]) hx hb dL_singers_237 hl (by decide) rfl (fun ls hl => ?_)
                      refine lv_iload hx hb dL_singers_239 (lv_at hl 11 rfl) ?_
                      refine lv_iload hx hb dL_singers_241 (lv_at hl 4 rfl) ?_
                      refine lv_if_ne (tgt := 250) hx hb dL_singers_243 (by decide) (fun c243 => ?_) (fun c243 => by first | exact absurd (by decide) c243 | exact absurd c243 (by decide))
                      refine lv_iconst (v := (nI 0)) hx hb dL_singers_250 (by decide) ?_
                      refine lv_iadd hx hb dL_singers_251 ?_
                      refine g_top (nI_add (dnQ S i 0 j) 0) ?_
                      refine g_top (y := (nI (dnQ S i 0 (j + 1)))) (congrArg nI (dn_f (by rw [hd]; decide))) ?_
                      refine lv_istore (lv' := [(7, .int (nI (dnQ S i 0 (j + 1)))), (6, .int (nI (lsN S i (j + 1)))), (5, .int (nI (lfN S i (j + 1)))), (17, .int (nI ((lfN S i j) + (tk (S 4 i))))), (16, .int (nI (tk (S 1 j)))), (15, .int (nI 2)), (14, .int (nI 1)), (0, .ref o), (1, .int (nI (cntF (presB S) i))), (2, .int (nI (suF (fun x => cntF (markB S x) (sB S)) i))), (3, .int (nI i)), (4, .int (nI (tk (S 3 i)))), (8, .int (nI (dnQ S i 2 j))), (9, .int (nI (dnQ S i 1 j))), (10, .int (nI (rnF (doS S i) j))), (11, .int (nI (lgF (doS S i) j))), (12, .int (nI j))]) hx hb dL_singers_252 hl (by decide) rfl (fun ls hl => ?_)
                      refine lv_iload hx hb dL_singers_254 (lv_at hl 13 rfl) ?_
                      refine lv_iload hx hb dL_singers_256 (lv_at hl 5 rfl) ?_
                      refine lv_iconst (v := (nI 1)) hx hb dL_singers_258 (by decide) ?_
                      refine lv_icmp_ne (tgt := 266) hx hb dL_singers_259 (by decide) (fun c259 => ?_) (fun c259 => by first | exact absurd (by decide) c259 | exact absurd c259 (by decide))
                      refine lv_iconst (v := (nI 0)) hx hb dL_singers_266 (by decide) ?_
                      refine lv_iadd hx hb dL_singers_267 ?_
                      refine g_top (nI_add (dnQ S i 1 j) 0) ?_
                      refine g_top (y := (nI (dnQ S i 1 (j + 1)))) (congrArg nI (dn_f (by rw [hd]; decide))) ?_
                      refine lv_istore (lv' := [(9, .int (nI (dnQ S i 1 (j + 1)))), (7, .int (nI (dnQ S i 0 (j + 1)))), (6, .int (nI (lsN S i (j + 1)))), (5, .int (nI (lfN S i (j + 1)))), (17, .int (nI ((lfN S i j) + (tk (S 4 i))))), (16, .int (nI (tk (S 1 j)))), (15, .int (nI 2)), (14, .int (nI 1)), (0, .ref o), (1, .int (nI (cntF (presB S) i))), (2, .int (nI (suF (fun x => cntF (markB S x) (sB S)) i))), (3, .int (nI i)), (4, .int (nI (tk (S 3 i)))), (8, .int (nI (dnQ S i 2 j))), (10, .int (nI (rnF (doS S i) j))), (11, .int (nI (lgF (doS S i) j))), (12, .int (nI j))]) hx hb dL_singers_268 hl (by decide) rfl (fun ls hl => ?_)
                      refine lv_iload hx hb dL_singers_270 (lv_at hl 13 rfl) ?_
                      refine lv_iload hx hb dL_singers_272 (lv_at hl 6 rfl) ?_
                      refine lv_iconst (v := (nI 2)) hx hb dL_singers_274 (by decide) ?_
                      refine lv_icmp_ne (tgt := 282) hx hb dL_singers_275 (by decide) (fun c275 => by first | exact absurd (by decide) c275 | exact absurd c275 (by decide)) (fun c275 => ?_)
                      refine lv_iconst (v := (nI 1)) hx hb dL_singers_278 (by decide) ?_
                      refine lv_goto (tgt := 283) hx hb dL_singers_279 (by decide) ?_
                      refine lv_iadd hx hb dL_singers_283 ?_
                      refine g_top (nI_add (dnQ S i 2 j) 1) ?_
                      refine g_top (y := (nI (dnQ S i 2 (j + 1)))) (congrArg nI (dn_t hd)) ?_
                      refine lv_istore (lv' := [(8, .int (nI (dnQ S i 2 (j + 1)))), (9, .int (nI (dnQ S i 1 (j + 1)))), (7, .int (nI (dnQ S i 0 (j + 1)))), (6, .int (nI (lsN S i (j + 1)))), (5, .int (nI (lfN S i (j + 1)))), (17, .int (nI ((lfN S i j) + (tk (S 4 i))))), (16, .int (nI (tk (S 1 j)))), (15, .int (nI 2)), (14, .int (nI 1)), (0, .ref o), (1, .int (nI (cntF (presB S) i))), (2, .int (nI (suF (fun x => cntF (markB S x) (sB S)) i))), (3, .int (nI i)), (4, .int (nI (tk (S 3 i)))), (10, .int (nI (rnF (doS S i) j))), (11, .int (nI (lgF (doS S i) j))), (12, .int (nI j))]) hx hb dL_singers_284 hl (by decide) rfl (fun ls hl => ?_)
                      refine lv_iload hx hb dL_singers_286 (lv_at hl 7 rfl) ?_
                      refine lv_if_ne (tgt := 298) hx hb dL_singers_288 (by decide) (fun c288 => ?_) (fun c288 => by first | exact absurd (by decide) c288 | exact absurd c288 (by decide))
                      refine lv_iconst (v := (nI 0)) hx hb dL_singers_298 (by decide) ?_
                      refine g_top (y := (nI (rnF (doS S i) (j + 1)))) (congrArg nI (rn_f hd0)) ?_
                      have hrn := rnF_le (doS S i) (j + 1)
                      refine lv_istore (lv' := [(10, .int (nI (rnF (doS S i) (j + 1)))), (8, .int (nI (dnQ S i 2 (j + 1)))), (9, .int (nI (dnQ S i 1 (j + 1)))), (7, .int (nI (dnQ S i 0 (j + 1)))), (6, .int (nI (lsN S i (j + 1)))), (5, .int (nI (lfN S i (j + 1)))), (17, .int (nI ((lfN S i j) + (tk (S 4 i))))), (16, .int (nI (tk (S 1 j)))), (15, .int (nI 2)), (14, .int (nI 1)), (0, .ref o), (1, .int (nI (cntF (presB S) i))), (2, .int (nI (suF (fun x => cntF (markB S x) (sB S)) i))), (3, .int (nI i)), (4, .int (nI (tk (S 3 i)))), (11, .int (nI (lgF (doS S i) j))), (12, .int (nI j))]) hx hb dL_singers_299 hl (by decide) rfl (fun ls hl => ?_)
                      refine lv_iload hx hb dL_singers_301 (lv_at hl 0 rfl) ?_
                      refine lv_iload hx hb dL_singers_303 (lv_at hl 15 rfl) ?_
                      refine g_icmp_le (tgt := 313) (a := rnF (doS S i) (j + 1)) (b := lgF (doS S i) j) hx hb (by omega) (by omega) dL_singers_305 (by decide) (fun c305 => ?_) (fun c305 => ?_)
                      · refine lv_iload hx hb dL_singers_313 (lv_at hl 15 rfl) ?_
                        refine g_top (y := (nI (lgF (doS S i) (j + 1)))) (congrArg nI (lg_1 (by omega))) ?_
                        refine lv_istore (lv' := [(11, .int (nI (lgF (doS S i) (j + 1)))), (10, .int (nI (rnF (doS S i) (j + 1)))), (8, .int (nI (dnQ S i 2 (j + 1)))), (9, .int (nI (dnQ S i 1 (j + 1)))), (7, .int (nI (dnQ S i 0 (j + 1)))), (6, .int (nI (lsN S i (j + 1)))), (5, .int (nI (lfN S i (j + 1)))), (17, .int (nI ((lfN S i j) + (tk (S 4 i))))), (16, .int (nI (tk (S 1 j)))), (15, .int (nI 2)), (14, .int (nI 1)), (0, .ref o), (1, .int (nI (cntF (presB S) i))), (2, .int (nI (suF (fun x => cntF (markB S x) (sB S)) i))), (3, .int (nI i)), (4, .int (nI (tk (S 3 i)))), (12, .int (nI j))]) hx hb dL_singers_315 hl (by decide) rfl (fun ls hl => ?_)
                        refine lv_aload_n hx hb dL_singers_317 rfl (lv_at hl 11 rfl) ?_
                        refine lv_iload_n hx hb dL_singers_318 rfl (lv_at hl 14 rfl) ?_
                        refine lv_iload hx hb dL_singers_319 (lv_at hl 16 rfl) ?_
                        refine g_runV (As := [.int (nI i), .int (nI j)]) (rest := []) (own := RL) (C := RX7) (T := TX7) (N := 7) 2 hx hb hml hown hts hK hz hP hL hS hlo hl.1 (c_X7_left l o b S tf tn P C kp zp ((nI i)) ((nI j))  τ_36 sz hW hY.1.1 ) gL_singers_X7_left rfl rfl rfl (by decide +kernel) ⟨Nat.le_of_ble_eq_true rfl, Nat.le_of_ble_eq_true rfl⟩ hW.c0 rfl rfl rfl (Nat.le_of_ble_eq_true rfl) dL_singers_321 ⟨Nat.le_of_ble_eq_true rfl, Nat.le_of_ble_eq_true rfl⟩ (g_kxi0 (fun r_37 τ_37 H locs z_37 hz hp hP hL hS => ?_))
                        obtain ⟨hr_37, hW, hz_37, ha_37⟩ := hp
                        have hz := hz.trans hz_37
                        subst hr_37
                        have hag := hag.tr ha_37 (fun q h => h)
                        have hlf := lfN_le hY (i := i) (k := j + 1) (by omega) (by omega)
                        refine g_top (y := (nI (lfN S i (j + 1)))) (yl hY (by omega) (by omega)) ?_
                        refine lv_iload hx hb dL_singers_324 (lv_at hl 6 rfl) ?_
                        refine lv_icmp_eq (tgt := 331) hx hb dL_singers_326 (by decide) (fun c326 => ?_) (fun c326 => absurd rfl c326)
                        refine lv_iinc (v := (nI (j + 1))) (lv' := [(12, .int (nI (j + 1))), (11, .int (nI (lgF (doS S i) (j + 1)))), (10, .int (nI (rnF (doS S i) (j + 1)))), (8, .int (nI (dnQ S i 2 (j + 1)))), (9, .int (nI (dnQ S i 1 (j + 1)))), (7, .int (nI (dnQ S i 0 (j + 1)))), (6, .int (nI (lsN S i (j + 1)))), (5, .int (nI (lfN S i (j + 1)))), (17, .int (nI ((lfN S i j) + (tk (S 4 i))))), (16, .int (nI (tk (S 1 j)))), (15, .int (nI 2)), (14, .int (nI 1)), (0, .ref o), (1, .int (nI (cntF (presB S) i))), (2, .int (nI (suF (fun x => cntF (markB S x) (sB S)) i))), (3, .int (nI i)), (4, .int (nI (tk (S 3 i))))]) hx hb dL_singers_331 hl (k := 16) rfl (g_inc j 1) (by decide) rfl (fun ls hl => ?_)
                        refine lv_goto (tgt := 49) hx hb dL_singers_334 (by decide) ?_
                        exact ih_lpB (j + 1) (by omega) (by omega) τ_37 hW hag hL H locs ls hz hP hS (lv_sub hl [12, 13, 14, 15, 16, 7, 6, 5, 3, 4, 2, 1, 0] rfl)
                      · refine lv_iload hx hb dL_singers_308 (lv_at hl 0 rfl) ?_
                        refine lv_goto (tgt := 315) hx hb dL_singers_310 (by decide) ?_
                        refine g_top (y := (nI (lgF (doS S i) (j + 1)))) (congrArg nI (lg_2 (by omega))) ?_
                        refine lv_istore (lv' := [(11, .int (nI (lgF (doS S i) (j + 1)))), (10, .int (nI (rnF (doS S i) (j + 1)))), (8, .int (nI (dnQ S i 2 (j + 1)))), (9, .int (nI (dnQ S i 1 (j + 1)))), (7, .int (nI (dnQ S i 0 (j + 1)))), (6, .int (nI (lsN S i (j + 1)))), (5, .int (nI (lfN S i (j + 1)))), (17, .int (nI ((lfN S i j) + (tk (S 4 i))))), (16, .int (nI (tk (S 1 j)))), (15, .int (nI 2)), (14, .int (nI 1)), (0, .ref o), (1, .int (nI (cntF (presB S) i))), (2, .int (nI (suF (fun x => cntF (markB S x) (sB S)) i))), (3, .int (nI i)), (4, .int (nI (tk (S 3 i)))), (12, .int (nI j))]) hx hb dL_singers_315 hl (by decide) rfl (fun ls hl => ?_)
                        refine lv_aload_n hx hb dL_singers_317 rfl (lv_at hl 11 rfl) ?_
                        refine lv_iload_n hx hb dL_singers_318 rfl (lv_at hl 14 rfl) ?_
                        refine lv_iload hx hb dL_singers_319 (lv_at hl 16 rfl) ?_
                        refine g_runV (As := [.int (nI i), .int (nI j)]) (rest := []) (own := RL) (C := RX7) (T := TX7) (N := 7) 2 hx hb hml hown hts hK hz hP hL hS hlo hl.1 (c_X7_left l o b S tf tn P C kp zp ((nI i)) ((nI j))  τ_36 sz hW hY.1.1 ) gL_singers_X7_left rfl rfl rfl (by decide +kernel) ⟨Nat.le_of_ble_eq_true rfl, Nat.le_of_ble_eq_true rfl⟩ hW.c0 rfl rfl rfl (Nat.le_of_ble_eq_true rfl) dL_singers_321 ⟨Nat.le_of_ble_eq_true rfl, Nat.le_of_ble_eq_true rfl⟩ (g_kxi0 (fun r_38 τ_38 H locs z_38 hz hp hP hL hS => ?_))
                        obtain ⟨hr_38, hW, hz_38, ha_38⟩ := hp
                        have hz := hz.trans hz_38
                        subst hr_38
                        have hag := hag.tr ha_38 (fun q h => h)
                        have hlf := lfN_le hY (i := i) (k := j + 1) (by omega) (by omega)
                        refine g_top (y := (nI (lfN S i (j + 1)))) (yl hY (by omega) (by omega)) ?_
                        refine lv_iload hx hb dL_singers_324 (lv_at hl 6 rfl) ?_
                        refine lv_icmp_eq (tgt := 331) hx hb dL_singers_326 (by decide) (fun c326 => ?_) (fun c326 => absurd rfl c326)
                        refine lv_iinc (v := (nI (j + 1))) (lv' := [(12, .int (nI (j + 1))), (11, .int (nI (lgF (doS S i) (j + 1)))), (10, .int (nI (rnF (doS S i) (j + 1)))), (8, .int (nI (dnQ S i 2 (j + 1)))), (9, .int (nI (dnQ S i 1 (j + 1)))), (7, .int (nI (dnQ S i 0 (j + 1)))), (6, .int (nI (lsN S i (j + 1)))), (5, .int (nI (lfN S i (j + 1)))), (17, .int (nI ((lfN S i j) + (tk (S 4 i))))), (16, .int (nI (tk (S 1 j)))), (15, .int (nI 2)), (14, .int (nI 1)), (0, .ref o), (1, .int (nI (cntF (presB S) i))), (2, .int (nI (suF (fun x => cntF (markB S x) (sB S)) i))), (3, .int (nI i)), (4, .int (nI (tk (S 3 i))))]) hx hb dL_singers_331 hl (k := 16) rfl (g_inc j 1) (by decide) rfl (fun ls hl => ?_)
                        refine lv_goto (tgt := 49) hx hb dL_singers_334 (by decide) ?_
                        exact ih_lpB (j + 1) (by omega) (by omega) τ_38 hW hag hL H locs ls hz hP hS (lv_sub hl [12, 13, 14, 15, 16, 7, 6, 5, 3, 4, 2, 1, 0] rfl)
                    · refine lv_iload hx hb dL_singers_230 (lv_at hl 0 rfl) ?_
                      refine lv_goto (tgt := 237) hx hb dL_singers_232 (by decide) ?_
                      refine g_top (y := (nI (lsN S i (j + 1)))) (congrArg nI (ls_2 (by omega))) ?_
                      refine lv_istore (lv' := [(6, .int (nI (lsN S i (j + 1)))), (5, .int (nI (lfN S i (j + 1)))), (17, .int (nI ((lfN S i j) + (tk (S 4 i))))), (16, .int (nI (tk (S 1 j)))), (15, .int (nI 2)), (14, .int (nI 1)), (0, .ref o), (1, .int (nI (cntF (presB S) i))), (2, .int (nI (suF (fun x => cntF (markB S x) (sB S)) i))), (3, .int (nI i)), (4, .int (nI (tk (S 3 i)))), (7, .int (nI (dnQ S i 0 j))), (8, .int (nI (dnQ S i 2 j))), (9, .int (nI (dnQ S i 1 j))), (10, .int (nI (rnF (doS S i) j))), (11, .int (nI (lgF (doS S i) j))), (12, .int (nI j))]) hx hb dL_singers_237 hl (by decide) rfl (fun ls hl => ?_)
                      refine lv_iload hx hb dL_singers_239 (lv_at hl 11 rfl) ?_
                      refine lv_iload hx hb dL_singers_241 (lv_at hl 4 rfl) ?_
                      refine lv_if_ne (tgt := 250) hx hb dL_singers_243 (by decide) (fun c243 => ?_) (fun c243 => by first | exact absurd (by decide) c243 | exact absurd c243 (by decide))
                      refine lv_iconst (v := (nI 0)) hx hb dL_singers_250 (by decide) ?_
                      refine lv_iadd hx hb dL_singers_251 ?_
                      refine g_top (nI_add (dnQ S i 0 j) 0) ?_
                      refine g_top (y := (nI (dnQ S i 0 (j + 1)))) (congrArg nI (dn_f (by rw [hd]; decide))) ?_
                      refine lv_istore (lv' := [(7, .int (nI (dnQ S i 0 (j + 1)))), (6, .int (nI (lsN S i (j + 1)))), (5, .int (nI (lfN S i (j + 1)))), (17, .int (nI ((lfN S i j) + (tk (S 4 i))))), (16, .int (nI (tk (S 1 j)))), (15, .int (nI 2)), (14, .int (nI 1)), (0, .ref o), (1, .int (nI (cntF (presB S) i))), (2, .int (nI (suF (fun x => cntF (markB S x) (sB S)) i))), (3, .int (nI i)), (4, .int (nI (tk (S 3 i)))), (8, .int (nI (dnQ S i 2 j))), (9, .int (nI (dnQ S i 1 j))), (10, .int (nI (rnF (doS S i) j))), (11, .int (nI (lgF (doS S i) j))), (12, .int (nI j))]) hx hb dL_singers_252 hl (by decide) rfl (fun ls hl => ?_)
                      refine lv_iload hx hb dL_singers_254 (lv_at hl 13 rfl) ?_
                      refine lv_iload hx hb dL_singers_256 (lv_at hl 5 rfl) ?_
                      refine lv_iconst (v := (nI 1)) hx hb dL_singers_258 (by decide) ?_
                      refine lv_icmp_ne (tgt := 266) hx hb dL_singers_259 (by decide) (fun c259 => ?_) (fun c259 => by first | exact absurd (by decide) c259 | exact absurd c259 (by decide))
                      refine lv_iconst (v := (nI 0)) hx hb dL_singers_266 (by decide) ?_
                      refine lv_iadd hx hb dL_singers_267 ?_
                      refine g_top (nI_add (dnQ S i 1 j) 0) ?_
                      refine g_top (y := (nI (dnQ S i 1 (j + 1)))) (congrArg nI (dn_f (by rw [hd]; decide))) ?_
                      refine lv_istore (lv' := [(9, .int (nI (dnQ S i 1 (j + 1)))), (7, .int (nI (dnQ S i 0 (j + 1)))), (6, .int (nI (lsN S i (j + 1)))), (5, .int (nI (lfN S i (j + 1)))), (17, .int (nI ((lfN S i j) + (tk (S 4 i))))), (16, .int (nI (tk (S 1 j)))), (15, .int (nI 2)), (14, .int (nI 1)), (0, .ref o), (1, .int (nI (cntF (presB S) i))), (2, .int (nI (suF (fun x => cntF (markB S x) (sB S)) i))), (3, .int (nI i)), (4, .int (nI (tk (S 3 i)))), (8, .int (nI (dnQ S i 2 j))), (10, .int (nI (rnF (doS S i) j))), (11, .int (nI (lgF (doS S i) j))), (12, .int (nI j))]) hx hb dL_singers_268 hl (by decide) rfl (fun ls hl => ?_)
                      refine lv_iload hx hb dL_singers_270 (lv_at hl 13 rfl) ?_
                      refine lv_iload hx hb dL_singers_272 (lv_at hl 6 rfl) ?_
                      refine lv_iconst (v := (nI 2)) hx hb dL_singers_274 (by decide) ?_
                      refine lv_icmp_ne (tgt := 282) hx hb dL_singers_275 (by decide) (fun c275 => by first | exact absurd (by decide) c275 | exact absurd c275 (by decide)) (fun c275 => ?_)
                      refine lv_iconst (v := (nI 1)) hx hb dL_singers_278 (by decide) ?_
                      refine lv_goto (tgt := 283) hx hb dL_singers_279 (by decide) ?_
                      refine lv_iadd hx hb dL_singers_283 ?_
                      refine g_top (nI_add (dnQ S i 2 j) 1) ?_
                      refine g_top (y := (nI (dnQ S i 2 (j + 1)))) (congrArg nI (dn_t hd)) ?_
                      refine lv_istore (lv' := [(8, .int (nI (dnQ S i 2 (j + 1)))), (9, .int (nI (dnQ S i 1 (j + 1)))), (7, .int (nI (dnQ S i 0 (j + 1)))), (6, .int (nI (lsN S i (j + 1)))), (5, .int (nI (lfN S i (j + 1)))), (17, .int (nI ((lfN S i j) + (tk (S 4 i))))), (16, .int (nI (tk (S 1 j)))), (15, .int (nI 2)), (14, .int (nI 1)), (0, .ref o), (1, .int (nI (cntF (presB S) i))), (2, .int (nI (suF (fun x => cntF (markB S x) (sB S)) i))), (3, .int (nI i)), (4, .int (nI (tk (S 3 i)))), (10, .int (nI (rnF (doS S i) j))), (11, .int (nI (lgF (doS S i) j))), (12, .int (nI j))]) hx hb dL_singers_284 hl (by decide) rfl (fun ls hl => ?_)
                      refine lv_iload hx hb dL_singers_286 (lv_at hl 7 rfl) ?_
                      refine lv_if_ne (tgt := 298) hx hb dL_singers_288 (by decide) (fun c288 => ?_) (fun c288 => by first | exact absurd (by decide) c288 | exact absurd c288 (by decide))
                      refine lv_iconst (v := (nI 0)) hx hb dL_singers_298 (by decide) ?_
                      refine g_top (y := (nI (rnF (doS S i) (j + 1)))) (congrArg nI (rn_f hd0)) ?_
                      have hrn := rnF_le (doS S i) (j + 1)
                      refine lv_istore (lv' := [(10, .int (nI (rnF (doS S i) (j + 1)))), (8, .int (nI (dnQ S i 2 (j + 1)))), (9, .int (nI (dnQ S i 1 (j + 1)))), (7, .int (nI (dnQ S i 0 (j + 1)))), (6, .int (nI (lsN S i (j + 1)))), (5, .int (nI (lfN S i (j + 1)))), (17, .int (nI ((lfN S i j) + (tk (S 4 i))))), (16, .int (nI (tk (S 1 j)))), (15, .int (nI 2)), (14, .int (nI 1)), (0, .ref o), (1, .int (nI (cntF (presB S) i))), (2, .int (nI (suF (fun x => cntF (markB S x) (sB S)) i))), (3, .int (nI i)), (4, .int (nI (tk (S 3 i)))), (11, .int (nI (lgF (doS S i) j))), (12, .int (nI j))]) hx hb dL_singers_299 hl (by decide) rfl (fun ls hl => ?_)
                      refine lv_iload hx hb dL_singers_301 (lv_at hl 0 rfl) ?_
                      refine lv_iload hx hb dL_singers_303 (lv_at hl 15 rfl) ?_
                      refine g_icmp_le (tgt := 313) (a := rnF (doS S i) (j + 1)) (b := lgF (doS S i) j) hx hb (by omega) (by omega) dL_singers_305 (by decide) (fun c305 => ?_) (fun c305 => ?_)
                      · refine lv_iload hx hb dL_singers_313 (lv_at hl 15 rfl) ?_
                        refine g_top (y := (nI (lgF (doS S i) (j + 1)))) (congrArg nI (lg_1 (by omega))) ?_
                        refine lv_istore (lv' := [(11, .int (nI (lgF (doS S i) (j + 1)))), (10, .int (nI (rnF (doS S i) (j + 1)))), (8, .int (nI (dnQ S i 2 (j + 1)))), (9, .int (nI (dnQ S i 1 (j + 1)))), (7, .int (nI (dnQ S i 0 (j + 1)))), (6, .int (nI (lsN S i (j + 1)))), (5, .int (nI (lfN S i (j + 1)))), (17, .int (nI ((lfN S i j) + (tk (S 4 i))))), (16, .int (nI (tk (S 1 j)))), (15, .int (nI 2)), (14, .int (nI 1)), (0, .ref o), (1, .int (nI (cntF (presB S) i))), (2, .int (nI (suF (fun x => cntF (markB S x) (sB S)) i))), (3, .int (nI i)), (4, .int (nI (tk (S 3 i)))), (12, .int (nI j))]) hx hb dL_singers_315 hl (by decide) rfl (fun ls hl => ?_)
                        refine lv_aload_n hx hb dL_singers_317 rfl (lv_at hl 11 rfl) ?_
                        refine lv_iload_n hx hb dL_singers_318 rfl (lv_at hl 14 rfl) ?_
                        refine lv_iload hx hb dL_singers_319 (lv_at hl 16 rfl) ?_
                        refine g_runV (As := [.int (nI i), .int (nI j)]) (rest := []) (own := RL) (C := RX7) (T := TX7) (N := 7) 2 hx hb hml hown hts hK hz hP hL hS hlo hl.1 (c_X7_left l o b S tf tn P C kp zp ((nI i)) ((nI j))  τ_36 sz hW hY.1.1 ) gL_singers_X7_left rfl rfl rfl (by decide +kernel) ⟨Nat.le_of_ble_eq_true rfl, Nat.le_of_ble_eq_true rfl⟩ hW.c0 rfl rfl rfl (Nat.le_of_ble_eq_true rfl) dL_singers_321 ⟨Nat.le_of_ble_eq_true rfl, Nat.le_of_ble_eq_true rfl⟩ (g_kxi0 (fun r_39 τ_39 H locs z_39 hz hp hP hL hS => ?_))
                        obtain ⟨hr_39, hW, hz_39, ha_39⟩ := hp
                        have hz := hz.trans hz_39
                        subst hr_39
                        have hag := hag.tr ha_39 (fun q h => h)
                        have hlf := lfN_le hY (i := i) (k := j + 1) (by omega) (by omega)
                        refine g_top (y := (nI (lfN S i (j + 1)))) (yl hY (by omega) (by omega)) ?_
                        refine lv_iload hx hb dL_singers_324 (lv_at hl 6 rfl) ?_
                        refine lv_icmp_eq (tgt := 331) hx hb dL_singers_326 (by decide) (fun c326 => ?_) (fun c326 => absurd rfl c326)
                        refine lv_iinc (v := (nI (j + 1))) (lv' := [(12, .int (nI (j + 1))), (11, .int (nI (lgF (doS S i) (j + 1)))), (10, .int (nI (rnF (doS S i) (j + 1)))), (8, .int (nI (dnQ S i 2 (j + 1)))), (9, .int (nI (dnQ S i 1 (j + 1)))), (7, .int (nI (dnQ S i 0 (j + 1)))), (6, .int (nI (lsN S i (j + 1)))), (5, .int (nI (lfN S i (j + 1)))), (17, .int (nI ((lfN S i j) + (tk (S 4 i))))), (16, .int (nI (tk (S 1 j)))), (15, .int (nI 2)), (14, .int (nI 1)), (0, .ref o), (1, .int (nI (cntF (presB S) i))), (2, .int (nI (suF (fun x => cntF (markB S x) (sB S)) i))), (3, .int (nI i)), (4, .int (nI (tk (S 3 i))))]) hx hb dL_singers_331 hl (k := 16) rfl (g_inc j 1) (by decide) rfl (fun ls hl => ?_)
                        refine lv_goto (tgt := 49) hx hb dL_singers_334 (by decide) ?_
                        exact ih_lpB (j + 1) (by omega) (by omega) τ_39 hW hag hL H locs ls hz hP hS (lv_sub hl [12, 13, 14, 15, 16, 7, 6, 5, 3, 4, 2, 1, 0] rfl)
                      · refine lv_iload hx hb dL_singers_308 (lv_at hl 0 rfl) ?_
                        refine lv_goto (tgt := 315) hx hb dL_singers_310 (by decide) ?_
                        refine g_top (y := (nI (lgF (doS S i) (j + 1)))) (congrArg nI (lg_2 (by omega))) ?_
                        refine lv_istore (lv' := [(11, .int (nI (lgF (doS S i) (j + 1)))), (10, .int (nI (rnF (doS S i) (j + 1)))), (8, .int (nI (dnQ S i 2 (j + 1)))), (9, .int (nI (dnQ S i 1 (j + 1)))), (7, .int (nI (dnQ S i 0 (j + 1)))), (6, .int (nI (lsN S i (j + 1)))), (5, .int (nI (lfN S i (j + 1)))), (17, .int (nI ((lfN S i j) + (tk (S 4 i))))), (16, .int (nI (tk (S 1 j)))), (15, .int (nI 2)), (14, .int (nI 1)), (0, .ref o), (1, .int (nI (cntF (presB S) i))), (2, .int (nI (suF (fun x => cntF (markB S x) (sB S)) i))), (3, .int (nI i)), (4, .int (nI (tk (S 3 i)))), (12, .int (nI j))]) hx hb dL_singers_315 hl (by decide) rfl (fun ls hl => ?_)
                        refine lv_aload_n hx hb dL_singers_317 rfl (lv_at hl 11 rfl) ?_
                        refine lv_iload_n hx hb dL_singers_318 rfl (lv_at hl 14 rfl) ?_
                        refine lv_iload hx hb dL_singers_319 (lv_at hl 16 rfl) ?_
                        refine g_runV (As := [.int (nI i), .int (nI j)]) (rest := []) (own := RL) (C := RX7) (T := TX7) (N := 7) 2 hx hb hml hown hts hK hz hP hL hS hlo hl.1 (c_X7_left l o b S tf tn P C kp zp ((nI i)) ((nI j))  τ_36 sz hW hY.1.1 ) gL_singers_X7_left rfl rfl rfl (by decide +kernel) ⟨Nat.le_of_ble_eq_true rfl, Nat.le_of_ble_eq_true rfl⟩ hW.c0 rfl rfl rfl (Nat.le_of_ble_eq_true rfl) dL_singers_321 ⟨Nat.le_of_ble_eq_true rfl, Nat.le_of_ble_eq_true rfl⟩ (g_kxi0 (fun r_40 τ_40 H locs z_40 hz hp hP hL hS => ?_))
                        obtain ⟨hr_40, hW, hz_40, ha_40⟩ := hp
                        have hz := hz.trans hz_40
                        subst hr_40
                        have hag := hag.tr ha_40 (fun q h => h)
                        have hlf := lfN_le hY (i := i) (k := j + 1) (by omega) (by omega)
                        refine g_top (y := (nI (lfN S i (j + 1)))) (yl hY (by omega) (by omega)) ?_
                        refine lv_iload hx hb dL_singers_324 (lv_at hl 6 rfl) ?_
                        refine lv_icmp_eq (tgt := 331) hx hb dL_singers_326 (by decide) (fun c326 => ?_) (fun c326 => absurd rfl c326)
                        refine lv_iinc (v := (nI (j + 1))) (lv' := [(12, .int (nI (j + 1))), (11, .int (nI (lgF (doS S i) (j + 1)))), (10, .int (nI (rnF (doS S i) (j + 1)))), (8, .int (nI (dnQ S i 2 (j + 1)))), (9, .int (nI (dnQ S i 1 (j + 1)))), (7, .int (nI (dnQ S i 0 (j + 1)))), (6, .int (nI (lsN S i (j + 1)))), (5, .int (nI (lfN S i (j + 1)))), (17, .int (nI ((lfN S i j) + (tk (S 4 i))))), (16, .int (nI (tk (S 1 j)))), (15, .int (nI 2)), (14, .int (nI 1)), (0, .ref o), (1, .int (nI (cntF (presB S) i))), (2, .int (nI (suF (fun x => cntF (markB S x) (sB S)) i))), (3, .int (nI i)), (4, .int (nI (tk (S 3 i))))]) hx hb dL_singers_331 hl (k := 16) rfl (g_inc j 1) (by decide) rfl (fun ls hl => ?_)
                        refine lv_goto (tgt := 49) hx hb dL_singers_334 (by decide) ?_
                        exact ih_lpB (j + 1) (by omega) (by omega) τ_40 hW hag hL H locs ls hz hP hS (lv_sub hl [12, 13, 14, 15, 16, 7, 6, 5, 3, 4, 2, 1, 0] rfl)
                  · refine lv_iload hx hb dL_singers_214 (lv_at hl 8 rfl) ?_
                    refine lv_goto (tgt := 221) hx hb dL_singers_216 (by decide) ?_
                    refine g_top (y := (nI (lfN S i (j + 1)))) (congrArg nI (lf_b hY hil hjl hd0 (by omega))) ?_
                    have hlf := lfN_le hY (i := i) (k := j + 1) hil (by omega)
                    refine lv_istore (lv' := [(5, .int (nI (lfN S i (j + 1)))), (17, .int (nI ((lfN S i j) + (tk (S 4 i))))), (16, .int (nI (tk (S 1 j)))), (15, .int (nI 2)), (14, .int (nI 1)), (0, .ref o), (1, .int (nI (cntF (presB S) i))), (2, .int (nI (suF (fun x => cntF (markB S x) (sB S)) i))), (3, .int (nI i)), (4, .int (nI (tk (S 3 i)))), (6, .int (nI (lsN S i j))), (7, .int (nI (dnQ S i 0 j))), (8, .int (nI (dnQ S i 2 j))), (9, .int (nI (dnQ S i 1 j))), (10, .int (nI (rnF (doS S i) j))), (11, .int (nI (lgF (doS S i) j))), (12, .int (nI j))]) hx hb dL_singers_221 hl (by decide) rfl (fun ls hl => ?_)
                    refine lv_iload hx hb dL_singers_223 (lv_at hl 0 rfl) ?_
                    refine lv_iload hx hb dL_singers_225 (lv_at hl 10 rfl) ?_
                    refine g_icmp_ge (tgt := 235) (a := lfN S i (j + 1)) (b := lsN S i j) hx hb (by omega) (by omega) dL_singers_227 (by decide) (fun c227 => ?_) (fun c227 => ?_)
                    · refine lv_iload hx hb dL_singers_235 (lv_at hl 10 rfl) ?_
                      refine g_top (y := (nI (lsN S i (j + 1)))) (congrArg nI (ls_1 (by omega))) ?_
                      refine lv_istore (lv' := [(6, .int (nI (lsN S i (j + 1)))), (5, .int (nI (lfN S i (j + 1)))), (17, .int (nI ((lfN S i j) + (tk (S 4 i))))), (16, .int (nI (tk (S 1 j)))), (15, .int (nI 2)), (14, .int (nI 1)), (0, .ref o), (1, .int (nI (cntF (presB S) i))), (2, .int (nI (suF (fun x => cntF (markB S x) (sB S)) i))), (3, .int (nI i)), (4, .int (nI (tk (S 3 i)))), (7, .int (nI (dnQ S i 0 j))), (8, .int (nI (dnQ S i 2 j))), (9, .int (nI (dnQ S i 1 j))), (10, .int (nI (rnF (doS S i) j))), (11, .int (nI (lgF (doS S i) j))), (12, .int (nI j))]) hx hb dL_singers_237 hl (by decide) rfl (fun ls hl => ?_)
                      refine lv_iload hx hb dL_singers_239 (lv_at hl 11 rfl) ?_
                      refine lv_iload hx hb dL_singers_241 (lv_at hl 4 rfl) ?_
                      refine lv_if_ne (tgt := 250) hx hb dL_singers_243 (by decide) (fun c243 => ?_) (fun c243 => by first | exact absurd (by decide) c243 | exact absurd c243 (by decide))
                      refine lv_iconst (v := (nI 0)) hx hb dL_singers_250 (by decide) ?_
                      refine lv_iadd hx hb dL_singers_251 ?_
                      refine g_top (nI_add (dnQ S i 0 j) 0) ?_
                      refine g_top (y := (nI (dnQ S i 0 (j + 1)))) (congrArg nI (dn_f (by rw [hd]; decide))) ?_
                      refine lv_istore (lv' := [(7, .int (nI (dnQ S i 0 (j + 1)))), (6, .int (nI (lsN S i (j + 1)))), (5, .int (nI (lfN S i (j + 1)))), (17, .int (nI ((lfN S i j) + (tk (S 4 i))))), (16, .int (nI (tk (S 1 j)))), (15, .int (nI 2)), (14, .int (nI 1)), (0, .ref o), (1, .int (nI (cntF (presB S) i))), (2, .int (nI (suF (fun x => cntF (markB S x) (sB S)) i))), (3, .int (nI i)), (4, .int (nI (tk (S 3 i)))), (8, .int (nI (dnQ S i 2 j))), (9, .int (nI (dnQ S i 1 j))), (10, .int (nI (rnF (doS S i) j))), (11, .int (nI (lgF (doS S i) j))), (12, .int (nI j))]) hx hb dL_singers_252 hl (by decide) rfl (fun ls hl => ?_)
                      refine lv_iload hx hb dL_singers_254 (lv_at hl 13 rfl) ?_
                      refine lv_iload hx hb dL_singers_256 (lv_at hl 5 rfl) ?_
                      refine lv_iconst (v := (nI 1)) hx hb dL_singers_258 (by decide) ?_
                      refine lv_icmp_ne (tgt := 266) hx hb dL_singers_259 (by decide) (fun c259 => ?_) (fun c259 => by first | exact absurd (by decide) c259 | exact absurd c259 (by decide))
                      refine lv_iconst (v := (nI 0)) hx hb dL_singers_266 (by decide) ?_
                      refine lv_iadd hx hb dL_singers_267 ?_
                      refine g_top (nI_add (dnQ S i 1 j) 0) ?_
                      refine g_top (y := (nI (dnQ S i 1 (j + 1)))) (congrArg nI (dn_f (by rw [hd]; decide))) ?_
                      refine lv_istore (lv' := [(9, .int (nI (dnQ S i 1 (j + 1)))), (7, .int (nI (dnQ S i 0 (j + 1)))), (6, .int (nI (lsN S i (j + 1)))), (5, .int (nI (lfN S i (j + 1)))), (17, .int (nI ((lfN S i j) + (tk (S 4 i))))), (16, .int (nI (tk (S 1 j)))), (15, .int (nI 2)), (14, .int (nI 1)), (0, .ref o), (1, .int (nI (cntF (presB S) i))), (2, .int (nI (suF (fun x => cntF (markB S x) (sB S)) i))), (3, .int (nI i)), (4, .int (nI (tk (S 3 i)))), (8, .int (nI (dnQ S i 2 j))), (10, .int (nI (rnF (doS S i) j))), (11, .int (nI (lgF (doS S i) j))), (12, .int (nI j))]) hx hb dL_singers_268 hl (by decide) rfl (fun ls hl => ?_)
                      refine lv_iload hx hb dL_singers_270 (lv_at hl 13 rfl) ?_
                      refine lv_iload hx hb dL_singers_272 (lv_at hl 6 rfl) ?_
                      refine lv_iconst (v := (nI 2)) hx hb dL_singers_274 (by decide) ?_
                      refine lv_icmp_ne (tgt := 282) hx hb dL_singers_275 (by decide) (fun c275 => by first | exact absurd (by decide) c275 | exact absurd c275 (by decide)) (fun c275 => ?_)
                      refine lv_iconst (v := (nI 1)) hx hb dL_singers_278 (by decide) ?_
                      refine lv_goto (tgt := 283) hx hb dL_singers_279 (by decide) ?_
                      refine lv_iadd hx hb dL_singers_283 ?_
                      refine g_top (nI_add (dnQ S i 2 j) 1) ?_
                      refine g_top (y := (nI (dnQ S i 2 (j + 1)))) (congrArg nI (dn_t hd)) ?_
                      refine lv_istore (lv' := [(8, .int (nI (dnQ S i 2 (j + 1)))), (9, .int (nI (dnQ S i 1 (j + 1)))), (7, .int (nI (dnQ S i 0 (j + 1)))), (6, .int (nI (lsN S i (j + 1)))), (5, .int (nI (lfN S i (j + 1)))), (17, .int (nI ((lfN S i j) + (tk (S 4 i))))), (16, .int (nI (tk (S 1 j)))), (15, .int (nI 2)), (14, .int (nI 1)), (0, .ref o), (1, .int (nI (cntF (presB S) i))), (2, .int (nI (suF (fun x => cntF (markB S x) (sB S)) i))), (3, .int (nI i)), (4, .int (nI (tk (S 3 i)))), (10, .int (nI (rnF (doS S i) j))), (11, .int (nI (lgF (doS S i) j))), (12, .int (nI j))]) hx hb dL_singers_284 hl (by decide) rfl (fun ls hl => ?_)
                      refine lv_iload hx hb dL_singers_286 (lv_at hl 7 rfl) ?_
                      refine lv_if_ne (tgt := 298) hx hb dL_singers_288 (by decide) (fun c288 => ?_) (fun c288 => by first | exact absurd (by decide) c288 | exact absurd c288 (by decide))
                      refine lv_iconst (v := (nI 0)) hx hb dL_singers_298 (by decide) ?_
                      refine g_top (y := (nI (rnF (doS S i) (j + 1)))) (congrArg nI (rn_f hd0)) ?_
                      have hrn := rnF_le (doS S i) (j + 1)
                      refine lv_istore (lv' := [(10, .int (nI (rnF (doS S i) (j + 1)))), (8, .int (nI (dnQ S i 2 (j + 1)))), (9, .int (nI (dnQ S i 1 (j + 1)))), (7, .int (nI (dnQ S i 0 (j + 1)))), (6, .int (nI (lsN S i (j + 1)))), (5, .int (nI (lfN S i (j + 1)))), (17, .int (nI ((lfN S i j) + (tk (S 4 i))))), (16, .int (nI (tk (S 1 j)))), (15, .int (nI 2)), (14, .int (nI 1)), (0, .ref o), (1, .int (nI (cntF (presB S) i))), (2, .int (nI (suF (fun x => cntF (markB S x) (sB S)) i))), (3, .int (nI i)), (4, .int (nI (tk (S 3 i)))), (11, .int (nI (lgF (doS S i) j))), (12, .int (nI j))]) hx hb dL_singers_299 hl (by decide) rfl (fun ls hl => ?_)
                      refine lv_iload hx hb dL_singers_301 (lv_at hl 0 rfl) ?_
                      refine lv_iload hx hb dL_singers_303 (lv_at hl 15 rfl) ?_
                      refine g_icmp_le (tgt := 313) (a := rnF (doS S i) (j + 1)) (b := lgF (doS S i) j) hx hb (by omega) (by omega) dL_singers_305 (by decide) (fun c305 => ?_) (fun c305 => ?_)
                      · refine lv_iload hx hb dL_singers_313 (lv_at hl 15 rfl) ?_
                        refine g_top (y := (nI (lgF (doS S i) (j + 1)))) (congrArg nI (lg_1 (by omega))) ?_
                        refine lv_istore (lv' := [(11, .int (nI (lgF (doS S i) (j + 1)))), (10, .int (nI (rnF (doS S i) (j + 1)))), (8, .int (nI (dnQ S i 2 (j + 1)))), (9, .int (nI (dnQ S i 1 (j + 1)))), (7, .int (nI (dnQ S i 0 (j + 1)))), (6, .int (nI (lsN S i (j + 1)))), (5, .int (nI (lfN S i (j + 1)))), (17, .int (nI ((lfN S i j) + (tk (S 4 i))))), (16, .int (nI (tk (S 1 j)))), (15, .int (nI 2)), (14, .int (nI 1)), (0, .ref o), (1, .int (nI (cntF (presB S) i))), (2, .int (nI (suF (fun x => cntF (markB S x) (sB S)) i))), (3, .int (nI i)), (4, .int (nI (tk (S 3 i)))), (12, .int (nI j))]) hx hb dL_singers_315 hl (by decide) rfl (fun ls hl => ?_)
                        refine lv_aload_n hx hb dL_singers_317 rfl (lv_at hl 11 rfl) ?_
                        refine lv_iload_n hx hb dL_singers_318 rfl (lv_at hl 14 rfl) ?_
                        refine lv_iload hx hb dL_singers_319 (lv_at hl 16 rfl) ?_
                        refine g_runV (As := [.int (nI i), .int (nI j)]) (rest := []) (own := RL) (C := RX7) (T := TX7) (N := 7) 2 hx hb hml hown hts hK hz hP hL hS hlo hl.1 (c_X7_left l o b S tf tn P C kp zp ((nI i)) ((nI j))  τ_36 sz hW hY.1.1 ) gL_singers_X7_left rfl rfl rfl (by decide +kernel) ⟨Nat.le_of_ble_eq_true rfl, Nat.le_of_ble_eq_true rfl⟩ hW.c0 rfl rfl rfl (Nat.le_of_ble_eq_true rfl) dL_singers_321 ⟨Nat.le_of_ble_eq_true rfl, Nat.le_of_ble_eq_true rfl⟩ (g_kxi0 (fun r_41 τ_41 H locs z_41 hz hp hP hL hS => ?_))
                        obtain ⟨hr_41, hW, hz_41, ha_41⟩ := hp
                        have hz := hz.trans hz_41
                        subst hr_41
                        have hag := hag.tr ha_41 (fun q h => h)
                        have hlf := lfN_le hY (i := i) (k := j + 1) (by omega) (by omega)
                        refine g_top (y := (nI (lfN S i (j + 1)))) (yl hY (by omega) (by omega)) ?_
                        refine lv_iload hx hb dL_singers_324 (lv_at hl 6 rfl) ?_
                        refine lv_icmp_eq (tgt := 331) hx hb dL_singers_326 (by decide) (fun c326 => ?_) (fun c326 => absurd rfl c326)
                        refine lv_iinc (v := (nI (j + 1))) (lv' := [(12, .int (nI (j + 1))), (11, .int (nI (lgF (doS S i) (j + 1)))), (10, .int (nI (rnF (doS S i) (j + 1)))), (8, .int (nI (dnQ S i 2 (j + 1)))), (9, .int (nI (dnQ S i 1 (j + 1)))), (7, .int (nI (dnQ S i 0 (j + 1)))), (6, .int (nI (lsN S i (j + 1)))), (5, .int (nI (lfN S i (j + 1)))), (17, .int (nI ((lfN S i j) + (tk (S 4 i))))), (16, .int (nI (tk (S 1 j)))), (15, .int (nI 2)), (14, .int (nI 1)), (0, .ref o), (1, .int (nI (cntF (presB S) i))), (2, .int (nI (suF (fun x => cntF (markB S x) (sB S)) i))), (3, .int (nI i)), (4, .int (nI (tk (S 3 i))))]) hx hb dL_singers_331 hl (k := 16) rfl (g_inc j 1) (by decide) rfl (fun ls hl => ?_)
                        refine lv_goto (tgt := 49) hx hb dL_singers_334 (by decide) ?_
                        exact ih_lpB (j + 1) (by omega) (by omega) τ_41 hW hag hL H locs ls hz hP hS (lv_sub hl [12, 13, 14, 15, 16, 7, 6, 5, 3, 4, 2, 1, 0] rfl)
                      · refine lv_iload hx hb dL_singers_308 (lv_at hl 0 rfl) ?_
                        refine lv_goto (tgt := 315) hx hb dL_singers_310 (by decide) ?_
                        refine g_top (y := (nI (lgF (doS S i) (j + 1)))) (congrArg nI (lg_2 (by omega))) ?_
                        refine lv_istore (lv' := [(11, .int (nI (lgF (doS S i) (j + 1)))), (10, .int (nI (rnF (doS S i) (j + 1)))), (8, .int (nI (dnQ S i 2 (j + 1)))), (9, .int (nI (dnQ S i 1 (j + 1)))), (7, .int (nI (dnQ S i 0 (j + 1)))), (6, .int (nI (lsN S i (j + 1)))), (5, .int (nI (lfN S i (j + 1)))), (17, .int (nI ((lfN S i j) + (tk (S 4 i))))), (16, .int (nI (tk (S 1 j)))), (15, .int (nI 2)), (14, .int (nI 1)), (0, .ref o), (1, .int (nI (cntF (presB S) i))), (2, .int (nI (suF (fun x => cntF (markB S x) (sB S)) i))), (3, .int (nI i)), (4, .int (nI (tk (S 3 i)))), (12, .int (nI j))]) hx hb dL_singers_315 hl (by decide) rfl (fun ls hl => ?_)
                        refine lv_aload_n hx hb dL_singers_317 rfl (lv_at hl 11 rfl) ?_
                        refine lv_iload_n hx hb dL_singers_318 rfl (lv_at hl 14 rfl) ?_
                        refine lv_iload hx hb dL_singers_319 (lv_at hl 16 rfl) ?_
                        refine g_runV (As := [.int (nI i), .int (nI j)]) (rest := []) (own := RL) (C := RX7) (T := TX7) (N := 7) 2 hx hb hml hown hts hK hz hP hL hS hlo hl.1 (c_X7_left l o b S tf tn P C kp zp ((nI i)) ((nI j))  τ_36 sz hW hY.1.1 ) gL_singers_X7_left rfl rfl rfl (by decide +kernel) ⟨Nat.le_of_ble_eq_true rfl, Nat.le_of_ble_eq_true rfl⟩ hW.c0 rfl rfl rfl (Nat.le_of_ble_eq_true rfl) dL_singers_321 ⟨Nat.le_of_ble_eq_true rfl, Nat.le_of_ble_eq_true rfl⟩ (g_kxi0 (fun r_42 τ_42 H locs z_42 hz hp hP hL hS => ?_))
                        obtain ⟨hr_42, hW, hz_42, ha_42⟩ := hp
                        have hz := hz.trans hz_42
                        subst hr_42
                        have hag := hag.tr ha_42 (fun q h => h)
                        have hlf := lfN_le hY (i := i) (k := j + 1) (by omega) (by omega)
                        refine g_top (y := (nI (lfN S i (j + 1)))) (yl hY (by omega) (by omega)) ?_
                        refine lv_iload hx hb dL_singers_324 (lv_at hl 6 rfl) ?_
                        refine lv_icmp_eq (tgt := 331) hx hb dL_singers_326 (by decide) (fun c326 => ?_) (fun c326 => absurd rfl c326)
                        refine lv_iinc (v := (nI (j + 1))) (lv' := [(12, .int (nI (j + 1))), (11, .int (nI (lgF (doS S i) (j + 1)))), (10, .int (nI (rnF (doS S i) (j + 1)))), (8, .int (nI (dnQ S i 2 (j + 1)))), (9, .int (nI (dnQ S i 1 (j + 1)))), (7, .int (nI (dnQ S i 0 (j + 1)))), (6, .int (nI (lsN S i (j + 1)))), (5, .int (nI (lfN S i (j + 1)))), (17, .int (nI ((lfN S i j) + (tk (S 4 i))))), (16, .int (nI (tk (S 1 j)))), (15, .int (nI 2)), (14, .int (nI 1)), (0, .ref o), (1, .int (nI (cntF (presB S) i))), (2, .int (nI (suF (fun x => cntF (markB S x) (sB S)) i))), (3, .int (nI i)), (4, .int (nI (tk (S 3 i))))]) hx hb dL_singers_331 hl (k := 16) rfl (g_inc j 1) (by decide) rfl (fun ls hl => ?_)
                        refine lv_goto (tgt := 49) hx hb dL_singers_334 (by decide) ?_
                        exact ih_lpB (j + 1) (by omega) (by omega) τ_42 hW hag hL H locs ls hz hP hS (lv_sub hl [12, 13, 14, 15, 16, 7, 6, 5, 3, 4, 2, 1, 0] rfl)
                    · refine lv_iload hx hb dL_singers_230 (lv_at hl 0 rfl) ?_
                      refine lv_goto (tgt := 237) hx hb dL_singers_232 (by decide) ?_
                      refine g_top (y := (nI (lsN S i (j + 1)))) (congrArg nI (ls_2 (by omega))) ?_
                      refine lv_istore (lv' := [(6, .int (nI (lsN S i (j + 1)))), (5, .int (nI (lfN S i (j + 1)))), (17, .int (nI ((lfN S i j) + (tk (S 4 i))))), (16, .int (nI (tk (S 1 j)))), (15, .int (nI 2)), (14, .int (nI 1)), (0, .ref o), (1, .int (nI (cntF (presB S) i))), (2, .int (nI (suF (fun x => cntF (markB S x) (sB S)) i))), (3, .int (nI i)), (4, .int (nI (tk (S 3 i)))), (7, .int (nI (dnQ S i 0 j))), (8, .int (nI (dnQ S i 2 j))), (9, .int (nI (dnQ S i 1 j))), (10, .int (nI (rnF (doS S i) j))), (11, .int (nI (lgF (doS S i) j))), (12, .int (nI j))]) hx hb dL_singers_237 hl (by decide) rfl (fun ls hl => ?_)
                      refine lv_iload hx hb dL_singers_239 (lv_at hl 11 rfl) ?_
                      refine lv_iload hx hb dL_singers_241 (lv_at hl 4 rfl) ?_
                      refine lv_if_ne (tgt := 250) hx hb dL_singers_243 (by decide) (fun c243 => ?_) (fun c243 => by first | exact absurd (by decide) c243 | exact absurd c243 (by decide))
                      refine lv_iconst (v := (nI 0)) hx hb dL_singers_250 (by decide) ?_
                      refine lv_iadd hx hb dL_singers_251 ?_
                      refine g_top (nI_add (dnQ S i 0 j) 0) ?_
                      refine g_top (y := (nI (dnQ S i 0 (j + 1)))) (congrArg nI (dn_f (by rw [hd]; decide))) ?_
                      refine lv_istore (lv' := [(7, .int (nI (dnQ S i 0 (j + 1)))), (6, .int (nI (lsN S i (j + 1)))), (5, .int (nI (lfN S i (j + 1)))), (17, .int (nI ((lfN S i j) + (tk (S 4 i))))), (16, .int (nI (tk (S 1 j)))), (15, .int (nI 2)), (14, .int (nI 1)), (0, .ref o), (1, .int (nI (cntF (presB S) i))), (2, .int (nI (suF (fun x => cntF (markB S x) (sB S)) i))), (3, .int (nI i)), (4, .int (nI (tk (S 3 i)))), (8, .int (nI (dnQ S i 2 j))), (9, .int (nI (dnQ S i 1 j))), (10, .int (nI (rnF (doS S i) j))), (11, .int (nI (lgF (doS S i) j))), (12, .int (nI j))]) hx hb dL_singers_252 hl (by decide) rfl (fun ls hl => ?_)
                      refine lv_iload hx hb dL_singers_254 (lv_at hl 13 rfl) ?_
                      refine lv_iload hx hb dL_singers_256 (lv_at hl 5 rfl) ?_
                      refine lv_iconst (v := (nI 1)) hx hb dL_singers_258 (by decide) ?_
                      refine lv_icmp_ne (tgt := 266) hx hb dL_singers_259 (by decide) (fun c259 => ?_) (fun c259 => by first | exact absurd (by decide) c259 | exact absurd c259 (by decide))
                      refine lv_iconst (v := (nI 0)) hx hb dL_singers_266 (by decide) ?_
                      refine lv_iadd hx hb dL_singers_267 ?_
                      refine g_top (nI_add (dnQ S i 1 j) 0) ?_
                      refine g_top (y := (nI (dnQ S i 1 (j + 1)))) (congrArg nI (dn_f (by rw [hd]; decide))) ?_
                      refine lv_istore (lv' := [(9, .int (nI (dnQ S i 1 (j + 1)))), (7, .int (nI (dnQ S i 0 (j + 1)))), (6, .int (nI (lsN S i (j + 1)))), (5, .int (nI (lfN S i (j + 1)))), (17, .int (nI ((lfN S i j) + (tk (S 4 i))))), (16, .int (nI (tk (S 1 j)))), (15, .int (nI 2)), (14, .int (nI 1)), (0, .ref o), (1, .int (nI (cntF (presB S) i))), (2, .int (nI (suF (fun x => cntF (markB S x) (sB S)) i))), (3, .int (nI i)), (4, .int (nI (tk (S 3 i)))), (8, .int (nI (dnQ S i 2 j))), (10, .int (nI (rnF (doS S i) j))), (11, .int (nI (lgF (doS S i) j))), (12, .int (nI j))]) hx hb dL_singers_268 hl (by decide) rfl (fun ls hl => ?_)
                      refine lv_iload hx hb dL_singers_270 (lv_at hl 13 rfl) ?_
                      refine lv_iload hx hb dL_singers_272 (lv_at hl 6 rfl) ?_
                      refine lv_iconst (v := (nI 2)) hx hb dL_singers_274 (by decide) ?_
                      refine lv_icmp_ne (tgt := 282) hx hb dL_singers_275 (by decide) (fun c275 => by first | exact absurd (by decide) c275 | exact absurd c275 (by decide)) (fun c275 => ?_)
                      refine lv_iconst (v := (nI 1)) hx hb dL_singers_278 (by decide) ?_
                      refine lv_goto (tgt := 283) hx hb dL_singers_279 (by decide) ?_
                      refine lv_iadd hx hb dL_singers_283 ?_
                      refine g_top (nI_add (dnQ S i 2 j) 1) ?_
                      refine g_top (y := (nI (dnQ S i 2 (j + 1)))) (congrArg nI (dn_t hd)) ?_
                      refine lv_istore (lv' := [(8, .int (nI (dnQ S i 2 (j + 1)))), (9, .int (nI (dnQ S i 1 (j + 1)))), (7, .int (nI (dnQ S i 0 (j + 1)))), (6, .int (nI (lsN S i (j + 1)))), (5, .int (nI (lfN S i (j + 1)))), (17, .int (nI ((lfN S i j) + (tk (S 4 i))))), (16, .int (nI (tk (S 1 j)))), (15, .int (nI 2)), (14, .int (nI 1)), (0, .ref o), (1, .int (nI (cntF (presB S) i))), (2, .int (nI (suF (fun x => cntF (markB S x) (sB S)) i))), (3, .int (nI i)), (4, .int (nI (tk (S 3 i)))), (10, .int (nI (rnF (doS S i) j))), (11, .int (nI (lgF (doS S i) j))), (12, .int (nI j))]) hx hb dL_singers_284 hl (by decide) rfl (fun ls hl => ?_)
                      refine lv_iload hx hb dL_singers_286 (lv_at hl 7 rfl) ?_
                      refine lv_if_ne (tgt := 298) hx hb dL_singers_288 (by decide) (fun c288 => ?_) (fun c288 => by first | exact absurd (by decide) c288 | exact absurd c288 (by decide))
                      refine lv_iconst (v := (nI 0)) hx hb dL_singers_298 (by decide) ?_
                      refine g_top (y := (nI (rnF (doS S i) (j + 1)))) (congrArg nI (rn_f hd0)) ?_
                      have hrn := rnF_le (doS S i) (j + 1)
                      refine lv_istore (lv' := [(10, .int (nI (rnF (doS S i) (j + 1)))), (8, .int (nI (dnQ S i 2 (j + 1)))), (9, .int (nI (dnQ S i 1 (j + 1)))), (7, .int (nI (dnQ S i 0 (j + 1)))), (6, .int (nI (lsN S i (j + 1)))), (5, .int (nI (lfN S i (j + 1)))), (17, .int (nI ((lfN S i j) + (tk (S 4 i))))), (16, .int (nI (tk (S 1 j)))), (15, .int (nI 2)), (14, .int (nI 1)), (0, .ref o), (1, .int (nI (cntF (presB S) i))), (2, .int (nI (suF (fun x => cntF (markB S x) (sB S)) i))), (3, .int (nI i)), (4, .int (nI (tk (S 3 i)))), (11, .int (nI (lgF (doS S i) j))), (12, .int (nI j))]) hx hb dL_singers_299 hl (by decide) rfl (fun ls hl => ?_)
                      refine lv_iload hx hb dL_singers_301 (lv_at hl 0 rfl) ?_
                      refine lv_iload hx hb dL_singers_303 (lv_at hl 15 rfl) ?_
                      refine g_icmp_le (tgt := 313) (a := rnF (doS S i) (j + 1)) (b := lgF (doS S i) j) hx hb (by omega) (by omega) dL_singers_305 (by decide) (fun c305 => ?_) (fun c305 => ?_)
                      · refine lv_iload hx hb dL_singers_313 (lv_at hl 15 rfl) ?_
                        refine g_top (y := (nI (lgF (doS S i) (j + 1)))) (congrArg nI (lg_1 (by omega))) ?_
                        refine lv_istore (lv' := [(11, .int (nI (lgF (doS S i) (j + 1)))), (10, .int (nI (rnF (doS S i) (j + 1)))), (8, .int (nI (dnQ S i 2 (j + 1)))), (9, .int (nI (dnQ S i 1 (j + 1)))), (7, .int (nI (dnQ S i 0 (j + 1)))), (6, .int (nI (lsN S i (j + 1)))), (5, .int (nI (lfN S i (j + 1)))), (17, .int (nI ((lfN S i j) + (tk (S 4 i))))), (16, .int (nI (tk (S 1 j)))), (15, .int (nI 2)), (14, .int (nI 1)), (0, .ref o), (1, .int (nI (cntF (presB S) i))), (2, .int (nI (suF (fun x => cntF (markB S x) (sB S)) i))), (3, .int (nI i)), (4, .int (nI (tk (S 3 i)))), (12, .int (nI j))]) hx hb dL_singers_315 hl (by decide) rfl (fun ls hl => ?_)
                        refine lv_aload_n hx hb dL_singers_317 rfl (lv_at hl 11 rfl) ?_
                        refine lv_iload_n hx hb dL_singers_318 rfl (lv_at hl 14 rfl) ?_
                        refine lv_iload hx hb dL_singers_319 (lv_at hl 16 rfl) ?_
                        refine g_runV (As := [.int (nI i), .int (nI j)]) (rest := []) (own := RL) (C := RX7) (T := TX7) (N := 7) 2 hx hb hml hown hts hK hz hP hL hS hlo hl.1 (c_X7_left l o b S tf tn P C kp zp ((nI i)) ((nI j))  τ_36 sz hW hY.1.1 ) gL_singers_X7_left rfl rfl rfl (by decide +kernel) ⟨Nat.le_of_ble_eq_true rfl, Nat.le_of_ble_eq_true rfl⟩ hW.c0 rfl rfl rfl (Nat.le_of_ble_eq_true rfl) dL_singers_321 ⟨Nat.le_of_ble_eq_true rfl, Nat.le_of_ble_eq_true rfl⟩ (g_kxi0 (fun r_43 τ_43 H locs z_43 hz hp hP hL hS => ?_))
                        obtain ⟨hr_43, hW, hz_43, ha_43⟩ := hp
                        have hz := hz.trans hz_43
                        subst hr_43
                        have hag := hag.tr ha_43 (fun q h => h)
                        have hlf := lfN_le hY (i := i) (k := j + 1) (by omega) (by omega)
                        refine g_top (y := (nI (lfN S i (j + 1)))) (yl hY (by omega) (by omega)) ?_
                        refine lv_iload hx hb dL_singers_324 (lv_at hl 6 rfl) ?_
                        refine lv_icmp_eq (tgt := 331) hx hb dL_singers_326 (by decide) (fun c326 => ?_) (fun c326 => absurd rfl c326)
                        refine lv_iinc (v := (nI (j + 1))) (lv' := [(12, .int (nI (j + 1))), (11, .int (nI (lgF (doS S i) (j + 1)))), (10, .int (nI (rnF (doS S i) (j + 1)))), (8, .int (nI (dnQ S i 2 (j + 1)))), (9, .int (nI (dnQ S i 1 (j + 1)))), (7, .int (nI (dnQ S i 0 (j + 1)))), (6, .int (nI (lsN S i (j + 1)))), (5, .int (nI (lfN S i (j + 1)))), (17, .int (nI ((lfN S i j) + (tk (S 4 i))))), (16, .int (nI (tk (S 1 j)))), (15, .int (nI 2)), (14, .int (nI 1)), (0, .ref o), (1, .int (nI (cntF (presB S) i))), (2, .int (nI (suF (fun x => cntF (markB S x) (sB S)) i))), (3, .int (nI i)), (4, .int (nI (tk (S 3 i))))]) hx hb dL_singers_331 hl (k := 16) rfl (g_inc j 1) (by decide) rfl (fun ls hl => ?_)
                        refine lv_goto (tgt := 49) hx hb dL_singers_334 (by decide) ?_
                        exact ih_lpB (j + 1) (by omega) (by omega) τ_43 hW hag hL H locs ls hz hP hS (lv_sub hl [12, 13, 14, 15, 16, 7, 6, 5, 3, 4, 2, 1, 0] rfl)
                      · refine lv_iload hx hb dL_singers_308 (lv_at hl 0 rfl) ?_
                        refine lv_goto (tgt := 315) hx hb dL_singers_310 (by decide) ?_
                        refine g_top (y := (nI (lgF (doS S i) (j + 1)))) (congrArg nI (lg_2 (by omega))) ?_
                        refine lv_istore (lv' := [(11, .int (nI (lgF (doS S i) (j + 1)))), (10, .int (nI (rnF (doS S i) (j + 1)))), (8, .int (nI (dnQ S i 2 (j + 1)))), (9, .int (nI (dnQ S i 1 (j + 1)))), (7, .int (nI (dnQ S i 0 (j + 1)))), (6, .int (nI (lsN S i (j + 1)))), (5, .int (nI (lfN S i (j + 1)))), (17, .int (nI ((lfN S i j) + (tk (S 4 i))))), (16, .int (nI (tk (S 1 j)))), (15, .int (nI 2)), (14, .int (nI 1)), (0, .ref o), (1, .int (nI (cntF (presB S) i))), (2, .int (nI (suF (fun x => cntF (markB S x) (sB S)) i))), (3, .int (nI i)), (4, .int (nI (tk (S 3 i)))), (12, .int (nI j))]) hx hb dL_singers_315 hl (by decide) rfl (fun ls hl => ?_)
                        refine lv_aload_n hx hb dL_singers_317 rfl (lv_at hl 11 rfl) ?_
                        refine lv_iload_n hx hb dL_singers_318 rfl (lv_at hl 14 rfl) ?_
                        refine lv_iload hx hb dL_singers_319 (lv_at hl 16 rfl) ?_
                        refine g_runV (As := [.int (nI i), .int (nI j)]) (rest := []) (own := RL) (C := RX7) (T := TX7) (N := 7) 2 hx hb hml hown hts hK hz hP hL hS hlo hl.1 (c_X7_left l o b S tf tn P C kp zp ((nI i)) ((nI j))  τ_36 sz hW hY.1.1 ) gL_singers_X7_left rfl rfl rfl (by decide +kernel) ⟨Nat.le_of_ble_eq_true rfl, Nat.le_of_ble_eq_true rfl⟩ hW.c0 rfl rfl rfl (Nat.le_of_ble_eq_true rfl) dL_singers_321 ⟨Nat.le_of_ble_eq_true rfl, Nat.le_of_ble_eq_true rfl⟩ (g_kxi0 (fun r_44 τ_44 H locs z_44 hz hp hP hL hS => ?_))
                        obtain ⟨hr_44, hW, hz_44, ha_44⟩ := hp
                        have hz := hz.trans hz_44
                        subst hr_44
                        have hag := hag.tr ha_44 (fun q h => h)
                        have hlf := lfN_le hY (i := i) (k := j + 1) (by omega) (by omega)
                        refine g_top (y := (nI (lfN S i (j + 1)))) (yl hY (by omega) (by omega)) ?_
                        refine lv_iload hx hb dL_singers_324 (lv_at hl 6 rfl) ?_
                        refine lv_icmp_eq (tgt := 331) hx hb dL_singers_326 (by decide) (fun c326 => ?_) (fun c326 => absurd rfl c326)
                        refine lv_iinc (v := (nI (j + 1))) (lv' := [(12, .int (nI (j + 1))), (11, .int (nI (lgF (doS S i) (j + 1)))), (10, .int (nI (rnF (doS S i) (j + 1)))), (8, .int (nI (dnQ S i 2 (j + 1)))), (9, .int (nI (dnQ S i 1 (j + 1)))), (7, .int (nI (dnQ S i 0 (j + 1)))), (6, .int (nI (lsN S i (j + 1)))), (5, .int (nI (lfN S i (j + 1)))), (17, .int (nI ((lfN S i j) + (tk (S 4 i))))), (16, .int (nI (tk (S 1 j)))), (15, .int (nI 2)), (14, .int (nI 1)), (0, .ref o), (1, .int (nI (cntF (presB S) i))), (2, .int (nI (suF (fun x => cntF (markB S x) (sB S)) i))), (3, .int (nI i)), (4, .int (nI (tk (S 3 i))))]) hx hb dL_singers_331 hl (k := 16) rfl (g_inc j 1) (by decide) rfl (fun ls hl => ?_)
                        refine lv_goto (tgt := 49) hx hb dL_singers_334 (by decide) ?_
                        exact ih_lpB (j + 1) (by omega) (by omega) τ_44 hW hag hL H locs ls hz hP hS (lv_sub hl [12, 13, 14, 15, 16, 7, 6, 5, 3, 4, 2, 1, 0] rfl)
                · skip
                  have htsg := do_3.mp hd
                  refine g_top (y := nI 0) (by rw [htsg]; rfl) ?_
                  have hd0 : dosQ S i j ≠ 0 := by rw [hd]; decide
                  refine lv_istore (lv' := [(14, .int (nI 0)), (0, .ref o), (1, .int (nI (cntF (presB S) i))), (2, .int (nI (suF (fun x => cntF (markB S x) (sB S)) i))), (3, .int (nI i)), (4, .int (nI (tk (S 3 i)))), (5, .int (nI (lfN S i j))), (6, .int (nI (lsN S i j))), (7, .int (nI (dnQ S i 0 j))), (8, .int (nI (dnQ S i 2 j))), (9, .int (nI (dnQ S i 1 j))), (10, .int (nI (rnF (doS S i) j))), (11, .int (nI (lgF (doS S i) j))), (12, .int (nI j))]) hx hb dL_singers_109 hl (by decide) rfl (fun ls hl => ?_)
                  refine lv_aload_n hx hb dL_singers_111 rfl (lv_at hl 1 rfl) ?_
                  refine lv_iload_n hx hb dL_singers_112 rfl (lv_at hl 4 rfl) ?_
                  refine lv_iload hx hb dL_singers_113 (lv_at hl 13 rfl) ?_
                  refine g_runV (As := [.int (nI i), .int (nI j)]) (rest := []) (own := RL) (C := RX7) (T := TX7) (N := 7) 2 hx hb hml hown hts hK hz hP hL hS hlo hl.1 (c_X7_does l o b S tf tn P C kp zp ((nI i)) ((nI j))  υ sz hW hY.1.1 ) gL_singers_X7_does rfl rfl rfl (by decide +kernel) ⟨Nat.le_of_ble_eq_true rfl, Nat.le_of_ble_eq_true rfl⟩ hW.c0 rfl rfl rfl (Nat.le_of_ble_eq_true rfl) dL_singers_115 ⟨Nat.le_of_ble_eq_true rfl, Nat.le_of_ble_eq_true rfl⟩ (g_kxi0 (fun r_45 τ_45 H locs z_45 hz hp hP hL hS => ?_))
                  obtain ⟨hr_45, hW, hz_45, ha_45⟩ := hp
                  have hz := hz.trans hz_45
                  subst hr_45
                  have hag := hag.tr ha_45 (fun q h => h)
                  have hdo := dosQ_lt S i j
                  refine g_top (y := (nI (dosQ S i j))) (yd hY (by omega) (by omega)) ?_
                  refine g_top (y := (nI 3)) (congrArg nI hd) ?_
                  refine lv_istore (lv' := [(15, .int (nI 3)), (14, .int (nI 0)), (0, .ref o), (1, .int (nI (cntF (presB S) i))), (2, .int (nI (suF (fun x => cntF (markB S x) (sB S)) i))), (3, .int (nI i)), (4, .int (nI (tk (S 3 i)))), (5, .int (nI (lfN S i j))), (6, .int (nI (lsN S i j))), (7, .int (nI (dnQ S i 0 j))), (8, .int (nI (dnQ S i 2 j))), (9, .int (nI (dnQ S i 1 j))), (10, .int (nI (rnF (doS S i) j))), (11, .int (nI (lgF (doS S i) j))), (12, .int (nI j))]) hx hb dL_singers_118 hl (by decide) rfl (fun ls hl => ?_)
                  refine lv_aload_n hx hb dL_singers_120 rfl (lv_at hl 2 rfl) ?_
                  refine lv_iload hx hb dL_singers_121 (lv_at hl 14 rfl) ?_
                  refine lv_iconst (v := (nI 1)) hx hb dL_singers_123 (by decide) ?_
                  refine g_runV (As := [.int (nI j), .int (nI 1)]) (rest := []) (own := RL) (C := RX7) (T := TX7) (N := 7) 2 hx hb hml hown hts hK hz hP hL hS hlo hl.1 (c_X7_beat l o b S tf tn P C kp zp ((nI j)) ((nI 1))  τ_45 sz hW hY.1.1 ) gL_singers_X7_beat rfl rfl rfl (by decide +kernel) ⟨Nat.le_of_ble_eq_true rfl, Nat.le_of_ble_eq_true rfl⟩ hW.c0 rfl rfl rfl (Nat.le_of_ble_eq_true rfl) dL_singers_124 ⟨Nat.le_of_ble_eq_true rfl, Nat.le_of_ble_eq_true rfl⟩ (g_kxi0 (fun r_46 τ_46 H locs z_46 hz hp hP hL hS => ?_))
                  obtain ⟨hr_46, hW, hz_46, ha_46⟩ := hp
                  have hz := hz.trans hz_46
                  subst hr_46
                  have hag := hag.tr ha_46 (fun q h => h)
                  have hxlo := hY.lo (b := j) (by omega)
                  refine g_top (y := (nI (tk (S 1 j)))) (yb_1 hY (by omega)) ?_
                  refine lv_istore (lv' := [(16, .int (nI (tk (S 1 j)))), (15, .int (nI 3)), (14, .int (nI 0)), (0, .ref o), (1, .int (nI (cntF (presB S) i))), (2, .int (nI (suF (fun x => cntF (markB S x) (sB S)) i))), (3, .int (nI i)), (4, .int (nI (tk (S 3 i)))), (5, .int (nI (lfN S i j))), (6, .int (nI (lsN S i j))), (7, .int (nI (dnQ S i 0 j))), (8, .int (nI (dnQ S i 2 j))), (9, .int (nI (dnQ S i 1 j))), (10, .int (nI (rnF (doS S i) j))), (11, .int (nI (lgF (doS S i) j))), (12, .int (nI j))]) hx hb dL_singers_127 hl (by decide) rfl (fun ls hl => ?_)
                  refine lv_iload hx hb dL_singers_129 (lv_at hl 2 rfl) ?_
                  refine lv_iload hx hb dL_singers_131 (lv_at hl 1 rfl) ?_
                  refine lv_iconst (v := (nI 3)) hx hb dL_singers_133 (by decide) ?_
                  refine lv_icmp_ge (tgt := 141) hx hb dL_singers_134 (by decide) (fun c134 => ?_) (fun c134 => by first | exact absurd (by decide) c134 | exact absurd c134 (by decide))
                  refine lv_iconst (v := (nI 0)) hx hb dL_singers_141 (by decide) ?_
                  refine lv_icmp_ne (tgt := 181) hx hb dL_singers_142 (by decide) (fun c142 => by first | exact absurd (by decide) c142 | exact absurd c142 (by decide)) (fun c142 => ?_)
                  refine lv_iload hx hb dL_singers_145 (lv_at hl 1 rfl) ?_
                  refine lv_if_ne (tgt := 157) hx hb dL_singers_147 (by decide) (fun c147 => ?_) (fun c147 => by first | exact absurd (by decide) c147 | exact absurd c147 (by decide))
                  refine lv_iload hx hb dL_singers_157 (lv_at hl 1 rfl) ?_
                  refine lv_iconst (v := (nI 2)) hx hb dL_singers_159 (by decide) ?_
                  refine lv_icmp_ne (tgt := 170) hx hb dL_singers_160 (by decide) (fun c160 => ?_) (fun c160 => by first | exact absurd (by decide) c160 | exact absurd c160 (by decide))
                  refine lv_iload hx hb dL_singers_170 (lv_at hl 1 rfl) ?_
                  refine lv_if_lt (tgt := 181) hx hb dL_singers_172 (by decide) (fun c172 => by first | exact absurd (by decide) c172 | exact absurd c172 (by decide)) (fun c172 => ?_)
                  refine lv_iload hx hb dL_singers_175 (lv_at hl 1 rfl) ?_
                  refine lv_iconst (v := (nI 3)) hx hb dL_singers_177 (by decide) ?_
                  refine lv_icmp_le (tgt := 183) hx hb dL_singers_178 (by decide) (fun c178 => ?_) (fun c178 => by first | exact absurd (by decide) c178 | exact absurd c178 (by decide))
                  refine lv_iload hx hb dL_singers_183 (lv_at hl 8 rfl) ?_
                  refine lv_aload_n hx hb dL_singers_185 rfl (lv_at hl 3 rfl) ?_
                  refine lv_iload_n hx hb dL_singers_186 rfl (lv_at hl 6 rfl) ?_
                  refine lv_iconst (v := (nI 1)) hx hb dL_singers_187 (by decide) ?_
                  refine g_runV (As := [.int (nI i), .int (nI 1)]) (rest := [.int (nI (lfN S i j))]) (own := RL) (C := RX7) (T := TX7) (N := 7) 2 hx hb hml hown hts hK hz hP hL hS hlo hl.1 (c_X7_singer l o b S tf tn P C kp zp ((nI i)) ((nI 1))  τ_46 sz hW hY.1.1 ) gL_singers_X7_singer rfl rfl rfl (by decide +kernel) ⟨Nat.le_of_ble_eq_true rfl, Nat.le_of_ble_eq_true rfl⟩ hW.c0 rfl rfl rfl (Nat.le_of_ble_eq_true rfl) dL_singers_188 ⟨Nat.le_of_ble_eq_true rfl, Nat.le_of_ble_eq_true rfl⟩ (g_kxi0 (fun r_47 τ_47 H locs z_47 hz hp hP hL hS => ?_))
                  obtain ⟨hr_47, hW, hz_47, ha_47⟩ := hp
                  have hz := hz.trans hz_47
                  subst hr_47
                  have hag := hag.tr ha_47 (fun q h => h)
                  have hrc := hY.rc (i := i) (by omega)
                  refine g_top (y := (nI (tk (S 4 i)))) (yn_1 hY (by omega)) ?_
                  refine lv_iadd hx hb dL_singers_191 ?_
                  refine g_top (nI_add (lfN S i j) (tk (S 4 i))) ?_
                  refine lv_istore (lv' := [(17, .int (nI ((lfN S i j) + (tk (S 4 i))))), (16, .int (nI (tk (S 1 j)))), (15, .int (nI 3)), (14, .int (nI 0)), (0, .ref o), (1, .int (nI (cntF (presB S) i))), (2, .int (nI (suF (fun x => cntF (markB S x) (sB S)) i))), (3, .int (nI i)), (4, .int (nI (tk (S 3 i)))), (5, .int (nI (lfN S i j))), (6, .int (nI (lsN S i j))), (7, .int (nI (dnQ S i 0 j))), (8, .int (nI (dnQ S i 2 j))), (9, .int (nI (dnQ S i 1 j))), (10, .int (nI (rnF (doS S i) j))), (11, .int (nI (lgF (doS S i) j))), (12, .int (nI j))]) hx hb dL_singers_192 hl (by decide) rfl (fun ls hl => ?_)
                  refine lv_iload hx hb dL_singers_194 (lv_at hl 2 rfl) ?_
                  refine lv_if_ne (tgt := 207) hx hb dL_singers_196 (by decide) (fun c196 => ?_) (fun c196 => by first | exact absurd (by decide) c196 | exact absurd c196 (by decide))
                  refine lv_iload hx hb dL_singers_207 (lv_at hl 0 rfl) ?_
                  refine lv_iload hx hb dL_singers_209 (lv_at hl 8 rfl) ?_
                  refine g_icmp_le (tgt := 219) (a := (lfN S i j) + (tk (S 4 i))) (b := tk (S 3 i)) hx hb (by omega) (by omega) dL_singers_211 (by decide) (fun c211 => ?_) (fun c211 => ?_)
                  · refine lv_iload hx hb dL_singers_219 (lv_at hl 0 rfl) ?_
                    refine g_top (y := (nI (lfN S i (j + 1)))) (congrArg nI (lf_a hY hil hjl hd0 c211)) ?_
                    have hlf := lfN_le hY (i := i) (k := j + 1) hil (by omega)
                    refine lv_istore (lv' := [(5, .int (nI (lfN S i (j + 1)))), (17, .int (nI ((lfN S i j) + (tk (S 4 i))))), (16, .int (nI (tk (S 1 j)))), (15, .int (nI 3)), (14, .int (nI 0)), (0, .ref o), (1, .int (nI (cntF (presB S) i))), (2, .int (nI (suF (fun x => cntF (markB S x) (sB S)) i))), (3, .int (nI i)), (4, .int (nI (tk (S 3 i)))), (6, .int (nI (lsN S i j))), (7, .int (nI (dnQ S i 0 j))), (8, .int (nI (dnQ S i 2 j))), (9, .int (nI (dnQ S i 1 j))), (10, .int (nI (rnF (doS S i) j))), (11, .int (nI (lgF (doS S i) j))), (12, .int (nI j))]) hx hb dL_singers_221 hl (by decide) rfl (fun ls hl => ?_)
                    refine lv_iload hx hb dL_singers_223 (lv_at hl 0 rfl) ?_
                    refine lv_iload hx hb dL_singers_225 (lv_at hl 10 rfl) ?_
                    refine g_icmp_ge (tgt := 235) (a := lfN S i (j + 1)) (b := lsN S i j) hx hb (by omega) (by omega) dL_singers_227 (by decide) (fun c227 => ?_) (fun c227 => ?_)
                    · refine lv_iload hx hb dL_singers_235 (lv_at hl 10 rfl) ?_
                      refine g_top (y := (nI (lsN S i (j + 1)))) (congrArg nI (ls_1 (by omega))) ?_
                      refine lv_istore (lv' := [(6, .int (nI (lsN S i (j + 1)))), (5, .int (nI (lfN S i (j + 1)))), (17, .int (nI ((lfN S i j) + (tk (S 4 i))))), (16, .int (nI (tk (S 1 j)))), (15, .int (nI 3)), (14, .int (nI 0)), (0, .ref o), (1, .int (nI (cntF (presB S) i))), (2, .int (nI (suF (fun x => cntF (markB S x) (sB S)) i))), (3, .int (nI i)), (4, .int (nI (tk (S 3 i)))), (7, .int (nI (dnQ S i 0 j))), (8, .int (nI (dnQ S i 2 j))), (9, .int (nI (dnQ S i 1 j))), (10, .int (nI (rnF (doS S i) j))), (11, .int (nI (lgF (doS S i) j))), (12, .int (nI j))]) hx hb dL_singers_237 hl (by decide) rfl (fun ls hl => ?_)
                      refine lv_iload hx hb dL_singers_239 (lv_at hl 11 rfl) ?_
                      refine lv_iload hx hb dL_singers_241 (lv_at hl 4 rfl) ?_
                      refine lv_if_ne (tgt := 250) hx hb dL_singers_243 (by decide) (fun c243 => ?_) (fun c243 => by first | exact absurd (by decide) c243 | exact absurd c243 (by decide))
                      refine lv_iconst (v := (nI 0)) hx hb dL_singers_250 (by decide) ?_
                      refine lv_iadd hx hb dL_singers_251 ?_
                      refine g_top (nI_add (dnQ S i 0 j) 0) ?_
                      refine g_top (y := (nI (dnQ S i 0 (j + 1)))) (congrArg nI (dn_f (by rw [hd]; decide))) ?_
                      refine lv_istore (lv' := [(7, .int (nI (dnQ S i 0 (j + 1)))), (6, .int (nI (lsN S i (j + 1)))), (5, .int (nI (lfN S i (j + 1)))), (17, .int (nI ((lfN S i j) + (tk (S 4 i))))), (16, .int (nI (tk (S 1 j)))), (15, .int (nI 3)), (14, .int (nI 0)), (0, .ref o), (1, .int (nI (cntF (presB S) i))), (2, .int (nI (suF (fun x => cntF (markB S x) (sB S)) i))), (3, .int (nI i)), (4, .int (nI (tk (S 3 i)))), (8, .int (nI (dnQ S i 2 j))), (9, .int (nI (dnQ S i 1 j))), (10, .int (nI (rnF (doS S i) j))), (11, .int (nI (lgF (doS S i) j))), (12, .int (nI j))]) hx hb dL_singers_252 hl (by decide) rfl (fun ls hl => ?_)
                      refine lv_iload hx hb dL_singers_254 (lv_at hl 13 rfl) ?_
                      refine lv_iload hx hb dL_singers_256 (lv_at hl 5 rfl) ?_
                      refine lv_iconst (v := (nI 1)) hx hb dL_singers_258 (by decide) ?_
                      refine lv_icmp_ne (tgt := 266) hx hb dL_singers_259 (by decide) (fun c259 => ?_) (fun c259 => by first | exact absurd (by decide) c259 | exact absurd c259 (by decide))
                      refine lv_iconst (v := (nI 0)) hx hb dL_singers_266 (by decide) ?_
                      refine lv_iadd hx hb dL_singers_267 ?_
                      refine g_top (nI_add (dnQ S i 1 j) 0) ?_
                      refine g_top (y := (nI (dnQ S i 1 (j + 1)))) (congrArg nI (dn_f (by rw [hd]; decide))) ?_
                      refine lv_istore (lv' := [(9, .int (nI (dnQ S i 1 (j + 1)))), (7, .int (nI (dnQ S i 0 (j + 1)))), (6, .int (nI (lsN S i (j + 1)))), (5, .int (nI (lfN S i (j + 1)))), (17, .int (nI ((lfN S i j) + (tk (S 4 i))))), (16, .int (nI (tk (S 1 j)))), (15, .int (nI 3)), (14, .int (nI 0)), (0, .ref o), (1, .int (nI (cntF (presB S) i))), (2, .int (nI (suF (fun x => cntF (markB S x) (sB S)) i))), (3, .int (nI i)), (4, .int (nI (tk (S 3 i)))), (8, .int (nI (dnQ S i 2 j))), (10, .int (nI (rnF (doS S i) j))), (11, .int (nI (lgF (doS S i) j))), (12, .int (nI j))]) hx hb dL_singers_268 hl (by decide) rfl (fun ls hl => ?_)
                      refine lv_iload hx hb dL_singers_270 (lv_at hl 13 rfl) ?_
                      refine lv_iload hx hb dL_singers_272 (lv_at hl 6 rfl) ?_
                      refine lv_iconst (v := (nI 2)) hx hb dL_singers_274 (by decide) ?_
                      refine lv_icmp_ne (tgt := 282) hx hb dL_singers_275 (by decide) (fun c275 => ?_) (fun c275 => by first | exact absurd (by decide) c275 | exact absurd c275 (by decide))
                      refine lv_iconst (v := (nI 0)) hx hb dL_singers_282 (by decide) ?_
                      refine lv_iadd hx hb dL_singers_283 ?_
                      refine g_top (nI_add (dnQ S i 2 j) 0) ?_
                      refine g_top (y := (nI (dnQ S i 2 (j + 1)))) (congrArg nI (dn_f (by rw [hd]; decide))) ?_
                      refine lv_istore (lv' := [(8, .int (nI (dnQ S i 2 (j + 1)))), (9, .int (nI (dnQ S i 1 (j + 1)))), (7, .int (nI (dnQ S i 0 (j + 1)))), (6, .int (nI (lsN S i (j + 1)))), (5, .int (nI (lfN S i (j + 1)))), (17, .int (nI ((lfN S i j) + (tk (S 4 i))))), (16, .int (nI (tk (S 1 j)))), (15, .int (nI 3)), (14, .int (nI 0)), (0, .ref o), (1, .int (nI (cntF (presB S) i))), (2, .int (nI (suF (fun x => cntF (markB S x) (sB S)) i))), (3, .int (nI i)), (4, .int (nI (tk (S 3 i)))), (10, .int (nI (rnF (doS S i) j))), (11, .int (nI (lgF (doS S i) j))), (12, .int (nI j))]) hx hb dL_singers_284 hl (by decide) rfl (fun ls hl => ?_)
                      refine lv_iload hx hb dL_singers_286 (lv_at hl 7 rfl) ?_
                      refine lv_if_ne (tgt := 298) hx hb dL_singers_288 (by decide) (fun c288 => ?_) (fun c288 => by first | exact absurd (by decide) c288 | exact absurd c288 (by decide))
                      refine lv_iconst (v := (nI 0)) hx hb dL_singers_298 (by decide) ?_
                      refine g_top (y := (nI (rnF (doS S i) (j + 1)))) (congrArg nI (rn_f hd0)) ?_
                      have hrn := rnF_le (doS S i) (j + 1)
                      refine lv_istore (lv' := [(10, .int (nI (rnF (doS S i) (j + 1)))), (8, .int (nI (dnQ S i 2 (j + 1)))), (9, .int (nI (dnQ S i 1 (j + 1)))), (7, .int (nI (dnQ S i 0 (j + 1)))), (6, .int (nI (lsN S i (j + 1)))), (5, .int (nI (lfN S i (j + 1)))), (17, .int (nI ((lfN S i j) + (tk (S 4 i))))), (16, .int (nI (tk (S 1 j)))), (15, .int (nI 3)), (14, .int (nI 0)), (0, .ref o), (1, .int (nI (cntF (presB S) i))), (2, .int (nI (suF (fun x => cntF (markB S x) (sB S)) i))), (3, .int (nI i)), (4, .int (nI (tk (S 3 i)))), (11, .int (nI (lgF (doS S i) j))), (12, .int (nI j))]) hx hb dL_singers_299 hl (by decide) rfl (fun ls hl => ?_)
                      refine lv_iload hx hb dL_singers_301 (lv_at hl 0 rfl) ?_
                      refine lv_iload hx hb dL_singers_303 (lv_at hl 15 rfl) ?_
                      refine g_icmp_le (tgt := 313) (a := rnF (doS S i) (j + 1)) (b := lgF (doS S i) j) hx hb (by omega) (by omega) dL_singers_305 (by decide) (fun c305 => ?_) (fun c305 => ?_)
                      · refine lv_iload hx hb dL_singers_313 (lv_at hl 15 rfl) ?_
                        refine g_top (y := (nI (lgF (doS S i) (j + 1)))) (congrArg nI (lg_1 (by omega))) ?_
                        refine lv_istore (lv' := [(11, .int (nI (lgF (doS S i) (j + 1)))), (10, .int (nI (rnF (doS S i) (j + 1)))), (8, .int (nI (dnQ S i 2 (j + 1)))), (9, .int (nI (dnQ S i 1 (j + 1)))), (7, .int (nI (dnQ S i 0 (j + 1)))), (6, .int (nI (lsN S i (j + 1)))), (5, .int (nI (lfN S i (j + 1)))), (17, .int (nI ((lfN S i j) + (tk (S 4 i))))), (16, .int (nI (tk (S 1 j)))), (15, .int (nI 3)), (14, .int (nI 0)), (0, .ref o), (1, .int (nI (cntF (presB S) i))), (2, .int (nI (suF (fun x => cntF (markB S x) (sB S)) i))), (3, .int (nI i)), (4, .int (nI (tk (S 3 i)))), (12, .int (nI j))]) hx hb dL_singers_315 hl (by decide) rfl (fun ls hl => ?_)
                        refine lv_aload_n hx hb dL_singers_317 rfl (lv_at hl 11 rfl) ?_
                        refine lv_iload_n hx hb dL_singers_318 rfl (lv_at hl 14 rfl) ?_
                        refine lv_iload hx hb dL_singers_319 (lv_at hl 16 rfl) ?_
                        refine g_runV (As := [.int (nI i), .int (nI j)]) (rest := []) (own := RL) (C := RX7) (T := TX7) (N := 7) 2 hx hb hml hown hts hK hz hP hL hS hlo hl.1 (c_X7_left l o b S tf tn P C kp zp ((nI i)) ((nI j))  τ_47 sz hW hY.1.1 ) gL_singers_X7_left rfl rfl rfl (by decide +kernel) ⟨Nat.le_of_ble_eq_true rfl, Nat.le_of_ble_eq_true rfl⟩ hW.c0 rfl rfl rfl (Nat.le_of_ble_eq_true rfl) dL_singers_321 ⟨Nat.le_of_ble_eq_true rfl, Nat.le_of_ble_eq_true rfl⟩ (g_kxi0 (fun r_48 τ_48 H locs z_48 hz hp hP hL hS => ?_))
                        obtain ⟨hr_48, hW, hz_48, ha_48⟩ := hp
                        have hz := hz.trans hz_48
                        subst hr_48
                        have hag := hag.tr ha_48 (fun q h => h)
                        have hlf := lfN_le hY (i := i) (k := j + 1) (by omega) (by omega)
                        refine g_top (y := (nI (lfN S i (j + 1)))) (yl hY (by omega) (by omega)) ?_
                        refine lv_iload hx hb dL_singers_324 (lv_at hl 6 rfl) ?_
                        refine lv_icmp_eq (tgt := 331) hx hb dL_singers_326 (by decide) (fun c326 => ?_) (fun c326 => absurd rfl c326)
                        refine lv_iinc (v := (nI (j + 1))) (lv' := [(12, .int (nI (j + 1))), (11, .int (nI (lgF (doS S i) (j + 1)))), (10, .int (nI (rnF (doS S i) (j + 1)))), (8, .int (nI (dnQ S i 2 (j + 1)))), (9, .int (nI (dnQ S i 1 (j + 1)))), (7, .int (nI (dnQ S i 0 (j + 1)))), (6, .int (nI (lsN S i (j + 1)))), (5, .int (nI (lfN S i (j + 1)))), (17, .int (nI ((lfN S i j) + (tk (S 4 i))))), (16, .int (nI (tk (S 1 j)))), (15, .int (nI 3)), (14, .int (nI 0)), (0, .ref o), (1, .int (nI (cntF (presB S) i))), (2, .int (nI (suF (fun x => cntF (markB S x) (sB S)) i))), (3, .int (nI i)), (4, .int (nI (tk (S 3 i))))]) hx hb dL_singers_331 hl (k := 16) rfl (g_inc j 1) (by decide) rfl (fun ls hl => ?_)
                        refine lv_goto (tgt := 49) hx hb dL_singers_334 (by decide) ?_
                        exact ih_lpB (j + 1) (by omega) (by omega) τ_48 hW hag hL H locs ls hz hP hS (lv_sub hl [12, 13, 14, 15, 16, 7, 6, 5, 3, 4, 2, 1, 0] rfl)
                      · refine lv_iload hx hb dL_singers_308 (lv_at hl 0 rfl) ?_
                        refine lv_goto (tgt := 315) hx hb dL_singers_310 (by decide) ?_
                        refine g_top (y := (nI (lgF (doS S i) (j + 1)))) (congrArg nI (lg_2 (by omega))) ?_
                        refine lv_istore (lv' := [(11, .int (nI (lgF (doS S i) (j + 1)))), (10, .int (nI (rnF (doS S i) (j + 1)))), (8, .int (nI (dnQ S i 2 (j + 1)))), (9, .int (nI (dnQ S i 1 (j + 1)))), (7, .int (nI (dnQ S i 0 (j + 1)))), (6, .int (nI (lsN S i (j + 1)))), (5, .int (nI (lfN S i (j + 1)))), (17, .int (nI ((lfN S i j) + (tk (S 4 i))))), (16, .int (nI (tk (S 1 j)))), (15, .int (nI 3)), (14, .int (nI 0)), (0, .ref o), (1, .int (nI (cntF (presB S) i))), (2, .int (nI (suF (fun x => cntF (markB S x) (sB S)) i))), (3, .int (nI i)), (4, .int (nI (tk (S 3 i)))), (12, .int (nI j))]) hx hb dL_singers_315 hl (by decide) rfl (fun ls hl => ?_)
                        refine lv_aload_n hx hb dL_singers_317 rfl (lv_at hl 11 rfl) ?_
                        refine lv_iload_n hx hb dL_singers_318 rfl (lv_at hl 14 rfl) ?_
                        refine lv_iload hx hb dL_singers_319 (lv_at hl 16 rfl) ?_
                        refine g_runV (As := [.int (nI i), .int (nI j)]) (rest := []) (own := RL) (C := RX7) (T := TX7) (N := 7) 2 hx hb hml hown hts hK hz hP hL hS hlo hl.1 (c_X7_left l o b S tf tn P C kp zp ((nI i)) ((nI j))  τ_47 sz hW hY.1.1 ) gL_singers_X7_left rfl rfl rfl (by decide +kernel) ⟨Nat.le_of_ble_eq_true rfl, Nat.le_of_ble_eq_true rfl⟩ hW.c0 rfl rfl rfl (Nat.le_of_ble_eq_true rfl) dL_singers_321 ⟨Nat.le_of_ble_eq_true rfl, Nat.le_of_ble_eq_true rfl⟩ (g_kxi0 (fun r_49 τ_49 H locs z_49 hz hp hP hL hS => ?_))
                        obtain ⟨hr_49, hW, hz_49, ha_49⟩ := hp
                        have hz := hz.trans hz_49
                        subst hr_49
                        have hag := hag.tr ha_49 (fun q h => h)
                        have hlf := lfN_le hY (i := i) (k := j + 1) (by omega) (by omega)
                        refine g_top (y := (nI (lfN S i (j + 1)))) (yl hY (by omega) (by omega)) ?_
                        refine lv_iload hx hb dL_singers_324 (lv_at hl 6 rfl) ?_
                        refine lv_icmp_eq (tgt := 331) hx hb dL_singers_326 (by decide) (fun c326 => ?_) (fun c326 => absurd rfl c326)
                        refine lv_iinc (v := (nI (j + 1))) (lv' := [(12, .int (nI (j + 1))), (11, .int (nI (lgF (doS S i) (j + 1)))), (10, .int (nI (rnF (doS S i) (j + 1)))), (8, .int (nI (dnQ S i 2 (j + 1)))), (9, .int (nI (dnQ S i 1 (j + 1)))), (7, .int (nI (dnQ S i 0 (j + 1)))), (6, .int (nI (lsN S i (j + 1)))), (5, .int (nI (lfN S i (j + 1)))), (17, .int (nI ((lfN S i j) + (tk (S 4 i))))), (16, .int (nI (tk (S 1 j)))), (15, .int (nI 3)), (14, .int (nI 0)), (0, .ref o), (1, .int (nI (cntF (presB S) i))), (2, .int (nI (suF (fun x => cntF (markB S x) (sB S)) i))), (3, .int (nI i)), (4, .int (nI (tk (S 3 i))))]) hx hb dL_singers_331 hl (k := 16) rfl (g_inc j 1) (by decide) rfl (fun ls hl => ?_)
                        refine lv_goto (tgt := 49) hx hb dL_singers_334 (by decide) ?_
                        exact ih_lpB (j + 1) (by omega) (by omega) τ_49 hW hag hL H locs ls hz hP hS (lv_sub hl [12, 13, 14, 15, 16, 7, 6, 5, 3, 4, 2, 1, 0] rfl)
                    · refine lv_iload hx hb dL_singers_230 (lv_at hl 0 rfl) ?_
                      refine lv_goto (tgt := 237) hx hb dL_singers_232 (by decide) ?_
                      refine g_top (y := (nI (lsN S i (j + 1)))) (congrArg nI (ls_2 (by omega))) ?_
                      refine lv_istore (lv' := [(6, .int (nI (lsN S i (j + 1)))), (5, .int (nI (lfN S i (j + 1)))), (17, .int (nI ((lfN S i j) + (tk (S 4 i))))), (16, .int (nI (tk (S 1 j)))), (15, .int (nI 3)), (14, .int (nI 0)), (0, .ref o), (1, .int (nI (cntF (presB S) i))), (2, .int (nI (suF (fun x => cntF (markB S x) (sB S)) i))), (3, .int (nI i)), (4, .int (nI (tk (S 3 i)))), (7, .int (nI (dnQ S i 0 j))), (8, .int (nI (dnQ S i 2 j))), (9, .int (nI (dnQ S i 1 j))), (10, .int (nI (rnF (doS S i) j))), (11, .int (nI (lgF (doS S i) j))), (12, .int (nI j))]) hx hb dL_singers_237 hl (by decide) rfl (fun ls hl => ?_)
                      refine lv_iload hx hb dL_singers_239 (lv_at hl 11 rfl) ?_
                      refine lv_iload hx hb dL_singers_241 (lv_at hl 4 rfl) ?_
                      refine lv_if_ne (tgt := 250) hx hb dL_singers_243 (by decide) (fun c243 => ?_) (fun c243 => by first | exact absurd (by decide) c243 | exact absurd c243 (by decide))
                      refine lv_iconst (v := (nI 0)) hx hb dL_singers_250 (by decide) ?_
                      refine lv_iadd hx hb dL_singers_251 ?_
                      refine g_top (nI_add (dnQ S i 0 j) 0) ?_
                      refine g_top (y := (nI (dnQ S i 0 (j + 1)))) (congrArg nI (dn_f (by rw [hd]; decide))) ?_
                      refine lv_istore (lv' := [(7, .int (nI (dnQ S i 0 (j + 1)))), (6, .int (nI (lsN S i (j + 1)))), (5, .int (nI (lfN S i (j + 1)))), (17, .int (nI ((lfN S i j) + (tk (S 4 i))))), (16, .int (nI (tk (S 1 j)))), (15, .int (nI 3)), (14, .int (nI 0)), (0, .ref o), (1, .int (nI (cntF (presB S) i))), (2, .int (nI (suF (fun x => cntF (markB S x) (sB S)) i))), (3, .int (nI i)), (4, .int (nI (tk (S 3 i)))), (8, .int (nI (dnQ S i 2 j))), (9, .int (nI (dnQ S i 1 j))), (10, .int (nI (rnF (doS S i) j))), (11, .int (nI (lgF (doS S i) j))), (12, .int (nI j))]) hx hb dL_singers_252 hl (by decide) rfl (fun ls hl => ?_)
                      refine lv_iload hx hb dL_singers_254 (lv_at hl 13 rfl) ?_
                      refine lv_iload hx hb dL_singers_256 (lv_at hl 5 rfl) ?_
                      refine lv_iconst (v := (nI 1)) hx hb dL_singers_258 (by decide) ?_
                      refine lv_icmp_ne (tgt := 266) hx hb dL_singers_259 (by decide) (fun c259 => ?_) (fun c259 => by first | exact absurd (by decide) c259 | exact absurd c259 (by decide))
                      refine lv_iconst (v := (nI 0)) hx hb dL_singers_266 (by decide) ?_
                      refine lv_iadd hx hb dL_singers_267 ?_
                      refine g_top (nI_add (dnQ S i 1 j) 0) ?_
                      refine g_top (y := (nI (dnQ S i 1 (j + 1)))) (congrArg nI (dn_f (by rw [hd]; decide))) ?_
                      refine lv_istore (lv' := [(9, .int (nI (dnQ S i 1 (j + 1)))), (7, .int (nI (dnQ S i 0 (j + 1)))), (6, .int (nI (lsN S i (j + 1)))), (5, .int (nI (lfN S i (j + 1)))), (17, .int (nI ((lfN S i j) + (tk (S 4 i))))), (16, .int (nI (tk (S 1 j)))), (15, .int (nI 3)), (14, .int (nI 0)), (0, .ref o), (1, .int (nI (cntF (presB S) i))), (2, .int (nI (suF (fun x => cntF (markB S x) (sB S)) i))), (3, .int (nI i)), (4, .int (nI (tk (S 3 i)))), (8, .int (nI (dnQ S i 2 j))), (10, .int (nI (rnF (doS S i) j))), (11, .int (nI (lgF (doS S i) j))), (12, .int (nI j))]) hx hb dL_singers_268 hl (by decide) rfl (fun ls hl => ?_)
                      refine lv_iload hx hb dL_singers_270 (lv_at hl 13 rfl) ?_
                      refine lv_iload hx hb dL_singers_272 (lv_at hl 6 rfl) ?_
                      refine lv_iconst (v := (nI 2)) hx hb dL_singers_274 (by decide) ?_
                      refine lv_icmp_ne (tgt := 282) hx hb dL_singers_275 (by decide) (fun c275 => ?_) (fun c275 => by first | exact absurd (by decide) c275 | exact absurd c275 (by decide))
                      refine lv_iconst (v := (nI 0)) hx hb dL_singers_282 (by decide) ?_
                      refine lv_iadd hx hb dL_singers_283 ?_
                      refine g_top (nI_add (dnQ S i 2 j) 0) ?_
                      refine g_top (y := (nI (dnQ S i 2 (j + 1)))) (congrArg nI (dn_f (by rw [hd]; decide))) ?_
                      refine lv_istore (lv' := [(8, .int (nI (dnQ S i 2 (j + 1)))), (9, .int (nI (dnQ S i 1 (j + 1)))), (7, .int (nI (dnQ S i 0 (j + 1)))), (6, .int (nI (lsN S i (j + 1)))), (5, .int (nI (lfN S i (j + 1)))), (17, .int (nI ((lfN S i j) + (tk (S 4 i))))), (16, .int (nI (tk (S 1 j)))), (15, .int (nI 3)), (14, .int (nI 0)), (0, .ref o), (1, .int (nI (cntF (presB S) i))), (2, .int (nI (suF (fun x => cntF (markB S x) (sB S)) i))), (3, .int (nI i)), (4, .int (nI (tk (S 3 i)))), (10, .int (nI (rnF (doS S i) j))), (11, .int (nI (lgF (doS S i) j))), (12, .int (nI j))]) hx hb dL_singers_284 hl (by decide) rfl (fun ls hl => ?_)
                      refine lv_iload hx hb dL_singers_286 (lv_at hl 7 rfl) ?_
                      refine lv_if_ne (tgt := 298) hx hb dL_singers_288 (by decide) (fun c288 => ?_) (fun c288 => by first | exact absurd (by decide) c288 | exact absurd c288 (by decide))
                      refine lv_iconst (v := (nI 0)) hx hb dL_singers_298 (by decide) ?_
                      refine g_top (y := (nI (rnF (doS S i) (j + 1)))) (congrArg nI (rn_f hd0)) ?_
                      have hrn := rnF_le (doS S i) (j + 1)
                      refine lv_istore (lv' := [(10, .int (nI (rnF (doS S i) (j + 1)))), (8, .int (nI (dnQ S i 2 (j + 1)))), (9, .int (nI (dnQ S i 1 (j + 1)))), (7, .int (nI (dnQ S i 0 (j + 1)))), (6, .int (nI (lsN S i (j + 1)))), (5, .int (nI (lfN S i (j + 1)))), (17, .int (nI ((lfN S i j) + (tk (S 4 i))))), (16, .int (nI (tk (S 1 j)))), (15, .int (nI 3)), (14, .int (nI 0)), (0, .ref o), (1, .int (nI (cntF (presB S) i))), (2, .int (nI (suF (fun x => cntF (markB S x) (sB S)) i))), (3, .int (nI i)), (4, .int (nI (tk (S 3 i)))), (11, .int (nI (lgF (doS S i) j))), (12, .int (nI j))]) hx hb dL_singers_299 hl (by decide) rfl (fun ls hl => ?_)
                      refine lv_iload hx hb dL_singers_301 (lv_at hl 0 rfl) ?_
                      refine lv_iload hx hb dL_singers_303 (lv_at hl 15 rfl) ?_
                      refine g_icmp_le (tgt := 313) (a := rnF (doS S i) (j + 1)) (b := lgF (doS S i) j) hx hb (by omega) (by omega) dL_singers_305 (by decide) (fun c305 => ?_) (fun c305 => ?_)
                      · refine lv_iload hx hb dL_singers_313 (lv_at hl 15 rfl) ?_
                        refine g_top (y := (nI (lgF (doS S i) (j + 1)))) (congrArg nI (lg_1 (by omega))) ?_
                        refine lv_istore (lv' := [(11, .int (nI (lgF (doS S i) (j + 1)))), (10, .int (nI (rnF (doS S i) (j + 1)))), (8, .int (nI (dnQ S i 2 (j + 1)))), (9, .int (nI (dnQ S i 1 (j + 1)))), (7, .int (nI (dnQ S i 0 (j + 1)))), (6, .int (nI (lsN S i (j + 1)))), (5, .int (nI (lfN S i (j + 1)))), (17, .int (nI ((lfN S i j) + (tk (S 4 i))))), (16, .int (nI (tk (S 1 j)))), (15, .int (nI 3)), (14, .int (nI 0)), (0, .ref o), (1, .int (nI (cntF (presB S) i))), (2, .int (nI (suF (fun x => cntF (markB S x) (sB S)) i))), (3, .int (nI i)), (4, .int (nI (tk (S 3 i)))), (12, .int (nI j))]) hx hb dL_singers_315 hl (by decide) rfl (fun ls hl => ?_)
                        refine lv_aload_n hx hb dL_singers_317 rfl (lv_at hl 11 rfl) ?_
                        refine lv_iload_n hx hb dL_singers_318 rfl (lv_at hl 14 rfl) ?_
                        refine lv_iload hx hb dL_singers_319 (lv_at hl 16 rfl) ?_
                        refine g_runV (As := [.int (nI i), .int (nI j)]) (rest := []) (own := RL) (C := RX7) (T := TX7) (N := 7) 2 hx hb hml hown hts hK hz hP hL hS hlo hl.1 (c_X7_left l o b S tf tn P C kp zp ((nI i)) ((nI j))  τ_47 sz hW hY.1.1 ) gL_singers_X7_left rfl rfl rfl (by decide +kernel) ⟨Nat.le_of_ble_eq_true rfl, Nat.le_of_ble_eq_true rfl⟩ hW.c0 rfl rfl rfl (Nat.le_of_ble_eq_true rfl) dL_singers_321 ⟨Nat.le_of_ble_eq_true rfl, Nat.le_of_ble_eq_true rfl⟩ (g_kxi0 (fun r_50 τ_50 H locs z_50 hz hp hP hL hS => ?_))
                        obtain ⟨hr_50, hW, hz_50, ha_50⟩ := hp
                        have hz := hz.trans hz_50
                        subst hr_50
                        have hag := hag.tr ha_50 (fun q h => h)
                        have hlf := lfN_le hY (i := i) (k := j + 1) (by omega) (by omega)
                        refine g_top (y := (nI (lfN S i (j + 1)))) (yl hY (by omega) (by omega)) ?_
                        refine lv_iload hx hb dL_singers_324 (lv_at hl 6 rfl) ?_
                        refine lv_icmp_eq (tgt := 331) hx hb dL_singers_326 (by decide) (fun c326 => ?_) (fun c326 => absurd rfl c326)
                        refine lv_iinc (v := (nI (j + 1))) (lv' := [(12, .int (nI (j + 1))), (11, .int (nI (lgF (doS S i) (j + 1)))), (10, .int (nI (rnF (doS S i) (j + 1)))), (8, .int (nI (dnQ S i 2 (j + 1)))), (9, .int (nI (dnQ S i 1 (j + 1)))), (7, .int (nI (dnQ S i 0 (j + 1)))), (6, .int (nI (lsN S i (j + 1)))), (5, .int (nI (lfN S i (j + 1)))), (17, .int (nI ((lfN S i j) + (tk (S 4 i))))), (16, .int (nI (tk (S 1 j)))), (15, .int (nI 3)), (14, .int (nI 0)), (0, .ref o), (1, .int (nI (cntF (presB S) i))), (2, .int (nI (suF (fun x => cntF (markB S x) (sB S)) i))), (3, .int (nI i)), (4, .int (nI (tk (S 3 i))))]) hx hb dL_singers_331 hl (k := 16) rfl (g_inc j 1) (by decide) rfl (fun ls hl => ?_)
                        refine lv_goto (tgt := 49) hx hb dL_singers_334 (by decide) ?_
                        exact ih_lpB (j + 1) (by omega) (by omega) τ_50 hW hag hL H locs ls hz hP hS (lv_sub hl [12, 13, 14, 15, 16, 7, 6, 5, 3, 4, 2, 1, 0] rfl)
                      · refine lv_iload hx hb dL_singers_308 (lv_at hl 0 rfl) ?_
                        refine lv_goto (tgt := 315) hx hb dL_singers_310 (by decide) ?_
                        refine g_top (y := (nI (lgF (doS S i) (j + 1)))) (congrArg nI (lg_2 (by omega))) ?_
                        refine lv_istore (lv' := [(11, .int (nI (lgF (doS S i) (j + 1)))), (10, .int (nI (rnF (doS S i) (j + 1)))), (8, .int (nI (dnQ S i 2 (j + 1)))), (9, .int (nI (dnQ S i 1 (j + 1)))), (7, .int (nI (dnQ S i 0 (j + 1)))), (6, .int (nI (lsN S i (j + 1)))), (5, .int (nI (lfN S i (j + 1)))), (17, .int (nI ((lfN S i j) + (tk (S 4 i))))), (16, .int (nI (tk (S 1 j)))), (15, .int (nI 3)), (14, .int (nI 0)), (0, .ref o), (1, .int (nI (cntF (presB S) i))), (2, .int (nI (suF (fun x => cntF (markB S x) (sB S)) i))), (3, .int (nI i)), (4, .int (nI (tk (S 3 i)))), (12, .int (nI j))]) hx hb dL_singers_315 hl (by decide) rfl (fun ls hl => ?_)
                        refine lv_aload_n hx hb dL_singers_317 rfl (lv_at hl 11 rfl) ?_
                        refine lv_iload_n hx hb dL_singers_318 rfl (lv_at hl 14 rfl) ?_
                        refine lv_iload hx hb dL_singers_319 (lv_at hl 16 rfl) ?_
                        refine g_runV (As := [.int (nI i), .int (nI j)]) (rest := []) (own := RL) (C := RX7) (T := TX7) (N := 7) 2 hx hb hml hown hts hK hz hP hL hS hlo hl.1 (c_X7_left l o b S tf tn P C kp zp ((nI i)) ((nI j))  τ_47 sz hW hY.1.1 ) gL_singers_X7_left rfl rfl rfl (by decide +kernel) ⟨Nat.le_of_ble_eq_true rfl, Nat.le_of_ble_eq_true rfl⟩ hW.c0 rfl rfl rfl (Nat.le_of_ble_eq_true rfl) dL_singers_321 ⟨Nat.le_of_ble_eq_true rfl, Nat.le_of_ble_eq_true rfl⟩ (g_kxi0 (fun r_51 τ_51 H locs z_51 hz hp hP hL hS => ?_))
                        obtain ⟨hr_51, hW, hz_51, ha_51⟩ := hp
                        have hz := hz.trans hz_51
                        subst hr_51
                        have hag := hag.tr ha_51 (fun q h => h)
                        have hlf := lfN_le hY (i := i) (k := j + 1) (by omega) (by omega)
                        refine g_top (y := (nI (lfN S i (j + 1)))) (yl hY (by omega) (by omega)) ?_
                        refine lv_iload hx hb dL_singers_324 (lv_at hl 6 rfl) ?_
                        refine lv_icmp_eq (tgt := 331) hx hb dL_singers_326 (by decide) (fun c326 => ?_) (fun c326 => absurd rfl c326)
                        refine lv_iinc (v := (nI (j + 1))) (lv' := [(12, .int (nI (j + 1))), (11, .int (nI (lgF (doS S i) (j + 1)))), (10, .int (nI (rnF (doS S i) (j + 1)))), (8, .int (nI (dnQ S i 2 (j + 1)))), (9, .int (nI (dnQ S i 1 (j + 1)))), (7, .int (nI (dnQ S i 0 (j + 1)))), (6, .int (nI (lsN S i (j + 1)))), (5, .int (nI (lfN S i (j + 1)))), (17, .int (nI ((lfN S i j) + (tk (S 4 i))))), (16, .int (nI (tk (S 1 j)))), (15, .int (nI 3)), (14, .int (nI 0)), (0, .ref o), (1, .int (nI (cntF (presB S) i))), (2, .int (nI (suF (fun x => cntF (markB S x) (sB S)) i))), (3, .int (nI i)), (4, .int (nI (tk (S 3 i))))]) hx hb dL_singers_331 hl (k := 16) rfl (g_inc j 1) (by decide) rfl (fun ls hl => ?_)
                        refine lv_goto (tgt := 49) hx hb dL_singers_334 (by decide) ?_
                        exact ih_lpB (j + 1) (by omega) (by omega) τ_51 hW hag hL H locs ls hz hP hS (lv_sub hl [12, 13, 14, 15, 16, 7, 6, 5, 3, 4, 2, 1, 0] rfl)
                  · refine lv_iload hx hb dL_singers_214 (lv_at hl 8 rfl) ?_
                    refine lv_goto (tgt := 221) hx hb dL_singers_216 (by decide) ?_
                    refine g_top (y := (nI (lfN S i (j + 1)))) (congrArg nI (lf_b hY hil hjl hd0 (by omega))) ?_
                    have hlf := lfN_le hY (i := i) (k := j + 1) hil (by omega)
                    refine lv_istore (lv' := [(5, .int (nI (lfN S i (j + 1)))), (17, .int (nI ((lfN S i j) + (tk (S 4 i))))), (16, .int (nI (tk (S 1 j)))), (15, .int (nI 3)), (14, .int (nI 0)), (0, .ref o), (1, .int (nI (cntF (presB S) i))), (2, .int (nI (suF (fun x => cntF (markB S x) (sB S)) i))), (3, .int (nI i)), (4, .int (nI (tk (S 3 i)))), (6, .int (nI (lsN S i j))), (7, .int (nI (dnQ S i 0 j))), (8, .int (nI (dnQ S i 2 j))), (9, .int (nI (dnQ S i 1 j))), (10, .int (nI (rnF (doS S i) j))), (11, .int (nI (lgF (doS S i) j))), (12, .int (nI j))]) hx hb dL_singers_221 hl (by decide) rfl (fun ls hl => ?_)
                    refine lv_iload hx hb dL_singers_223 (lv_at hl 0 rfl) ?_
                    refine lv_iload hx hb dL_singers_225 (lv_at hl 10 rfl) ?_
                    refine g_icmp_ge (tgt := 235) (a := lfN S i (j + 1)) (b := lsN S i j) hx hb (by omega) (by omega) dL_singers_227 (by decide) (fun c227 => ?_) (fun c227 => ?_)
                    · refine lv_iload hx hb dL_singers_235 (lv_at hl 10 rfl) ?_
                      refine g_top (y := (nI (lsN S i (j + 1)))) (congrArg nI (ls_1 (by omega))) ?_
                      refine lv_istore (lv' := [(6, .int (nI (lsN S i (j + 1)))), (5, .int (nI (lfN S i (j + 1)))), (17, .int (nI ((lfN S i j) + (tk (S 4 i))))), (16, .int (nI (tk (S 1 j)))), (15, .int (nI 3)), (14, .int (nI 0)), (0, .ref o), (1, .int (nI (cntF (presB S) i))), (2, .int (nI (suF (fun x => cntF (markB S x) (sB S)) i))), (3, .int (nI i)), (4, .int (nI (tk (S 3 i)))), (7, .int (nI (dnQ S i 0 j))), (8, .int (nI (dnQ S i 2 j))), (9, .int (nI (dnQ S i 1 j))), (10, .int (nI (rnF (doS S i) j))), (11, .int (nI (lgF (doS S i) j))), (12, .int (nI j))]) hx hb dL_singers_237 hl (by decide) rfl (fun ls hl => ?_)
                      refine lv_iload hx hb dL_singers_239 (lv_at hl 11 rfl) ?_
                      refine lv_iload hx hb dL_singers_241 (lv_at hl 4 rfl) ?_
                      refine lv_if_ne (tgt := 250) hx hb dL_singers_243 (by decide) (fun c243 => ?_) (fun c243 => by first | exact absurd (by decide) c243 | exact absurd c243 (by decide))
                      refine lv_iconst (v := (nI 0)) hx hb dL_singers_250 (by decide) ?_
                      refine lv_iadd hx hb dL_singers_251 ?_
                      refine g_top (nI_add (dnQ S i 0 j) 0) ?_
                      refine g_top (y := (nI (dnQ S i 0 (j + 1)))) (congrArg nI (dn_f (by rw [hd]; decide))) ?_
                      refine lv_istore (lv' := [(7, .int (nI (dnQ S i 0 (j + 1)))), (6, .int (nI (lsN S i (j + 1)))), (5, .int (nI (lfN S i (j + 1)))), (17, .int (nI ((lfN S i j) + (tk (S 4 i))))), (16, .int (nI (tk (S 1 j)))), (15, .int (nI 3)), (14, .int (nI 0)), (0, .ref o), (1, .int (nI (cntF (presB S) i))), (2, .int (nI (suF (fun x => cntF (markB S x) (sB S)) i))), (3, .int (nI i)), (4, .int (nI (tk (S 3 i)))), (8, .int (nI (dnQ S i 2 j))), (9, .int (nI (dnQ S i 1 j))), (10, .int (nI (rnF (doS S i) j))), (11, .int (nI (lgF (doS S i) j))), (12, .int (nI j))]) hx hb dL_singers_252 hl (by decide) rfl (fun ls hl => ?_)
                      refine lv_iload hx hb dL_singers_254 (lv_at hl 13 rfl) ?_
                      refine lv_iload hx hb dL_singers_256 (lv_at hl 5 rfl) ?_
                      refine lv_iconst (v := (nI 1)) hx hb dL_singers_258 (by decide) ?_
                      refine lv_icmp_ne (tgt := 266) hx hb dL_singers_259 (by decide) (fun c259 => ?_) (fun c259 => by first | exact absurd (by decide) c259 | exact absurd c259 (by decide))
                      refine lv_iconst (v := (nI 0)) hx hb dL_singers_266 (by decide) ?_
                      refine lv_iadd hx hb dL_singers_267 ?_
                      refine g_top (nI_add (dnQ S i 1 j) 0) ?_
                      refine g_top (y := (nI (dnQ S i 1 (j + 1)))) (congrArg nI (dn_f (by rw [hd]; decide))) ?_
                      refine lv_istore (lv' := [(9, .int (nI (dnQ S i 1 (j + 1)))), (7, .int (nI (dnQ S i 0 (j + 1)))), (6, .int (nI (lsN S i (j + 1)))), (5, .int (nI (lfN S i (j + 1)))), (17, .int (nI ((lfN S i j) + (tk (S 4 i))))), (16, .int (nI (tk (S 1 j)))), (15, .int (nI 3)), (14, .int (nI 0)), (0, .ref o), (1, .int (nI (cntF (presB S) i))), (2, .int (nI (suF (fun x => cntF (markB S x) (sB S)) i))), (3, .int (nI i)), (4, .int (nI (tk (S 3 i)))), (8, .int (nI (dnQ S i 2 j))), (10, .int (nI (rnF (doS S i) j))), (11, .int (nI (lgF (doS S i) j))), (12, .int (nI j))]) hx hb dL_singers_268 hl (by decide) rfl (fun ls hl => ?_)
                      refine lv_iload hx hb dL_singers_270 (lv_at hl 13 rfl) ?_
                      refine lv_iload hx hb dL_singers_272 (lv_at hl 6 rfl) ?_
                      refine lv_iconst (v := (nI 2)) hx hb dL_singers_274 (by decide) ?_
                      refine lv_icmp_ne (tgt := 282) hx hb dL_singers_275 (by decide) (fun c275 => ?_) (fun c275 => by first | exact absurd (by decide) c275 | exact absurd c275 (by decide))
                      refine lv_iconst (v := (nI 0)) hx hb dL_singers_282 (by decide) ?_
                      refine lv_iadd hx hb dL_singers_283 ?_
                      refine g_top (nI_add (dnQ S i 2 j) 0) ?_
                      refine g_top (y := (nI (dnQ S i 2 (j + 1)))) (congrArg nI (dn_f (by rw [hd]; decide))) ?_
                      refine lv_istore (lv' := [(8, .int (nI (dnQ S i 2 (j + 1)))), (9, .int (nI (dnQ S i 1 (j + 1)))), (7, .int (nI (dnQ S i 0 (j + 1)))), (6, .int (nI (lsN S i (j + 1)))), (5, .int (nI (lfN S i (j + 1)))), (17, .int (nI ((lfN S i j) + (tk (S 4 i))))), (16, .int (nI (tk (S 1 j)))), (15, .int (nI 3)), (14, .int (nI 0)), (0, .ref o), (1, .int (nI (cntF (presB S) i))), (2, .int (nI (suF (fun x => cntF (markB S x) (sB S)) i))), (3, .int (nI i)), (4, .int (nI (tk (S 3 i)))), (10, .int (nI (rnF (doS S i) j))), (11, .int (nI (lgF (doS S i) j))), (12, .int (nI j))]) hx hb dL_singers_284 hl (by decide) rfl (fun ls hl => ?_)
                      refine lv_iload hx hb dL_singers_286 (lv_at hl 7 rfl) ?_
                      refine lv_if_ne (tgt := 298) hx hb dL_singers_288 (by decide) (fun c288 => ?_) (fun c288 => by first | exact absurd (by decide) c288 | exact absurd c288 (by decide))
                      refine lv_iconst (v := (nI 0)) hx hb dL_singers_298 (by decide) ?_
                      refine g_top (y := (nI (rnF (doS S i) (j + 1)))) (congrArg nI (rn_f hd0)) ?_
                      have hrn := rnF_le (doS S i) (j + 1)
                      refine lv_istore (lv' := [(10, .int (nI (rnF (doS S i) (j + 1)))), (8, .int (nI (dnQ S i 2 (j + 1)))), (9, .int (nI (dnQ S i 1 (j + 1)))), (7, .int (nI (dnQ S i 0 (j + 1)))), (6, .int (nI (lsN S i (j + 1)))), (5, .int (nI (lfN S i (j + 1)))), (17, .int (nI ((lfN S i j) + (tk (S 4 i))))), (16, .int (nI (tk (S 1 j)))), (15, .int (nI 3)), (14, .int (nI 0)), (0, .ref o), (1, .int (nI (cntF (presB S) i))), (2, .int (nI (suF (fun x => cntF (markB S x) (sB S)) i))), (3, .int (nI i)), (4, .int (nI (tk (S 3 i)))), (11, .int (nI (lgF (doS S i) j))), (12, .int (nI j))]) hx hb dL_singers_299 hl (by decide) rfl (fun ls hl => ?_)
                      refine lv_iload hx hb dL_singers_301 (lv_at hl 0 rfl) ?_
                      refine lv_iload hx hb dL_singers_303 (lv_at hl 15 rfl) ?_
                      refine g_icmp_le (tgt := 313) (a := rnF (doS S i) (j + 1)) (b := lgF (doS S i) j) hx hb (by omega) (by omega) dL_singers_305 (by decide) (fun c305 => ?_) (fun c305 => ?_)
                      · refine lv_iload hx hb dL_singers_313 (lv_at hl 15 rfl) ?_
                        refine g_top (y := (nI (lgF (doS S i) (j + 1)))) (congrArg nI (lg_1 (by omega))) ?_
                        refine lv_istore (lv' := [(11, .int (nI (lgF (doS S i) (j + 1)))), (10, .int (nI (rnF (doS S i) (j + 1)))), (8, .int (nI (dnQ S i 2 (j + 1)))), (9, .int (nI (dnQ S i 1 (j + 1)))), (7, .int (nI (dnQ S i 0 (j + 1)))), (6, .int (nI (lsN S i (j + 1)))), (5, .int (nI (lfN S i (j + 1)))), (17, .int (nI ((lfN S i j) + (tk (S 4 i))))), (16, .int (nI (tk (S 1 j)))), (15, .int (nI 3)), (14, .int (nI 0)), (0, .ref o), (1, .int (nI (cntF (presB S) i))), (2, .int (nI (suF (fun x => cntF (markB S x) (sB S)) i))), (3, .int (nI i)), (4, .int (nI (tk (S 3 i)))), (12, .int (nI j))]) hx hb dL_singers_315 hl (by decide) rfl (fun ls hl => ?_)
                        refine lv_aload_n hx hb dL_singers_317 rfl (lv_at hl 11 rfl) ?_
                        refine lv_iload_n hx hb dL_singers_318 rfl (lv_at hl 14 rfl) ?_
                        refine lv_iload hx hb dL_singers_319 (lv_at hl 16 rfl) ?_
                        refine g_runV (As := [.int (nI i), .int (nI j)]) (rest := []) (own := RL) (C := RX7) (T := TX7) (N := 7) 2 hx hb hml hown hts hK hz hP hL hS hlo hl.1 (c_X7_left l o b S tf tn P C kp zp ((nI i)) ((nI j))  τ_47 sz hW hY.1.1 ) gL_singers_X7_left rfl rfl rfl (by decide +kernel) ⟨Nat.le_of_ble_eq_true rfl, Nat.le_of_ble_eq_true rfl⟩ hW.c0 rfl rfl rfl (Nat.le_of_ble_eq_true rfl) dL_singers_321 ⟨Nat.le_of_ble_eq_true rfl, Nat.le_of_ble_eq_true rfl⟩ (g_kxi0 (fun r_52 τ_52 H locs z_52 hz hp hP hL hS => ?_))
                        obtain ⟨hr_52, hW, hz_52, ha_52⟩ := hp
                        have hz := hz.trans hz_52
                        subst hr_52
                        have hag := hag.tr ha_52 (fun q h => h)
                        have hlf := lfN_le hY (i := i) (k := j + 1) (by omega) (by omega)
                        refine g_top (y := (nI (lfN S i (j + 1)))) (yl hY (by omega) (by omega)) ?_
                        refine lv_iload hx hb dL_singers_324 (lv_at hl 6 rfl) ?_
                        refine lv_icmp_eq (tgt := 331) hx hb dL_singers_326 (by decide) (fun c326 => ?_) (fun c326 => absurd rfl c326)
                        refine lv_iinc (v := (nI (j + 1))) (lv' := [(12, .int (nI (j + 1))), (11, .int (nI (lgF (doS S i) (j + 1)))), (10, .int (nI (rnF (doS S i) (j + 1)))), (8, .int (nI (dnQ S i 2 (j + 1)))), (9, .int (nI (dnQ S i 1 (j + 1)))), (7, .int (nI (dnQ S i 0 (j + 1)))), (6, .int (nI (lsN S i (j + 1)))), (5, .int (nI (lfN S i (j + 1)))), (17, .int (nI ((lfN S i j) + (tk (S 4 i))))), (16, .int (nI (tk (S 1 j)))), (15, .int (nI 3)), (14, .int (nI 0)), (0, .ref o), (1, .int (nI (cntF (presB S) i))), (2, .int (nI (suF (fun x => cntF (markB S x) (sB S)) i))), (3, .int (nI i)), (4, .int (nI (tk (S 3 i))))]) hx hb dL_singers_331 hl (k := 16) rfl (g_inc j 1) (by decide) rfl (fun ls hl => ?_)
                        refine lv_goto (tgt := 49) hx hb dL_singers_334 (by decide) ?_
                        exact ih_lpB (j + 1) (by omega) (by omega) τ_52 hW hag hL H locs ls hz hP hS (lv_sub hl [12, 13, 14, 15, 16, 7, 6, 5, 3, 4, 2, 1, 0] rfl)
                      · refine lv_iload hx hb dL_singers_308 (lv_at hl 0 rfl) ?_
                        refine lv_goto (tgt := 315) hx hb dL_singers_310 (by decide) ?_
                        refine g_top (y := (nI (lgF (doS S i) (j + 1)))) (congrArg nI (lg_2 (by omega))) ?_
                        refine lv_istore (lv' := [(11, .int (nI (lgF (doS S i) (j + 1)))), (10, .int (nI (rnF (doS S i) (j + 1)))), (8, .int (nI (dnQ S i 2 (j + 1)))), (9, .int (nI (dnQ S i 1 (j + 1)))), (7, .int (nI (dnQ S i 0 (j + 1)))), (6, .int (nI (lsN S i (j + 1)))), (5, .int (nI (lfN S i (j + 1)))), (17, .int (nI ((lfN S i j) + (tk (S 4 i))))), (16, .int (nI (tk (S 1 j)))), (15, .int (nI 3)), (14, .int (nI 0)), (0, .ref o), (1, .int (nI (cntF (presB S) i))), (2, .int (nI (suF (fun x => cntF (markB S x) (sB S)) i))), (3, .int (nI i)), (4, .int (nI (tk (S 3 i)))), (12, .int (nI j))]) hx hb dL_singers_315 hl (by decide) rfl (fun ls hl => ?_)
                        refine lv_aload_n hx hb dL_singers_317 rfl (lv_at hl 11 rfl) ?_
                        refine lv_iload_n hx hb dL_singers_318 rfl (lv_at hl 14 rfl) ?_
                        refine lv_iload hx hb dL_singers_319 (lv_at hl 16 rfl) ?_
                        refine g_runV (As := [.int (nI i), .int (nI j)]) (rest := []) (own := RL) (C := RX7) (T := TX7) (N := 7) 2 hx hb hml hown hts hK hz hP hL hS hlo hl.1 (c_X7_left l o b S tf tn P C kp zp ((nI i)) ((nI j))  τ_47 sz hW hY.1.1 ) gL_singers_X7_left rfl rfl rfl (by decide +kernel) ⟨Nat.le_of_ble_eq_true rfl, Nat.le_of_ble_eq_true rfl⟩ hW.c0 rfl rfl rfl (Nat.le_of_ble_eq_true rfl) dL_singers_321 ⟨Nat.le_of_ble_eq_true rfl, Nat.le_of_ble_eq_true rfl⟩ (g_kxi0 (fun r_53 τ_53 H locs z_53 hz hp hP hL hS => ?_))
                        obtain ⟨hr_53, hW, hz_53, ha_53⟩ := hp
                        have hz := hz.trans hz_53
                        subst hr_53
                        have hag := hag.tr ha_53 (fun q h => h)
                        have hlf := lfN_le hY (i := i) (k := j + 1) (by omega) (by omega)
                        refine g_top (y := (nI (lfN S i (j + 1)))) (yl hY (by omega) (by omega)) ?_
                        refine lv_iload hx hb dL_singers_324 (lv_at hl 6 rfl) ?_
                        refine lv_icmp_eq (tgt := 331) hx hb dL_singers_326 (by decide) (fun c326 => ?_) (fun c326 => absurd rfl c326)
                        refine lv_iinc (v := (nI (j + 1))) (lv' := [(12, .int (nI (j + 1))), (11, .int (nI (lgF (doS S i) (j + 1)))), (10, .int (nI (rnF (doS S i) (j + 1)))), (8, .int (nI (dnQ S i 2 (j + 1)))), (9, .int (nI (dnQ S i 1 (j + 1)))), (7, .int (nI (dnQ S i 0 (j + 1)))), (6, .int (nI (lsN S i (j + 1)))), (5, .int (nI (lfN S i (j + 1)))), (17, .int (nI ((lfN S i j) + (tk (S 4 i))))), (16, .int (nI (tk (S 1 j)))), (15, .int (nI 3)), (14, .int (nI 0)), (0, .ref o), (1, .int (nI (cntF (presB S) i))), (2, .int (nI (suF (fun x => cntF (markB S x) (sB S)) i))), (3, .int (nI i)), (4, .int (nI (tk (S 3 i))))]) hx hb dL_singers_331 hl (k := 16) rfl (g_inc j 1) (by decide) rfl (fun ls hl => ?_)
                        refine lv_goto (tgt := 49) hx hb dL_singers_334 (by decide) ?_
                        exact ih_lpB (j + 1) (by omega) (by omega) τ_53 hW hag hL H locs ls hz hP hS (lv_sub hl [12, 13, 14, 15, 16, 7, 6, 5, 3, 4, 2, 1, 0] rfl)
                    · refine lv_iload hx hb dL_singers_230 (lv_at hl 0 rfl) ?_
                      refine lv_goto (tgt := 237) hx hb dL_singers_232 (by decide) ?_
                      refine g_top (y := (nI (lsN S i (j + 1)))) (congrArg nI (ls_2 (by omega))) ?_
                      refine lv_istore (lv' := [(6, .int (nI (lsN S i (j + 1)))), (5, .int (nI (lfN S i (j + 1)))), (17, .int (nI ((lfN S i j) + (tk (S 4 i))))), (16, .int (nI (tk (S 1 j)))), (15, .int (nI 3)), (14, .int (nI 0)), (0, .ref o), (1, .int (nI (cntF (presB S) i))), (2, .int (nI (suF (fun x => cntF (markB S x) (sB S)) i))), (3, .int (nI i)), (4, .int (nI (tk (S 3 i)))), (7, .int (nI (dnQ S i 0 j))), (8, .int (nI (dnQ S i 2 j))), (9, .int (nI (dnQ S i 1 j))), (10, .int (nI (rnF (doS S i) j))), (11, .int (nI (lgF (doS S i) j))), (12, .int (nI j))]) hx hb dL_singers_237 hl (by decide) rfl (fun ls hl => ?_)
                      refine lv_iload hx hb dL_singers_239 (lv_at hl 11 rfl) ?_
                      refine lv_iload hx hb dL_singers_241 (lv_at hl 4 rfl) ?_
                      refine lv_if_ne (tgt := 250) hx hb dL_singers_243 (by decide) (fun c243 => ?_) (fun c243 => by first | exact absurd (by decide) c243 | exact absurd c243 (by decide))
                      refine lv_iconst (v := (nI 0)) hx hb dL_singers_250 (by decide) ?_
                      refine lv_iadd hx hb dL_singers_251 ?_
                      refine g_top (nI_add (dnQ S i 0 j) 0) ?_
                      refine g_top (y := (nI (dnQ S i 0 (j + 1)))) (congrArg nI (dn_f (by rw [hd]; decide))) ?_
                      refine lv_istore (lv' := [(7, .int (nI (dnQ S i 0 (j + 1)))), (6, .int (nI (lsN S i (j + 1)))), (5, .int (nI (lfN S i (j + 1)))), (17, .int (nI ((lfN S i j) + (tk (S 4 i))))), (16, .int (nI (tk (S 1 j)))), (15, .int (nI 3)), (14, .int (nI 0)), (0, .ref o), (1, .int (nI (cntF (presB S) i))), (2, .int (nI (suF (fun x => cntF (markB S x) (sB S)) i))), (3, .int (nI i)), (4, .int (nI (tk (S 3 i)))), (8, .int (nI (dnQ S i 2 j))), (9, .int (nI (dnQ S i 1 j))), (10, .int (nI (rnF (doS S i) j))), (11, .int (nI (lgF (doS S i) j))), (12, .int (nI j))]) hx hb dL_singers_252 hl (by decide) rfl (fun ls hl => ?_)
                      refine lv_iload hx hb dL_singers_254 (lv_at hl 13 rfl) ?_
                      refine lv_iload hx hb dL_singers_256 (lv_at hl 5 rfl) ?_
                      refine lv_iconst (v := (nI 1)) hx hb dL_singers_258 (by decide) ?_
                      refine lv_icmp_ne (tgt := 266) hx hb dL_singers_259 (by decide) (fun c259 => ?_) (fun c259 => by first | exact absurd (by decide) c259 | exact absurd c259 (by decide))
                      refine lv_iconst (v := (nI 0)) hx hb dL_singers_266 (by decide) ?_
                      refine lv_iadd hx hb dL_singers_267 ?_
                      refine g_top (nI_add (dnQ S i 1 j) 0) ?_
                      refine g_top (y := (nI (dnQ S i 1 (j + 1)))) (congrArg nI (dn_f (by rw [hd]; decide))) ?_
                      refine lv_istore (lv' := [(9, .int (nI (dnQ S i 1 (j + 1)))), (7, .int (nI (dnQ S i 0 (j + 1)))), (6, .int (nI (lsN S i (j + 1)))), (5, .int (nI (lfN S i (j + 1)))), (17, .int (nI ((lfN S i j) + (tk (S 4 i))))), (16, .int (nI (tk (S 1 j)))), (15, .int (nI 3)), (14, .int (nI 0)), (0, .ref o), (1, .int (nI (cntF (presB S) i))), (2, .int (nI (suF (fun x => cntF (markB S x) (sB S)) i))), (3, .int (nI i)), (4, .int (nI (tk (S 3 i)))), (8, .int (nI (dnQ S i 2 j))), (10, .int (nI (rnF (doS S i) j))), (11, .int (nI (lgF (doS S i) j))), (12, .int (nI j))]) hx hb dL_singers_268 hl (by decide) rfl (fun ls hl => ?_)
                      refine lv_iload hx hb dL_singers_270 (lv_at hl 13 rfl) ?_
                      refine lv_iload hx hb dL_singers_272 (lv_at hl 6 rfl) ?_
                      refine lv_iconst (v := (nI 2)) hx hb dL_singers_274 (by decide) ?_
                      refine lv_icmp_ne (tgt := 282) hx hb dL_singers_275 (by decide) (fun c275 => ?_) (fun c275 => by first | exact absurd (by decide) c275 | exact absurd c275 (by decide))
                      refine lv_iconst (v := (nI 0)) hx hb dL_singers_282 (by decide) ?_
                      refine lv_iadd hx hb dL_singers_283 ?_
                      refine g_top (nI_add (dnQ S i 2 j) 0) ?_
                      refine g_top (y := (nI (dnQ S i 2 (j + 1)))) (congrArg nI (dn_f (by rw [hd]; decide))) ?_
                      refine lv_istore (lv' := [(8, .int (nI (dnQ S i 2 (j + 1)))), (9, .int (nI (dnQ S i 1 (j + 1)))), (7, .int (nI (dnQ S i 0 (j + 1)))), (6, .int (nI (lsN S i (j + 1)))), (5, .int (nI (lfN S i (j + 1)))), (17, .int (nI ((lfN S i j) + (tk (S 4 i))))), (16, .int (nI (tk (S 1 j)))), (15, .int (nI 3)), (14, .int (nI 0)), (0, .ref o), (1, .int (nI (cntF (presB S) i))), (2, .int (nI (suF (fun x => cntF (markB S x) (sB S)) i))), (3, .int (nI i)), (4, .int (nI (tk (S 3 i)))), (10, .int (nI (rnF (doS S i) j))), (11, .int (nI (lgF (doS S i) j))), (12, .int (nI j))]) hx hb dL_singers_284 hl (by decide) rfl (fun ls hl => ?_)
                      refine lv_iload hx hb dL_singers_286 (lv_at hl 7 rfl) ?_
                      refine lv_if_ne (tgt := 298) hx hb dL_singers_288 (by decide) (fun c288 => ?_) (fun c288 => by first | exact absurd (by decide) c288 | exact absurd c288 (by decide))
                      refine lv_iconst (v := (nI 0)) hx hb dL_singers_298 (by decide) ?_
                      refine g_top (y := (nI (rnF (doS S i) (j + 1)))) (congrArg nI (rn_f hd0)) ?_
                      have hrn := rnF_le (doS S i) (j + 1)
                      refine lv_istore (lv' := [(10, .int (nI (rnF (doS S i) (j + 1)))), (8, .int (nI (dnQ S i 2 (j + 1)))), (9, .int (nI (dnQ S i 1 (j + 1)))), (7, .int (nI (dnQ S i 0 (j + 1)))), (6, .int (nI (lsN S i (j + 1)))), (5, .int (nI (lfN S i (j + 1)))), (17, .int (nI ((lfN S i j) + (tk (S 4 i))))), (16, .int (nI (tk (S 1 j)))), (15, .int (nI 3)), (14, .int (nI 0)), (0, .ref o), (1, .int (nI (cntF (presB S) i))), (2, .int (nI (suF (fun x => cntF (markB S x) (sB S)) i))), (3, .int (nI i)), (4, .int (nI (tk (S 3 i)))), (11, .int (nI (lgF (doS S i) j))), (12, .int (nI j))]) hx hb dL_singers_299 hl (by decide) rfl (fun ls hl => ?_)
                      refine lv_iload hx hb dL_singers_301 (lv_at hl 0 rfl) ?_
                      refine lv_iload hx hb dL_singers_303 (lv_at hl 15 rfl) ?_
                      refine g_icmp_le (tgt := 313) (a := rnF (doS S i) (j + 1)) (b := lgF (doS S i) j) hx hb (by omega) (by omega) dL_singers_305 (by decide) (fun c305 => ?_) (fun c305 => ?_)
                      · refine lv_iload hx hb dL_singers_313 (lv_at hl 15 rfl) ?_
                        refine g_top (y := (nI (lgF (doS S i) (j + 1)))) (congrArg nI (lg_1 (by omega))) ?_
                        refine lv_istore (lv' := [(11, .int (nI (lgF (doS S i) (j + 1)))), (10, .int (nI (rnF (doS S i) (j + 1)))), (8, .int (nI (dnQ S i 2 (j + 1)))), (9, .int (nI (dnQ S i 1 (j + 1)))), (7, .int (nI (dnQ S i 0 (j + 1)))), (6, .int (nI (lsN S i (j + 1)))), (5, .int (nI (lfN S i (j + 1)))), (17, .int (nI ((lfN S i j) + (tk (S 4 i))))), (16, .int (nI (tk (S 1 j)))), (15, .int (nI 3)), (14, .int (nI 0)), (0, .ref o), (1, .int (nI (cntF (presB S) i))), (2, .int (nI (suF (fun x => cntF (markB S x) (sB S)) i))), (3, .int (nI i)), (4, .int (nI (tk (S 3 i)))), (12, .int (nI j))]) hx hb dL_singers_315 hl (by decide) rfl (fun ls hl => ?_)
                        refine lv_aload_n hx hb dL_singers_317 rfl (lv_at hl 11 rfl) ?_
                        refine lv_iload_n hx hb dL_singers_318 rfl (lv_at hl 14 rfl) ?_
                        refine lv_iload hx hb dL_singers_319 (lv_at hl 16 rfl) ?_
                        refine g_runV (As := [.int (nI i), .int (nI j)]) (rest := []) (own := RL) (C := RX7) (T := TX7) (N := 7) 2 hx hb hml hown hts hK hz hP hL hS hlo hl.1 (c_X7_left l o b S tf tn P C kp zp ((nI i)) ((nI j))  τ_47 sz hW hY.1.1 ) gL_singers_X7_left rfl rfl rfl (by decide +kernel) ⟨Nat.le_of_ble_eq_true rfl, Nat.le_of_ble_eq_true rfl⟩ hW.c0 rfl rfl rfl (Nat.le_of_ble_eq_true rfl) dL_singers_321 ⟨Nat.le_of_ble_eq_true rfl, Nat.le_of_ble_eq_true rfl⟩ (g_kxi0 (fun r_54 τ_54 H locs z_54 hz hp hP hL hS => ?_))
                        obtain ⟨hr_54, hW, hz_54, ha_54⟩ := hp
                        have hz := hz.trans hz_54
                        subst hr_54
                        have hag := hag.tr ha_54 (fun q h => h)
                        have hlf := lfN_le hY (i := i) (k := j + 1) (by omega) (by omega)
                        refine g_top (y := (nI (lfN S i (j + 1)))) (yl hY (by omega) (by omega)) ?_
                        refine lv_iload hx hb dL_singers_324 (lv_at hl 6 rfl) ?_
                        refine lv_icmp_eq (tgt := 331) hx hb dL_singers_326 (by decide) (fun c326 => ?_) (fun c326 => absurd rfl c326)
                        refine lv_iinc (v := (nI (j + 1))) (lv' := [(12, .int (nI (j + 1))), (11, .int (nI (lgF (doS S i) (j + 1)))), (10, .int (nI (rnF (doS S i) (j + 1)))), (8, .int (nI (dnQ S i 2 (j + 1)))), (9, .int (nI (dnQ S i 1 (j + 1)))), (7, .int (nI (dnQ S i 0 (j + 1)))), (6, .int (nI (lsN S i (j + 1)))), (5, .int (nI (lfN S i (j + 1)))), (17, .int (nI ((lfN S i j) + (tk (S 4 i))))), (16, .int (nI (tk (S 1 j)))), (15, .int (nI 3)), (14, .int (nI 0)), (0, .ref o), (1, .int (nI (cntF (presB S) i))), (2, .int (nI (suF (fun x => cntF (markB S x) (sB S)) i))), (3, .int (nI i)), (4, .int (nI (tk (S 3 i))))]) hx hb dL_singers_331 hl (k := 16) rfl (g_inc j 1) (by decide) rfl (fun ls hl => ?_)
                        refine lv_goto (tgt := 49) hx hb dL_singers_334 (by decide) ?_
                        exact ih_lpB (j + 1) (by omega) (by omega) τ_54 hW hag hL H locs ls hz hP hS (lv_sub hl [12, 13, 14, 15, 16, 7, 6, 5, 3, 4, 2, 1, 0] rfl)
                      · refine lv_iload hx hb dL_singers_308 (lv_at hl 0 rfl) ?_
                        refine lv_goto (tgt := 315) hx hb dL_singers_310 (by decide) ?_
                        refine g_top (y := (nI (lgF (doS S i) (j + 1)))) (congrArg nI (lg_2 (by omega))) ?_
                        refine lv_istore (lv' := [(11, .int (nI (lgF (doS S i) (j + 1)))), (10, .int (nI (rnF (doS S i) (j + 1)))), (8, .int (nI (dnQ S i 2 (j + 1)))), (9, .int (nI (dnQ S i 1 (j + 1)))), (7, .int (nI (dnQ S i 0 (j + 1)))), (6, .int (nI (lsN S i (j + 1)))), (5, .int (nI (lfN S i (j + 1)))), (17, .int (nI ((lfN S i j) + (tk (S 4 i))))), (16, .int (nI (tk (S 1 j)))), (15, .int (nI 3)), (14, .int (nI 0)), (0, .ref o), (1, .int (nI (cntF (presB S) i))), (2, .int (nI (suF (fun x => cntF (markB S x) (sB S)) i))), (3, .int (nI i)), (4, .int (nI (tk (S 3 i)))), (12, .int (nI j))]) hx hb dL_singers_315 hl (by decide) rfl (fun ls hl => ?_)
                        refine lv_aload_n hx hb dL_singers_317 rfl (lv_at hl 11 rfl) ?_
                        refine lv_iload_n hx hb dL_singers_318 rfl (lv_at hl 14 rfl) ?_
                        refine lv_iload hx hb dL_singers_319 (lv_at hl 16 rfl) ?_
                        refine g_runV (As := [.int (nI i), .int (nI j)]) (rest := []) (own := RL) (C := RX7) (T := TX7) (N := 7) 2 hx hb hml hown hts hK hz hP hL hS hlo hl.1 (c_X7_left l o b S tf tn P C kp zp ((nI i)) ((nI j))  τ_47 sz hW hY.1.1 ) gL_singers_X7_left rfl rfl rfl (by decide +kernel) ⟨Nat.le_of_ble_eq_true rfl, Nat.le_of_ble_eq_true rfl⟩ hW.c0 rfl rfl rfl (Nat.le_of_ble_eq_true rfl) dL_singers_321 ⟨Nat.le_of_ble_eq_true rfl, Nat.le_of_ble_eq_true rfl⟩ (g_kxi0 (fun r_55 τ_55 H locs z_55 hz hp hP hL hS => ?_))
                        obtain ⟨hr_55, hW, hz_55, ha_55⟩ := hp
                        have hz := hz.trans hz_55
                        subst hr_55
                        have hag := hag.tr ha_55 (fun q h => h)
                        have hlf := lfN_le hY (i := i) (k := j + 1) (by omega) (by omega)
                        refine g_top (y := (nI (lfN S i (j + 1)))) (yl hY (by omega) (by omega)) ?_
                        refine lv_iload hx hb dL_singers_324 (lv_at hl 6 rfl) ?_
                        refine lv_icmp_eq (tgt := 331) hx hb dL_singers_326 (by decide) (fun c326 => ?_) (fun c326 => absurd rfl c326)
                        refine lv_iinc (v := (nI (j + 1))) (lv' := [(12, .int (nI (j + 1))), (11, .int (nI (lgF (doS S i) (j + 1)))), (10, .int (nI (rnF (doS S i) (j + 1)))), (8, .int (nI (dnQ S i 2 (j + 1)))), (9, .int (nI (dnQ S i 1 (j + 1)))), (7, .int (nI (dnQ S i 0 (j + 1)))), (6, .int (nI (lsN S i (j + 1)))), (5, .int (nI (lfN S i (j + 1)))), (17, .int (nI ((lfN S i j) + (tk (S 4 i))))), (16, .int (nI (tk (S 1 j)))), (15, .int (nI 3)), (14, .int (nI 0)), (0, .ref o), (1, .int (nI (cntF (presB S) i))), (2, .int (nI (suF (fun x => cntF (markB S x) (sB S)) i))), (3, .int (nI i)), (4, .int (nI (tk (S 3 i))))]) hx hb dL_singers_331 hl (k := 16) rfl (g_inc j 1) (by decide) rfl (fun ls hl => ?_)
                        refine lv_goto (tgt := 49) hx hb dL_singers_334 (by decide) ?_
                        exact ih_lpB (j + 1) (by omega) (by omega) τ_55 hW hag hL H locs ls hz hP hS (lv_sub hl [12, 13, 14, 15, 16, 7, 6, 5, 3, 4, 2, 1, 0] rfl)
              refine lv_aload_n hx hb dL_singers_59 rfl (lv_at hl 0 rfl) ?_
              refine lv_iload hx hb dL_singers_60 (lv_at hl 12 rfl) ?_
              refine lv_iconst (v := (nI 4)) hx hb dL_singers_62 (by decide) ?_
              refine g_runV (As := [.int (nI j), .int (nI 4)]) (rest := []) (own := RL) (C := RX7) (T := TX7) (N := 7) 2 hx hb hml hown hts hK hz hP hL hS hlo hl.1 (c_X7_beat l o b S tf tn P C kp zp ((nI j)) ((nI 4))  τ_7 sz hW hY.1.1 ) gL_singers_X7_beat rfl rfl rfl (by decide +kernel) ⟨Nat.le_of_ble_eq_true rfl, Nat.le_of_ble_eq_true rfl⟩ hW.c0 rfl rfl rfl (Nat.le_of_ble_eq_true rfl) dL_singers_63 ⟨Nat.le_of_ble_eq_true rfl, Nat.le_of_ble_eq_true rfl⟩ (g_kxi0 (fun r_56 τ_56 H locs z_56 hz hp hP hL hS => ?_))
              obtain ⟨hr_56, hW, hz_56, ha_56⟩ := hp
              have hz := hz.trans hz_56
              subst hr_56
              have hag := hag.tr ha_56 (fun q h => h)
              refine g_top (y := (oI (soloF S j))) (yb_4 hY (by omega)) ?_
              rcases hso : soloF S j with _ | k
              · refine g_top (y := -5) rfl ?_
                refine lv_istore (lv' := [(13, .int (-5)), (0, .ref o), (1, .int (nI (cntF (presB S) i))), (2, .int (nI (suF (fun x => cntF (markB S x) (sB S)) i))), (3, .int (nI i)), (4, .int (nI (tk (S 3 i)))), (5, .int (nI (lfN S i j))), (6, .int (nI (lsN S i j))), (7, .int (nI (dnQ S i 0 j))), (8, .int (nI (dnQ S i 2 j))), (9, .int (nI (dnQ S i 1 j))), (10, .int (nI (rnF (doS S i) j))), (11, .int (nI (lgF (doS S i) j))), (12, .int (nI j))]) hx hb dL_singers_66 hl (by decide) rfl (fun ls hl => ?_)
                refine lv_aload_n hx hb dL_singers_68 rfl (lv_at hl 1 rfl) ?_
                refine lv_iload hx hb dL_singers_69 (lv_at hl 13 rfl) ?_
                refine lv_iconst (v := (nI 0)) hx hb dL_singers_71 (by decide) ?_
                refine g_runV (As := [.int (nI j), .int (nI 0)]) (rest := []) (own := RL) (C := RX7) (T := TX7) (N := 7) 2 hx hb hml hown hts hK hz hP hL hS hlo hl.1 (c_X7_beat l o b S tf tn P C kp zp ((nI j)) ((nI 0))  τ_56 sz hW hY.1.1 ) gL_singers_X7_beat rfl rfl rfl (by decide +kernel) ⟨Nat.le_of_ble_eq_true rfl, Nat.le_of_ble_eq_true rfl⟩ hW.c0 rfl rfl rfl (Nat.le_of_ble_eq_true rfl) dL_singers_72 ⟨Nat.le_of_ble_eq_true rfl, Nat.le_of_ble_eq_true rfl⟩ (g_kxi0 (fun r_57 τ_57 H locs z_57 hz hp hP hL hS => ?_))
                obtain ⟨hr_57, hW, hz_57, ha_57⟩ := hp
                have hz := hz.trans hz_57
                subst hr_57
                have hag := hag.tr ha_57 (fun q h => h)
                have hxso := hY.so (b := j) (by omega)
                refine g_top (y := (nI (tk (S 0 j)))) (yb_0 hY (by omega)) ?_
                refine g_if_le (tgt := 108) hx hb (by omega) dL_singers_75 (by decide) (fun c75 => ?_) (fun c75 => ?_)
                · refine lv_iconst (v := (nI 0)) hx hb dL_singers_108 (by decide) ?_
                  refine g_top (y := bI (toSing S i j)) (by rw [ts_0 hY hjl c75]; rfl) ?_
                  exact jn τ_57 hW hag hL H locs ls hz hP hS (lv_sub hl [1, 2, 3, 4, 5, 6, 7, 8, 9, 10, 11, 12, 13] rfl)
                · refine lv_aload_n hx hb dL_singers_78 rfl (lv_at hl 1 rfl) ?_
                  refine lv_iload_n hx hb dL_singers_79 rfl (lv_at hl 4 rfl) ?_
                  refine lv_iconst (v := (nI 2)) hx hb dL_singers_80 (by decide) ?_
                  refine g_runV (As := [.int (nI i), .int (nI 2)]) (rest := []) (own := RL) (C := RX7) (T := TX7) (N := 7) 2 hx hb hml hown hts hK hz hP hL hS hlo hl.1 (c_X7_singer l o b S tf tn P C kp zp ((nI i)) ((nI 2))  τ_57 sz hW hY.1.1 ) gL_singers_X7_singer rfl rfl rfl (by decide +kernel) ⟨Nat.le_of_ble_eq_true rfl, Nat.le_of_ble_eq_true rfl⟩ hW.c0 rfl rfl rfl (Nat.le_of_ble_eq_true rfl) dL_singers_81 ⟨Nat.le_of_ble_eq_true rfl, Nat.le_of_ble_eq_true rfl⟩ (g_kxi0 (fun r_58 τ_58 H locs z_58 hz hp hP hL hS => ?_))
                  obtain ⟨hr_58, hW, hz_58, ha_58⟩ := hp
                  have hz := hz.trans hz_58
                  subst hr_58
                  have hag := hag.tr ha_58 (fun q h => h)
                  have hpb := Bool.toNat_le (presB S i)
                  refine g_top (y := (nI ((presB S i).toNat))) (yn_2 hY (by omega)) ?_
                  refine lv_iconst (v := (nI 1)) hx hb dL_singers_84 (by decide) ?_
                  refine g_icmp_ne (tgt := 108) (a := (presB S i).toNat) (b := 1) hx hb (by omega) (by omega) dL_singers_85 (by decide) (fun c85 => ?_) (fun c85 => ?_)
                  · refine lv_iconst (v := (nI 0)) hx hb dL_singers_108 (by decide) ?_
                    refine g_top (y := bI (toSing S i j)) (by rw [ts_1 hY hjl c85]; rfl) ?_
                    exact jn τ_58 hW hag hL H locs ls hz hP hS (lv_sub hl [1, 2, 3, 4, 5, 6, 7, 8, 9, 10, 11, 12, 13] rfl)
                  · refine lv_iload hx hb dL_singers_88 (lv_at hl 0 rfl) ?_
                    refine lv_if_lt (tgt := 104) hx hb dL_singers_90 (by decide) (fun c90 => ?_) (fun c90 => by first | exact absurd (by decide) c90 | exact absurd c90 (by decide))
                    refine lv_iconst (v := (nI 1)) hx hb dL_singers_104 (by decide) ?_
                    refine lv_goto (tgt := 109) hx hb dL_singers_105 (by decide) ?_
                    refine g_top (y := bI (toSing S i j)) (by rw [ts_n hY hjl c75 c85 hso]; rfl) ?_
                    exact jn τ_58 hW hag hL H locs ls hz hP hS (lv_sub hl [1, 2, 3, 4, 5, 6, 7, 8, 9, 10, 11, 12, 13] rfl)
              · refine g_top (y := nI k) rfl ?_
                have hk := soloF_lt hso
                refine lv_istore (lv' := [(13, .int (nI k)), (0, .ref o), (1, .int (nI (cntF (presB S) i))), (2, .int (nI (suF (fun x => cntF (markB S x) (sB S)) i))), (3, .int (nI i)), (4, .int (nI (tk (S 3 i)))), (5, .int (nI (lfN S i j))), (6, .int (nI (lsN S i j))), (7, .int (nI (dnQ S i 0 j))), (8, .int (nI (dnQ S i 2 j))), (9, .int (nI (dnQ S i 1 j))), (10, .int (nI (rnF (doS S i) j))), (11, .int (nI (lgF (doS S i) j))), (12, .int (nI j))]) hx hb dL_singers_66 hl (by decide) rfl (fun ls hl => ?_)
                refine lv_aload_n hx hb dL_singers_68 rfl (lv_at hl 1 rfl) ?_
                refine lv_iload hx hb dL_singers_69 (lv_at hl 13 rfl) ?_
                refine lv_iconst (v := (nI 0)) hx hb dL_singers_71 (by decide) ?_
                refine g_runV (As := [.int (nI j), .int (nI 0)]) (rest := []) (own := RL) (C := RX7) (T := TX7) (N := 7) 2 hx hb hml hown hts hK hz hP hL hS hlo hl.1 (c_X7_beat l o b S tf tn P C kp zp ((nI j)) ((nI 0))  τ_56 sz hW hY.1.1 ) gL_singers_X7_beat rfl rfl rfl (by decide +kernel) ⟨Nat.le_of_ble_eq_true rfl, Nat.le_of_ble_eq_true rfl⟩ hW.c0 rfl rfl rfl (Nat.le_of_ble_eq_true rfl) dL_singers_72 ⟨Nat.le_of_ble_eq_true rfl, Nat.le_of_ble_eq_true rfl⟩ (g_kxi0 (fun r_59 τ_59 H locs z_59 hz hp hP hL hS => ?_))
                obtain ⟨hr_59, hW, hz_59, ha_59⟩ := hp
                have hz := hz.trans hz_59
                subst hr_59
                have hag := hag.tr ha_59 (fun q h => h)
                have hxso := hY.so (b := j) (by omega)
                refine g_top (y := (nI (tk (S 0 j)))) (yb_0 hY (by omega)) ?_
                refine g_if_le (tgt := 108) hx hb (by omega) dL_singers_75 (by decide) (fun c75 => ?_) (fun c75 => ?_)
                · refine lv_iconst (v := (nI 0)) hx hb dL_singers_108 (by decide) ?_
                  refine g_top (y := bI (toSing S i j)) (by rw [ts_0 hY hjl c75]; rfl) ?_
                  exact jn τ_59 hW hag hL H locs ls hz hP hS (lv_sub hl [1, 2, 3, 4, 5, 6, 7, 8, 9, 10, 11, 12, 13] rfl)
                · refine lv_aload_n hx hb dL_singers_78 rfl (lv_at hl 1 rfl) ?_
                  refine lv_iload_n hx hb dL_singers_79 rfl (lv_at hl 4 rfl) ?_
                  refine lv_iconst (v := (nI 2)) hx hb dL_singers_80 (by decide) ?_
                  refine g_runV (As := [.int (nI i), .int (nI 2)]) (rest := []) (own := RL) (C := RX7) (T := TX7) (N := 7) 2 hx hb hml hown hts hK hz hP hL hS hlo hl.1 (c_X7_singer l o b S tf tn P C kp zp ((nI i)) ((nI 2))  τ_59 sz hW hY.1.1 ) gL_singers_X7_singer rfl rfl rfl (by decide +kernel) ⟨Nat.le_of_ble_eq_true rfl, Nat.le_of_ble_eq_true rfl⟩ hW.c0 rfl rfl rfl (Nat.le_of_ble_eq_true rfl) dL_singers_81 ⟨Nat.le_of_ble_eq_true rfl, Nat.le_of_ble_eq_true rfl⟩ (g_kxi0 (fun r_60 τ_60 H locs z_60 hz hp hP hL hS => ?_))
                  obtain ⟨hr_60, hW, hz_60, ha_60⟩ := hp
                  have hz := hz.trans hz_60
                  subst hr_60
                  have hag := hag.tr ha_60 (fun q h => h)
                  have hpb := Bool.toNat_le (presB S i)
                  refine g_top (y := (nI ((presB S i).toNat))) (yn_2 hY (by omega)) ?_
                  refine lv_iconst (v := (nI 1)) hx hb dL_singers_84 (by decide) ?_
                  refine g_icmp_ne (tgt := 108) (a := (presB S i).toNat) (b := 1) hx hb (by omega) (by omega) dL_singers_85 (by decide) (fun c85 => ?_) (fun c85 => ?_)
                  · refine lv_iconst (v := (nI 0)) hx hb dL_singers_108 (by decide) ?_
                    refine g_top (y := bI (toSing S i j)) (by rw [ts_1 hY hjl c85]; rfl) ?_
                    exact jn τ_60 hW hag hL H locs ls hz hP hS (lv_sub hl [1, 2, 3, 4, 5, 6, 7, 8, 9, 10, 11, 12, 13] rfl)
                  · refine lv_iload hx hb dL_singers_88 (lv_at hl 0 rfl) ?_
                    refine g_if_lt hx hb (by omega) dL_singers_90 (tgt := 104) (by decide) ?_
                    refine lv_aload_n hx hb dL_singers_93 rfl (lv_at hl 1 rfl) ?_
                    refine lv_iload hx hb dL_singers_94 (lv_at hl 0 rfl) ?_
                    refine lv_iconst (v := (nI 0)) hx hb dL_singers_96 (by decide) ?_
                    refine g_runV (As := [.int (nI k), .int (nI 0)]) (rest := []) (own := RL) (C := RX7) (T := TX7) (N := 7) 2 hx hb hml hown hts hK hz hP hL hS hlo hl.1 (c_X7_solo l o b S tf tn P C kp zp ((nI k)) ((nI 0))  τ_60 sz hW hY.1.1 ) gL_singers_X7_solo rfl rfl rfl (by decide +kernel) ⟨Nat.le_of_ble_eq_true rfl, Nat.le_of_ble_eq_true rfl⟩ hW.c0 rfl rfl rfl (Nat.le_of_ble_eq_true rfl) dL_singers_97 ⟨Nat.le_of_ble_eq_true rfl, Nat.le_of_ble_eq_true rfl⟩ (g_kxi0 (fun r_61 τ_61 H locs z_61 hz hp hP hL hS => ?_))
                    obtain ⟨hr_61, hW, hz_61, ha_61⟩ := hp
                    have hz := hz.trans hz_61
                    subst hr_61
                    have hag := hag.tr ha_61 (fun q h => h)
                    have hsl := hY.sl (k := k) (by omega)
                    refine g_top (y := (nI (tk (S 5 k)))) (ys_0 hY (by omega)) ?_
                    refine lv_iload_n hx hb dL_singers_100 rfl (lv_at hl 4 rfl) ?_
                    refine g_icmp_ne (tgt := 108) (a := tk (S 5 k)) (b := i) hx hb (by omega) (by omega) dL_singers_101 (by decide) (fun c101 => ?_) (fun c101 => ?_)
                    · refine lv_iconst (v := (nI 0)) hx hb dL_singers_108 (by decide) ?_
                      refine g_top (y := bI (toSing S i j)) (by rw [ts_2 hY hil hjl hso c101]; rfl) ?_
                      exact jn τ_61 hW hag hL H locs ls hz hP hS (lv_sub hl [1, 2, 3, 4, 5, 6, 7, 8, 9, 10, 11, 12, 13] rfl)
                    · refine lv_iconst (v := (nI 1)) hx hb dL_singers_104 (by decide) ?_
                      refine lv_goto (tgt := 109) hx hb dL_singers_105 (by decide) ?_
                      refine g_top (y := bI (toSing S i j)) (by rw [ts_s hY hjl c75 c85 hso c101]; rfl) ?_
                      exact jn τ_61 hW hag hL H locs ls hz hP hS (lv_sub hl [1, 2, 3, 4, 5, 6, 7, 8, 9, 10, 11, 12, 13] rfl)
        exact lpB _ 0 (by omega) (Nat.lt_succ_self _) τ_6 hW hag hL H locs ls hz hP hS (lv_sub hl [9, 10, 11, 12, 8, 7, 6, 5, 4, 3, 2, 1, 0] rfl)
  exact lpA _ 0 (by omega) (Nat.lt_succ_self _) σ hW hag hL H locs ls hz hP hS (lv_sub hl [3, 2, 1, 0] rfl)
