set_option maxHeartbeats 4000000 in
set_option maxRecDepth 100000 in
theorem c_L_beats (l : Launch) (o b : Nat) (S : sS) (tf : Nat → Int32) (tn P : Nat) (C : Nat → sS) (kp : Nat → Bool) (zp : Nat) (σ : gS) (sz : Nat) (hW : Wo σ o b S tf tn P C kp zp) (hY : okY S) (hzp : zp ≤ sz) : gM l yL_beats wsL_beats ({ frames := 7, cells := 96, slots := 384, locals := 162 } : Room) 96 384 [.ref o] σ sz (gxi (fun r τ n => r = nI 1 ∧ Wo τ o b S tf tn P C kp zp ∧ sz ≤ n ∧ n ≤ sz + 96)) := by
  refine gM_of (cc := cL_beats) (maxL := 9) (ret := (some .boolean)) (by decide) rfl (Nat.le_of_ble_eq_true rfl) ?_
  intro D ka lo hL hlo p e s m below meth c hx hb hr hts hown hml hlk hnm hK H locs ls hz hP hS hl
  have hl : lv_has ls 9 [(0, .ref o)] := hl
  have hown : s.vm.findClass RL = some m.cls := hown
  have hoz := hW.oz
  obtain ⟨⟨hB, hN, hKs, hRs⟩, -⟩ := id hY.1
  refine lv_iconst (v := (nI 0)) hx hb dL_beats_0 (by decide) ?_
  refine lv_istore_n (lv' := [(1, .int (nI 0)), (0, .ref o)]) hx hb dL_beats_1 rfl hl (by decide) rfl (fun ls hl => ?_)
  refine lv_iconst (v := (nI 0)) hx hb dL_beats_2 (by decide) ?_
  refine lv_istore_n (lv' := [(2, .int (nI 0)), (1, .int (nI 0)), (0, .ref o)]) hx hb dL_beats_3 rfl hl (by decide) rfl (fun ls hl => ?_)
  refine lv_bipush (v := (-5)) hx hb dL_beats_4 (by decide) ?_
  refine lv_istore_n (lv' := [(3, .int (-5)), (2, .int (nI 0)), (1, .int (nI 0)), (0, .ref o)]) hx hb dL_beats_6 rfl hl (by decide) rfl (fun ls hl => ?_)
  refine lv_iconst (v := (nI 0)) hx hb dL_beats_7 (by decide) ?_
  refine lv_istore (lv' := [(4, .int (nI 0)), (3, .int (-5)), (2, .int (nI 0)), (1, .int (nI 0)), (0, .ref o)]) hx hb dL_beats_8 hl (by decide) rfl (fun ls hl => ?_)
  refine lv_iconst (v := (nI 0)) hx hb dL_beats_10 (by decide) ?_
  refine lv_istore (lv' := [(5, .int (nI 0)), (4, .int (nI 0)), (3, .int (-5)), (2, .int (nI 0)), (1, .int (nI 0)), (0, .ref o)]) hx hb dL_beats_11 hl (by decide) rfl (fun ls hl => ?_)
  have lpA : ∀ (fu_lpA : Nat) (j : Nat), (j ≤ sB S) → (sB S - j < fu_lpA) → ∀ (υ : gS), (Wo υ o b S tf tn P C kp zp) → gL lo υ → ∀ (H : Heap) (locs : List Loc) (ls : Array Slot), H.size = sz + j → gH D ka υ H → va_S (gA lo) s.heap H locs → lv_has ls 9 [(0, .ref o), (1, .int (nI (cntF (restB S) j))), (2, .int (nI (cntF (fun b => decide (firstI S b = nI b)) j))), (3, .int (fiL S j)), (4, .int (nI (lonF S j))), (5, .int (nI j))] → W p l e ({ frames := 7, cells := 96, slots := 384, locals := 162 } : Room) s m ([.ref o] : List Value).toArray below meth c H locs (j) (4 * j) (MQ below (gQ D ka lo (gxi (fun r τ n => r = nI 1 ∧ Wo τ o b S tf tn P C kp zp ∧ sz ≤ n ∧ n ≤ sz + 96))) ([.ref o] : List Value).toArray s 96 384 (gA lo)) (F0 m 13 ls []) := by
    intro fu_lpA
    induction fu_lpA with
    | zero => intro j hj hm_lpA; exact absurd hm_lpA (Nat.not_lt_zero _)
    | succ fu_lpA ih_lpA =>
      intro j hj hm_lpA υ hW hL H locs ls hz hP hS hl
      have hlo : lo ≤ sz + j := by omega
      refine lv_iload hx hb dL_beats_13 (lv_at hl 5 rfl) ?_
      refine lv_aload_n hx hb dL_beats_15 rfl (lv_at hl 0 rfl) ?_
      refine lv_iconst (v := (nI 0)) hx hb dL_beats_16 (by decide) ?_
      refine g_runV (As := [.int (nI 0)]) (rest := [.int (nI j)]) (own := RL) (C := RX7) (T := TX7) (N := 7) 1 hx hb hml hown hts hK hz hP hL hS hlo hl.1 (c_X7_count l o b S tf tn P C kp zp ((nI 0))  υ (sz + j) hW hY.1.1 ) gL_beats_X7_count rfl rfl rfl (by decide +kernel) ⟨Nat.le_of_ble_eq_true rfl, Nat.le_of_ble_eq_true rfl⟩ hW.c0 rfl rfl rfl (Nat.le_of_ble_eq_true rfl) dL_beats_17 ⟨(show j + 0 ≤ 96 by omega), (show 4 * j + 0 ≤ 384 by omega)⟩ (g_kxi0 (fun r_1 τ_1 H locs z_1 hz hp hP hL hS => ?_))
      obtain ⟨hr_1, hW, hz_1, ha_1⟩ := hp
      have hz := hz.trans hz_1
      subst hr_1
      refine g_top (y := (nI (sB S))) yc_0 ?_
      refine g_icmp_ge (tgt := 251) (a := j) (b := sB S) hx hb (by omega) (by omega) dL_beats_20 (by decide) (fun c20 => ?_) (fun c20 => ?_)
      · have hje : j = sB S := by omega
        rw [hje] at hl
        refine lv_aload_n hx hb dL_beats_251 rfl (lv_at hl 0 rfl) ?_
        refine lv_iconst (v := (nI 1)) hx hb dL_beats_252 (by decide) ?_
        refine g_runV (As := [.int (nI 1)]) (rest := []) (own := RL) (C := RX7) (T := TX7) (N := 7) 1 hx hb hml hown hts hK hz hP hL hS hlo hl.1 (c_X7_count l o b S tf tn P C kp zp ((nI 1))  τ_1 (sz + j) hW hY.1.1 ) gL_beats_X7_count rfl rfl rfl (by decide +kernel) ⟨Nat.le_of_ble_eq_true rfl, Nat.le_of_ble_eq_true rfl⟩ hW.c0 rfl rfl rfl (Nat.le_of_ble_eq_true rfl) dL_beats_253 ⟨(show j + 0 ≤ 96 by omega), (show 4 * j + 0 ≤ 384 by omega)⟩ (g_kxi0 (fun r_2 τ_2 H locs z_2 hz hp hP hL hS => ?_))
        obtain ⟨hr_2, hW, hz_2, ha_2⟩ := hp
        have hz := hz.trans hz_2
        subst hr_2
        have hct1 := cntF_le (restB S) (sB S)
        refine g_top (y := (nI (cntF (restB S) (sB S)))) yc_1 ?_
        refine lv_iload_n hx hb dL_beats_256 rfl (lv_at hl 1 rfl) ?_
        refine lv_icmp_ne (tgt := 298) hx hb dL_beats_257 (by decide) (fun c257 => absurd rfl c257) (fun c257 => ?_)
        refine lv_aload_n hx hb dL_beats_260 rfl (lv_at hl 0 rfl) ?_
        refine lv_iconst (v := (nI 2)) hx hb dL_beats_261 (by decide) ?_
        refine g_runV (As := [.int (nI 2)]) (rest := []) (own := RL) (C := RX7) (T := TX7) (N := 7) 1 hx hb hml hown hts hK hz hP hL hS hlo hl.1 (c_X7_count l o b S tf tn P C kp zp ((nI 2))  τ_2 (sz + j) hW hY.1.1 ) gL_beats_X7_count rfl rfl rfl (by decide +kernel) ⟨Nat.le_of_ble_eq_true rfl, Nat.le_of_ble_eq_true rfl⟩ hW.c0 rfl rfl rfl (Nat.le_of_ble_eq_true rfl) dL_beats_262 ⟨(show j + 0 ≤ 96 by omega), (show 4 * j + 0 ≤ 384 by omega)⟩ (g_kxi0 (fun r_3 τ_3 H locs z_3 hz hp hP hL hS => ?_))
        obtain ⟨hr_3, hW, hz_3, ha_3⟩ := hp
        have hz := hz.trans hz_3
        subst hr_3
        have hct2 := cntF_le (fun b => decide (firstI S b = nI b)) (sB S)
        refine g_top (y := (nI (cntF (fun b => decide (firstI S b = nI b)) (sB S)))) yc_2 ?_
        refine lv_iload_n hx hb dL_beats_265 rfl (lv_at hl 2 rfl) ?_
        refine lv_icmp_ne (tgt := 298) hx hb dL_beats_266 (by decide) (fun c266 => absurd rfl c266) (fun c266 => ?_)
        refine lv_aload_n hx hb dL_beats_269 rfl (lv_at hl 0 rfl) ?_
        refine lv_bipush (v := (nI 13)) hx hb dL_beats_270 (by decide) ?_
        refine g_runV (As := [.int (nI 13)]) (rest := []) (own := RL) (C := RX7) (T := TX7) (N := 7) 1 hx hb hml hown hts hK hz hP hL hS hlo hl.1 (c_X7_count l o b S tf tn P C kp zp ((nI 13))  τ_3 (sz + j) hW hY.1.1 ) gL_beats_X7_count rfl rfl rfl (by decide +kernel) ⟨Nat.le_of_ble_eq_true rfl, Nat.le_of_ble_eq_true rfl⟩ hW.c0 rfl rfl rfl (Nat.le_of_ble_eq_true rfl) dL_beats_272 ⟨(show j + 0 ≤ 96 by omega), (show 4 * j + 0 ≤ 384 by omega)⟩ (g_kxi0 (fun r_4 τ_4 H locs z_4 hz hp hP hL hS => ?_))
        obtain ⟨hr_4, hW, hz_4, ha_4⟩ := hp
        have hz := hz.trans hz_4
        subst hr_4
        have hln := lonF_le S (sB S)
        refine g_top (y := (nI (lonF S (sB S)))) yc_13 ?_
        refine lv_iload hx hb dL_beats_275 (lv_at hl 4 rfl) ?_
        refine lv_icmp_ne (tgt := 298) hx hb dL_beats_277 (by decide) (fun c277 => absurd rfl c277) (fun c277 => ?_)
        refine lv_aload_n hx hb dL_beats_280 rfl (lv_at hl 0 rfl) ?_
        refine lv_aload_n hx hb dL_beats_281 rfl (lv_at hl 0 rfl) ?_
        refine lv_iconst (v := (nI 0)) hx hb dL_beats_282 (by decide) ?_
        refine g_runV (As := [.int (nI 0)]) (rest := [.ref o]) (own := RL) (C := RX7) (T := TX7) (N := 7) 1 hx hb hml hown hts hK hz hP hL hS hlo hl.1 (c_X7_count l o b S tf tn P C kp zp ((nI 0))  τ_4 (sz + j) hW hY.1.1 ) gL_beats_X7_count rfl rfl rfl (by decide +kernel) ⟨Nat.le_of_ble_eq_true rfl, Nat.le_of_ble_eq_true rfl⟩ hW.c0 rfl rfl rfl (Nat.le_of_ble_eq_true rfl) dL_beats_283 ⟨(show j + 0 ≤ 96 by omega), (show 4 * j + 0 ≤ 384 by omega)⟩ (g_kxi0 (fun r_5 τ_5 H locs z_5 hz hp hP hL hS => ?_))
        obtain ⟨hr_5, hW, hz_5, ha_5⟩ := hp
        have hz := hz.trans hz_5
        subst hr_5
        refine g_top (y := (nI (sB S))) yc_0 ?_
        refine lv_iconst (v := (nI 0)) hx hb dL_beats_286 (by decide) ?_
        refine g_runV (As := [.int (nI (sB S)), .int (nI 0)]) (rest := []) (own := RL) (C := RX7) (T := TX7) (N := 7) 2 hx hb hml hown hts hK hz hP hL hS hlo hl.1 (c_X7_beat l o b S tf tn P C kp zp ((nI (sB S))) ((nI 0))  τ_5 (sz + j) hW hY.1.1 ) gL_beats_X7_beat rfl rfl rfl (by decide +kernel) ⟨Nat.le_of_ble_eq_true rfl, Nat.le_of_ble_eq_true rfl⟩ hW.c0 rfl rfl rfl (Nat.le_of_ble_eq_true rfl) dL_beats_287 ⟨(show j + 0 ≤ 96 by omega), (show 4 * j + 0 ≤ 384 by omega)⟩ (g_kxi0 (fun r_6 τ_6 H locs z_6 hz hp hP hL hS => ?_))
        obtain ⟨hr_6, hW, hz_6, ha_6⟩ := hp
        have hz := hz.trans hz_6
        subst hr_6
        refine g_top (y := (-1)) (yb_out _ _) ?_
        refine lv_iconst (v := (-1)) hx hb dL_beats_290 (by decide) ?_
        refine lv_icmp_ne (tgt := 298) hx hb dL_beats_291 (by decide) (fun c291 => by first | exact absurd (by decide) c291 | exact absurd c291 (by decide)) (fun c291 => ?_)
        refine lv_iconst (v := (nI 1)) hx hb dL_beats_294 (by decide) ?_
        refine lv_goto (tgt := 299) hx hb dL_beats_295 (by decide) ?_
        refine W.widen (k := 96) (n := 384) (by omega) (by omega) ?_
        exact g_zret (z := sz + j) hx hb hr hlk hz hP hL hS rfl dL_beats_299 (gxi_i ⟨rfl, hW, by omega, by omega⟩)
      · have hjl : j < sB S := by omega
        have hrs0 := cntF_le (restB S) j
        have hsy0 := cntF_le (fun b => decide (firstI S b = nI b)) j
        have hln0 := lonF_le S j
        have hsf := sylF_le S j
        refine lv_aload_n hx hb dL_beats_23 rfl (lv_at hl 0 rfl) ?_
        refine lv_iload hx hb dL_beats_24 (lv_at hl 5 rfl) ?_
        refine lv_iconst (v := (nI 0)) hx hb dL_beats_26 (by decide) ?_
        refine g_runV (As := [.int (nI j), .int (nI 0)]) (rest := []) (own := RL) (C := RX7) (T := TX7) (N := 7) 2 hx hb hml hown hts hK hz hP hL hS hlo hl.1 (c_X7_beat l o b S tf tn P C kp zp ((nI j)) ((nI 0))  τ_1 (sz + j) hW hY.1.1 ) gL_beats_X7_beat rfl rfl rfl (by decide +kernel) ⟨Nat.le_of_ble_eq_true rfl, Nat.le_of_ble_eq_true rfl⟩ hW.c0 rfl rfl rfl (Nat.le_of_ble_eq_true rfl) dL_beats_27 ⟨(show j + 0 ≤ 96 by omega), (show 4 * j + 0 ≤ 384 by omega)⟩ (g_kxi0 (fun r_7 τ_7 H locs z_7 hz hp hP hL hS => ?_))
        obtain ⟨hr_7, hW, hz_7, ha_7⟩ := hp
        have hz := hz.trans hz_7
        subst hr_7
        have hxso := hY.so (b := j) (by omega)
        refine g_top (y := (nI (tk (S 0 j)))) (yb_0 hY (by omega)) ?_
        refine lv_istore (lv' := [(6, .int (nI (tk (S 0 j)))), (0, .ref o), (1, .int (nI (cntF (restB S) j))), (2, .int (nI (cntF (fun b => decide (firstI S b = nI b)) j))), (3, .int (fiL S j)), (4, .int (nI (lonF S j))), (5, .int (nI j))]) hx hb dL_beats_30 hl (by decide) rfl (fun ls hl => ?_)
        refine lv_iconst (v := (nI 4)) hx hb dL_beats_32 (by decide) ?_
        obtain ⟨zb, hzb⟩ : ∃ zb : Nat, zb = sz + j := ⟨_, rfl⟩
        have hz : H.size = zb := hz.trans hzb.symm
        have hlo : lo ≤ zb := by omega
        refine g_newa hx hb hts hK hz hP hL hS hlo 0 .int (by decide) (by decide +kernel) (n := nI 4) (N := 4) rfl (by omega) (show j + 1 ≤ 96 by omega) (show 4 * j + 4 ≤ 384 by omega) dL_beats_33 (fun H hz hP hL hS => ?_)
        have hlo : lo ≤ zb + 1 := Nat.le_succ_of_le hlo
        obtain ⟨σ8, e8⟩ : ∃ υ0 : gS, υ0 = gup τ_7 zb (gI 4 (fun _ => 0)) := ⟨_, rfl⟩
        have hP : gH D ka σ8 H := by rw [e8]; exact hP
        have hL : gL lo σ8 := by rw [e8]; exact hL
        have hW := hW.fr (τ := σ8) (fun q h1 h2 => gup_eq e8 (by omega))
        have hnz_zb_0 : ¬ gZo o 39 zb := fun h => by have h3 := h.2; omega
        refine lv_astore (lv' := [(7, .ref zb), (6, .int (nI (tk (S 0 j)))), (0, .ref o), (1, .int (nI (cntF (restB S) j))), (2, .int (nI (cntF (fun b => decide (firstI S b = nI b)) j))), (3, .int (fiL S j)), (4, .int (nI (lonF S j))), (5, .int (nI j))]) hx hb dL_beats_35 hl (by decide) rfl (fun ls hl => ?_)
        refine lv_iconst (v := (nI 0)) hx hb dL_beats_37 (by decide) ?_
        refine lv_istore (lv' := [(8, .int (nI 0)), (7, .ref zb), (6, .int (nI (tk (S 0 j)))), (0, .ref o), (1, .int (nI (cntF (restB S) j))), (2, .int (nI (cntF (fun b => decide (firstI S b = nI b)) j))), (3, .int (fiL S j)), (4, .int (nI (lonF S j))), (5, .int (nI j))]) hx hb dL_beats_38 hl (by decide) rfl (fun ls hl => ?_)
        have lpB : ∀ (fu_lpB : Nat) (i : Nat), (i ≤ sN S) → (sN S - i < fu_lpB) → ∀ (υ : gS), (Wo υ o b S tf tn P C kp zp) → (υ zb = gI 4 (nrow S j i)) → gL lo υ → ∀ (H : Heap) (locs : List Loc) (ls : Array Slot), H.size = (zb + 1) → gH D ka υ H → va_S (gA lo) s.heap H locs → lv_has ls 9 [(0, .ref o), (1, .int (nI (cntF (restB S) j))), (2, .int (nI (cntF (fun b => decide (firstI S b = nI b)) j))), (3, .int (fiL S j)), (4, .int (nI (lonF S j))), (5, .int (nI j)), (6, .int (nI (tk (S 0 j)))), (7, .ref zb), (8, .int (nI i))] → W p l e ({ frames := 7, cells := 96, slots := 384, locals := 162 } : Room) s m ([.ref o] : List Value).toArray below meth c H locs (j + 1) (4 * j + 4) (MQ below (gQ D ka lo (gxi (fun r τ n => r = nI 1 ∧ Wo τ o b S tf tn P C kp zp ∧ sz ≤ n ∧ n ≤ sz + 96))) ([.ref o] : List Value).toArray s 96 384 (gA lo)) (F0 m 40 ls []) := by
          intro fu_lpB
          induction fu_lpB with
          | zero => intro i hi hm_lpB; exact absurd hm_lpB (Nat.not_lt_zero _)
          | succ fu_lpB ih_lpB =>
            intro i hi hm_lpB υ hW hA0 hL H locs ls hz hP hS hl
            refine lv_iload hx hb dL_beats_40 (lv_at hl 8 rfl) ?_
            refine lv_aload_n hx hb dL_beats_42 rfl (lv_at hl 0 rfl) ?_
            refine lv_iconst (v := (nI 3)) hx hb dL_beats_43 (by decide) ?_
            refine g_runV (As := [.int (nI 3)]) (rest := [.int (nI i)]) (own := RL) (C := RX7) (T := TX7) (N := 7) 1 hx hb hml hown hts hK hz hP hL hS hlo hl.1 (c_X7_count l o b S tf tn P C kp zp ((nI 3))  υ ((zb + 1)) hW hY.1.1 ) gL_beats_X7_count rfl rfl rfl (by decide +kernel) ⟨Nat.le_of_ble_eq_true rfl, Nat.le_of_ble_eq_true rfl⟩ hW.c0 rfl rfl rfl (Nat.le_of_ble_eq_true rfl) dL_beats_44 ⟨(show j + 1 + 0 ≤ 96 by omega), (show 4 * j + 4 + 0 ≤ 384 by omega)⟩ (g_kxi0 (fun r_9 τ_9 H locs z_9 hz hp hP hL hS => ?_))
            obtain ⟨hr_9, hW, hz_9, ha_9⟩ := hp
            have hz := hz.trans hz_9
            subst hr_9
            refine g_top (y := (nI (sN S))) yc_3 ?_
            refine g_icmp_ge (tgt := 71) (a := i) (b := sN S) hx hb (by omega) (by omega) dL_beats_47 (by decide) (fun c47 => ?_) (fun c47 => ?_)
            · have hie : i = sN S := by omega
              have hA9 : τ_9 zb = gI 4 (nrow S j (sN S)) := by rw [← hie]; exact ((ha_9 _ hnz_zb_0).trans hA0)
              have jn : ∀ (υ : gS), (Wo υ o b S tf tn P C kp zp) → (υ zb = gI 4 (nrow S j (sN S))) → gL lo υ → ∀ (H : Heap) (locs : List Loc) (ls : Array Slot), H.size = (zb + 1) → gH D ka υ H → va_S (gA lo) s.heap H locs → lv_has ls 9 [(0, .ref o), (1, .int (nI (cntF (restB S) j))), (2, .int (nI (cntF (fun b => decide (firstI S b = nI b)) j))), (4, .int (nI (lonF S j))), (5, .int (nI j)), (6, .int (nI (tk (S 0 j)))), (7, .ref zb)] → W p l e ({ frames := 7, cells := 96, slots := 384, locals := 162 } : Room) s m ([.ref o] : List Value).toArray below meth c H locs (j + 1) (4 * j + 4) (MQ below (gQ D ka lo (gxi (fun r τ n => r = nI 1 ∧ Wo τ o b S tf tn P C kp zp ∧ sz ≤ n ∧ n ≤ sz + 96))) ([.ref o] : List Value).toArray s 96 384 (gA lo)) (F0 m 97 ls [.int (firstI S j)]) := by
                intro υ hW hA0 hL H locs ls hz hP hS hl
                rcases Nat.eq_zero_or_pos (tk (S 0 j)) with hc | hc
                · skip
                  refine g_top (y := (-5)) (fi_0 hY hjl hc) ?_
                  refine lv_istore_n (lv' := [(3, .int (-5)), (0, .ref o), (1, .int (nI (cntF (restB S) j))), (2, .int (nI (cntF (fun b => decide (firstI S b = nI b)) j))), (4, .int (nI (lonF S j))), (5, .int (nI j)), (6, .int (nI (tk (S 0 j)))), (7, .ref zb)]) hx hb dL_beats_97 rfl hl (by decide) rfl (fun ls hl => ?_)
                  refine lv_iload_n hx hb dL_beats_98 rfl (lv_at hl 2 rfl) ?_
                  refine lv_iload hx hb dL_beats_99 (lv_at hl 6 rfl) ?_
                  refine g_if_ne (tgt := 108) hx hb (by omega) dL_beats_101 (by decide) (fun c101 => False.elim (by omega)) (fun c101 => ?_)
                  refine lv_iconst (v := (nI 1)) hx hb dL_beats_104 (by decide) ?_
                  refine lv_goto (tgt := 109) hx hb dL_beats_105 (by decide) ?_
                  refine lv_iadd hx hb dL_beats_109 ?_
                  refine g_top (nI_add (cntF (restB S) j) 1) ?_
                  refine g_top (y := (nI (cntF (restB S) (j + 1)))) (congrArg nI (rs_t hY hjl hc)) ?_
                  refine lv_istore_n (lv' := [(1, .int (nI (cntF (restB S) (j + 1)))), (3, .int (-5)), (0, .ref o), (2, .int (nI (cntF (fun b => decide (firstI S b = nI b)) j))), (4, .int (nI (lonF S j))), (5, .int (nI j)), (6, .int (nI (tk (S 0 j)))), (7, .ref zb)]) hx hb dL_beats_110 rfl hl (by decide) rfl (fun ls hl => ?_)
                  refine lv_iload_n hx hb dL_beats_111 rfl (lv_at hl 3 rfl) ?_
                  refine lv_iload_n hx hb dL_beats_112 rfl (lv_at hl 1 rfl) ?_
                  refine lv_iload hx hb dL_beats_113 (lv_at hl 5 rfl) ?_
                  refine lv_icmp_ne (tgt := 122) hx hb dL_beats_115 (by decide) (fun c115 => ?_) (fun c115 => (absurd c115.symm (g_neg (a := j) (k := 5) (by omega) (by decide))))
                  refine lv_iconst (v := (nI 0)) hx hb dL_beats_122 (by decide) ?_
                  refine lv_iadd hx hb dL_beats_123 ?_
                  refine g_top (nI_add (cntF (fun b => decide (firstI S b = nI b)) j) 0) ?_
                  refine g_top (y := (nI (cntF (fun b => decide (firstI S b = nI b)) (j + 1)))) (congrArg nI (sy_f (by rw [fi_0 hY hjl hc]; exact m5_ne (by omega)))) ?_
                  refine lv_istore_n (lv' := [(2, .int (nI (cntF (fun b => decide (firstI S b = nI b)) (j + 1)))), (1, .int (nI (cntF (restB S) (j + 1)))), (3, .int (-5)), (0, .ref o), (4, .int (nI (lonF S j))), (5, .int (nI j)), (6, .int (nI (tk (S 0 j)))), (7, .ref zb)]) hx hb dL_beats_124 rfl hl (by decide) rfl (fun ls hl => ?_)
                  refine lv_iload_n hx hb dL_beats_125 rfl (lv_at hl 2 rfl) ?_
                  refine lv_if_lt (tgt := 149) hx hb dL_beats_126 (by decide) (fun c126 => ?_) (fun c126 => by first | exact absurd (by decide) c126 | exact absurd c126 (by decide))
                  refine lv_iload hx hb dL_beats_149 (lv_at hl 4 rfl) ?_
                  refine g_top (y := (nI (lonF S (j + 1)))) (congrArg nI (lon_r hY hjl hc)) ?_
                  refine lv_istore (lv' := [(4, .int (nI (lonF S (j + 1)))), (2, .int (nI (cntF (fun b => decide (firstI S b = nI b)) (j + 1)))), (1, .int (nI (cntF (restB S) (j + 1)))), (3, .int (-5)), (0, .ref o), (5, .int (nI j)), (6, .int (nI (tk (S 0 j)))), (7, .ref zb)]) hx hb dL_beats_151 hl (by decide) rfl (fun ls hl => ?_)
                  refine lv_aload_n hx hb dL_beats_153 rfl (lv_at hl 4 rfl) ?_
                  refine lv_iload hx hb dL_beats_154 (lv_at hl 5 rfl) ?_
                  refine lv_iconst (v := (nI 2)) hx hb dL_beats_156 (by decide) ?_
                  refine g_runV (As := [.int (nI j), .int (nI 2)]) (rest := []) (own := RL) (C := RX7) (T := TX7) (N := 7) 2 hx hb hml hown hts hK hz hP hL hS hlo hl.1 (c_X7_beat l o b S tf tn P C kp zp ((nI j)) ((nI 2))  υ ((zb + 1)) hW hY.1.1 ) gL_beats_X7_beat rfl rfl rfl (by decide +kernel) ⟨Nat.le_of_ble_eq_true rfl, Nat.le_of_ble_eq_true rfl⟩ hW.c0 rfl rfl rfl (Nat.le_of_ble_eq_true rfl) dL_beats_157 ⟨(show j + 1 + 0 ≤ 96 by omega), (show 4 * j + 4 + 0 ≤ 384 by omega)⟩ (g_kxi0 (fun r_10 τ_10 H locs z_10 hz hp hP hL hS => ?_))
                  obtain ⟨hr_10, hW, hz_10, ha_10⟩ := hp
                  have hz := hz.trans hz_10
                  subst hr_10
                  refine g_top (y := (firstI S j)) (yb_2 hY (by omega)) ?_
                  refine g_top (y := (-5)) (fi_0 hY hjl hc) ?_
                  refine lv_iload_n hx hb dL_beats_160 rfl (lv_at hl 3 rfl) ?_
                  refine lv_icmp_ne (tgt := 243) hx hb dL_beats_161 (by decide) (fun c161 => by first | exact absurd (by decide) c161 | exact absurd c161 (by decide)) (fun c161 => ?_)
                  refine lv_aload_n hx hb dL_beats_164 rfl (lv_at hl 4 rfl) ?_
                  refine lv_iload hx hb dL_beats_165 (lv_at hl 5 rfl) ?_
                  refine lv_iconst (v := (nI 3)) hx hb dL_beats_167 (by decide) ?_
                  refine g_runV (As := [.int (nI j), .int (nI 3)]) (rest := []) (own := RL) (C := RX7) (T := TX7) (N := 7) 2 hx hb hml hown hts hK hz hP hL hS hlo hl.1 (c_X7_beat l o b S tf tn P C kp zp ((nI j)) ((nI 3))  τ_10 ((zb + 1)) hW hY.1.1 ) gL_beats_X7_beat rfl rfl rfl (by decide +kernel) ⟨Nat.le_of_ble_eq_true rfl, Nat.le_of_ble_eq_true rfl⟩ hW.c0 rfl rfl rfl (Nat.le_of_ble_eq_true rfl) dL_beats_168 ⟨(show j + 1 + 0 ≤ 96 by omega), (show 4 * j + 4 + 0 ≤ 384 by omega)⟩ (g_kxi0 (fun r_11 τ_11 H locs z_11 hz hp hP hL hS => ?_))
                  obtain ⟨hr_11, hW, hz_11, ha_11⟩ := hp
                  have hz := hz.trans hz_11
                  subst hr_11
                  have hcn0 := cn_le S 0 j
                  refine g_top (y := (nI (cnQ S 0 j))) (yb_3 hY (by omega)) ?_
                  refine lv_aload hx hb dL_beats_171 (lv_at hl 7 rfl) ?_
                  refine lv_iconst (v := (nI 0)) hx hb dL_beats_173 (by decide) ?_
                  refine g_iald hx hb hK hP ((ha_11 _ hnz_zb_0).trans ((ha_10 _ hnz_zb_0).trans hA0)) (i := nI 0) (vp_in_nI (by omega) (by omega)) dL_beats_174 ?_
                  rw [nI_clamp (n := 0) (by omega)]
                  refine g_top (y := (nI (cnQ S 0 j))) rfl ?_
                  refine lv_icmp_ne (tgt := 243) hx hb dL_beats_175 (by decide) (fun c175 => absurd rfl c175) (fun c175 => ?_)
                  refine lv_aload_n hx hb dL_beats_178 rfl (lv_at hl 4 rfl) ?_
                  refine lv_iload hx hb dL_beats_179 (lv_at hl 5 rfl) ?_
                  refine lv_iconst (v := (nI 5)) hx hb dL_beats_181 (by decide) ?_
                  refine g_runV (As := [.int (nI j), .int (nI 5)]) (rest := []) (own := RL) (C := RX7) (T := TX7) (N := 7) 2 hx hb hml hown hts hK hz hP hL hS hlo hl.1 (c_X7_beat l o b S tf tn P C kp zp ((nI j)) ((nI 5))  τ_11 ((zb + 1)) hW hY.1.1 ) gL_beats_X7_beat rfl rfl rfl (by decide +kernel) ⟨Nat.le_of_ble_eq_true rfl, Nat.le_of_ble_eq_true rfl⟩ hW.c0 rfl rfl rfl (Nat.le_of_ble_eq_true rfl) dL_beats_182 ⟨(show j + 1 + 0 ≤ 96 by omega), (show 4 * j + 4 + 0 ≤ 384 by omega)⟩ (g_kxi0 (fun r_12 τ_12 H locs z_12 hz hp hP hL hS => ?_))
                  obtain ⟨hr_12, hW, hz_12, ha_12⟩ := hp
                  have hz := hz.trans hz_12
                  subst hr_12
                  have hcn1 := cn_le S 1 j
                  refine g_top (y := (nI (cnQ S 1 j))) (yb_5 hY (by omega)) ?_
                  refine lv_aload hx hb dL_beats_185 (lv_at hl 7 rfl) ?_
                  refine lv_iconst (v := (nI 1)) hx hb dL_beats_187 (by decide) ?_
                  refine g_iald hx hb hK hP ((ha_12 _ hnz_zb_0).trans ((ha_11 _ hnz_zb_0).trans ((ha_10 _ hnz_zb_0).trans hA0))) (i := nI 1) (vp_in_nI (by omega) (by omega)) dL_beats_188 ?_
                  rw [nI_clamp (n := 1) (by omega)]
                  refine g_top (y := (nI (cnQ S 1 j))) rfl ?_
                  refine lv_icmp_ne (tgt := 243) hx hb dL_beats_189 (by decide) (fun c189 => absurd rfl c189) (fun c189 => ?_)
                  refine lv_aload_n hx hb dL_beats_192 rfl (lv_at hl 4 rfl) ?_
                  refine lv_iload hx hb dL_beats_193 (lv_at hl 5 rfl) ?_
                  refine lv_bipush (v := (nI 6)) hx hb dL_beats_195 (by decide) ?_
                  refine g_runV (As := [.int (nI j), .int (nI 6)]) (rest := []) (own := RL) (C := RX7) (T := TX7) (N := 7) 2 hx hb hml hown hts hK hz hP hL hS hlo hl.1 (c_X7_beat l o b S tf tn P C kp zp ((nI j)) ((nI 6))  τ_12 ((zb + 1)) hW hY.1.1 ) gL_beats_X7_beat rfl rfl rfl (by decide +kernel) ⟨Nat.le_of_ble_eq_true rfl, Nat.le_of_ble_eq_true rfl⟩ hW.c0 rfl rfl rfl (Nat.le_of_ble_eq_true rfl) dL_beats_197 ⟨(show j + 1 + 0 ≤ 96 by omega), (show 4 * j + 4 + 0 ≤ 384 by omega)⟩ (g_kxi0 (fun r_13 τ_13 H locs z_13 hz hp hP hL hS => ?_))
                  obtain ⟨hr_13, hW, hz_13, ha_13⟩ := hp
                  have hz := hz.trans hz_13
                  subst hr_13
                  have hcn2 := cn_le S 2 j
                  refine g_top (y := (nI (cnQ S 2 j))) (yb_6 hY (by omega)) ?_
                  refine lv_aload hx hb dL_beats_200 (lv_at hl 7 rfl) ?_
                  refine lv_iconst (v := (nI 2)) hx hb dL_beats_202 (by decide) ?_
                  refine g_iald hx hb hK hP ((ha_13 _ hnz_zb_0).trans ((ha_12 _ hnz_zb_0).trans ((ha_11 _ hnz_zb_0).trans ((ha_10 _ hnz_zb_0).trans hA0)))) (i := nI 2) (vp_in_nI (by omega) (by omega)) dL_beats_203 ?_
                  rw [nI_clamp (n := 2) (by omega)]
                  refine g_top (y := (nI (cnQ S 2 j))) rfl ?_
                  refine lv_icmp_ne (tgt := 243) hx hb dL_beats_204 (by decide) (fun c204 => absurd rfl c204) (fun c204 => ?_)
                  refine lv_aload_n hx hb dL_beats_207 rfl (lv_at hl 4 rfl) ?_
                  refine lv_iload hx hb dL_beats_208 (lv_at hl 5 rfl) ?_
                  refine lv_bipush (v := (nI 7)) hx hb dL_beats_210 (by decide) ?_
                  refine g_runV (As := [.int (nI j), .int (nI 7)]) (rest := []) (own := RL) (C := RX7) (T := TX7) (N := 7) 2 hx hb hml hown hts hK hz hP hL hS hlo hl.1 (c_X7_beat l o b S tf tn P C kp zp ((nI j)) ((nI 7))  τ_13 ((zb + 1)) hW hY.1.1 ) gL_beats_X7_beat rfl rfl rfl (by decide +kernel) ⟨Nat.le_of_ble_eq_true rfl, Nat.le_of_ble_eq_true rfl⟩ hW.c0 rfl rfl rfl (Nat.le_of_ble_eq_true rfl) dL_beats_212 ⟨(show j + 1 + 0 ≤ 96 by omega), (show 4 * j + 4 + 0 ≤ 384 by omega)⟩ (g_kxi0 (fun r_14 τ_14 H locs z_14 hz hp hP hL hS => ?_))
                  obtain ⟨hr_14, hW, hz_14, ha_14⟩ := hp
                  have hz := hz.trans hz_14
                  subst hr_14
                  refine g_top (y := (nI ((cnQ S 0 j) * (tk (S 1 j))))) (yb_7 hY (by omega)) ?_
                  refine lv_aload hx hb dL_beats_215 (lv_at hl 7 rfl) ?_
                  refine lv_iconst (v := (nI 0)) hx hb dL_beats_217 (by decide) ?_
                  refine g_iald hx hb hK hP ((ha_14 _ hnz_zb_0).trans ((ha_13 _ hnz_zb_0).trans ((ha_12 _ hnz_zb_0).trans ((ha_11 _ hnz_zb_0).trans ((ha_10 _ hnz_zb_0).trans hA0))))) (i := nI 0) (vp_in_nI (by omega) (by omega)) dL_beats_218 ?_
                  rw [nI_clamp (n := 0) (by omega)]
                  refine g_top (y := (nI (cnQ S 0 j))) rfl ?_
                  refine lv_aload_n hx hb dL_beats_219 rfl (lv_at hl 4 rfl) ?_
                  refine lv_iload hx hb dL_beats_220 (lv_at hl 5 rfl) ?_
                  refine lv_iconst (v := (nI 1)) hx hb dL_beats_222 (by decide) ?_
                  refine g_runV (As := [.int (nI j), .int (nI 1)]) (rest := [.int (nI (cnQ S 0 j)), .int (nI ((cnQ S 0 j) * (tk (S 1 j))))]) (own := RL) (C := RX7) (T := TX7) (N := 7) 2 hx hb hml hown hts hK hz hP hL hS hlo hl.1 (c_X7_beat l o b S tf tn P C kp zp ((nI j)) ((nI 1))  τ_14 ((zb + 1)) hW hY.1.1 ) gL_beats_X7_beat rfl rfl rfl (by decide +kernel) ⟨Nat.le_of_ble_eq_true rfl, Nat.le_of_ble_eq_true rfl⟩ hW.c0 rfl rfl rfl (Nat.le_of_ble_eq_true rfl) dL_beats_223 ⟨(show j + 1 + 0 ≤ 96 by omega), (show 4 * j + 4 + 0 ≤ 384 by omega)⟩ (g_kxi0 (fun r_15 τ_15 H locs z_15 hz hp hP hL hS => ?_))
                  obtain ⟨hr_15, hW, hz_15, ha_15⟩ := hp
                  have hz := hz.trans hz_15
                  subst hr_15
                  have hxlo := hY.lo (b := j) (by omega)
                  refine g_top (y := (nI (tk (S 1 j)))) (yb_1 hY (by omega)) ?_
                  refine lv_imul hx hb dL_beats_226 ?_
                  refine g_top (pk_mul (cnQ S 0 j) (tk (S 1 j))) ?_
                  refine lv_icmp_ne (tgt := 243) hx hb dL_beats_227 (by decide) (fun c227 => absurd rfl c227) (fun c227 => ?_)
                  refine lv_aload_n hx hb dL_beats_230 rfl (lv_at hl 4 rfl) ?_
                  refine lv_iload hx hb dL_beats_231 (lv_at hl 5 rfl) ?_
                  refine lv_bipush (v := (nI 8)) hx hb dL_beats_233 (by decide) ?_
                  refine g_runV (As := [.int (nI j), .int (nI 8)]) (rest := []) (own := RL) (C := RX7) (T := TX7) (N := 7) 2 hx hb hml hown hts hK hz hP hL hS hlo hl.1 (c_X7_beat l o b S tf tn P C kp zp ((nI j)) ((nI 8))  τ_15 ((zb + 1)) hW hY.1.1 ) gL_beats_X7_beat rfl rfl rfl (by decide +kernel) ⟨Nat.le_of_ble_eq_true rfl, Nat.le_of_ble_eq_true rfl⟩ hW.c0 rfl rfl rfl (Nat.le_of_ble_eq_true rfl) dL_beats_235 ⟨(show j + 1 + 0 ≤ 96 by omega), (show 4 * j + 4 + 0 ≤ 384 by omega)⟩ (g_kxi0 (fun r_16 τ_16 H locs z_16 hz hp hP hL hS => ?_))
                  obtain ⟨hr_16, hW, hz_16, ha_16⟩ := hp
                  have hz := hz.trans hz_16
                  subst hr_16
                  refine g_top (y := (-2)) (yb_8 hY (by omega)) ?_
                  refine lv_bipush (v := (-2)) hx hb dL_beats_238 (by decide) ?_
                  refine lv_icmp_eq (tgt := 245) hx hb dL_beats_240 (by decide) (fun c240 => ?_) (fun c240 => by first | exact absurd (by decide) c240 | exact absurd c240 (by decide))
                  refine lv_iinc (v := (nI (j + 1))) (lv' := [(5, .int (nI (j + 1))), (4, .int (nI (lonF S (j + 1)))), (2, .int (nI (cntF (fun b => decide (firstI S b = nI b)) (j + 1)))), (1, .int (nI (cntF (restB S) (j + 1)))), (3, .int (-5)), (0, .ref o), (6, .int (nI (tk (S 0 j)))), (7, .ref zb)]) hx hb dL_beats_245 hl (k := 5) rfl (g_inc j 1) (by decide) rfl (fun ls hl => ?_)
                  refine lv_goto (tgt := 13) hx hb dL_beats_248 (by decide) ?_
                  have hz : H.size = sz + (j + 1) := by omega
                  refine W.widen (k := j + 1) (n := 4 * (j + 1)) (by omega) (by omega) ?_
                  have e_3 : (-5) = (fiL S (j + 1)) := (fi_0 hY hjl hc).symm
                  have hl := lv_sub hl (l' := [(0, .ref o), (1, .int (nI (cntF (restB S) (j + 1)))), (2, .int (nI (cntF (fun b => decide (firstI S b = nI b)) (j + 1)))), (3, .int (-5)), (4, .int (nI (lonF S (j + 1)))), (5, .int (nI (j + 1)))]) [5, 3, 2, 4, 1, 0] rfl
                  rw [e_3] at hl
                  exact ih_lpA (j + 1) (by omega) (by omega) τ_16 hW hL H locs ls hz hP hS hl
                · skip
                  refine g_top (y := (nI (sylF S j))) (fi_s hY hjl hc) ?_
                  refine lv_istore_n (lv' := [(3, .int (nI (sylF S j))), (0, .ref o), (1, .int (nI (cntF (restB S) j))), (2, .int (nI (cntF (fun b => decide (firstI S b = nI b)) j))), (4, .int (nI (lonF S j))), (5, .int (nI j)), (6, .int (nI (tk (S 0 j)))), (7, .ref zb)]) hx hb dL_beats_97 rfl hl (by decide) rfl (fun ls hl => ?_)
                  refine lv_iload_n hx hb dL_beats_98 rfl (lv_at hl 2 rfl) ?_
                  refine lv_iload hx hb dL_beats_99 (lv_at hl 6 rfl) ?_
                  refine g_if_ne (tgt := 108) hx hb (by omega) dL_beats_101 (by decide) (fun c101 => ?_) (fun c101 => False.elim (by omega))
                  refine lv_iconst (v := (nI 0)) hx hb dL_beats_108 (by decide) ?_
                  refine lv_iadd hx hb dL_beats_109 ?_
                  refine g_top (nI_add (cntF (restB S) j) 0) ?_
                  refine g_top (y := (nI (cntF (restB S) (j + 1)))) (congrArg nI (rs_f hY hjl hc)) ?_
                  refine lv_istore_n (lv' := [(1, .int (nI (cntF (restB S) (j + 1)))), (3, .int (nI (sylF S j))), (0, .ref o), (2, .int (nI (cntF (fun b => decide (firstI S b = nI b)) j))), (4, .int (nI (lonF S j))), (5, .int (nI j)), (6, .int (nI (tk (S 0 j)))), (7, .ref zb)]) hx hb dL_beats_110 rfl hl (by decide) rfl (fun ls hl => ?_)
                  refine lv_iload_n hx hb dL_beats_111 rfl (lv_at hl 3 rfl) ?_
                  refine lv_iload_n hx hb dL_beats_112 rfl (lv_at hl 1 rfl) ?_
                  refine lv_iload hx hb dL_beats_113 (lv_at hl 5 rfl) ?_
                  refine g_icmp_ne (tgt := 122) (a := sylF S j) (b := j) hx hb (by omega) (by omega) dL_beats_115 (by decide) (fun c115 => ?_) (fun c115 => ?_)
                  · refine lv_iconst (v := (nI 0)) hx hb dL_beats_122 (by decide) ?_
                    refine lv_iadd hx hb dL_beats_123 ?_
                    refine g_top (nI_add (cntF (fun b => decide (firstI S b = nI b)) j) 0) ?_
                    refine g_top (y := (nI (cntF (fun b => decide (firstI S b = nI b)) (j + 1)))) (congrArg nI (sy_f (by rw [fi_s hY hjl hc]; exact fun q => c115 ((nI_eq (by omega) (by omega)).mp q)))) ?_
                    refine lv_istore_n (lv' := [(2, .int (nI (cntF (fun b => decide (firstI S b = nI b)) (j + 1)))), (1, .int (nI (cntF (restB S) (j + 1)))), (3, .int (nI (sylF S j))), (0, .ref o), (4, .int (nI (lonF S j))), (5, .int (nI j)), (6, .int (nI (tk (S 0 j)))), (7, .ref zb)]) hx hb dL_beats_124 rfl hl (by decide) rfl (fun ls hl => ?_)
                    refine lv_iload_n hx hb dL_beats_125 rfl (lv_at hl 2 rfl) ?_
                    refine g_if_lt hx hb (by omega) dL_beats_126 (tgt := 149) (by decide) ?_
                    refine lv_iload hx hb dL_beats_129 (lv_at hl 5 rfl) ?_
                    refine lv_iload_n hx hb dL_beats_131 rfl (lv_at hl 2 rfl) ?_
                    refine lv_isub hx hb dL_beats_132 ?_
                    refine g_top (pk_sub (by omega : sylF S j ≤ j)) ?_
                    refine lv_iconst (v := (nI 1)) hx hb dL_beats_133 (by decide) ?_
                    refine lv_iadd hx hb dL_beats_134 ?_
                    refine g_top (nI_add (j - (sylF S j)) 1) ?_
                    refine lv_iload hx hb dL_beats_135 (lv_at hl 4 rfl) ?_
                    refine g_icmp_le (tgt := 149) (a := (j - (sylF S j)) + 1) (b := lonF S j) hx hb (by omega) (by omega) dL_beats_137 (by decide) (fun c137 => ?_) (fun c137 => ?_)
                    · refine lv_iload hx hb dL_beats_149 (lv_at hl 4 rfl) ?_
                      refine g_top (y := (nI (lonF S (j + 1)))) (congrArg nI (lon_1 hY hjl hc (by omega))) ?_
                      refine lv_istore (lv' := [(4, .int (nI (lonF S (j + 1)))), (2, .int (nI (cntF (fun b => decide (firstI S b = nI b)) (j + 1)))), (1, .int (nI (cntF (restB S) (j + 1)))), (3, .int (nI (sylF S j))), (0, .ref o), (5, .int (nI j)), (6, .int (nI (tk (S 0 j)))), (7, .ref zb)]) hx hb dL_beats_151 hl (by decide) rfl (fun ls hl => ?_)
                      refine lv_aload_n hx hb dL_beats_153 rfl (lv_at hl 4 rfl) ?_
                      refine lv_iload hx hb dL_beats_154 (lv_at hl 5 rfl) ?_
                      refine lv_iconst (v := (nI 2)) hx hb dL_beats_156 (by decide) ?_
                      refine g_runV (As := [.int (nI j), .int (nI 2)]) (rest := []) (own := RL) (C := RX7) (T := TX7) (N := 7) 2 hx hb hml hown hts hK hz hP hL hS hlo hl.1 (c_X7_beat l o b S tf tn P C kp zp ((nI j)) ((nI 2))  υ ((zb + 1)) hW hY.1.1 ) gL_beats_X7_beat rfl rfl rfl (by decide +kernel) ⟨Nat.le_of_ble_eq_true rfl, Nat.le_of_ble_eq_true rfl⟩ hW.c0 rfl rfl rfl (Nat.le_of_ble_eq_true rfl) dL_beats_157 ⟨(show j + 1 + 0 ≤ 96 by omega), (show 4 * j + 4 + 0 ≤ 384 by omega)⟩ (g_kxi0 (fun r_17 τ_17 H locs z_17 hz hp hP hL hS => ?_))
                      obtain ⟨hr_17, hW, hz_17, ha_17⟩ := hp
                      have hz := hz.trans hz_17
                      subst hr_17
                      refine g_top (y := (firstI S j)) (yb_2 hY (by omega)) ?_
                      refine g_top (y := (nI (sylF S j))) (fi_s hY hjl hc) ?_
                      refine lv_iload_n hx hb dL_beats_160 rfl (lv_at hl 3 rfl) ?_
                      refine lv_icmp_ne (tgt := 243) hx hb dL_beats_161 (by decide) (fun c161 => absurd rfl c161) (fun c161 => ?_)
                      refine lv_aload_n hx hb dL_beats_164 rfl (lv_at hl 4 rfl) ?_
                      refine lv_iload hx hb dL_beats_165 (lv_at hl 5 rfl) ?_
                      refine lv_iconst (v := (nI 3)) hx hb dL_beats_167 (by decide) ?_
                      refine g_runV (As := [.int (nI j), .int (nI 3)]) (rest := []) (own := RL) (C := RX7) (T := TX7) (N := 7) 2 hx hb hml hown hts hK hz hP hL hS hlo hl.1 (c_X7_beat l o b S tf tn P C kp zp ((nI j)) ((nI 3))  τ_17 ((zb + 1)) hW hY.1.1 ) gL_beats_X7_beat rfl rfl rfl (by decide +kernel) ⟨Nat.le_of_ble_eq_true rfl, Nat.le_of_ble_eq_true rfl⟩ hW.c0 rfl rfl rfl (Nat.le_of_ble_eq_true rfl) dL_beats_168 ⟨(show j + 1 + 0 ≤ 96 by omega), (show 4 * j + 4 + 0 ≤ 384 by omega)⟩ (g_kxi0 (fun r_18 τ_18 H locs z_18 hz hp hP hL hS => ?_))
                      obtain ⟨hr_18, hW, hz_18, ha_18⟩ := hp
                      have hz := hz.trans hz_18
                      subst hr_18
                      have hcn0 := cn_le S 0 j
                      refine g_top (y := (nI (cnQ S 0 j))) (yb_3 hY (by omega)) ?_
                      refine lv_aload hx hb dL_beats_171 (lv_at hl 7 rfl) ?_
                      refine lv_iconst (v := (nI 0)) hx hb dL_beats_173 (by decide) ?_
                      refine g_iald hx hb hK hP ((ha_18 _ hnz_zb_0).trans ((ha_17 _ hnz_zb_0).trans hA0)) (i := nI 0) (vp_in_nI (by omega) (by omega)) dL_beats_174 ?_
                      rw [nI_clamp (n := 0) (by omega)]
                      refine g_top (y := (nI (cnQ S 0 j))) rfl ?_
                      refine lv_icmp_ne (tgt := 243) hx hb dL_beats_175 (by decide) (fun c175 => absurd rfl c175) (fun c175 => ?_)
                      refine lv_aload_n hx hb dL_beats_178 rfl (lv_at hl 4 rfl) ?_
                      refine lv_iload hx hb dL_beats_179 (lv_at hl 5 rfl) ?_
                      refine lv_iconst (v := (nI 5)) hx hb dL_beats_181 (by decide) ?_
                      refine g_runV (As := [.int (nI j), .int (nI 5)]) (rest := []) (own := RL) (C := RX7) (T := TX7) (N := 7) 2 hx hb hml hown hts hK hz hP hL hS hlo hl.1 (c_X7_beat l o b S tf tn P C kp zp ((nI j)) ((nI 5))  τ_18 ((zb + 1)) hW hY.1.1 ) gL_beats_X7_beat rfl rfl rfl (by decide +kernel) ⟨Nat.le_of_ble_eq_true rfl, Nat.le_of_ble_eq_true rfl⟩ hW.c0 rfl rfl rfl (Nat.le_of_ble_eq_true rfl) dL_beats_182 ⟨(show j + 1 + 0 ≤ 96 by omega), (show 4 * j + 4 + 0 ≤ 384 by omega)⟩ (g_kxi0 (fun r_19 τ_19 H locs z_19 hz hp hP hL hS => ?_))
                      obtain ⟨hr_19, hW, hz_19, ha_19⟩ := hp
                      have hz := hz.trans hz_19
                      subst hr_19
                      have hcn1 := cn_le S 1 j
                      refine g_top (y := (nI (cnQ S 1 j))) (yb_5 hY (by omega)) ?_
                      refine lv_aload hx hb dL_beats_185 (lv_at hl 7 rfl) ?_
                      refine lv_iconst (v := (nI 1)) hx hb dL_beats_187 (by decide) ?_
                      refine g_iald hx hb hK hP ((ha_19 _ hnz_zb_0).trans ((ha_18 _ hnz_zb_0).trans ((ha_17 _ hnz_zb_0).trans hA0))) (i := nI 1) (vp_in_nI (by omega) (by omega)) dL_beats_188 ?_
                      rw [nI_clamp (n := 1) (by omega)]
                      refine g_top (y := (nI (cnQ S 1 j))) rfl ?_
                      refine lv_icmp_ne (tgt := 243) hx hb dL_beats_189 (by decide) (fun c189 => absurd rfl c189) (fun c189 => ?_)
                      refine lv_aload_n hx hb dL_beats_192 rfl (lv_at hl 4 rfl) ?_
                      refine lv_iload hx hb dL_beats_193 (lv_at hl 5 rfl) ?_
                      refine lv_bipush (v := (nI 6)) hx hb dL_beats_195 (by decide) ?_
                      refine g_runV (As := [.int (nI j), .int (nI 6)]) (rest := []) (own := RL) (C := RX7) (T := TX7) (N := 7) 2 hx hb hml hown hts hK hz hP hL hS hlo hl.1 (c_X7_beat l o b S tf tn P C kp zp ((nI j)) ((nI 6))  τ_19 ((zb + 1)) hW hY.1.1 ) gL_beats_X7_beat rfl rfl rfl (by decide +kernel) ⟨Nat.le_of_ble_eq_true rfl, Nat.le_of_ble_eq_true rfl⟩ hW.c0 rfl rfl rfl (Nat.le_of_ble_eq_true rfl) dL_beats_197 ⟨(show j + 1 + 0 ≤ 96 by omega), (show 4 * j + 4 + 0 ≤ 384 by omega)⟩ (g_kxi0 (fun r_20 τ_20 H locs z_20 hz hp hP hL hS => ?_))
                      obtain ⟨hr_20, hW, hz_20, ha_20⟩ := hp
                      have hz := hz.trans hz_20
                      subst hr_20
                      have hcn2 := cn_le S 2 j
                      refine g_top (y := (nI (cnQ S 2 j))) (yb_6 hY (by omega)) ?_
                      refine lv_aload hx hb dL_beats_200 (lv_at hl 7 rfl) ?_
                      refine lv_iconst (v := (nI 2)) hx hb dL_beats_202 (by decide) ?_
                      refine g_iald hx hb hK hP ((ha_20 _ hnz_zb_0).trans ((ha_19 _ hnz_zb_0).trans ((ha_18 _ hnz_zb_0).trans ((ha_17 _ hnz_zb_0).trans hA0)))) (i := nI 2) (vp_in_nI (by omega) (by omega)) dL_beats_203 ?_
                      rw [nI_clamp (n := 2) (by omega)]
                      refine g_top (y := (nI (cnQ S 2 j))) rfl ?_
                      refine lv_icmp_ne (tgt := 243) hx hb dL_beats_204 (by decide) (fun c204 => absurd rfl c204) (fun c204 => ?_)
                      refine lv_aload_n hx hb dL_beats_207 rfl (lv_at hl 4 rfl) ?_
                      refine lv_iload hx hb dL_beats_208 (lv_at hl 5 rfl) ?_
                      refine lv_bipush (v := (nI 7)) hx hb dL_beats_210 (by decide) ?_
                      refine g_runV (As := [.int (nI j), .int (nI 7)]) (rest := []) (own := RL) (C := RX7) (T := TX7) (N := 7) 2 hx hb hml hown hts hK hz hP hL hS hlo hl.1 (c_X7_beat l o b S tf tn P C kp zp ((nI j)) ((nI 7))  τ_20 ((zb + 1)) hW hY.1.1 ) gL_beats_X7_beat rfl rfl rfl (by decide +kernel) ⟨Nat.le_of_ble_eq_true rfl, Nat.le_of_ble_eq_true rfl⟩ hW.c0 rfl rfl rfl (Nat.le_of_ble_eq_true rfl) dL_beats_212 ⟨(show j + 1 + 0 ≤ 96 by omega), (show 4 * j + 4 + 0 ≤ 384 by omega)⟩ (g_kxi0 (fun r_21 τ_21 H locs z_21 hz hp hP hL hS => ?_))
                      obtain ⟨hr_21, hW, hz_21, ha_21⟩ := hp
                      have hz := hz.trans hz_21
                      subst hr_21
                      refine g_top (y := (nI ((cnQ S 0 j) * (tk (S 1 j))))) (yb_7 hY (by omega)) ?_
                      refine lv_aload hx hb dL_beats_215 (lv_at hl 7 rfl) ?_
                      refine lv_iconst (v := (nI 0)) hx hb dL_beats_217 (by decide) ?_
                      refine g_iald hx hb hK hP ((ha_21 _ hnz_zb_0).trans ((ha_20 _ hnz_zb_0).trans ((ha_19 _ hnz_zb_0).trans ((ha_18 _ hnz_zb_0).trans ((ha_17 _ hnz_zb_0).trans hA0))))) (i := nI 0) (vp_in_nI (by omega) (by omega)) dL_beats_218 ?_
                      rw [nI_clamp (n := 0) (by omega)]
                      refine g_top (y := (nI (cnQ S 0 j))) rfl ?_
                      refine lv_aload_n hx hb dL_beats_219 rfl (lv_at hl 4 rfl) ?_
                      refine lv_iload hx hb dL_beats_220 (lv_at hl 5 rfl) ?_
                      refine lv_iconst (v := (nI 1)) hx hb dL_beats_222 (by decide) ?_
                      refine g_runV (As := [.int (nI j), .int (nI 1)]) (rest := [.int (nI (cnQ S 0 j)), .int (nI ((cnQ S 0 j) * (tk (S 1 j))))]) (own := RL) (C := RX7) (T := TX7) (N := 7) 2 hx hb hml hown hts hK hz hP hL hS hlo hl.1 (c_X7_beat l o b S tf tn P C kp zp ((nI j)) ((nI 1))  τ_21 ((zb + 1)) hW hY.1.1 ) gL_beats_X7_beat rfl rfl rfl (by decide +kernel) ⟨Nat.le_of_ble_eq_true rfl, Nat.le_of_ble_eq_true rfl⟩ hW.c0 rfl rfl rfl (Nat.le_of_ble_eq_true rfl) dL_beats_223 ⟨(show j + 1 + 0 ≤ 96 by omega), (show 4 * j + 4 + 0 ≤ 384 by omega)⟩ (g_kxi0 (fun r_22 τ_22 H locs z_22 hz hp hP hL hS => ?_))
                      obtain ⟨hr_22, hW, hz_22, ha_22⟩ := hp
                      have hz := hz.trans hz_22
                      subst hr_22
                      have hxlo := hY.lo (b := j) (by omega)
                      refine g_top (y := (nI (tk (S 1 j)))) (yb_1 hY (by omega)) ?_
                      refine lv_imul hx hb dL_beats_226 ?_
                      refine g_top (pk_mul (cnQ S 0 j) (tk (S 1 j))) ?_
                      refine lv_icmp_ne (tgt := 243) hx hb dL_beats_227 (by decide) (fun c227 => absurd rfl c227) (fun c227 => ?_)
                      refine lv_aload_n hx hb dL_beats_230 rfl (lv_at hl 4 rfl) ?_
                      refine lv_iload hx hb dL_beats_231 (lv_at hl 5 rfl) ?_
                      refine lv_bipush (v := (nI 8)) hx hb dL_beats_233 (by decide) ?_
                      refine g_runV (As := [.int (nI j), .int (nI 8)]) (rest := []) (own := RL) (C := RX7) (T := TX7) (N := 7) 2 hx hb hml hown hts hK hz hP hL hS hlo hl.1 (c_X7_beat l o b S tf tn P C kp zp ((nI j)) ((nI 8))  τ_22 ((zb + 1)) hW hY.1.1 ) gL_beats_X7_beat rfl rfl rfl (by decide +kernel) ⟨Nat.le_of_ble_eq_true rfl, Nat.le_of_ble_eq_true rfl⟩ hW.c0 rfl rfl rfl (Nat.le_of_ble_eq_true rfl) dL_beats_235 ⟨(show j + 1 + 0 ≤ 96 by omega), (show 4 * j + 4 + 0 ≤ 384 by omega)⟩ (g_kxi0 (fun r_23 τ_23 H locs z_23 hz hp hP hL hS => ?_))
                      obtain ⟨hr_23, hW, hz_23, ha_23⟩ := hp
                      have hz := hz.trans hz_23
                      subst hr_23
                      refine g_top (y := (-2)) (yb_8 hY (by omega)) ?_
                      refine lv_bipush (v := (-2)) hx hb dL_beats_238 (by decide) ?_
                      refine lv_icmp_eq (tgt := 245) hx hb dL_beats_240 (by decide) (fun c240 => ?_) (fun c240 => by first | exact absurd (by decide) c240 | exact absurd c240 (by decide))
                      refine lv_iinc (v := (nI (j + 1))) (lv' := [(5, .int (nI (j + 1))), (4, .int (nI (lonF S (j + 1)))), (2, .int (nI (cntF (fun b => decide (firstI S b = nI b)) (j + 1)))), (1, .int (nI (cntF (restB S) (j + 1)))), (3, .int (nI (sylF S j))), (0, .ref o), (6, .int (nI (tk (S 0 j)))), (7, .ref zb)]) hx hb dL_beats_245 hl (k := 5) rfl (g_inc j 1) (by decide) rfl (fun ls hl => ?_)
                      refine lv_goto (tgt := 13) hx hb dL_beats_248 (by decide) ?_
                      have hz : H.size = sz + (j + 1) := by omega
                      refine W.widen (k := j + 1) (n := 4 * (j + 1)) (by omega) (by omega) ?_
                      have e_3 : (nI (sylF S j)) = (fiL S (j + 1)) := (fi_s hY hjl hc).symm
                      have hl := lv_sub hl (l' := [(0, .ref o), (1, .int (nI (cntF (restB S) (j + 1)))), (2, .int (nI (cntF (fun b => decide (firstI S b = nI b)) (j + 1)))), (3, .int (nI (sylF S j))), (4, .int (nI (lonF S (j + 1)))), (5, .int (nI (j + 1)))]) [5, 3, 2, 4, 1, 0] rfl
                      rw [e_3] at hl
                      exact ih_lpA (j + 1) (by omega) (by omega) τ_23 hW hL H locs ls hz hP hS hl
                    · refine lv_iload hx hb dL_beats_140 (lv_at hl 5 rfl) ?_
                      refine lv_iload_n hx hb dL_beats_142 rfl (lv_at hl 2 rfl) ?_
                      refine lv_isub hx hb dL_beats_143 ?_
                      refine g_top (pk_sub (by omega : sylF S j ≤ j)) ?_
                      refine lv_iconst (v := (nI 1)) hx hb dL_beats_144 (by decide) ?_
                      refine lv_iadd hx hb dL_beats_145 ?_
                      refine g_top (nI_add (j - (sylF S j)) 1) ?_
                      refine lv_goto (tgt := 151) hx hb dL_beats_146 (by decide) ?_
                      refine g_top (y := (nI (lonF S (j + 1)))) (congrArg nI (lon_2 hY hjl hc (by omega))) ?_
                      refine lv_istore (lv' := [(4, .int (nI (lonF S (j + 1)))), (2, .int (nI (cntF (fun b => decide (firstI S b = nI b)) (j + 1)))), (1, .int (nI (cntF (restB S) (j + 1)))), (3, .int (nI (sylF S j))), (0, .ref o), (5, .int (nI j)), (6, .int (nI (tk (S 0 j)))), (7, .ref zb)]) hx hb dL_beats_151 hl (by decide) rfl (fun ls hl => ?_)
                      refine lv_aload_n hx hb dL_beats_153 rfl (lv_at hl 4 rfl) ?_
                      refine lv_iload hx hb dL_beats_154 (lv_at hl 5 rfl) ?_
                      refine lv_iconst (v := (nI 2)) hx hb dL_beats_156 (by decide) ?_
                      refine g_runV (As := [.int (nI j), .int (nI 2)]) (rest := []) (own := RL) (C := RX7) (T := TX7) (N := 7) 2 hx hb hml hown hts hK hz hP hL hS hlo hl.1 (c_X7_beat l o b S tf tn P C kp zp ((nI j)) ((nI 2))  υ ((zb + 1)) hW hY.1.1 ) gL_beats_X7_beat rfl rfl rfl (by decide +kernel) ⟨Nat.le_of_ble_eq_true rfl, Nat.le_of_ble_eq_true rfl⟩ hW.c0 rfl rfl rfl (Nat.le_of_ble_eq_true rfl) dL_beats_157 ⟨(show j + 1 + 0 ≤ 96 by omega), (show 4 * j + 4 + 0 ≤ 384 by omega)⟩ (g_kxi0 (fun r_24 τ_24 H locs z_24 hz hp hP hL hS => ?_))
                      obtain ⟨hr_24, hW, hz_24, ha_24⟩ := hp
                      have hz := hz.trans hz_24
                      subst hr_24
                      refine g_top (y := (firstI S j)) (yb_2 hY (by omega)) ?_
                      refine g_top (y := (nI (sylF S j))) (fi_s hY hjl hc) ?_
                      refine lv_iload_n hx hb dL_beats_160 rfl (lv_at hl 3 rfl) ?_
                      refine lv_icmp_ne (tgt := 243) hx hb dL_beats_161 (by decide) (fun c161 => absurd rfl c161) (fun c161 => ?_)
                      refine lv_aload_n hx hb dL_beats_164 rfl (lv_at hl 4 rfl) ?_
                      refine lv_iload hx hb dL_beats_165 (lv_at hl 5 rfl) ?_
                      refine lv_iconst (v := (nI 3)) hx hb dL_beats_167 (by decide) ?_
                      refine g_runV (As := [.int (nI j), .int (nI 3)]) (rest := []) (own := RL) (C := RX7) (T := TX7) (N := 7) 2 hx hb hml hown hts hK hz hP hL hS hlo hl.1 (c_X7_beat l o b S tf tn P C kp zp ((nI j)) ((nI 3))  τ_24 ((zb + 1)) hW hY.1.1 ) gL_beats_X7_beat rfl rfl rfl (by decide +kernel) ⟨Nat.le_of_ble_eq_true rfl, Nat.le_of_ble_eq_true rfl⟩ hW.c0 rfl rfl rfl (Nat.le_of_ble_eq_true rfl) dL_beats_168 ⟨(show j + 1 + 0 ≤ 96 by omega), (show 4 * j + 4 + 0 ≤ 384 by omega)⟩ (g_kxi0 (fun r_25 τ_25 H locs z_25 hz hp hP hL hS => ?_))
                      obtain ⟨hr_25, hW, hz_25, ha_25⟩ := hp
                      have hz := hz.trans hz_25
                      subst hr_25
                      have hcn0 := cn_le S 0 j
                      refine g_top (y := (nI (cnQ S 0 j))) (yb_3 hY (by omega)) ?_
                      refine lv_aload hx hb dL_beats_171 (lv_at hl 7 rfl) ?_
                      refine lv_iconst (v := (nI 0)) hx hb dL_beats_173 (by decide) ?_
                      refine g_iald hx hb hK hP ((ha_25 _ hnz_zb_0).trans ((ha_24 _ hnz_zb_0).trans hA0)) (i := nI 0) (vp_in_nI (by omega) (by omega)) dL_beats_174 ?_
                      rw [nI_clamp (n := 0) (by omega)]
                      refine g_top (y := (nI (cnQ S 0 j))) rfl ?_
                      refine lv_icmp_ne (tgt := 243) hx hb dL_beats_175 (by decide) (fun c175 => absurd rfl c175) (fun c175 => ?_)
                      refine lv_aload_n hx hb dL_beats_178 rfl (lv_at hl 4 rfl) ?_
                      refine lv_iload hx hb dL_beats_179 (lv_at hl 5 rfl) ?_
                      refine lv_iconst (v := (nI 5)) hx hb dL_beats_181 (by decide) ?_
                      refine g_runV (As := [.int (nI j), .int (nI 5)]) (rest := []) (own := RL) (C := RX7) (T := TX7) (N := 7) 2 hx hb hml hown hts hK hz hP hL hS hlo hl.1 (c_X7_beat l o b S tf tn P C kp zp ((nI j)) ((nI 5))  τ_25 ((zb + 1)) hW hY.1.1 ) gL_beats_X7_beat rfl rfl rfl (by decide +kernel) ⟨Nat.le_of_ble_eq_true rfl, Nat.le_of_ble_eq_true rfl⟩ hW.c0 rfl rfl rfl (Nat.le_of_ble_eq_true rfl) dL_beats_182 ⟨(show j + 1 + 0 ≤ 96 by omega), (show 4 * j + 4 + 0 ≤ 384 by omega)⟩ (g_kxi0 (fun r_26 τ_26 H locs z_26 hz hp hP hL hS => ?_))
                      obtain ⟨hr_26, hW, hz_26, ha_26⟩ := hp
                      have hz := hz.trans hz_26
                      subst hr_26
                      have hcn1 := cn_le S 1 j
                      refine g_top (y := (nI (cnQ S 1 j))) (yb_5 hY (by omega)) ?_
                      refine lv_aload hx hb dL_beats_185 (lv_at hl 7 rfl) ?_
                      refine lv_iconst (v := (nI 1)) hx hb dL_beats_187 (by decide) ?_
                      refine g_iald hx hb hK hP ((ha_26 _ hnz_zb_0).trans ((ha_25 _ hnz_zb_0).trans ((ha_24 _ hnz_zb_0).trans hA0))) (i := nI 1) (vp_in_nI (by omega) (by omega)) dL_beats_188 ?_
                      rw [nI_clamp (n := 1) (by omega)]
                      refine g_top (y := (nI (cnQ S 1 j))) rfl ?_
                      refine lv_icmp_ne (tgt := 243) hx hb dL_beats_189 (by decide) (fun c189 => absurd rfl c189) (fun c189 => ?_)
                      refine lv_aload_n hx hb dL_beats_192 rfl (lv_at hl 4 rfl) ?_
                      refine lv_iload hx hb dL_beats_193 (lv_at hl 5 rfl) ?_
                      refine lv_bipush (v := (nI 6)) hx hb dL_beats_195 (by decide) ?_
                      refine g_runV (As := [.int (nI j), .int (nI 6)]) (rest := []) (own := RL) (C := RX7) (T := TX7) (N := 7) 2 hx hb hml hown hts hK hz hP hL hS hlo hl.1 (c_X7_beat l o b S tf tn P C kp zp ((nI j)) ((nI 6))  τ_26 ((zb + 1)) hW hY.1.1 ) gL_beats_X7_beat rfl rfl rfl (by decide +kernel) ⟨Nat.le_of_ble_eq_true rfl, Nat.le_of_ble_eq_true rfl⟩ hW.c0 rfl rfl rfl (Nat.le_of_ble_eq_true rfl) dL_beats_197 ⟨(show j + 1 + 0 ≤ 96 by omega), (show 4 * j + 4 + 0 ≤ 384 by omega)⟩ (g_kxi0 (fun r_27 τ_27 H locs z_27 hz hp hP hL hS => ?_))
                      obtain ⟨hr_27, hW, hz_27, ha_27⟩ := hp
                      have hz := hz.trans hz_27
                      subst hr_27
                      have hcn2 := cn_le S 2 j
                      refine g_top (y := (nI (cnQ S 2 j))) (yb_6 hY (by omega)) ?_
                      refine lv_aload hx hb dL_beats_200 (lv_at hl 7 rfl) ?_
                      refine lv_iconst (v := (nI 2)) hx hb dL_beats_202 (by decide) ?_
                      refine g_iald hx hb hK hP ((ha_27 _ hnz_zb_0).trans ((ha_26 _ hnz_zb_0).trans ((ha_25 _ hnz_zb_0).trans ((ha_24 _ hnz_zb_0).trans hA0)))) (i := nI 2) (vp_in_nI (by omega) (by omega)) dL_beats_203 ?_
                      rw [nI_clamp (n := 2) (by omega)]
                      refine g_top (y := (nI (cnQ S 2 j))) rfl ?_
                      refine lv_icmp_ne (tgt := 243) hx hb dL_beats_204 (by decide) (fun c204 => absurd rfl c204) (fun c204 => ?_)
                      refine lv_aload_n hx hb dL_beats_207 rfl (lv_at hl 4 rfl) ?_
                      refine lv_iload hx hb dL_beats_208 (lv_at hl 5 rfl) ?_
                      refine lv_bipush (v := (nI 7)) hx hb dL_beats_210 (by decide) ?_
                      refine g_runV (As := [.int (nI j), .int (nI 7)]) (rest := []) (own := RL) (C := RX7) (T := TX7) (N := 7) 2 hx hb hml hown hts hK hz hP hL hS hlo hl.1 (c_X7_beat l o b S tf tn P C kp zp ((nI j)) ((nI 7))  τ_27 ((zb + 1)) hW hY.1.1 ) gL_beats_X7_beat rfl rfl rfl (by decide +kernel) ⟨Nat.le_of_ble_eq_true rfl, Nat.le_of_ble_eq_true rfl⟩ hW.c0 rfl rfl rfl (Nat.le_of_ble_eq_true rfl) dL_beats_212 ⟨(show j + 1 + 0 ≤ 96 by omega), (show 4 * j + 4 + 0 ≤ 384 by omega)⟩ (g_kxi0 (fun r_28 τ_28 H locs z_28 hz hp hP hL hS => ?_))
                      obtain ⟨hr_28, hW, hz_28, ha_28⟩ := hp
                      have hz := hz.trans hz_28
                      subst hr_28
                      refine g_top (y := (nI ((cnQ S 0 j) * (tk (S 1 j))))) (yb_7 hY (by omega)) ?_
                      refine lv_aload hx hb dL_beats_215 (lv_at hl 7 rfl) ?_
                      refine lv_iconst (v := (nI 0)) hx hb dL_beats_217 (by decide) ?_
                      refine g_iald hx hb hK hP ((ha_28 _ hnz_zb_0).trans ((ha_27 _ hnz_zb_0).trans ((ha_26 _ hnz_zb_0).trans ((ha_25 _ hnz_zb_0).trans ((ha_24 _ hnz_zb_0).trans hA0))))) (i := nI 0) (vp_in_nI (by omega) (by omega)) dL_beats_218 ?_
                      rw [nI_clamp (n := 0) (by omega)]
                      refine g_top (y := (nI (cnQ S 0 j))) rfl ?_
                      refine lv_aload_n hx hb dL_beats_219 rfl (lv_at hl 4 rfl) ?_
                      refine lv_iload hx hb dL_beats_220 (lv_at hl 5 rfl) ?_
                      refine lv_iconst (v := (nI 1)) hx hb dL_beats_222 (by decide) ?_
                      refine g_runV (As := [.int (nI j), .int (nI 1)]) (rest := [.int (nI (cnQ S 0 j)), .int (nI ((cnQ S 0 j) * (tk (S 1 j))))]) (own := RL) (C := RX7) (T := TX7) (N := 7) 2 hx hb hml hown hts hK hz hP hL hS hlo hl.1 (c_X7_beat l o b S tf tn P C kp zp ((nI j)) ((nI 1))  τ_28 ((zb + 1)) hW hY.1.1 ) gL_beats_X7_beat rfl rfl rfl (by decide +kernel) ⟨Nat.le_of_ble_eq_true rfl, Nat.le_of_ble_eq_true rfl⟩ hW.c0 rfl rfl rfl (Nat.le_of_ble_eq_true rfl) dL_beats_223 ⟨(show j + 1 + 0 ≤ 96 by omega), (show 4 * j + 4 + 0 ≤ 384 by omega)⟩ (g_kxi0 (fun r_29 τ_29 H locs z_29 hz hp hP hL hS => ?_))
                      obtain ⟨hr_29, hW, hz_29, ha_29⟩ := hp
                      have hz := hz.trans hz_29
                      subst hr_29
                      have hxlo := hY.lo (b := j) (by omega)
                      refine g_top (y := (nI (tk (S 1 j)))) (yb_1 hY (by omega)) ?_
                      refine lv_imul hx hb dL_beats_226 ?_
                      refine g_top (pk_mul (cnQ S 0 j) (tk (S 1 j))) ?_
                      refine lv_icmp_ne (tgt := 243) hx hb dL_beats_227 (by decide) (fun c227 => absurd rfl c227) (fun c227 => ?_)
                      refine lv_aload_n hx hb dL_beats_230 rfl (lv_at hl 4 rfl) ?_
                      refine lv_iload hx hb dL_beats_231 (lv_at hl 5 rfl) ?_
                      refine lv_bipush (v := (nI 8)) hx hb dL_beats_233 (by decide) ?_
                      refine g_runV (As := [.int (nI j), .int (nI 8)]) (rest := []) (own := RL) (C := RX7) (T := TX7) (N := 7) 2 hx hb hml hown hts hK hz hP hL hS hlo hl.1 (c_X7_beat l o b S tf tn P C kp zp ((nI j)) ((nI 8))  τ_29 ((zb + 1)) hW hY.1.1 ) gL_beats_X7_beat rfl rfl rfl (by decide +kernel) ⟨Nat.le_of_ble_eq_true rfl, Nat.le_of_ble_eq_true rfl⟩ hW.c0 rfl rfl rfl (Nat.le_of_ble_eq_true rfl) dL_beats_235 ⟨(show j + 1 + 0 ≤ 96 by omega), (show 4 * j + 4 + 0 ≤ 384 by omega)⟩ (g_kxi0 (fun r_30 τ_30 H locs z_30 hz hp hP hL hS => ?_))
                      obtain ⟨hr_30, hW, hz_30, ha_30⟩ := hp
                      have hz := hz.trans hz_30
                      subst hr_30
                      refine g_top (y := (-2)) (yb_8 hY (by omega)) ?_
                      refine lv_bipush (v := (-2)) hx hb dL_beats_238 (by decide) ?_
                      refine lv_icmp_eq (tgt := 245) hx hb dL_beats_240 (by decide) (fun c240 => ?_) (fun c240 => by first | exact absurd (by decide) c240 | exact absurd c240 (by decide))
                      refine lv_iinc (v := (nI (j + 1))) (lv' := [(5, .int (nI (j + 1))), (4, .int (nI (lonF S (j + 1)))), (2, .int (nI (cntF (fun b => decide (firstI S b = nI b)) (j + 1)))), (1, .int (nI (cntF (restB S) (j + 1)))), (3, .int (nI (sylF S j))), (0, .ref o), (6, .int (nI (tk (S 0 j)))), (7, .ref zb)]) hx hb dL_beats_245 hl (k := 5) rfl (g_inc j 1) (by decide) rfl (fun ls hl => ?_)
                      refine lv_goto (tgt := 13) hx hb dL_beats_248 (by decide) ?_
                      have hz : H.size = sz + (j + 1) := by omega
                      refine W.widen (k := j + 1) (n := 4 * (j + 1)) (by omega) (by omega) ?_
                      have e_3 : (nI (sylF S j)) = (fiL S (j + 1)) := (fi_s hY hjl hc).symm
                      have hl := lv_sub hl (l' := [(0, .ref o), (1, .int (nI (cntF (restB S) (j + 1)))), (2, .int (nI (cntF (fun b => decide (firstI S b = nI b)) (j + 1)))), (3, .int (nI (sylF S j))), (4, .int (nI (lonF S (j + 1)))), (5, .int (nI (j + 1)))]) [5, 3, 2, 4, 1, 0] rfl
                      rw [e_3] at hl
                      exact ih_lpA (j + 1) (by omega) (by omega) τ_30 hW hL H locs ls hz hP hS hl
                  · refine lv_iconst (v := (nI 1)) hx hb dL_beats_118 (by decide) ?_
                    refine lv_goto (tgt := 123) hx hb dL_beats_119 (by decide) ?_
                    refine lv_iadd hx hb dL_beats_123 ?_
                    refine g_top (nI_add (cntF (fun b => decide (firstI S b = nI b)) j) 1) ?_
                    refine g_top (y := (nI (cntF (fun b => decide (firstI S b = nI b)) (j + 1)))) (congrArg nI (sy_t (by rw [fi_s hY hjl hc, c115]))) ?_
                    refine lv_istore_n (lv' := [(2, .int (nI (cntF (fun b => decide (firstI S b = nI b)) (j + 1)))), (1, .int (nI (cntF (restB S) (j + 1)))), (3, .int (nI (sylF S j))), (0, .ref o), (4, .int (nI (lonF S j))), (5, .int (nI j)), (6, .int (nI (tk (S 0 j)))), (7, .ref zb)]) hx hb dL_beats_124 rfl hl (by decide) rfl (fun ls hl => ?_)
                    refine lv_iload_n hx hb dL_beats_125 rfl (lv_at hl 2 rfl) ?_
                    refine g_if_lt hx hb (by omega) dL_beats_126 (tgt := 149) (by decide) ?_
                    refine lv_iload hx hb dL_beats_129 (lv_at hl 5 rfl) ?_
                    refine lv_iload_n hx hb dL_beats_131 rfl (lv_at hl 2 rfl) ?_
                    refine lv_isub hx hb dL_beats_132 ?_
                    refine g_top (pk_sub (by omega : sylF S j ≤ j)) ?_
                    refine lv_iconst (v := (nI 1)) hx hb dL_beats_133 (by decide) ?_
                    refine lv_iadd hx hb dL_beats_134 ?_
                    refine g_top (nI_add (j - (sylF S j)) 1) ?_
                    refine lv_iload hx hb dL_beats_135 (lv_at hl 4 rfl) ?_
                    refine g_icmp_le (tgt := 149) (a := (j - (sylF S j)) + 1) (b := lonF S j) hx hb (by omega) (by omega) dL_beats_137 (by decide) (fun c137 => ?_) (fun c137 => ?_)
                    · refine lv_iload hx hb dL_beats_149 (lv_at hl 4 rfl) ?_
                      refine g_top (y := (nI (lonF S (j + 1)))) (congrArg nI (lon_1 hY hjl hc (by omega))) ?_
                      refine lv_istore (lv' := [(4, .int (nI (lonF S (j + 1)))), (2, .int (nI (cntF (fun b => decide (firstI S b = nI b)) (j + 1)))), (1, .int (nI (cntF (restB S) (j + 1)))), (3, .int (nI (sylF S j))), (0, .ref o), (5, .int (nI j)), (6, .int (nI (tk (S 0 j)))), (7, .ref zb)]) hx hb dL_beats_151 hl (by decide) rfl (fun ls hl => ?_)
                      refine lv_aload_n hx hb dL_beats_153 rfl (lv_at hl 4 rfl) ?_
                      refine lv_iload hx hb dL_beats_154 (lv_at hl 5 rfl) ?_
                      refine lv_iconst (v := (nI 2)) hx hb dL_beats_156 (by decide) ?_
                      refine g_runV (As := [.int (nI j), .int (nI 2)]) (rest := []) (own := RL) (C := RX7) (T := TX7) (N := 7) 2 hx hb hml hown hts hK hz hP hL hS hlo hl.1 (c_X7_beat l o b S tf tn P C kp zp ((nI j)) ((nI 2))  υ ((zb + 1)) hW hY.1.1 ) gL_beats_X7_beat rfl rfl rfl (by decide +kernel) ⟨Nat.le_of_ble_eq_true rfl, Nat.le_of_ble_eq_true rfl⟩ hW.c0 rfl rfl rfl (Nat.le_of_ble_eq_true rfl) dL_beats_157 ⟨(show j + 1 + 0 ≤ 96 by omega), (show 4 * j + 4 + 0 ≤ 384 by omega)⟩ (g_kxi0 (fun r_31 τ_31 H locs z_31 hz hp hP hL hS => ?_))
                      obtain ⟨hr_31, hW, hz_31, ha_31⟩ := hp
                      have hz := hz.trans hz_31
                      subst hr_31
                      refine g_top (y := (firstI S j)) (yb_2 hY (by omega)) ?_
                      refine g_top (y := (nI (sylF S j))) (fi_s hY hjl hc) ?_
                      refine lv_iload_n hx hb dL_beats_160 rfl (lv_at hl 3 rfl) ?_
                      refine lv_icmp_ne (tgt := 243) hx hb dL_beats_161 (by decide) (fun c161 => absurd rfl c161) (fun c161 => ?_)
                      refine lv_aload_n hx hb dL_beats_164 rfl (lv_at hl 4 rfl) ?_
                      refine lv_iload hx hb dL_beats_165 (lv_at hl 5 rfl) ?_
                      refine lv_iconst (v := (nI 3)) hx hb dL_beats_167 (by decide) ?_
                      refine g_runV (As := [.int (nI j), .int (nI 3)]) (rest := []) (own := RL) (C := RX7) (T := TX7) (N := 7) 2 hx hb hml hown hts hK hz hP hL hS hlo hl.1 (c_X7_beat l o b S tf tn P C kp zp ((nI j)) ((nI 3))  τ_31 ((zb + 1)) hW hY.1.1 ) gL_beats_X7_beat rfl rfl rfl (by decide +kernel) ⟨Nat.le_of_ble_eq_true rfl, Nat.le_of_ble_eq_true rfl⟩ hW.c0 rfl rfl rfl (Nat.le_of_ble_eq_true rfl) dL_beats_168 ⟨(show j + 1 + 0 ≤ 96 by omega), (show 4 * j + 4 + 0 ≤ 384 by omega)⟩ (g_kxi0 (fun r_32 τ_32 H locs z_32 hz hp hP hL hS => ?_))
                      obtain ⟨hr_32, hW, hz_32, ha_32⟩ := hp
                      have hz := hz.trans hz_32
                      subst hr_32
                      have hcn0 := cn_le S 0 j
                      refine g_top (y := (nI (cnQ S 0 j))) (yb_3 hY (by omega)) ?_
                      refine lv_aload hx hb dL_beats_171 (lv_at hl 7 rfl) ?_
                      refine lv_iconst (v := (nI 0)) hx hb dL_beats_173 (by decide) ?_
                      refine g_iald hx hb hK hP ((ha_32 _ hnz_zb_0).trans ((ha_31 _ hnz_zb_0).trans hA0)) (i := nI 0) (vp_in_nI (by omega) (by omega)) dL_beats_174 ?_
                      rw [nI_clamp (n := 0) (by omega)]
                      refine g_top (y := (nI (cnQ S 0 j))) rfl ?_
                      refine lv_icmp_ne (tgt := 243) hx hb dL_beats_175 (by decide) (fun c175 => absurd rfl c175) (fun c175 => ?_)
                      refine lv_aload_n hx hb dL_beats_178 rfl (lv_at hl 4 rfl) ?_
                      refine lv_iload hx hb dL_beats_179 (lv_at hl 5 rfl) ?_
                      refine lv_iconst (v := (nI 5)) hx hb dL_beats_181 (by decide) ?_
                      refine g_runV (As := [.int (nI j), .int (nI 5)]) (rest := []) (own := RL) (C := RX7) (T := TX7) (N := 7) 2 hx hb hml hown hts hK hz hP hL hS hlo hl.1 (c_X7_beat l o b S tf tn P C kp zp ((nI j)) ((nI 5))  τ_32 ((zb + 1)) hW hY.1.1 ) gL_beats_X7_beat rfl rfl rfl (by decide +kernel) ⟨Nat.le_of_ble_eq_true rfl, Nat.le_of_ble_eq_true rfl⟩ hW.c0 rfl rfl rfl (Nat.le_of_ble_eq_true rfl) dL_beats_182 ⟨(show j + 1 + 0 ≤ 96 by omega), (show 4 * j + 4 + 0 ≤ 384 by omega)⟩ (g_kxi0 (fun r_33 τ_33 H locs z_33 hz hp hP hL hS => ?_))
                      obtain ⟨hr_33, hW, hz_33, ha_33⟩ := hp
                      have hz := hz.trans hz_33
                      subst hr_33
                      have hcn1 := cn_le S 1 j
                      refine g_top (y := (nI (cnQ S 1 j))) (yb_5 hY (by omega)) ?_
                      refine lv_aload hx hb dL_beats_185 (lv_at hl 7 rfl) ?_
                      refine lv_iconst (v := (nI 1)) hx hb dL_beats_187 (by decide) ?_
                      refine g_iald hx hb hK hP ((ha_33 _ hnz_zb_0).trans ((ha_32 _ hnz_zb_0).trans ((ha_31 _ hnz_zb_0).trans hA0))) (i := nI 1) (vp_in_nI (by omega) (by omega)) dL_beats_188 ?_
                      rw [nI_clamp (n := 1) (by omega)]
                      refine g_top (y := (nI (cnQ S 1 j))) rfl ?_
                      refine lv_icmp_ne (tgt := 243) hx hb dL_beats_189 (by decide) (fun c189 => absurd rfl c189) (fun c189 => ?_)
                      refine lv_aload_n hx hb dL_beats_192 rfl (lv_at hl 4 rfl) ?_
                      refine lv_iload hx hb dL_beats_193 (lv_at hl 5 rfl) ?_
                      refine lv_bipush (v := (nI 6)) hx hb dL_beats_195 (by decide) ?_
                      refine g_runV (As := [.int (nI j), .int (nI 6)]) (rest := []) (own := RL) (C := RX7) (T := TX7) (N := 7) 2 hx hb hml hown hts hK hz hP hL hS hlo hl.1 (c_X7_beat l o b S tf tn P C kp zp ((nI j)) ((nI 6))  τ_33 ((zb + 1)) hW hY.1.1 ) gL_beats_X7_beat rfl rfl rfl (by decide +kernel) ⟨Nat.le_of_ble_eq_true rfl, Nat.le_of_ble_eq_true rfl⟩ hW.c0 rfl rfl rfl (Nat.le_of_ble_eq_true rfl) dL_beats_197 ⟨(show j + 1 + 0 ≤ 96 by omega), (show 4 * j + 4 + 0 ≤ 384 by omega)⟩ (g_kxi0 (fun r_34 τ_34 H locs z_34 hz hp hP hL hS => ?_))
                      obtain ⟨hr_34, hW, hz_34, ha_34⟩ := hp
                      have hz := hz.trans hz_34
                      subst hr_34
                      have hcn2 := cn_le S 2 j
                      refine g_top (y := (nI (cnQ S 2 j))) (yb_6 hY (by omega)) ?_
                      refine lv_aload hx hb dL_beats_200 (lv_at hl 7 rfl) ?_
                      refine lv_iconst (v := (nI 2)) hx hb dL_beats_202 (by decide) ?_
                      refine g_iald hx hb hK hP ((ha_34 _ hnz_zb_0).trans ((ha_33 _ hnz_zb_0).trans ((ha_32 _ hnz_zb_0).trans ((ha_31 _ hnz_zb_0).trans hA0)))) (i := nI 2) (vp_in_nI (by omega) (by omega)) dL_beats_203 ?_
                      rw [nI_clamp (n := 2) (by omega)]
                      refine g_top (y := (nI (cnQ S 2 j))) rfl ?_
                      refine lv_icmp_ne (tgt := 243) hx hb dL_beats_204 (by decide) (fun c204 => absurd rfl c204) (fun c204 => ?_)
                      refine lv_aload_n hx hb dL_beats_207 rfl (lv_at hl 4 rfl) ?_
                      refine lv_iload hx hb dL_beats_208 (lv_at hl 5 rfl) ?_
                      refine lv_bipush (v := (nI 7)) hx hb dL_beats_210 (by decide) ?_
                      refine g_runV (As := [.int (nI j), .int (nI 7)]) (rest := []) (own := RL) (C := RX7) (T := TX7) (N := 7) 2 hx hb hml hown hts hK hz hP hL hS hlo hl.1 (c_X7_beat l o b S tf tn P C kp zp ((nI j)) ((nI 7))  τ_34 ((zb + 1)) hW hY.1.1 ) gL_beats_X7_beat rfl rfl rfl (by decide +kernel) ⟨Nat.le_of_ble_eq_true rfl, Nat.le_of_ble_eq_true rfl⟩ hW.c0 rfl rfl rfl (Nat.le_of_ble_eq_true rfl) dL_beats_212 ⟨(show j + 1 + 0 ≤ 96 by omega), (show 4 * j + 4 + 0 ≤ 384 by omega)⟩ (g_kxi0 (fun r_35 τ_35 H locs z_35 hz hp hP hL hS => ?_))
                      obtain ⟨hr_35, hW, hz_35, ha_35⟩ := hp
                      have hz := hz.trans hz_35
                      subst hr_35
                      refine g_top (y := (nI ((cnQ S 0 j) * (tk (S 1 j))))) (yb_7 hY (by omega)) ?_
                      refine lv_aload hx hb dL_beats_215 (lv_at hl 7 rfl) ?_
                      refine lv_iconst (v := (nI 0)) hx hb dL_beats_217 (by decide) ?_
                      refine g_iald hx hb hK hP ((ha_35 _ hnz_zb_0).trans ((ha_34 _ hnz_zb_0).trans ((ha_33 _ hnz_zb_0).trans ((ha_32 _ hnz_zb_0).trans ((ha_31 _ hnz_zb_0).trans hA0))))) (i := nI 0) (vp_in_nI (by omega) (by omega)) dL_beats_218 ?_
                      rw [nI_clamp (n := 0) (by omega)]
                      refine g_top (y := (nI (cnQ S 0 j))) rfl ?_
                      refine lv_aload_n hx hb dL_beats_219 rfl (lv_at hl 4 rfl) ?_
                      refine lv_iload hx hb dL_beats_220 (lv_at hl 5 rfl) ?_
                      refine lv_iconst (v := (nI 1)) hx hb dL_beats_222 (by decide) ?_
                      refine g_runV (As := [.int (nI j), .int (nI 1)]) (rest := [.int (nI (cnQ S 0 j)), .int (nI ((cnQ S 0 j) * (tk (S 1 j))))]) (own := RL) (C := RX7) (T := TX7) (N := 7) 2 hx hb hml hown hts hK hz hP hL hS hlo hl.1 (c_X7_beat l o b S tf tn P C kp zp ((nI j)) ((nI 1))  τ_35 ((zb + 1)) hW hY.1.1 ) gL_beats_X7_beat rfl rfl rfl (by decide +kernel) ⟨Nat.le_of_ble_eq_true rfl, Nat.le_of_ble_eq_true rfl⟩ hW.c0 rfl rfl rfl (Nat.le_of_ble_eq_true rfl) dL_beats_223 ⟨(show j + 1 + 0 ≤ 96 by omega), (show 4 * j + 4 + 0 ≤ 384 by omega)⟩ (g_kxi0 (fun r_36 τ_36 H locs z_36 hz hp hP hL hS => ?_))
                      obtain ⟨hr_36, hW, hz_36, ha_36⟩ := hp
                      have hz := hz.trans hz_36
                      subst hr_36
                      have hxlo := hY.lo (b := j) (by omega)
                      refine g_top (y := (nI (tk (S 1 j)))) (yb_1 hY (by omega)) ?_
                      refine lv_imul hx hb dL_beats_226 ?_
                      refine g_top (pk_mul (cnQ S 0 j) (tk (S 1 j))) ?_
                      refine lv_icmp_ne (tgt := 243) hx hb dL_beats_227 (by decide) (fun c227 => absurd rfl c227) (fun c227 => ?_)
                      refine lv_aload_n hx hb dL_beats_230 rfl (lv_at hl 4 rfl) ?_
                      refine lv_iload hx hb dL_beats_231 (lv_at hl 5 rfl) ?_
                      refine lv_bipush (v := (nI 8)) hx hb dL_beats_233 (by decide) ?_
                      refine g_runV (As := [.int (nI j), .int (nI 8)]) (rest := []) (own := RL) (C := RX7) (T := TX7) (N := 7) 2 hx hb hml hown hts hK hz hP hL hS hlo hl.1 (c_X7_beat l o b S tf tn P C kp zp ((nI j)) ((nI 8))  τ_36 ((zb + 1)) hW hY.1.1 ) gL_beats_X7_beat rfl rfl rfl (by decide +kernel) ⟨Nat.le_of_ble_eq_true rfl, Nat.le_of_ble_eq_true rfl⟩ hW.c0 rfl rfl rfl (Nat.le_of_ble_eq_true rfl) dL_beats_235 ⟨(show j + 1 + 0 ≤ 96 by omega), (show 4 * j + 4 + 0 ≤ 384 by omega)⟩ (g_kxi0 (fun r_37 τ_37 H locs z_37 hz hp hP hL hS => ?_))
                      obtain ⟨hr_37, hW, hz_37, ha_37⟩ := hp
                      have hz := hz.trans hz_37
                      subst hr_37
                      refine g_top (y := (-2)) (yb_8 hY (by omega)) ?_
                      refine lv_bipush (v := (-2)) hx hb dL_beats_238 (by decide) ?_
                      refine lv_icmp_eq (tgt := 245) hx hb dL_beats_240 (by decide) (fun c240 => ?_) (fun c240 => by first | exact absurd (by decide) c240 | exact absurd c240 (by decide))
                      refine lv_iinc (v := (nI (j + 1))) (lv' := [(5, .int (nI (j + 1))), (4, .int (nI (lonF S (j + 1)))), (2, .int (nI (cntF (fun b => decide (firstI S b = nI b)) (j + 1)))), (1, .int (nI (cntF (restB S) (j + 1)))), (3, .int (nI (sylF S j))), (0, .ref o), (6, .int (nI (tk (S 0 j)))), (7, .ref zb)]) hx hb dL_beats_245 hl (k := 5) rfl (g_inc j 1) (by decide) rfl (fun ls hl => ?_)
                      refine lv_goto (tgt := 13) hx hb dL_beats_248 (by decide) ?_
                      have hz : H.size = sz + (j + 1) := by omega
                      refine W.widen (k := j + 1) (n := 4 * (j + 1)) (by omega) (by omega) ?_
                      have e_3 : (nI (sylF S j)) = (fiL S (j + 1)) := (fi_s hY hjl hc).symm
                      have hl := lv_sub hl (l' := [(0, .ref o), (1, .int (nI (cntF (restB S) (j + 1)))), (2, .int (nI (cntF (fun b => decide (firstI S b = nI b)) (j + 1)))), (3, .int (nI (sylF S j))), (4, .int (nI (lonF S (j + 1)))), (5, .int (nI (j + 1)))]) [5, 3, 2, 4, 1, 0] rfl
                      rw [e_3] at hl
                      exact ih_lpA (j + 1) (by omega) (by omega) τ_37 hW hL H locs ls hz hP hS hl
                    · refine lv_iload hx hb dL_beats_140 (lv_at hl 5 rfl) ?_
                      refine lv_iload_n hx hb dL_beats_142 rfl (lv_at hl 2 rfl) ?_
                      refine lv_isub hx hb dL_beats_143 ?_
                      refine g_top (pk_sub (by omega : sylF S j ≤ j)) ?_
                      refine lv_iconst (v := (nI 1)) hx hb dL_beats_144 (by decide) ?_
                      refine lv_iadd hx hb dL_beats_145 ?_
                      refine g_top (nI_add (j - (sylF S j)) 1) ?_
                      refine lv_goto (tgt := 151) hx hb dL_beats_146 (by decide) ?_
                      refine g_top (y := (nI (lonF S (j + 1)))) (congrArg nI (lon_2 hY hjl hc (by omega))) ?_
                      refine lv_istore (lv' := [(4, .int (nI (lonF S (j + 1)))), (2, .int (nI (cntF (fun b => decide (firstI S b = nI b)) (j + 1)))), (1, .int (nI (cntF (restB S) (j + 1)))), (3, .int (nI (sylF S j))), (0, .ref o), (5, .int (nI j)), (6, .int (nI (tk (S 0 j)))), (7, .ref zb)]) hx hb dL_beats_151 hl (by decide) rfl (fun ls hl => ?_)
                      refine lv_aload_n hx hb dL_beats_153 rfl (lv_at hl 4 rfl) ?_
                      refine lv_iload hx hb dL_beats_154 (lv_at hl 5 rfl) ?_
                      refine lv_iconst (v := (nI 2)) hx hb dL_beats_156 (by decide) ?_
                      refine g_runV (As := [.int (nI j), .int (nI 2)]) (rest := []) (own := RL) (C := RX7) (T := TX7) (N := 7) 2 hx hb hml hown hts hK hz hP hL hS hlo hl.1 (c_X7_beat l o b S tf tn P C kp zp ((nI j)) ((nI 2))  υ ((zb + 1)) hW hY.1.1 ) gL_beats_X7_beat rfl rfl rfl (by decide +kernel) ⟨Nat.le_of_ble_eq_true rfl, Nat.le_of_ble_eq_true rfl⟩ hW.c0 rfl rfl rfl (Nat.le_of_ble_eq_true rfl) dL_beats_157 ⟨(show j + 1 + 0 ≤ 96 by omega), (show 4 * j + 4 + 0 ≤ 384 by omega)⟩ (g_kxi0 (fun r_38 τ_38 H locs z_38 hz hp hP hL hS => ?_))
                      obtain ⟨hr_38, hW, hz_38, ha_38⟩ := hp
                      have hz := hz.trans hz_38
                      subst hr_38
                      refine g_top (y := (firstI S j)) (yb_2 hY (by omega)) ?_
                      refine g_top (y := (nI (sylF S j))) (fi_s hY hjl hc) ?_
                      refine lv_iload_n hx hb dL_beats_160 rfl (lv_at hl 3 rfl) ?_
                      refine lv_icmp_ne (tgt := 243) hx hb dL_beats_161 (by decide) (fun c161 => absurd rfl c161) (fun c161 => ?_)
                      refine lv_aload_n hx hb dL_beats_164 rfl (lv_at hl 4 rfl) ?_
                      refine lv_iload hx hb dL_beats_165 (lv_at hl 5 rfl) ?_
                      refine lv_iconst (v := (nI 3)) hx hb dL_beats_167 (by decide) ?_
                      refine g_runV (As := [.int (nI j), .int (nI 3)]) (rest := []) (own := RL) (C := RX7) (T := TX7) (N := 7) 2 hx hb hml hown hts hK hz hP hL hS hlo hl.1 (c_X7_beat l o b S tf tn P C kp zp ((nI j)) ((nI 3))  τ_38 ((zb + 1)) hW hY.1.1 ) gL_beats_X7_beat rfl rfl rfl (by decide +kernel) ⟨Nat.le_of_ble_eq_true rfl, Nat.le_of_ble_eq_true rfl⟩ hW.c0 rfl rfl rfl (Nat.le_of_ble_eq_true rfl) dL_beats_168 ⟨(show j + 1 + 0 ≤ 96 by omega), (show 4 * j + 4 + 0 ≤ 384 by omega)⟩ (g_kxi0 (fun r_39 τ_39 H locs z_39 hz hp hP hL hS => ?_))
                      obtain ⟨hr_39, hW, hz_39, ha_39⟩ := hp
                      have hz := hz.trans hz_39
                      subst hr_39
                      have hcn0 := cn_le S 0 j
                      refine g_top (y := (nI (cnQ S 0 j))) (yb_3 hY (by omega)) ?_
                      refine lv_aload hx hb dL_beats_171 (lv_at hl 7 rfl) ?_
                      refine lv_iconst (v := (nI 0)) hx hb dL_beats_173 (by decide) ?_
                      refine g_iald hx hb hK hP ((ha_39 _ hnz_zb_0).trans ((ha_38 _ hnz_zb_0).trans hA0)) (i := nI 0) (vp_in_nI (by omega) (by omega)) dL_beats_174 ?_
                      rw [nI_clamp (n := 0) (by omega)]
                      refine g_top (y := (nI (cnQ S 0 j))) rfl ?_
                      refine lv_icmp_ne (tgt := 243) hx hb dL_beats_175 (by decide) (fun c175 => absurd rfl c175) (fun c175 => ?_)
                      refine lv_aload_n hx hb dL_beats_178 rfl (lv_at hl 4 rfl) ?_
                      refine lv_iload hx hb dL_beats_179 (lv_at hl 5 rfl) ?_
                      refine lv_iconst (v := (nI 5)) hx hb dL_beats_181 (by decide) ?_
                      refine g_runV (As := [.int (nI j), .int (nI 5)]) (rest := []) (own := RL) (C := RX7) (T := TX7) (N := 7) 2 hx hb hml hown hts hK hz hP hL hS hlo hl.1 (c_X7_beat l o b S tf tn P C kp zp ((nI j)) ((nI 5))  τ_39 ((zb + 1)) hW hY.1.1 ) gL_beats_X7_beat rfl rfl rfl (by decide +kernel) ⟨Nat.le_of_ble_eq_true rfl, Nat.le_of_ble_eq_true rfl⟩ hW.c0 rfl rfl rfl (Nat.le_of_ble_eq_true rfl) dL_beats_182 ⟨(show j + 1 + 0 ≤ 96 by omega), (show 4 * j + 4 + 0 ≤ 384 by omega)⟩ (g_kxi0 (fun r_40 τ_40 H locs z_40 hz hp hP hL hS => ?_))
                      obtain ⟨hr_40, hW, hz_40, ha_40⟩ := hp
                      have hz := hz.trans hz_40
                      subst hr_40
                      have hcn1 := cn_le S 1 j
                      refine g_top (y := (nI (cnQ S 1 j))) (yb_5 hY (by omega)) ?_
                      refine lv_aload hx hb dL_beats_185 (lv_at hl 7 rfl) ?_
                      refine lv_iconst (v := (nI 1)) hx hb dL_beats_187 (by decide) ?_
                      refine g_iald hx hb hK hP ((ha_40 _ hnz_zb_0).trans ((ha_39 _ hnz_zb_0).trans ((ha_38 _ hnz_zb_0).trans hA0))) (i := nI 1) (vp_in_nI (by omega) (by omega)) dL_beats_188 ?_
                      rw [nI_clamp (n := 1) (by omega)]
                      refine g_top (y := (nI (cnQ S 1 j))) rfl ?_
                      refine lv_icmp_ne (tgt := 243) hx hb dL_beats_189 (by decide) (fun c189 => absurd rfl c189) (fun c189 => ?_)
                      refine lv_aload_n hx hb dL_beats_192 rfl (lv_at hl 4 rfl) ?_
                      refine lv_iload hx hb dL_beats_193 (lv_at hl 5 rfl) ?_
                      refine lv_bipush (v := (nI 6)) hx hb dL_beats_195 (by decide) ?_
                      refine g_runV (As := [.int (nI j), .int (nI 6)]) (rest := []) (own := RL) (C := RX7) (T := TX7) (N := 7) 2 hx hb hml hown hts hK hz hP hL hS hlo hl.1 (c_X7_beat l o b S tf tn P C kp zp ((nI j)) ((nI 6))  τ_40 ((zb + 1)) hW hY.1.1 ) gL_beats_X7_beat rfl rfl rfl (by decide +kernel) ⟨Nat.le_of_ble_eq_true rfl, Nat.le_of_ble_eq_true rfl⟩ hW.c0 rfl rfl rfl (Nat.le_of_ble_eq_true rfl) dL_beats_197 ⟨(show j + 1 + 0 ≤ 96 by omega), (show 4 * j + 4 + 0 ≤ 384 by omega)⟩ (g_kxi0 (fun r_41 τ_41 H locs z_41 hz hp hP hL hS => ?_))
                      obtain ⟨hr_41, hW, hz_41, ha_41⟩ := hp
                      have hz := hz.trans hz_41
                      subst hr_41
                      have hcn2 := cn_le S 2 j
                      refine g_top (y := (nI (cnQ S 2 j))) (yb_6 hY (by omega)) ?_
                      refine lv_aload hx hb dL_beats_200 (lv_at hl 7 rfl) ?_
                      refine lv_iconst (v := (nI 2)) hx hb dL_beats_202 (by decide) ?_
                      refine g_iald hx hb hK hP ((ha_41 _ hnz_zb_0).trans ((ha_40 _ hnz_zb_0).trans ((ha_39 _ hnz_zb_0).trans ((ha_38 _ hnz_zb_0).trans hA0)))) (i := nI 2) (vp_in_nI (by omega) (by omega)) dL_beats_203 ?_
                      rw [nI_clamp (n := 2) (by omega)]
                      refine g_top (y := (nI (cnQ S 2 j))) rfl ?_
                      refine lv_icmp_ne (tgt := 243) hx hb dL_beats_204 (by decide) (fun c204 => absurd rfl c204) (fun c204 => ?_)
                      refine lv_aload_n hx hb dL_beats_207 rfl (lv_at hl 4 rfl) ?_
                      refine lv_iload hx hb dL_beats_208 (lv_at hl 5 rfl) ?_
                      refine lv_bipush (v := (nI 7)) hx hb dL_beats_210 (by decide) ?_
                      refine g_runV (As := [.int (nI j), .int (nI 7)]) (rest := []) (own := RL) (C := RX7) (T := TX7) (N := 7) 2 hx hb hml hown hts hK hz hP hL hS hlo hl.1 (c_X7_beat l o b S tf tn P C kp zp ((nI j)) ((nI 7))  τ_41 ((zb + 1)) hW hY.1.1 ) gL_beats_X7_beat rfl rfl rfl (by decide +kernel) ⟨Nat.le_of_ble_eq_true rfl, Nat.le_of_ble_eq_true rfl⟩ hW.c0 rfl rfl rfl (Nat.le_of_ble_eq_true rfl) dL_beats_212 ⟨(show j + 1 + 0 ≤ 96 by omega), (show 4 * j + 4 + 0 ≤ 384 by omega)⟩ (g_kxi0 (fun r_42 τ_42 H locs z_42 hz hp hP hL hS => ?_))
                      obtain ⟨hr_42, hW, hz_42, ha_42⟩ := hp
                      have hz := hz.trans hz_42
                      subst hr_42
                      refine g_top (y := (nI ((cnQ S 0 j) * (tk (S 1 j))))) (yb_7 hY (by omega)) ?_
                      refine lv_aload hx hb dL_beats_215 (lv_at hl 7 rfl) ?_
                      refine lv_iconst (v := (nI 0)) hx hb dL_beats_217 (by decide) ?_
                      refine g_iald hx hb hK hP ((ha_42 _ hnz_zb_0).trans ((ha_41 _ hnz_zb_0).trans ((ha_40 _ hnz_zb_0).trans ((ha_39 _ hnz_zb_0).trans ((ha_38 _ hnz_zb_0).trans hA0))))) (i := nI 0) (vp_in_nI (by omega) (by omega)) dL_beats_218 ?_
                      rw [nI_clamp (n := 0) (by omega)]
                      refine g_top (y := (nI (cnQ S 0 j))) rfl ?_
                      refine lv_aload_n hx hb dL_beats_219 rfl (lv_at hl 4 rfl) ?_
                      refine lv_iload hx hb dL_beats_220 (lv_at hl 5 rfl) ?_
                      refine lv_iconst (v := (nI 1)) hx hb dL_beats_222 (by decide) ?_
                      refine g_runV (As := [.int (nI j), .int (nI 1)]) (rest := [.int (nI (cnQ S 0 j)), .int (nI ((cnQ S 0 j) * (tk (S 1 j))))]) (own := RL) (C := RX7) (T := TX7) (N := 7) 2 hx hb hml hown hts hK hz hP hL hS hlo hl.1 (c_X7_beat l o b S tf tn P C kp zp ((nI j)) ((nI 1))  τ_42 ((zb + 1)) hW hY.1.1 ) gL_beats_X7_beat rfl rfl rfl (by decide +kernel) ⟨Nat.le_of_ble_eq_true rfl, Nat.le_of_ble_eq_true rfl⟩ hW.c0 rfl rfl rfl (Nat.le_of_ble_eq_true rfl) dL_beats_223 ⟨(show j + 1 + 0 ≤ 96 by omega), (show 4 * j + 4 + 0 ≤ 384 by omega)⟩ (g_kxi0 (fun r_43 τ_43 H locs z_43 hz hp hP hL hS => ?_))
                      obtain ⟨hr_43, hW, hz_43, ha_43⟩ := hp
                      have hz := hz.trans hz_43
                      subst hr_43
                      have hxlo := hY.lo (b := j) (by omega)
                      refine g_top (y := (nI (tk (S 1 j)))) (yb_1 hY (by omega)) ?_
                      refine lv_imul hx hb dL_beats_226 ?_
                      refine g_top (pk_mul (cnQ S 0 j) (tk (S 1 j))) ?_
                      refine lv_icmp_ne (tgt := 243) hx hb dL_beats_227 (by decide) (fun c227 => absurd rfl c227) (fun c227 => ?_)
                      refine lv_aload_n hx hb dL_beats_230 rfl (lv_at hl 4 rfl) ?_
                      refine lv_iload hx hb dL_beats_231 (lv_at hl 5 rfl) ?_
                      refine lv_bipush (v := (nI 8)) hx hb dL_beats_233 (by decide) ?_
                      refine g_runV (As := [.int (nI j), .int (nI 8)]) (rest := []) (own := RL) (C := RX7) (T := TX7) (N := 7) 2 hx hb hml hown hts hK hz hP hL hS hlo hl.1 (c_X7_beat l o b S tf tn P C kp zp ((nI j)) ((nI 8))  τ_43 ((zb + 1)) hW hY.1.1 ) gL_beats_X7_beat rfl rfl rfl (by decide +kernel) ⟨Nat.le_of_ble_eq_true rfl, Nat.le_of_ble_eq_true rfl⟩ hW.c0 rfl rfl rfl (Nat.le_of_ble_eq_true rfl) dL_beats_235 ⟨(show j + 1 + 0 ≤ 96 by omega), (show 4 * j + 4 + 0 ≤ 384 by omega)⟩ (g_kxi0 (fun r_44 τ_44 H locs z_44 hz hp hP hL hS => ?_))
                      obtain ⟨hr_44, hW, hz_44, ha_44⟩ := hp
                      have hz := hz.trans hz_44
                      subst hr_44
                      refine g_top (y := (-2)) (yb_8 hY (by omega)) ?_
                      refine lv_bipush (v := (-2)) hx hb dL_beats_238 (by decide) ?_
                      refine lv_icmp_eq (tgt := 245) hx hb dL_beats_240 (by decide) (fun c240 => ?_) (fun c240 => by first | exact absurd (by decide) c240 | exact absurd c240 (by decide))
                      refine lv_iinc (v := (nI (j + 1))) (lv' := [(5, .int (nI (j + 1))), (4, .int (nI (lonF S (j + 1)))), (2, .int (nI (cntF (fun b => decide (firstI S b = nI b)) (j + 1)))), (1, .int (nI (cntF (restB S) (j + 1)))), (3, .int (nI (sylF S j))), (0, .ref o), (6, .int (nI (tk (S 0 j)))), (7, .ref zb)]) hx hb dL_beats_245 hl (k := 5) rfl (g_inc j 1) (by decide) rfl (fun ls hl => ?_)
                      refine lv_goto (tgt := 13) hx hb dL_beats_248 (by decide) ?_
                      have hz : H.size = sz + (j + 1) := by omega
                      refine W.widen (k := j + 1) (n := 4 * (j + 1)) (by omega) (by omega) ?_
                      have e_3 : (nI (sylF S j)) = (fiL S (j + 1)) := (fi_s hY hjl hc).symm
                      have hl := lv_sub hl (l' := [(0, .ref o), (1, .int (nI (cntF (restB S) (j + 1)))), (2, .int (nI (cntF (fun b => decide (firstI S b = nI b)) (j + 1)))), (3, .int (nI (sylF S j))), (4, .int (nI (lonF S (j + 1)))), (5, .int (nI (j + 1)))]) [5, 3, 2, 4, 1, 0] rfl
                      rw [e_3] at hl
                      exact ih_lpA (j + 1) (by omega) (by omega) τ_44 hW hL H locs ls hz hP hS hl
              refine lv_iload hx hb dL_beats_71 (lv_at hl 6 rfl) ?_
              refine g_if_ne (tgt := 81) hx hb (by omega) dL_beats_73 (by decide) (fun c73 => ?_) (fun c73 => ?_)
              · refine lv_iload hx hb dL_beats_81 (lv_at hl 6 rfl) ?_
                refine lv_iconst (v := (nI 2)) hx hb dL_beats_83 (by decide) ?_
                refine g_icmp_eq (tgt := 91) (a := tk (S 0 j)) (b := 2) hx hb (by omega) (by omega) dL_beats_84 (by decide) (fun c84 => ?_) (fun c84 => ?_)
                · refine lv_iload hx hb dL_beats_91 (lv_at hl 5 rfl) ?_
                  refine lv_goto (tgt := 97) hx hb dL_beats_93 (by decide) ?_
                  refine g_top (y := (firstI S j)) (fi_2 hY hjl c84).symm ?_
                  exact jn τ_9 hW hA9 hL H locs ls hz hP hS (lv_sub hl [0, 1, 2, 4, 5, 6, 7] rfl)
                · refine lv_iload_n hx hb dL_beats_87 rfl (lv_at hl 3 rfl) ?_
                  refine lv_if_ge (tgt := 96) hx hb dL_beats_88 (by decide) (fun c88 => ?_) (fun c88 => ?_)
                  · refine lv_iload_n hx hb dL_beats_96 rfl (lv_at hl 3 rfl) ?_
                    refine g_top (y := (firstI S j)) (fi_p hY hjl (by omega) (Int32.not_lt.mpr c88)).symm ?_
                    exact jn τ_9 hW hA9 hL H locs ls hz hP hS (lv_sub hl [0, 1, 2, 4, 5, 6, 7] rfl)
                  · refine lv_iload hx hb dL_beats_91 (lv_at hl 5 rfl) ?_
                    refine lv_goto (tgt := 97) hx hb dL_beats_93 (by decide) ?_
                    refine g_top (y := (firstI S j)) (fi_n hY hjl c73 (Int32.not_le.mp c88)).symm ?_
                    exact jn τ_9 hW hA9 hL H locs ls hz hP hS (lv_sub hl [0, 1, 2, 4, 5, 6, 7] rfl)
              · refine lv_bipush (v := (-5)) hx hb dL_beats_76 (by decide) ?_
                refine lv_goto (tgt := 97) hx hb dL_beats_78 (by decide) ?_
                refine g_top (y := (firstI S j)) (fi_0 hY hjl c73).symm ?_
                exact jn τ_9 hW hA9 hL H locs ls hz hP hS (lv_sub hl [0, 1, 2, 4, 5, 6, 7] rfl)
            · have hil : i < sN S := by omega
              refine lv_aload hx hb dL_beats_50 (lv_at hl 7 rfl) ?_
              refine lv_aload_n hx hb dL_beats_52 rfl (lv_at hl 0 rfl) ?_
              refine lv_iload hx hb dL_beats_53 (lv_at hl 8 rfl) ?_
              refine lv_iload hx hb dL_beats_55 (lv_at hl 5 rfl) ?_
              refine g_runV (As := [.int (nI i), .int (nI j)]) (rest := [.ref zb]) (own := RL) (C := RX7) (T := TX7) (N := 7) 2 hx hb hml hown hts hK hz hP hL hS hlo hl.1 (c_X7_does l o b S tf tn P C kp zp ((nI i)) ((nI j))  τ_9 ((zb + 1)) hW hY.1.1 ) gL_beats_X7_does rfl rfl rfl (by decide +kernel) ⟨Nat.le_of_ble_eq_true rfl, Nat.le_of_ble_eq_true rfl⟩ hW.c0 rfl rfl rfl (Nat.le_of_ble_eq_true rfl) dL_beats_57 ⟨(show j + 1 + 0 ≤ 96 by omega), (show 4 * j + 4 + 0 ≤ 384 by omega)⟩ (g_kxi0 (fun r_45 τ_45 H locs z_45 hz hp hP hL hS => ?_))
              obtain ⟨hr_45, hW, hz_45, ha_45⟩ := hp
              have hz := hz.trans hz_45
              subst hr_45
              have hdo := dosQ_lt S i j
              refine g_top (y := (nI (dosQ S i j))) (yd hY (by omega) (by omega)) ?_
              refine lv_dup2_11 hx hb dL_beats_60 rfl rfl ?_
              refine g_iald hx hb hK hP ((ha_45 _ hnz_zb_0).trans ((ha_9 _ hnz_zb_0).trans hA0)) (i := nI (dosQ S i j)) (vp_in_nI (by omega) (by omega)) dL_beats_61 ?_
              rw [nI_clamp (n := dosQ S i j) (by omega)]
              refine lv_iconst (v := (nI 1)) hx hb dL_beats_62 (by decide) ?_
              refine lv_iadd hx hb dL_beats_63 ?_
              refine g_iast hx hb hK hP hL hS ((ha_45 _ hnz_zb_0).trans ((ha_9 _ hnz_zb_0).trans hA0)) (i := nI (dosQ S i j)) (vp_in_nI (by omega) (by omega)) dL_beats_64 (fun H locs hq hP hL hS => ?_)
              rw [nI_clamp (n := dosQ S i j) (by omega)] at hP hL
              have hz := hq.trans hz
              obtain ⟨σ46, e46⟩ : ∃ υ0 : gS, υ0 = gup τ_45 zb (gI 4 (upd (nrow S j i) (dosQ S i j) ((((nrow S j i) (dosQ S i j)) + (nI 1))))) := ⟨_, rfl⟩
              have hP : gH D ka σ46 H := by rw [e46]; exact hP
              have hL : gL lo σ46 := by rw [e46]; exact hL
              have hW := hW.fr (τ := σ46) (fun q h1 h2 => gup_eq e46 (by omega))
              refine lv_iinc (v := (nI (i + 1))) (lv' := [(8, .int (nI (i + 1))), (0, .ref o), (1, .int (nI (cntF (restB S) j))), (2, .int (nI (cntF (fun b => decide (firstI S b = nI b)) j))), (3, .int (fiL S j)), (4, .int (nI (lonF S j))), (5, .int (nI j)), (6, .int (nI (tk (S 0 j)))), (7, .ref zb)]) hx hb dL_beats_65 hl (k := 8) rfl (g_inc i 1) (by decide) rfl (fun ls hl => ?_)
              refine lv_goto (tgt := 40) hx hb dL_beats_68 (by decide) ?_
              exact ih_lpB (i + 1) (by omega) (by omega) σ46 hW (by rw [← nrow_s]; exact (gup_here e46)) hL H locs ls hz hP hS (lv_sub hl [1, 2, 3, 4, 5, 6, 7, 8, 0] rfl)
        exact lpB _ 0 (by omega) (Nat.lt_succ_self _) σ8 hW (by rw [nrow_0]; exact (gup_here e8)) hL H locs ls hz hP hS (lv_sub hl [3, 4, 5, 6, 7, 8, 2, 1, 0] rfl)
  exact lpA _ 0 (by omega) (Nat.lt_succ_self _) σ hW hL H locs ls hz hP hS (lv_sub hl [5, 4, 3, 2, 1, 0] rfl)
