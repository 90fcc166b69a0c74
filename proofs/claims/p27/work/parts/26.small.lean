set_option maxHeartbeats 4000000 in
set_option maxRecDepth 100000 in
theorem c_L_low (l : Launch) (v : Int32) (n : Nat) (σ : gS) (sz : Nat) (hn : 0 < n) (hn2 : n < 2147483648) : gM l yL_low wsL_low ({ frames := 0, cells := 0, slots := 0, locals := 0 } : Room) 0 0 [.int v, .int (nI n)] σ sz (gi (nI (lowN v n)) σ sz) := by
  refine gM_of (cc := cL_low) (maxL := 2) (ret := (some .int)) (by decide) rfl (Nat.le_of_ble_eq_true rfl) ?_
  intro D ka lo hL hlo p e s m below meth c hx hb hr hts hown hml hlk hnm hK H locs ls hz hP hS hl
  have hl : lv_has ls 2 [(0, .int v), (1, .int (nI n))] := hl
  have hown : s.vm.findClass RL = some m.cls := hown
  refine lv_iload_n hx hb dL_low_0 rfl (lv_at hl 0 rfl) ?_
  refine lv_ldc (v := 2147483647) hx hb hown (hts (.constant RL 8 (2147483647)) (by decide +kernel)) dL_low_1 ?_
  refine lv_iand hx hb dL_low_3 ?_
  refine g_top (y := (nI (v.toBitVec.toNat % 2 ^ 31))) (pk_and v 31 (by decide)) ?_
  refine lv_iload_n hx hb dL_low_4 rfl (lv_at hl 1 rfl) ?_
  refine lv_irem hx hb dL_low_5 (nI_nz0 hn hn2) ?_
  refine g_top (y := nI (lowN v n)) (pk_rem (by omega) hn (by omega)) ?_
  exact g_iret (z := sz) hx hb hr hlk hz hP hL hS dL_low_6 (gi_i rfl rfl)

set_option maxHeartbeats 4000000 in
set_option maxRecDepth 100000 in
theorem c_L_told (l : Launch) (o b : Nat) (S : sS) (tf : Nat → Int32) (tn P : Nat) (C : Nat → sS) (kp : Nat → Bool) (zp : Nat) (k q bt : Nat) (s0 : Int32) (σ : gS) (sz : Nat) (hW : Wo σ o b S tf tn P C kp zp) (hY : okY S) (hzp : zp ≤ sz) (hf0 : t_fault S (cnG (gF S)) (nI k) (nI 0) = nI q) (hf1 : t_fault S (cnG (gF S)) (nI k) (nI 1) = nI bt) (hf2 : t_fault S (cnG (gF S)) (nI k) (nI 2) = s0) : gM l yL_told wsL_told ({ frames := 7, cells := 0, slots := 0, locals := 162 } : Room) 0 0 [.ref o, .int (nI k), .int (nI q), .int (nI bt), .int s0] σ sz (gxi (fun r τ n => r = nI 1 ∧ Wo τ o b S tf tn P C kp zp ∧ n = sz ∧ gAs (gZo o 39) σ τ)) := by
  refine gM_of (cc := cL_told) (maxL := 5) (ret := (some .boolean)) (by decide) rfl (Nat.le_of_ble_eq_true rfl) ?_
  intro D ka lo hL hlo p e s m below meth c hx hb hr hts hown hml hlk hnm hK H locs ls hz hP hS hl
  have hl : lv_has ls 5 [(0, .ref o), (1, .int (nI k)), (2, .int (nI q)), (3, .int (nI bt)), (4, .int s0)] := hl
  have hown : s.vm.findClass RL = some m.cls := hown
  have hoz := hW.oz
  obtain ⟨⟨hB, hN, hKs, hRs⟩, -⟩ := id hY.1
  have hag : gAs (gZo o 39) σ σ := gAs.rf
  refine lv_aload_n hx hb dL_told_0 rfl (lv_at hl 0 rfl) ?_
  refine lv_iload_n hx hb dL_told_1 rfl (lv_at hl 1 rfl) ?_
  refine lv_iconst (v := (nI 0)) hx hb dL_told_2 (by decide) ?_
  refine g_runV (As := [.int (nI k), .int (nI 0)]) (rest := []) (own := RL) (C := RX7) (T := TX7) (N := 7) 2 hx hb hml hown hts hK hz hP hL hS hlo hl.1 (c_X7_fault l o b S tf tn P C kp zp ((nI k)) ((nI 0)) (cnG (gF S)) σ sz hW hY.1.1 (fun b q h1 h2 => gF_bc h1 hY.1.1.2.1 h2) (fun b q => cntF_le _ 12)) gL_told_X7_fault rfl rfl rfl (by decide +kernel) ⟨Nat.le_of_ble_eq_true rfl, Nat.le_of_ble_eq_true rfl⟩ hW.c0 rfl rfl rfl (Nat.le_of_ble_eq_true rfl) dL_told_3 ⟨Nat.le_of_ble_eq_true rfl, Nat.le_of_ble_eq_true rfl⟩ (g_kxi0 (fun r_1 τ_1 H locs z_1 hz hp hP hL hS => ?_))
  obtain ⟨hr_1, hW, hz_1, ha_1⟩ := hp
  have hz := hz.trans hz_1
  subst hr_1
  have hag := hag.tr ha_1 (fun q h => h)
  refine g_top (y := (nI q)) hf0 ?_
  refine lv_iload_n hx hb dL_told_6 rfl (lv_at hl 2 rfl) ?_
  refine lv_icmp_ne (tgt := 35) hx hb dL_told_7 (by decide) (fun c7 => absurd rfl c7) (fun c7 => ?_)
  refine lv_aload_n hx hb dL_told_10 rfl (lv_at hl 0 rfl) ?_
  refine lv_iload_n hx hb dL_told_11 rfl (lv_at hl 1 rfl) ?_
  refine lv_iconst (v := (nI 1)) hx hb dL_told_12 (by decide) ?_
  refine g_runV (As := [.int (nI k), .int (nI 1)]) (rest := []) (own := RL) (C := RX7) (T := TX7) (N := 7) 2 hx hb hml hown hts hK hz hP hL hS hlo hl.1 (c_X7_fault l o b S tf tn P C kp zp ((nI k)) ((nI 1)) (cnG (gF S)) τ_1 sz hW hY.1.1 (fun b q h1 h2 => gF_bc h1 hY.1.1.2.1 h2) (fun b q => cntF_le _ 12)) gL_told_X7_fault rfl rfl rfl (by decide +kernel) ⟨Nat.le_of_ble_eq_true rfl, Nat.le_of_ble_eq_true rfl⟩ hW.c0 rfl rfl rfl (Nat.le_of_ble_eq_true rfl) dL_told_13 ⟨Nat.le_of_ble_eq_true rfl, Nat.le_of_ble_eq_true rfl⟩ (g_kxi0 (fun r_2 τ_2 H locs z_2 hz hp hP hL hS => ?_))
  obtain ⟨hr_2, hW, hz_2, ha_2⟩ := hp
  have hz := hz.trans hz_2
  subst hr_2
  have hag := hag.tr ha_2 (fun q h => h)
  refine g_top (y := (nI bt)) hf1 ?_
  refine lv_iload_n hx hb dL_told_16 rfl (lv_at hl 3 rfl) ?_
  refine lv_icmp_ne (tgt := 35) hx hb dL_told_17 (by decide) (fun c17 => absurd rfl c17) (fun c17 => ?_)
  refine lv_aload_n hx hb dL_told_20 rfl (lv_at hl 0 rfl) ?_
  refine lv_iload_n hx hb dL_told_21 rfl (lv_at hl 1 rfl) ?_
  refine lv_iconst (v := (nI 2)) hx hb dL_told_22 (by decide) ?_
  refine g_runV (As := [.int (nI k), .int (nI 2)]) (rest := []) (own := RL) (C := RX7) (T := TX7) (N := 7) 2 hx hb hml hown hts hK hz hP hL hS hlo hl.1 (c_X7_fault l o b S tf tn P C kp zp ((nI k)) ((nI 2)) (cnG (gF S)) τ_2 sz hW hY.1.1 (fun b q h1 h2 => gF_bc h1 hY.1.1.2.1 h2) (fun b q => cntF_le _ 12)) gL_told_X7_fault rfl rfl rfl (by decide +kernel) ⟨Nat.le_of_ble_eq_true rfl, Nat.le_of_ble_eq_true rfl⟩ hW.c0 rfl rfl rfl (Nat.le_of_ble_eq_true rfl) dL_told_23 ⟨Nat.le_of_ble_eq_true rfl, Nat.le_of_ble_eq_true rfl⟩ (g_kxi0 (fun r_3 τ_3 H locs z_3 hz hp hP hL hS => ?_))
  obtain ⟨hr_3, hW, hz_3, ha_3⟩ := hp
  have hz := hz.trans hz_3
  subst hr_3
  have hag := hag.tr ha_3 (fun q h => h)
  refine g_top (y := s0) hf2 ?_
  refine lv_iload hx hb dL_told_26 (lv_at hl 4 rfl) ?_
  refine lv_icmp_ne (tgt := 35) hx hb dL_told_28 (by decide) (fun c28 => absurd rfl c28) (fun c28 => ?_)
  refine lv_iconst (v := (nI 1)) hx hb dL_told_31 (by decide) ?_
  refine lv_goto (tgt := 36) hx hb dL_told_32 (by decide) ?_
  exact g_zret (z := sz) hx hb hr hlk hz hP hL hS rfl dL_told_36 (gxi_i ⟨rfl, hW, rfl, hag⟩)

set_option maxHeartbeats 4000000 in
set_option maxRecDepth 100000 in
theorem c_L_digits (l : Launch) (o b : Nat) (S : sS) (tf : Nat → Int32) (tn P : Nat) (C : Nat → sS) (kp : Nat → Bool) (zp : Nat) (v : Nat) (σ : gS) (sz : Nat) (hW : Wo σ o b S tf tn P C kp zp) (hY : okY S) (hzp : zp ≤ sz) (hv : v ≤ 9) (ht : tn < 60) : gM l yL_digits wsL_digits ({ frames := 3, cells := 0, slots := 0, locals := 64 } : Room) 0 0 [.ref o, .int (nI v)] σ sz (gxi (fun r τ n => r = nI (tn + 1) ∧ Wo τ o b S (upd tf tn (nI (48 + v))) (tn + 1) P C kp zp ∧ n = sz ∧ gAs (gZo o 39) σ τ)) := by
  refine gM_of (cc := cL_digits) (maxL := 3) (ret := (some .int)) (by decide) rfl (Nat.le_of_ble_eq_true rfl) ?_
  intro D ka lo hL hlo p e s m below meth c hx hb hr hts hown hml hlk hnm hK H locs ls hz hP hS hl
  have hl : lv_has ls 3 [(0, .ref o), (1, .int (nI v))] := hl
  have hown : s.vm.findClass RL = some m.cls := hown
  have hoz := hW.oz
  obtain ⟨⟨hB, hN, hKs, hRs⟩, -⟩ := id hY.1
  have hag : gAs (gZo o 39) σ σ := gAs.rf
  refine lv_iconst (v := (nI 0)) hx hb dL_digits_0 (by decide) ?_
  refine lv_istore_n (lv' := [(2, .int (nI 0)), (0, .ref o), (1, .int (nI v))]) hx hb dL_digits_1 rfl hl (by decide) rfl (fun ls hl => ?_)
  refine lv_iload_n hx hb dL_digits_2 rfl (lv_at hl 2 rfl) ?_
  refine lv_bipush (v := (nI 9)) hx hb dL_digits_3 (by decide) ?_
  refine g_icmp_le (tgt := 21) (a := v) (b := 9) hx hb (by omega) (by omega) dL_digits_5 (by decide) (fun c5 => ?_) (fun c5 => False.elim (by omega))
  refine lv_aload_n hx hb dL_digits_21 rfl (lv_at hl 1 rfl) ?_
  refine lv_bipush (v := (nI 48)) hx hb dL_digits_22 (by decide) ?_
  refine lv_iload_n hx hb dL_digits_24 rfl (lv_at hl 2 rfl) ?_
  refine lv_bipush (v := (nI 10)) hx hb dL_digits_25 (by decide) ?_
  refine lv_irem hx hb dL_digits_27 (by decide) ?_
  refine g_top (pk_rem (a := v) (d := 10) (by omega) (by omega) (by omega)) ?_
  refine g_top (y := (nI v)) (congrArg nI (Nat.mod_eq_of_lt (by omega))) ?_
  refine lv_iadd hx hb dL_digits_28 ?_
  refine g_top (nI_add 48 v) ?_
  refine lv_i2c (v := ((nI (48 + v)).toUInt32 % 65536).toInt32) hx hb dL_digits_29 rfl ?_
  refine g_top (y := (nI (48 + v))) (i2c_n (by omega)) ?_
  refine g_runV (As := [.int (nI (48 + v))]) (rest := []) (own := RL) (C := RX7) (T := TX7) (N := 7) 1 hx hb hml hown hts hK hz hP hL hS hlo hl.1 (c_X7_type0 l o b S tf tn P C kp zp ((nI (48 + v))) σ sz hW hY.1.1) gL_digits_X7_type rfl rfl rfl (by decide +kernel) ⟨Nat.le_of_ble_eq_true rfl, Nat.le_of_ble_eq_true rfl⟩ hW.c0 rfl rfl rfl (Nat.le_of_ble_eq_true rfl) dL_digits_30 ⟨Nat.le_of_ble_eq_true rfl, Nat.le_of_ble_eq_true rfl⟩ (g_kxi0 (fun r_1 τ_1 H locs z_1 hz hp hP hL hS => ?_))
  simp only [if_pos (show tn < 60 by omega)] at hp
  obtain ⟨hr_1, hW, hz_1, ha_1⟩ := hp
  have hz := hz.trans hz_1
  have hag := hag.tr ha_1 (fun q h => h)
  subst hr_1
  refine lv_istore_n (lv' := [(2, .int (nI (tn + 1))), (0, .ref o), (1, .int (nI v))]) hx hb dL_digits_33 rfl hl (by decide) rfl (fun ls hl => ?_)
  refine lv_iload_n hx hb dL_digits_34 rfl (lv_at hl 0 rfl) ?_
  exact g_iret (z := sz) hx hb hr hlk hz hP hL hS dL_digits_35 (gxi_i ⟨rfl, hW, rfl, hag⟩)

set_option maxHeartbeats 4000000 in
set_option maxRecDepth 100000 in
theorem c_L_breaths (l : Launch) (o b : Nat) (S : sS) (tf : Nat → Int32) (tn P : Nat) (C : Nat → sS) (kp : Nat → Bool) (zp : Nat) (i : Nat) (σ : gS) (sz : Nat) (hW : Wo σ o b S tf tn P C kp zp) (hY : okY S) (hzp : zp ≤ sz) (hi : i < sN S) : gM l yL_breaths wsL_breaths ({ frames := 6, cells := 0, slots := 0, locals := 138 } : Room) 0 0 [.ref o, .int (nI i)] σ sz (gxi (fun r τ n => r = nI 1 ∧ Wo τ o b S tf tn P C kp zp ∧ n = sz ∧ gAs (gZo o 39) σ τ)) := by
  refine gM_of (cc := cL_breaths) (maxL := 5) (ret := (some .boolean)) (by decide) rfl (Nat.le_of_ble_eq_true rfl) ?_
  intro D ka lo hL hlo p e s m below meth c hx hb hr hts hown hml hlk hnm hK H locs ls hz hP hS hl
  have hl : lv_has ls 5 [(0, .ref o), (1, .int (nI i))] := hl
  have hown : s.vm.findClass RL = some m.cls := hown
  have hoz := hW.oz
  obtain ⟨⟨hB, hN, hKs, hRs⟩, -⟩ := id hY.1
  have hag : gAs (gZo o 39) σ σ := gAs.rf
  refine lv_aload_n hx hb dL_breaths_0 rfl (lv_at hl 0 rfl) ?_
  refine lv_iload_n hx hb dL_breaths_1 rfl (lv_at hl 1 rfl) ?_
  refine g_runV (As := [.int (nI i)]) (rest := []) (own := RL) (C := RX7) (T := TX7) (N := 7) 1 hx hb hml hown hts hK hz hP hL hS hlo hl.1 (c_X7_breathFor l o b S tf tn P C kp zp ((nI i))  σ sz hW hY.1.1 ) gL_breaths_X7_breathFor rfl rfl rfl (by decide +kernel) ⟨Nat.le_of_ble_eq_true rfl, Nat.le_of_ble_eq_true rfl⟩ hW.c0 rfl rfl rfl (Nat.le_of_ble_eq_true rfl) dL_breaths_2 ⟨Nat.le_of_ble_eq_true rfl, Nat.le_of_ble_eq_true rfl⟩ (g_kxi0 (fun r_1 τ_1 H locs z_1 hz hp hP hL hS => ?_))
  obtain ⟨hr_1, hW, hz_1, ha_1⟩ := hp
  have hz := hz.trans hz_1
  subst hr_1
  have hag := hag.tr ha_1 (fun q h => h)
  refine g_top (y := (oI (firstK (gasB S i) 37 4))) (ybr hY (by omega)) ?_
  rcases hfk : firstK (gasB S i) 37 4 with _ | k
  · have hbn := br_none hY (by omega) hfk
    refine g_top (y := -5) rfl ?_
    refine lv_istore_n (lv' := [(2, .int (-5)), (0, .ref o), (1, .int (nI i))]) hx hb dL_breaths_5 rfl hl (by decide) rfl (fun ls hl => ?_)
    refine lv_aload_n hx hb dL_breaths_6 rfl (lv_at hl 1 rfl) ?_
    refine lv_iload_n hx hb dL_breaths_7 rfl (lv_at hl 2 rfl) ?_
    refine lv_iconst (v := (nI 5)) hx hb dL_breaths_8 (by decide) ?_
    refine g_runV (As := [.int (nI i), .int (nI 5)]) (rest := []) (own := RL) (C := RX7) (T := TX7) (N := 7) 2 hx hb hml hown hts hK hz hP hL hS hlo hl.1 (c_X7_singer l o b S tf tn P C kp zp ((nI i)) ((nI 5))  τ_1 sz hW hY.1.1 ) gL_breaths_X7_singer rfl rfl rfl (by decide +kernel) ⟨Nat.le_of_ble_eq_true rfl, Nat.le_of_ble_eq_true rfl⟩ hW.c0 rfl rfl rfl (Nat.le_of_ble_eq_true rfl) dL_breaths_9 ⟨Nat.le_of_ble_eq_true rfl, Nat.le_of_ble_eq_true rfl⟩ (g_kxi0 (fun r_2 τ_2 H locs z_2 hz hp hP hL hS => ?_))
    obtain ⟨hr_2, hW, hz_2, ha_2⟩ := hp
    have hz := hz.trans hz_2
    subst hr_2
    have hag := hag.tr ha_2 (fun q h => h)
    have hdn2 := dn_le S i 2 (sB S)
    refine g_top (y := (nI (dnQ S i 2 (sB S)))) (yn_5 hY (by omega)) ?_
    refine lv_istore_n (lv' := [(3, .int (nI (dnQ S i 2 (sB S)))), (2, .int (-5)), (0, .ref o), (1, .int (nI i))]) hx hb dL_breaths_12 rfl hl (by decide) rfl (fun ls hl => ?_)
    refine lv_aload_n hx hb dL_breaths_13 rfl (lv_at hl 2 rfl) ?_
    refine lv_iload_n hx hb dL_breaths_14 rfl (lv_at hl 3 rfl) ?_
    refine lv_iconst (v := (nI 0)) hx hb dL_breaths_15 (by decide) ?_
    refine g_runV (As := [.int (nI i), .int (nI 0)]) (rest := []) (own := RL) (C := RX7) (T := TX7) (N := 7) 2 hx hb hml hown hts hK hz hP hL hS hlo hl.1 (c_X7_singer l o b S tf tn P C kp zp ((nI i)) ((nI 0))  τ_2 sz hW hY.1.1 ) gL_breaths_X7_singer rfl rfl rfl (by decide +kernel) ⟨Nat.le_of_ble_eq_true rfl, Nat.le_of_ble_eq_true rfl⟩ hW.c0 rfl rfl rfl (Nat.le_of_ble_eq_true rfl) dL_breaths_16 ⟨Nat.le_of_ble_eq_true rfl, Nat.le_of_ble_eq_true rfl⟩ (g_kxi0 (fun r_3 τ_3 H locs z_3 hz hp hP hL hS => ?_))
    obtain ⟨hr_3, hW, hz_3, ha_3⟩ := hp
    have hz := hz.trans hz_3
    subst hr_3
    have hag := hag.tr ha_3 (fun q h => h)
    have hbr := hY.br (i := i) (by omega)
    refine g_top (y := (nI (tk (S 3 i)))) (yn_0 hY (by omega)) ?_
    refine lv_istore (lv' := [(4, .int (nI (tk (S 3 i)))), (3, .int (nI (dnQ S i 2 (sB S)))), (2, .int (-5)), (0, .ref o), (1, .int (nI i))]) hx hb dL_breaths_19 hl (by decide) rfl (fun ls hl => ?_)
    refine lv_iload_n hx hb dL_breaths_21 rfl (lv_at hl 2 rfl) ?_
    refine lv_bipush (v := (-5)) hx hb dL_breaths_22 (by decide) ?_
    refine lv_icmp_ne (tgt := 39) hx hb dL_breaths_24 (by decide) (fun c24 => by first | exact absurd (by decide) c24 | exact absurd c24 (by decide)) (fun c24 => ?_)
    refine lv_iload_n hx hb dL_breaths_27 rfl (lv_at hl 1 rfl) ?_
    refine g_if_le (tgt := 35) hx hb (by omega) dL_breaths_28 (by decide) (fun c28 => False.elim (by omega)) (fun c28 => ?_)
    refine lv_iconst (v := (nI 1)) hx hb dL_breaths_31 (by decide) ?_
    refine lv_goto (tgt := 74) hx hb dL_breaths_32 (by decide) ?_
    exact g_zret (z := sz) hx hb hr hlk hz hP hL hS rfl dL_breaths_74 (gxi_i ⟨rfl, hW, rfl, hag⟩)
  · obtain ⟨hk4, hk40, hkg, hkl⟩ := br_some hY (by omega) hfk
    refine g_top (y := nI k) rfl ?_
    refine lv_istore_n (lv' := [(2, .int (nI k)), (0, .ref o), (1, .int (nI i))]) hx hb dL_breaths_5 rfl hl (by decide) rfl (fun ls hl => ?_)
    refine lv_aload_n hx hb dL_breaths_6 rfl (lv_at hl 1 rfl) ?_
    refine lv_iload_n hx hb dL_breaths_7 rfl (lv_at hl 2 rfl) ?_
    refine lv_iconst (v := (nI 5)) hx hb dL_breaths_8 (by decide) ?_
    refine g_runV (As := [.int (nI i), .int (nI 5)]) (rest := []) (own := RL) (C := RX7) (T := TX7) (N := 7) 2 hx hb hml hown hts hK hz hP hL hS hlo hl.1 (c_X7_singer l o b S tf tn P C kp zp ((nI i)) ((nI 5))  τ_1 sz hW hY.1.1 ) gL_breaths_X7_singer rfl rfl rfl (by decide +kernel) ⟨Nat.le_of_ble_eq_true rfl, Nat.le_of_ble_eq_true rfl⟩ hW.c0 rfl rfl rfl (Nat.le_of_ble_eq_true rfl) dL_breaths_9 ⟨Nat.le_of_ble_eq_true rfl, Nat.le_of_ble_eq_true rfl⟩ (g_kxi0 (fun r_4 τ_4 H locs z_4 hz hp hP hL hS => ?_))
    obtain ⟨hr_4, hW, hz_4, ha_4⟩ := hp
    have hz := hz.trans hz_4
    subst hr_4
    have hag := hag.tr ha_4 (fun q h => h)
    have hdn2 := dn_le S i 2 (sB S)
    refine g_top (y := (nI (dnQ S i 2 (sB S)))) (yn_5 hY (by omega)) ?_
    refine lv_istore_n (lv' := [(3, .int (nI (dnQ S i 2 (sB S)))), (2, .int (nI k)), (0, .ref o), (1, .int (nI i))]) hx hb dL_breaths_12 rfl hl (by decide) rfl (fun ls hl => ?_)
    refine lv_aload_n hx hb dL_breaths_13 rfl (lv_at hl 2 rfl) ?_
    refine lv_iload_n hx hb dL_breaths_14 rfl (lv_at hl 3 rfl) ?_
    refine lv_iconst (v := (nI 0)) hx hb dL_breaths_15 (by decide) ?_
    refine g_runV (As := [.int (nI i), .int (nI 0)]) (rest := []) (own := RL) (C := RX7) (T := TX7) (N := 7) 2 hx hb hml hown hts hK hz hP hL hS hlo hl.1 (c_X7_singer l o b S tf tn P C kp zp ((nI i)) ((nI 0))  τ_4 sz hW hY.1.1 ) gL_breaths_X7_singer rfl rfl rfl (by decide +kernel) ⟨Nat.le_of_ble_eq_true rfl, Nat.le_of_ble_eq_true rfl⟩ hW.c0 rfl rfl rfl (Nat.le_of_ble_eq_true rfl) dL_breaths_16 ⟨Nat.le_of_ble_eq_true rfl, Nat.le_of_ble_eq_true rfl⟩ (g_kxi0 (fun r_5 τ_5 H locs z_5 hz hp hP hL hS => ?_))
    obtain ⟨hr_5, hW, hz_5, ha_5⟩ := hp
    have hz := hz.trans hz_5
    subst hr_5
    have hag := hag.tr ha_5 (fun q h => h)
    have hbr := hY.br (i := i) (by omega)
    refine g_top (y := (nI (tk (S 3 i)))) (yn_0 hY (by omega)) ?_
    refine lv_istore (lv' := [(4, .int (nI (tk (S 3 i)))), (3, .int (nI (dnQ S i 2 (sB S)))), (2, .int (nI k)), (0, .ref o), (1, .int (nI i))]) hx hb dL_breaths_19 hl (by decide) rfl (fun ls hl => ?_)
    refine lv_iload_n hx hb dL_breaths_21 rfl (lv_at hl 2 rfl) ?_
    refine lv_bipush (v := (-5)) hx hb dL_breaths_22 (by decide) ?_
    refine lv_icmp_ne (tgt := 39) hx hb dL_breaths_24 (by decide) (fun c24 => ?_) (fun c24 => (absurd c24 (g_neg (a := k) (k := 5) (by omega) (by decide))))
    refine lv_iload_n hx hb dL_breaths_39 rfl (lv_at hl 2 rfl) ?_
    refine lv_iconst (v := (nI 4)) hx hb dL_breaths_40 (by decide) ?_
    refine g_icmp_lt (tgt := 73) (a := k) (b := 4) hx hb (by omega) (by omega) dL_breaths_41 (by decide) (fun c41 => False.elim (by omega)) (fun c41 => ?_)
    refine lv_iload_n hx hb dL_breaths_44 rfl (lv_at hl 2 rfl) ?_
    refine lv_bipush (v := (nI 40)) hx hb dL_breaths_45 (by decide) ?_
    refine g_icmp_gt (tgt := 73) (a := k) (b := 40) hx hb (by omega) (by omega) dL_breaths_47 (by decide) (fun c47 => False.elim (by omega)) (fun c47 => ?_)
    refine lv_iload_n hx hb dL_breaths_50 rfl (lv_at hl 1 rfl) ?_
    refine g_if_le (tgt := 63) hx hb (by omega) dL_breaths_51 (by decide) (fun c51 => ?_) (fun c51 => ?_)
    · refine lv_iload_n hx hb dL_breaths_63 rfl (lv_at hl 2 rfl) ?_
      refine lv_iload hx hb dL_breaths_64 (lv_at hl 0 rfl) ?_
      refine g_icmp_gt (tgt := 73) (a := k) (b := tk (S 3 i)) hx hb (by omega) (by omega) dL_breaths_66 (by decide) (fun c66 => absurd c66 (Nat.not_lt.mpr (hkl c51))) (fun c66 => ?_)
      refine lv_iconst (v := (nI 1)) hx hb dL_breaths_69 (by decide) ?_
      refine lv_goto (tgt := 74) hx hb dL_breaths_70 (by decide) ?_
      exact g_zret (z := sz) hx hb hr hlk hz hP hL hS rfl dL_breaths_74 (gxi_i ⟨rfl, hW, rfl, hag⟩)
    · refine lv_iload_n hx hb dL_breaths_54 rfl (lv_at hl 2 rfl) ?_
      refine lv_iload hx hb dL_breaths_55 (lv_at hl 0 rfl) ?_
      refine g_icmp_eq (tgt := 73) (a := k) (b := tk (S 3 i)) hx hb (by omega) (by omega) dL_breaths_57 (by decide) (fun c57 => absurd c57 (hkg c51)) (fun c57 => ?_)
      refine lv_goto (tgt := 69) hx hb dL_breaths_60 (by decide) ?_
      refine lv_iconst (v := (nI 1)) hx hb dL_breaths_69 (by decide) ?_
      refine lv_goto (tgt := 74) hx hb dL_breaths_70 (by decide) ?_
      exact g_zret (z := sz) hx hb hr hlk hz hP hL hS rfl dL_breaths_74 (gxi_i ⟨rfl, hW, rfl, hag⟩)

set_option maxHeartbeats 4000000 in
set_option maxRecDepth 100000 in
theorem c_L_without (l : Launch) (o b : Nat) (S : sS) (tf : Nat → Int32) (tn P : Nat) (C : Nat → sS) (kp : Nat → Bool) (zp : Nat) (i : Nat) (σ : gS) (sz : Nat) (hW : Wo σ o b S tf tn P C kp zp) (hY : okY S) (hzp : zp ≤ sz) (hC : okC P C kp) (hi : i < sN S) : gM l yL_without wsL_without ({ frames := 7, cells := 17, slots := 789, locals := 161 } : Room) 17 789 [.ref o, .int (nI i)] σ sz (gxi (fun r τ n => r = nI 1 ∧ ∃ (P2 : Nat) (C2 : Nat → sS), Wo τ o b S tf tn P2 C2 kp n ∧ okC P2 C2 kp ∧ sz ≤ n ∧ n ≤ sz + 17)) := by
  refine gM_of (cc := cL_without) (maxL := 4) (ret := (some .boolean)) (by decide) rfl (Nat.le_of_ble_eq_true rfl) ?_
  intro D ka lo hL hlo p e s m below meth c hx hb hr hts hown hml hlk hnm hK H locs ls hz hP hS hl
  have hl : lv_has ls 4 [(0, .ref o), (1, .int (nI i))] := hl
  have hown : s.vm.findClass RL = some m.cls := hown
  have hoz := hW.oz
  obtain ⟨⟨hB, hN, hKs, hRs⟩, -⟩ := id hY.1
  refine lv_aload_n hx hb dL_without_0 rfl (lv_at hl 0 rfl) ?_
  refine lv_iload_n hx hb dL_without_1 rfl (lv_at hl 1 rfl) ?_
  refine g_runV (As := [.int (nI i)]) (rest := []) (own := RL) (C := RX7) (T := TX7) (N := 7) 1 hx hb hml hown hts hK hz hP hL hS hlo hl.1 (c_X7_silentWithout l o b S tf tn P C kp zp ((nI i))  σ sz hW hY.1.1 ) gL_without_X7_silentWithout rfl rfl rfl (by decide +kernel) ⟨Nat.le_of_ble_eq_true rfl, Nat.le_of_ble_eq_true rfl⟩ hW.c0 rfl rfl rfl (Nat.le_of_ble_eq_true rfl) dL_without_2 ⟨Nat.le_of_ble_eq_true rfl, Nat.le_of_ble_eq_true rfl⟩ (g_kxi0 (fun r_1 τ_1 H locs z_1 hz hp hP hL hS => ?_))
  obtain ⟨hr_1, hW, hz_1, ha_1⟩ := hp
  have hz := hz.trans hz_1
  subst hr_1
  have hsw := cntF_le (silB S (chR S 0) i) (sB S)
  have hsw2 : swN S i ≤ sB S := hsw
  refine g_top (y := (nI (swN S i))) (ysw hY (by omega)) ?_
  refine lv_istore_n (lv' := [(2, .int (nI (swN S i))), (0, .ref o), (1, .int (nI i))]) hx hb dL_without_5 rfl hl (by decide) rfl (fun ls hl => ?_)
  refine lv_aload_n hx hb dL_without_6 rfl (lv_at hl 1 rfl) ?_
  refine lv_iload_n hx hb dL_without_7 rfl (lv_at hl 2 rfl) ?_
  refine lv_iconst (v := (nI 2)) hx hb dL_without_8 (by decide) ?_
  refine g_runV (As := [.int (nI i), .int (nI 2)]) (rest := []) (own := RL) (C := RX7) (T := TX7) (N := 7) 2 hx hb hml hown hts hK hz hP hL hS hlo hl.1 (c_X7_singer l o b S tf tn P C kp zp ((nI i)) ((nI 2))  τ_1 sz hW hY.1.1 ) gL_without_X7_singer rfl rfl rfl (by decide +kernel) ⟨Nat.le_of_ble_eq_true rfl, Nat.le_of_ble_eq_true rfl⟩ hW.c0 rfl rfl rfl (Nat.le_of_ble_eq_true rfl) dL_without_9 ⟨Nat.le_of_ble_eq_true rfl, Nat.le_of_ble_eq_true rfl⟩ (g_kxi0 (fun r_2 τ_2 H locs z_2 hz hp hP hL hS => ?_))
  obtain ⟨hr_2, hW, hz_2, ha_2⟩ := hp
  have hz := hz.trans hz_2
  subst hr_2
  have hpb := Bool.toNat_le (presB S i)
  refine g_top (y := (nI ((presB S i).toNat))) (yn_2 hY (by omega)) ?_
  refine lv_istore_n (lv' := [(3, .int (nI ((presB S i).toNat))), (2, .int (nI (swN S i))), (0, .ref o), (1, .int (nI i))]) hx hb dL_without_12 rfl hl (by decide) rfl (fun ls hl => ?_)
  refine lv_iload_n hx hb dL_without_13 rfl (lv_at hl 0 rfl) ?_
  refine g_if_ne (tgt := 33) hx hb (by omega) dL_without_14 (by decide) (fun c14 => ?_) (fun c14 => ?_)
  · have hpt := pres_t c14
    refine lv_aload_n hx hb dL_without_33 rfl (lv_at hl 2 rfl) ?_
    refine lv_iload_n hx hb dL_without_34 rfl (lv_at hl 3 rfl) ?_
    refine lv_iconst (v := (nI 0)) hx hb dL_without_35 (by decide) ?_
    refine g_top (y := (bI false)) rfl ?_
    refine g_runV (As := [.int (nI i), .int (bI false)]) (rest := []) (own := RL) (C := RX7) (T := TX7) (N := 7) 2 hx hb hml hown hts hK hz hP hL hS hlo hl.1 (c_X7_setPresent l o b S tf tn P C kp ((nI i)) false τ_2 sz (hW.up (by omega)) hY.1.1 ) gL_without_X7_setPresent rfl rfl rfl (by decide +kernel) ⟨Nat.le_of_ble_eq_true rfl, Nat.le_of_ble_eq_true rfl⟩ hW.c0 rfl rfl rfl (Nat.le_of_ble_eq_true rfl) dL_without_36 ⟨Nat.le_of_ble_eq_true rfl, Nat.le_of_ble_eq_true rfl⟩ (g_kxi (fun r_3 τ_3 H locs z_3 hz hp hP hL hS => ?_))
    obtain ⟨hr_3, hW, hzl_3, hzu_3⟩ := wP_yes (sp_yes hY hi (by rw [hpt]; decide)) hp
    have hlo : lo ≤ z_3 := Nat.le_trans hlo hzl_3
    subst hr_3
    have hY2 := hY.prs hi
    obtain ⟨⟨hB2, hN2, hK2, hR2⟩, -⟩ := id hY2.1
    have hcp := cntF_le (presB (prsS S i)) (sN (prsS S i))
    have hoz2 := hW.oz
    refine lv_aload_n hx hb dL_without_39 rfl (lv_at hl 2 rfl) ?_
    refine lv_iconst (v := (nI 4)) hx hb dL_without_40 (by decide) ?_
    refine g_runV (As := [.int (nI 4)]) (rest := [.int (nI (cntF (presB (prsS S i)) (sN (prsS S i))))]) (own := RL) (C := RX7) (T := TX7) (N := 7) 1 hx hb hml hown hts hK hz hP hL hS hlo hl.1 (c_X7_count l o b (prsS S i) tf tn (recP P) (recS C P S) kp z_3 ((nI 4))  τ_3 z_3 hW hY2.1.1 ) gL_without_X7_count rfl rfl rfl (by decide +kernel) ⟨Nat.le_of_ble_eq_true rfl, Nat.le_of_ble_eq_true rfl⟩ hW.c0 rfl rfl rfl (Nat.le_of_ble_eq_true rfl) dL_without_41 ⟨Nat.le_of_ble_eq_true rfl, Nat.le_of_ble_eq_true rfl⟩ (g_kxi0 (fun r_4 τ_4 H locs z_4 hz hp hP hL hS => ?_))
    obtain ⟨hr_4, hW, hz_4, ha_4⟩ := hp
    have hz := hz.trans hz_4
    subst hr_4
    have hct4 := cntF_le (presB (prsS S i)) (sN (prsS S i))
    refine g_top (y := (nI (cntF (presB (prsS S i)) (sN (prsS S i))))) (yc_4 hY2) ?_
    refine lv_icmp_ne (tgt := 78) hx hb dL_without_44 (by decide) (fun c44 => absurd rfl c44) (fun c44 => ?_)
    refine lv_aload_n hx hb dL_without_47 rfl (lv_at hl 2 rfl) ?_
    refine lv_bipush (v := (nI 8)) hx hb dL_without_48 (by decide) ?_
    refine g_runV (As := [.int (nI 8)]) (rest := []) (own := RL) (C := RX7) (T := TX7) (N := 7) 1 hx hb hml hown hts hK hz hP hL hS hlo hl.1 (c_X7_count l o b (prsS S i) tf tn (recP P) (recS C P S) kp z_3 ((nI 8))  τ_4 z_3 hW hY2.1.1 ) gL_without_X7_count rfl rfl rfl (by decide +kernel) ⟨Nat.le_of_ble_eq_true rfl, Nat.le_of_ble_eq_true rfl⟩ hW.c0 rfl rfl rfl (Nat.le_of_ble_eq_true rfl) dL_without_50 ⟨Nat.le_of_ble_eq_true rfl, Nat.le_of_ble_eq_true rfl⟩ (g_kxi0 (fun r_5 τ_5 H locs z_5 hz hp hP hL hS => ?_))
    obtain ⟨hr_5, hW, hz_5, ha_5⟩ := hp
    have hz := hz.trans hz_5
    subst hr_5
    have hcq := cq_le (prsS S i) 0 hY2.1.1.1
    refine g_top (y := (nI (cqG (gF (prsS S i)) 0 (sB (prsS S i)) 0 0))) (yc_8 hY2) ?_
    refine lv_iload_n hx hb dL_without_53 rfl (lv_at hl 1 rfl) ?_
    refine g_icmp_ne (tgt := 78) (a := cqG (gF (prsS S i)) 0 (sB (prsS S i)) 0 0) (b := swN S i) hx hb (by omega) (by omega) dL_without_54 (by decide) (fun c54 => absurd c54 (fun q => q (sw_eq hY hi hpt))) (fun c54 => ?_)
    refine lv_aload_n hx hb dL_without_57 rfl (lv_at hl 2 rfl) ?_
    refine g_runV (As := []) (rest := []) (own := RL) (C := RX7) (T := TX7) (N := 7) 0 hx hb hml hown hts hK hz hP hL hS hlo hl.1 (c_X7_undo0 l o b (prsS S i) tf tn (recP P) (recS C P S) kp z_3 τ_5 z_3 hW hY2.1.1 (by omega) (hC.act hY.1.1 (by omega)).1) gL_without_X7_undo rfl rfl rfl (by decide +kernel) ⟨Nat.le_of_ble_eq_true rfl, Nat.le_of_ble_eq_true rfl⟩ hW.c0 rfl rfl rfl (Nat.le_of_ble_eq_true rfl) dL_without_58 ⟨Nat.le_of_ble_eq_true rfl, Nat.le_of_ble_eq_true rfl⟩ (g_kxi0 (fun r_6 τ_6 H locs z_6 hz hp hP hL hS => ?_))
    have hrp := recP_pos (P := P)
    have hrl := recP_le P
    simp only [if_neg (show ¬ recP P = 0 by omega), rec_last (S := S) (C := C) (show P ≤ 5 by omega)] at hp
    obtain ⟨hr_6, hW, hz_6, ha_6⟩ := hp
    have hz := hz.trans hz_6
    subst hr_6
    refine g_if_lt hx hb (by omega) dL_without_61 (tgt := 78) (by decide) ?_
    refine lv_aload_n hx hb dL_without_64 rfl (lv_at hl 2 rfl) ?_
    refine lv_iload_n hx hb dL_without_65 rfl (lv_at hl 3 rfl) ?_
    refine lv_iconst (v := (nI 2)) hx hb dL_without_66 (by decide) ?_
    refine g_runV (As := [.int (nI i), .int (nI 2)]) (rest := []) (own := RL) (C := RX7) (T := TX7) (N := 7) 2 hx hb hml hown hts hK hz hP hL hS hlo hl.1 (c_X7_singer l o b S tf tn (recP P - 1) (recS C P S) kp z_3 ((nI i)) ((nI 2))  τ_6 z_3 hW hY.1.1 ) gL_without_X7_singer rfl rfl rfl (by decide +kernel) ⟨Nat.le_of_ble_eq_true rfl, Nat.le_of_ble_eq_true rfl⟩ hW.c0 rfl rfl rfl (Nat.le_of_ble_eq_true rfl) dL_without_67 ⟨Nat.le_of_ble_eq_true rfl, Nat.le_of_ble_eq_true rfl⟩ (g_kxi0 (fun r_7 τ_7 H locs z_7 hz hp hP hL hS => ?_))
    obtain ⟨hr_7, hW, hz_7, ha_7⟩ := hp
    have hz := hz.trans hz_7
    subst hr_7
    have hpb := Bool.toNat_le (presB S i)
    refine g_top (y := (nI ((presB S i).toNat))) (yn_2 hY (by omega)) ?_
    refine lv_iconst (v := (nI 1)) hx hb dL_without_70 (by decide) ?_
    refine g_icmp_ne (tgt := 78) (a := (presB S i).toNat) (b := 1) hx hb (by omega) (by omega) dL_without_71 (by decide) (fun c71 => False.elim (by omega)) (fun c71 => ?_)
    refine lv_iconst (v := (nI 1)) hx hb dL_without_74 (by decide) ?_
    refine lv_goto (tgt := 79) hx hb dL_without_75 (by decide) ?_
    refine W.widen (k := 17) (n := 789) (by omega) (by omega) ?_
    exact g_zret (z := z_3) hx hb hr hlk hz hP hL hS rfl dL_without_79 (gxi_i ⟨rfl, _, _, hW, (hC.act hY.1.1 (by omega)).pred, by omega, by omega⟩)
  · refine lv_iload_n hx hb dL_without_17 rfl (lv_at hl 1 rfl) ?_
    refine lv_aload_n hx hb dL_without_18 rfl (lv_at hl 2 rfl) ?_
    refine lv_bipush (v := (nI 8)) hx hb dL_without_19 (by decide) ?_
    refine g_runV (As := [.int (nI 8)]) (rest := [.int (nI (swN S i))]) (own := RL) (C := RX7) (T := TX7) (N := 7) 1 hx hb hml hown hts hK hz hP hL hS hlo hl.1 (c_X7_count l o b S tf tn P C kp zp ((nI 8))  τ_2 sz hW hY.1.1 ) gL_without_X7_count rfl rfl rfl (by decide +kernel) ⟨Nat.le_of_ble_eq_true rfl, Nat.le_of_ble_eq_true rfl⟩ hW.c0 rfl rfl rfl (Nat.le_of_ble_eq_true rfl) dL_without_21 ⟨Nat.le_of_ble_eq_true rfl, Nat.le_of_ble_eq_true rfl⟩ (g_kxi0 (fun r_8 τ_8 H locs z_8 hz hp hP hL hS => ?_))
    obtain ⟨hr_8, hW, hz_8, ha_8⟩ := hp
    have hz := hz.trans hz_8
    subst hr_8
    have hcq := cq_le S 0 hY.1.1.1
    refine g_top (y := (nI (cqG (gF S) 0 (sB S) 0 0))) (yc_8 hY) ?_
    refine g_icmp_ne (tgt := 31) (a := swN S i) (b := cqG (gF S) 0 (sB S) 0 0) hx hb (by omega) (by omega) dL_without_24 (by decide) (fun c24 => absurd c24 (fun q => q (sw_abs hY hi c14))) (fun c24 => ?_)
    refine lv_iconst (v := (nI 1)) hx hb dL_without_27 (by decide) ?_
    refine lv_goto (tgt := 32) hx hb dL_without_28 (by decide) ?_
    refine W.widen (k := 17) (n := 789) (by omega) (by omega) ?_
    exact g_zret (z := sz) hx hb hr hlk hz hP hL hS rfl dL_without_32 (gxi_i ⟨rfl, P, C, hW.up (by omega), hC, Nat.le_refl _, by omega⟩)

set_option maxHeartbeats 4000000 in
set_option maxRecDepth 100000 in
theorem c_L_errors (l : Launch) (o b : Nat) (S : sS) (tf : Nat → Int32) (tn P : Nat) (C : Nat → sS) (kp : Nat → Bool) (zp : Nat) (σ : gS) (sz : Nat) (hW : Wo σ o b S tf tn P C kp zp) (hY : okY S) (hzp : zp ≤ sz) (hC : okC P C kp) (hB1 : 0 < sB S) (hN1 : 0 < sN S) : gM l yL_errors wsL_errors ({ frames := 7, cells := 289, slots := 13413, locals := 161 } : Room) 289 13413 [.ref o] σ sz (gxi (fun r τ n => r = nI 1)) := by
  refine gM_of (cc := cL_errors) (maxL := 4) (ret := (some .boolean)) (by decide) rfl (Nat.le_of_ble_eq_true rfl) ?_
  intro D ka lo hL hlo p e s m below meth c hx hb hr hts hown hml hlk hnm hK H locs ls hz hP hS hl
  have hl : lv_has ls 4 [(0, .ref o)] := hl
  have hown : s.vm.findClass RL = some m.cls := hown
  have hoz := hW.oz
  obtain ⟨⟨hB, hN, hKs, hRs⟩, -⟩ := id hY.1
  refine lv_aload_n hx hb dL_errors_0 rfl (lv_at hl 0 rfl) ?_
  refine lv_iconst (v := (nI 0)) hx hb dL_errors_1 (by decide) ?_
  refine g_runV (As := [.int (nI 0)]) (rest := []) (own := RL) (C := RX7) (T := TX7) (N := 7) 1 hx hb hml hown hts hK hz hP hL hS hlo hl.1 (c_X7_count l o b S tf tn P C kp zp ((nI 0))  σ sz hW hY.1.1 ) gL_errors_X7_count rfl rfl rfl (by decide +kernel) ⟨Nat.le_of_ble_eq_true rfl, Nat.le_of_ble_eq_true rfl⟩ hW.c0 rfl rfl rfl (Nat.le_of_ble_eq_true rfl) dL_errors_2 ⟨Nat.le_of_ble_eq_true rfl, Nat.le_of_ble_eq_true rfl⟩ (g_kxi0 (fun r_1 τ_1 H locs z_1 hz hp hP hL hS => ?_))
  obtain ⟨hr_1, hW, hz_1, ha_1⟩ := hp
  have hz := hz.trans hz_1
  subst hr_1
  refine g_top (y := (nI (sB S))) yc_0 ?_
  refine lv_istore_n (lv' := [(1, .int (nI (sB S))), (0, .ref o)]) hx hb dL_errors_5 rfl hl (by decide) rfl (fun ls hl => ?_)
  refine lv_aload_n hx hb dL_errors_6 rfl (lv_at hl 1 rfl) ?_
  refine lv_iconst (v := (nI 3)) hx hb dL_errors_7 (by decide) ?_
  refine g_runV (As := [.int (nI 3)]) (rest := []) (own := RL) (C := RX7) (T := TX7) (N := 7) 1 hx hb hml hown hts hK hz hP hL hS hlo hl.1 (c_X7_count l o b S tf tn P C kp zp ((nI 3))  τ_1 sz hW hY.1.1 ) gL_errors_X7_count rfl rfl rfl (by decide +kernel) ⟨Nat.le_of_ble_eq_true rfl, Nat.le_of_ble_eq_true rfl⟩ hW.c0 rfl rfl rfl (Nat.le_of_ble_eq_true rfl) dL_errors_8 ⟨Nat.le_of_ble_eq_true rfl, Nat.le_of_ble_eq_true rfl⟩ (g_kxi0 (fun r_2 τ_2 H locs z_2 hz hp hP hL hS => ?_))
  obtain ⟨hr_2, hW, hz_2, ha_2⟩ := hp
  have hz := hz.trans hz_2
  subst hr_2
  refine g_top (y := (nI (sN S))) yc_3 ?_
  refine lv_istore_n (lv' := [(2, .int (nI (sN S))), (1, .int (nI (sB S))), (0, .ref o)]) hx hb dL_errors_11 rfl hl (by decide) rfl (fun ls hl => ?_)
  refine lv_aload_n hx hb dL_errors_12 rfl (lv_at hl 2 rfl) ?_
  refine lv_iload_n hx hb dL_errors_13 rfl (lv_at hl 1 rfl) ?_
  refine lv_iconst (v := (nI 0)) hx hb dL_errors_14 (by decide) ?_
  refine lv_iconst (v := (nI 1)) hx hb dL_errors_15 (by decide) ?_
  refine g_runV (As := [.int (nI (sB S)), .int (nI 0), .int (nI 1)]) (rest := []) (own := RL) (C := RX7) (T := TX7) (N := 7) 3 hx hb hml hown hts hK hz hP hL hS hlo hl.1 (c_X7_setLoudness l o b S tf tn P C kp ((nI (sB S))) ((nI 0)) ((nI 1)) τ_2 sz (hW.up (by omega)) hY.1.1 ) gL_errors_X7_setLoudness rfl rfl rfl (by decide +kernel) ⟨Nat.le_of_ble_eq_true rfl, Nat.le_of_ble_eq_true rfl⟩ hW.c0 rfl rfl rfl (Nat.le_of_ble_eq_true rfl) dL_errors_16 ⟨Nat.le_of_ble_eq_true rfl, Nat.le_of_ble_eq_true rfl⟩ (g_kxi (fun r_3 τ_3 H locs z_3 hz hp hP hL hS => ?_))
  obtain ⟨hr_3, hW, hzl_3, hzu_3⟩ := wP_no (e_lo1 _ _ _) hp
  have hlo : lo ≤ z_3 := Nat.le_trans hlo hzl_3
  subst hr_3
  refine lv_iconst (v := (-1)) hx hb dL_errors_19 (by decide) ?_
  refine lv_icmp_ne (tgt := 137) hx hb dL_errors_20 (by decide) (fun c20 => by first | exact absurd (by decide) c20 | exact absurd c20 (by decide)) (fun c20 => ?_)
  refine lv_aload_n hx hb dL_errors_23 rfl (lv_at hl 2 rfl) ?_
  refine lv_iconst (v := (nI 0)) hx hb dL_errors_24 (by decide) ?_
  refine lv_iconst (v := (nI 0)) hx hb dL_errors_25 (by decide) ?_
  refine lv_bipush (v := (nI 6)) hx hb dL_errors_26 (by decide) ?_
  refine g_runV (As := [.int (nI 0), .int (nI 0), .int (nI 6)]) (rest := []) (own := RL) (C := RX7) (T := TX7) (N := 7) 3 hx hb hml hown hts hK hz hP hL hS hlo hl.1 (c_X7_setLoudness l o b S tf tn P C kp ((nI 0)) ((nI 0)) ((nI 6)) τ_3 z_3 (hW.up (by omega)) hY.1.1 ) gL_errors_X7_setLoudness rfl rfl rfl (by decide +kernel) ⟨Nat.le_of_ble_eq_true rfl, Nat.le_of_ble_eq_true rfl⟩ hW.c0 rfl rfl rfl (Nat.le_of_ble_eq_true rfl) dL_errors_28 ⟨Nat.le_of_ble_eq_true rfl, Nat.le_of_ble_eq_true rfl⟩ (g_kxi (fun r_4 τ_4 H locs z_4 hz hp hP hL hS => ?_))
  obtain ⟨hr_4, hW, hzl_4, hzu_4⟩ := wP_no (e_lo2 hY hB1) hp
  have hlo : lo ≤ z_4 := Nat.le_trans hlo hzl_4
  subst hr_4
  refine lv_bipush (v := (-2)) hx hb dL_errors_31 (by decide) ?_
  refine lv_icmp_ne (tgt := 137) hx hb dL_errors_33 (by decide) (fun c33 => by first | exact absurd (by decide) c33 | exact absurd c33 (by decide)) (fun c33 => ?_)
  refine lv_aload_n hx hb dL_errors_36 rfl (lv_at hl 2 rfl) ?_
  refine lv_iconst (v := (-1)) hx hb dL_errors_37 (by decide) ?_
  refine lv_iconst (v := (nI 0)) hx hb dL_errors_38 (by decide) ?_
  refine g_runV (As := [.int (-1), .int (nI 0)]) (rest := []) (own := RL) (C := RX7) (T := TX7) (N := 7) 2 hx hb hml hown hts hK hz hP hL hS hlo hl.1 (c_X7_setSort l o b S tf tn P C kp ((-1)) ((nI 0)) τ_4 z_4 (hW.up (by omega)) hY.1.1 ) gL_errors_X7_setSort rfl rfl rfl (by decide +kernel) ⟨Nat.le_of_ble_eq_true rfl, Nat.le_of_ble_eq_true rfl⟩ hW.c0 rfl rfl rfl (Nat.le_of_ble_eq_true rfl) dL_errors_39 ⟨Nat.le_of_ble_eq_true rfl, Nat.le_of_ble_eq_true rfl⟩ (g_kxi (fun r_5 τ_5 H locs z_5 hz hp hP hL hS => ?_))
  obtain ⟨hr_5, hW, hzl_5, hzu_5⟩ := wP_no (e_so1 _ _) hp
  have hlo : lo ≤ z_5 := Nat.le_trans hlo hzl_5
  subst hr_5
  refine lv_iconst (v := (-1)) hx hb dL_errors_42 (by decide) ?_
  refine lv_icmp_ne (tgt := 137) hx hb dL_errors_43 (by decide) (fun c43 => by first | exact absurd (by decide) c43 | exact absurd c43 (by decide)) (fun c43 => ?_)
  refine lv_aload_n hx hb dL_errors_46 rfl (lv_at hl 2 rfl) ?_
  refine lv_iconst (v := (nI 0)) hx hb dL_errors_47 (by decide) ?_
  refine lv_iconst (v := (nI 3)) hx hb dL_errors_48 (by decide) ?_
  refine g_runV (As := [.int (nI 0), .int (nI 3)]) (rest := []) (own := RL) (C := RX7) (T := TX7) (N := 7) 2 hx hb hml hown hts hK hz hP hL hS hlo hl.1 (c_X7_setSort l o b S tf tn P C kp ((nI 0)) ((nI 3)) τ_5 z_5 (hW.up (by omega)) hY.1.1 ) gL_errors_X7_setSort rfl rfl rfl (by decide +kernel) ⟨Nat.le_of_ble_eq_true rfl, Nat.le_of_ble_eq_true rfl⟩ hW.c0 rfl rfl rfl (Nat.le_of_ble_eq_true rfl) dL_errors_49 ⟨Nat.le_of_ble_eq_true rfl, Nat.le_of_ble_eq_true rfl⟩ (g_kxi (fun r_6 τ_6 H locs z_6 hz hp hP hL hS => ?_))
  obtain ⟨hr_6, hW, hzl_6, hzu_6⟩ := wP_no (e_so2 hY hB1) hp
  have hlo : lo ≤ z_6 := Nat.le_trans hlo hzl_6
  subst hr_6
  refine lv_bipush (v := (-2)) hx hb dL_errors_52 (by decide) ?_
  refine lv_icmp_ne (tgt := 137) hx hb dL_errors_54 (by decide) (fun c54 => by first | exact absurd (by decide) c54 | exact absurd c54 (by decide)) (fun c54 => ?_)
  refine lv_aload_n hx hb dL_errors_57 rfl (lv_at hl 2 rfl) ?_
  refine lv_iconst (v := (nI 3)) hx hb dL_errors_58 (by decide) ?_
  refine lv_iconst (v := (nI 1)) hx hb dL_errors_59 (by decide) ?_
  refine g_runV (As := [.int (nI 3), .int (nI 1)]) (rest := []) (own := RL) (C := RX7) (T := TX7) (N := 7) 2 hx hb hml hown hts hK hz hP hL hS hlo hl.1 (c_X7_addSinger l o b S tf tn P C kp ((nI 3)) ((nI 1)) τ_6 z_6 (hW.up (by omega)) hY.1.1 ) gL_errors_X7_addSinger rfl rfl rfl (by decide +kernel) ⟨Nat.le_of_ble_eq_true rfl, Nat.le_of_ble_eq_true rfl⟩ hW.c0 rfl rfl rfl (Nat.le_of_ble_eq_true rfl) dL_errors_60 ⟨Nat.le_of_ble_eq_true rfl, Nat.le_of_ble_eq_true rfl⟩ (g_kxi (fun r_7 τ_7 H locs z_7 hz hp hP hL hS => ?_))
  obtain ⟨hr_7, hW, hzl_7, hzu_7⟩ := wP_no (e_ad1 _) hp
  have hlo : lo ≤ z_7 := Nat.le_trans hlo hzl_7
  subst hr_7
  refine lv_bipush (v := (-2)) hx hb dL_errors_63 (by decide) ?_
  refine lv_icmp_ne (tgt := 137) hx hb dL_errors_65 (by decide) (fun c65 => by first | exact absurd (by decide) c65 | exact absurd c65 (by decide)) (fun c65 => ?_)
  refine lv_aload_n hx hb dL_errors_68 rfl (lv_at hl 2 rfl) ?_
  refine lv_bipush (v := (nI 41)) hx hb dL_errors_69 (by decide) ?_
  refine lv_iconst (v := (nI 1)) hx hb dL_errors_71 (by decide) ?_
  refine g_runV (As := [.int (nI 41), .int (nI 1)]) (rest := []) (own := RL) (C := RX7) (T := TX7) (N := 7) 2 hx hb hml hown hts hK hz hP hL hS hlo hl.1 (c_X7_addSinger l o b S tf tn P C kp ((nI 41)) ((nI 1)) τ_7 z_7 (hW.up (by omega)) hY.1.1 ) gL_errors_X7_addSinger rfl rfl rfl (by decide +kernel) ⟨Nat.le_of_ble_eq_true rfl, Nat.le_of_ble_eq_true rfl⟩ hW.c0 rfl rfl rfl (Nat.le_of_ble_eq_true rfl) dL_errors_72 ⟨Nat.le_of_ble_eq_true rfl, Nat.le_of_ble_eq_true rfl⟩ (g_kxi (fun r_8 τ_8 H locs z_8 hz hp hP hL hS => ?_))
  obtain ⟨hr_8, hW, hzl_8, hzu_8⟩ := wP_no (e_ad2 _) hp
  have hlo : lo ≤ z_8 := Nat.le_trans hlo hzl_8
  subst hr_8
  refine lv_bipush (v := (-2)) hx hb dL_errors_75 (by decide) ?_
  refine lv_icmp_ne (tgt := 137) hx hb dL_errors_77 (by decide) (fun c77 => by first | exact absurd (by decide) c77 | exact absurd c77 (by decide)) (fun c77 => ?_)
  refine lv_aload_n hx hb dL_errors_80 rfl (lv_at hl 2 rfl) ?_
  refine lv_iconst (v := (nI 4)) hx hb dL_errors_81 (by decide) ?_
  refine lv_bipush (v := (nI 11)) hx hb dL_errors_82 (by decide) ?_
  refine g_runV (As := [.int (nI 4), .int (nI 11)]) (rest := []) (own := RL) (C := RX7) (T := TX7) (N := 7) 2 hx hb hml hown hts hK hz hP hL hS hlo hl.1 (c_X7_addSinger l o b S tf tn P C kp ((nI 4)) ((nI 11)) τ_8 z_8 (hW.up (by omega)) hY.1.1 ) gL_errors_X7_addSinger rfl rfl rfl (by decide +kernel) ⟨Nat.le_of_ble_eq_true rfl, Nat.le_of_ble_eq_true rfl⟩ hW.c0 rfl rfl rfl (Nat.le_of_ble_eq_true rfl) dL_errors_84 ⟨Nat.le_of_ble_eq_true rfl, Nat.le_of_ble_eq_true rfl⟩ (g_kxi (fun r_9 τ_9 H locs z_9 hz hp hP hL hS => ?_))
  obtain ⟨hr_9, hW, hzl_9, hzu_9⟩ := wP_no (e_ad3 _) hp
  have hlo : lo ≤ z_9 := Nat.le_trans hlo hzl_9
  subst hr_9
  refine lv_bipush (v := (-2)) hx hb dL_errors_87 (by decide) ?_
  refine lv_icmp_ne (tgt := 137) hx hb dL_errors_89 (by decide) (fun c89 => by first | exact absurd (by decide) c89 | exact absurd c89 (by decide)) (fun c89 => ?_)
  refine lv_aload_n hx hb dL_errors_92 rfl (lv_at hl 2 rfl) ?_
  refine lv_iload_n hx hb dL_errors_93 rfl (lv_at hl 0 rfl) ?_
  refine lv_iconst (v := (nI 1)) hx hb dL_errors_94 (by decide) ?_
  refine g_top (y := (bI true)) rfl ?_
  refine g_runV (As := [.int (nI (sN S)), .int (bI true)]) (rest := []) (own := RL) (C := RX7) (T := TX7) (N := 7) 2 hx hb hml hown hts hK hz hP hL hS hlo hl.1 (c_X7_setPresent l o b S tf tn P C kp ((nI (sN S))) true τ_9 z_9 (hW.up (by omega)) hY.1.1 ) gL_errors_X7_setPresent rfl rfl rfl (by decide +kernel) ⟨Nat.le_of_ble_eq_true rfl, Nat.le_of_ble_eq_true rfl⟩ hW.c0 rfl rfl rfl (Nat.le_of_ble_eq_true rfl) dL_errors_95 ⟨Nat.le_of_ble_eq_true rfl, Nat.le_of_ble_eq_true rfl⟩ (g_kxi (fun r_10 τ_10 H locs z_10 hz hp hP hL hS => ?_))
  obtain ⟨hr_10, hW, hzl_10, hzu_10⟩ := wP_no (e_sp _ _) hp
  have hlo : lo ≤ z_10 := Nat.le_trans hlo hzl_10
  subst hr_10
  refine lv_iconst (v := (-1)) hx hb dL_errors_98 (by decide) ?_
  refine lv_icmp_ne (tgt := 137) hx hb dL_errors_99 (by decide) (fun c99 => by first | exact absurd (by decide) c99 | exact absurd c99 (by decide)) (fun c99 => ?_)
  refine lv_aload_n hx hb dL_errors_102 rfl (lv_at hl 2 rfl) ?_
  refine lv_iload_n hx hb dL_errors_103 rfl (lv_at hl 0 rfl) ?_
  refine lv_iconst (v := (nI 0)) hx hb dL_errors_104 (by decide) ?_
  refine lv_iconst (v := (nI 0)) hx hb dL_errors_105 (by decide) ?_
  refine g_runV (As := [.int (nI (sN S)), .int (nI 0), .int (nI 0)]) (rest := []) (own := RL) (C := RX7) (T := TX7) (N := 7) 3 hx hb hml hown hts hK hz hP hL hS hlo hl.1 (c_X7_addSolo l o b S tf tn P C kp ((nI (sN S))) ((nI 0)) ((nI 0)) τ_10 z_10 (hW.up (by omega)) hY.1.1 ) gL_errors_X7_addSolo rfl rfl rfl (by decide +kernel) ⟨Nat.le_of_ble_eq_true rfl, Nat.le_of_ble_eq_true rfl⟩ hW.c0 rfl rfl rfl (Nat.le_of_ble_eq_true rfl) dL_errors_106 ⟨Nat.le_of_ble_eq_true rfl, Nat.le_of_ble_eq_true rfl⟩ (g_kxi (fun r_11 τ_11 H locs z_11 hz hp hP hL hS => ?_))
  obtain ⟨hr_11, hW, hzl_11, hzu_11⟩ := wP_no (e_as1 _ _ _) hp
  have hlo : lo ≤ z_11 := Nat.le_trans hlo hzl_11
  subst hr_11
  refine lv_iconst (v := (-1)) hx hb dL_errors_109 (by decide) ?_
  refine lv_icmp_ne (tgt := 137) hx hb dL_errors_110 (by decide) (fun c110 => by first | exact absurd (by decide) c110 | exact absurd c110 (by decide)) (fun c110 => ?_)
  refine lv_aload_n hx hb dL_errors_113 rfl (lv_at hl 2 rfl) ?_
  refine lv_iconst (v := (nI 0)) hx hb dL_errors_114 (by decide) ?_
  refine lv_iload_n hx hb dL_errors_115 rfl (lv_at hl 1 rfl) ?_
  refine lv_iload_n hx hb dL_errors_116 rfl (lv_at hl 1 rfl) ?_
  refine g_runV (As := [.int (nI 0), .int (nI (sB S)), .int (nI (sB S))]) (rest := []) (own := RL) (C := RX7) (T := TX7) (N := 7) 3 hx hb hml hown hts hK hz hP hL hS hlo hl.1 (c_X7_addSolo l o b S tf tn P C kp ((nI 0)) ((nI (sB S))) ((nI (sB S))) τ_11 z_11 (hW.up (by omega)) hY.1.1 ) gL_errors_X7_addSolo rfl rfl rfl (by decide +kernel) ⟨Nat.le_of_ble_eq_true rfl, Nat.le_of_ble_eq_true rfl⟩ hW.c0 rfl rfl rfl (Nat.le_of_ble_eq_true rfl) dL_errors_117 ⟨Nat.le_of_ble_eq_true rfl, Nat.le_of_ble_eq_true rfl⟩ (g_kxi (fun r_12 τ_12 H locs z_12 hz hp hP hL hS => ?_))
  obtain ⟨hr_12, hW, hzl_12, hzu_12⟩ := wP_no (e_as2 hY hN1 _) hp
  have hlo : lo ≤ z_12 := Nat.le_trans hlo hzl_12
  subst hr_12
  refine lv_iconst (v := (-1)) hx hb dL_errors_120 (by decide) ?_
  refine lv_icmp_ne (tgt := 137) hx hb dL_errors_121 (by decide) (fun c121 => by first | exact absurd (by decide) c121 | exact absurd c121 (by decide)) (fun c121 => ?_)
  refine lv_aload_n hx hb dL_errors_124 rfl (lv_at hl 2 rfl) ?_
  refine lv_iconst (v := (-1)) hx hb dL_errors_125 (by decide) ?_
  refine g_runV (As := [.int (-1)]) (rest := []) (own := RL) (C := RX7) (T := TX7) (N := 7) 1 hx hb hml hown hts hK hz hP hL hS hlo hl.1 (c_X7_removeSolo l o b S tf tn P C kp ((-1)) τ_12 z_12 (hW.up (by omega)) hY.1.1 ) gL_errors_X7_removeSolo rfl rfl rfl (by decide +kernel) ⟨Nat.le_of_ble_eq_true rfl, Nat.le_of_ble_eq_true rfl⟩ hW.c0 rfl rfl rfl (Nat.le_of_ble_eq_true rfl) dL_errors_126 ⟨Nat.le_of_ble_eq_true rfl, Nat.le_of_ble_eq_true rfl⟩ (g_kxi (fun r_13 τ_13 H locs z_13 hz hp hP hL hS => ?_))
  obtain ⟨hr_13, hW, hzl_13, hzu_13⟩ := wP_no (e_rs _) hp
  have hlo : lo ≤ z_13 := Nat.le_trans hlo hzl_13
  subst hr_13
  refine lv_iconst (v := (-1)) hx hb dL_errors_129 (by decide) ?_
  refine lv_icmp_ne (tgt := 137) hx hb dL_errors_130 (by decide) (fun c130 => by first | exact absurd (by decide) c130 | exact absurd c130 (by decide)) (fun c130 => ?_)
  refine lv_iconst (v := (nI 1)) hx hb dL_errors_133 (by decide) ?_
  refine lv_goto (tgt := 138) hx hb dL_errors_134 (by decide) ?_
  refine lv_istore_n (lv' := [(3, .int (nI 1)), (2, .int (nI (sN S))), (1, .int (nI (sB S))), (0, .ref o)]) hx hb dL_errors_138 rfl hl (by decide) rfl (fun ls hl => ?_)
  refine lv_iload_n hx hb dL_errors_139 rfl (lv_at hl 0 rfl) ?_
  refine lv_if_eq (tgt := 246) hx hb dL_errors_140 (by decide) (fun c140 => by first | exact absurd (by decide) c140 | exact absurd c140 (by decide)) (fun c140 => ?_)
  refine lv_aload_n hx hb dL_errors_143 rfl (lv_at hl 3 rfl) ?_
  refine lv_iload_n hx hb dL_errors_144 rfl (lv_at hl 1 rfl) ?_
  refine lv_iconst (v := (nI 0)) hx hb dL_errors_145 (by decide) ?_
  refine lv_iconst (v := (nI 1)) hx hb dL_errors_146 (by decide) ?_
  refine g_top (y := (bI true)) rfl ?_
  refine g_runV (As := [.int (nI (sN S)), .int (nI 0), .int (bI true)]) (rest := []) (own := RL) (C := RX7) (T := TX7) (N := 7) 3 hx hb hml hown hts hK hz hP hL hS hlo hl.1 (c_X7_mark l o b S tf tn P C kp ((nI (sN S))) ((nI 0)) true τ_13 z_13 (hW.up (by omega)) hY.1.1 ) gL_errors_X7_mark rfl rfl rfl (by decide +kernel) ⟨Nat.le_of_ble_eq_true rfl, Nat.le_of_ble_eq_true rfl⟩ hW.c0 rfl rfl rfl (Nat.le_of_ble_eq_true rfl) dL_errors_147 ⟨Nat.le_of_ble_eq_true rfl, Nat.le_of_ble_eq_true rfl⟩ (g_kxi (fun r_14 τ_14 H locs z_14 hz hp hP hL hS => ?_))
  obtain ⟨hr_14, hW, hzl_14, hzu_14⟩ := wP_no (e_mk1 _ _ _) hp
  have hlo : lo ≤ z_14 := Nat.le_trans hlo hzl_14
  subst hr_14
  refine lv_iconst (v := (-1)) hx hb dL_errors_150 (by decide) ?_
  refine lv_icmp_ne (tgt := 246) hx hb dL_errors_151 (by decide) (fun c151 => by first | exact absurd (by decide) c151 | exact absurd c151 (by decide)) (fun c151 => ?_)
  refine lv_aload_n hx hb dL_errors_154 rfl (lv_at hl 3 rfl) ?_
  refine lv_iconst (v := (nI 0)) hx hb dL_errors_155 (by decide) ?_
  refine lv_iload_n hx hb dL_errors_156 rfl (lv_at hl 2 rfl) ?_
  refine lv_iconst (v := (nI 1)) hx hb dL_errors_157 (by decide) ?_
  refine g_top (y := (bI true)) rfl ?_
  refine g_runV (As := [.int (nI 0), .int (nI (sB S)), .int (bI true)]) (rest := []) (own := RL) (C := RX7) (T := TX7) (N := 7) 3 hx hb hml hown hts hK hz hP hL hS hlo hl.1 (c_X7_mark l o b S tf tn P C kp ((nI 0)) ((nI (sB S))) true τ_14 z_14 (hW.up (by omega)) hY.1.1 ) gL_errors_X7_mark rfl rfl rfl (by decide +kernel) ⟨Nat.le_of_ble_eq_true rfl, Nat.le_of_ble_eq_true rfl⟩ hW.c0 rfl rfl rfl (Nat.le_of_ble_eq_true rfl) dL_errors_158 ⟨Nat.le_of_ble_eq_true rfl, Nat.le_of_ble_eq_true rfl⟩ (g_kxi (fun r_15 τ_15 H locs z_15 hz hp hP hL hS => ?_))
  obtain ⟨hr_15, hW, hzl_15, hzu_15⟩ := wP_no (e_mk2 hY hN1 _) hp
  have hlo : lo ≤ z_15 := Nat.le_trans hlo hzl_15
  subst hr_15
  refine lv_iconst (v := (-1)) hx hb dL_errors_161 (by decide) ?_
  refine lv_icmp_ne (tgt := 246) hx hb dL_errors_162 (by decide) (fun c162 => by first | exact absurd (by decide) c162 | exact absurd c162 (by decide)) (fun c162 => ?_)
  refine lv_aload_n hx hb dL_errors_165 rfl (lv_at hl 3 rfl) ?_
  refine lv_iconst (v := (nI 0)) hx hb dL_errors_166 (by decide) ?_
  refine g_runV (As := [.int (nI 0)]) (rest := []) (own := RL) (C := RX7) (T := TX7) (N := 7) 1 hx hb hml hown hts hK hz hP hL hS hlo hl.1 (c_X7_setReserve l o b S tf tn P C kp ((nI 0)) τ_15 z_15 (hW.up (by omega)) hY.1.1 ) gL_errors_X7_setReserve rfl rfl rfl (by decide +kernel) ⟨Nat.le_of_ble_eq_true rfl, Nat.le_of_ble_eq_true rfl⟩ hW.c0 rfl rfl rfl (Nat.le_of_ble_eq_true rfl) dL_errors_167 ⟨Nat.le_of_ble_eq_true rfl, Nat.le_of_ble_eq_true rfl⟩ (g_kxi (fun r_16 τ_16 H locs z_16 hz hp hP hL hS => ?_))
  obtain ⟨hr_16, hW, hzl_16, hzu_16⟩ := wP_no (e_sr0 _) hp
  have hlo : lo ≤ z_16 := Nat.le_trans hlo hzl_16
  subst hr_16
  refine lv_bipush (v := (-2)) hx hb dL_errors_170 (by decide) ?_
  refine lv_icmp_ne (tgt := 246) hx hb dL_errors_172 (by decide) (fun c172 => by first | exact absurd (by decide) c172 | exact absurd c172 (by decide)) (fun c172 => ?_)
  refine lv_aload_n hx hb dL_errors_175 rfl (lv_at hl 3 rfl) ?_
  refine lv_bipush (v := (nI 9)) hx hb dL_errors_176 (by decide) ?_
  refine g_runV (As := [.int (nI 9)]) (rest := []) (own := RL) (C := RX7) (T := TX7) (N := 7) 1 hx hb hml hown hts hK hz hP hL hS hlo hl.1 (c_X7_setReserve l o b S tf tn P C kp ((nI 9)) τ_16 z_16 (hW.up (by omega)) hY.1.1 ) gL_errors_X7_setReserve rfl rfl rfl (by decide +kernel) ⟨Nat.le_of_ble_eq_true rfl, Nat.le_of_ble_eq_true rfl⟩ hW.c0 rfl rfl rfl (Nat.le_of_ble_eq_true rfl) dL_errors_178 ⟨Nat.le_of_ble_eq_true rfl, Nat.le_of_ble_eq_true rfl⟩ (g_kxi (fun r_17 τ_17 H locs z_17 hz hp hP hL hS => ?_))
  obtain ⟨hr_17, hW, hzl_17, hzu_17⟩ := wP_no (e_sr9 _) hp
  have hlo : lo ≤ z_17 := Nat.le_trans hlo hzl_17
  subst hr_17
  refine lv_bipush (v := (-2)) hx hb dL_errors_181 (by decide) ?_
  refine lv_icmp_ne (tgt := 246) hx hb dL_errors_183 (by decide) (fun c183 => by first | exact absurd (by decide) c183 | exact absurd c183 (by decide)) (fun c183 => ?_)
  refine lv_aload_n hx hb dL_errors_186 rfl (lv_at hl 3 rfl) ?_
  refine lv_iload_n hx hb dL_errors_187 rfl (lv_at hl 1 rfl) ?_
  refine lv_iconst (v := (nI 0)) hx hb dL_errors_188 (by decide) ?_
  refine g_runV (As := [.int (nI (sN S)), .int (nI 0)]) (rest := []) (own := RL) (C := RX7) (T := TX7) (N := 7) 2 hx hb hml hown hts hK hz hP hL hS hlo hl.1 (c_X7_does l o b S tf tn P C kp z_17 ((nI (sN S))) ((nI 0))  τ_17 z_17 hW hY.1.1 ) gL_errors_X7_does rfl rfl rfl (by decide +kernel) ⟨Nat.le_of_ble_eq_true rfl, Nat.le_of_ble_eq_true rfl⟩ hW.c0 rfl rfl rfl (Nat.le_of_ble_eq_true rfl) dL_errors_189 ⟨Nat.le_of_ble_eq_true rfl, Nat.le_of_ble_eq_true rfl⟩ (g_kxi0 (fun r_18 τ_18 H locs z_18 hz hp hP hL hS => ?_))
  obtain ⟨hr_18, hW, hz_18, ha_18⟩ := hp
  have hz := hz.trans hz_18
  subst hr_18
  refine g_top (y := (-1)) (yd_out _ _) ?_
  refine lv_iconst (v := (-1)) hx hb dL_errors_192 (by decide) ?_
  refine lv_icmp_ne (tgt := 246) hx hb dL_errors_193 (by decide) (fun c193 => by first | exact absurd (by decide) c193 | exact absurd c193 (by decide)) (fun c193 => ?_)
  refine lv_aload_n hx hb dL_errors_196 rfl (lv_at hl 3 rfl) ?_
  refine lv_iconst (v := (nI 0)) hx hb dL_errors_197 (by decide) ?_
  refine lv_iload_n hx hb dL_errors_198 rfl (lv_at hl 2 rfl) ?_
  refine g_runV (As := [.int (nI 0), .int (nI (sB S))]) (rest := []) (own := RL) (C := RX7) (T := TX7) (N := 7) 2 hx hb hml hown hts hK hz hP hL hS hlo hl.1 (c_X7_left l o b S tf tn P C kp z_17 ((nI 0)) ((nI (sB S)))  τ_18 z_17 hW hY.1.1 ) gL_errors_X7_left rfl rfl rfl (by decide +kernel) ⟨Nat.le_of_ble_eq_true rfl, Nat.le_of_ble_eq_true rfl⟩ hW.c0 rfl rfl rfl (Nat.le_of_ble_eq_true rfl) dL_errors_199 ⟨Nat.le_of_ble_eq_true rfl, Nat.le_of_ble_eq_true rfl⟩ (g_kxi0 (fun r_19 τ_19 H locs z_19 hz hp hP hL hS => ?_))
  obtain ⟨hr_19, hW, hz_19, ha_19⟩ := hp
  have hz := hz.trans hz_19
  subst hr_19
  refine g_top (y := (-1)) (yl_out hY (by omega)) ?_
  refine lv_iconst (v := (-1)) hx hb dL_errors_202 (by decide) ?_
  refine lv_icmp_ne (tgt := 246) hx hb dL_errors_203 (by decide) (fun c203 => by first | exact absurd (by decide) c203 | exact absurd c203 (by decide)) (fun c203 => ?_)
  refine lv_aload_n hx hb dL_errors_206 rfl (lv_at hl 3 rfl) ?_
  refine lv_iload_n hx hb dL_errors_207 rfl (lv_at hl 1 rfl) ?_
  refine g_runV (As := [.int (nI (sN S))]) (rest := []) (own := RL) (C := RX7) (T := TX7) (N := 7) 1 hx hb hml hown hts hK hz hP hL hS hlo hl.1 (c_X7_silentWithout l o b S tf tn P C kp z_17 ((nI (sN S)))  τ_19 z_17 hW hY.1.1 ) gL_errors_X7_silentWithout rfl rfl rfl (by decide +kernel) ⟨Nat.le_of_ble_eq_true rfl, Nat.le_of_ble_eq_true rfl⟩ hW.c0 rfl rfl rfl (Nat.le_of_ble_eq_true rfl) dL_errors_208 ⟨Nat.le_of_ble_eq_true rfl, Nat.le_of_ble_eq_true rfl⟩ (g_kxi0 (fun r_20 τ_20 H locs z_20 hz hp hP hL hS => ?_))
  obtain ⟨hr_20, hW, hz_20, ha_20⟩ := hp
  have hz := hz.trans hz_20
  subst hr_20
  refine g_top (y := (-1)) (ysw_out _) ?_
  refine lv_iconst (v := (-1)) hx hb dL_errors_211 (by decide) ?_
  refine lv_icmp_ne (tgt := 246) hx hb dL_errors_212 (by decide) (fun c212 => by first | exact absurd (by decide) c212 | exact absurd c212 (by decide)) (fun c212 => ?_)
  refine lv_aload_n hx hb dL_errors_215 rfl (lv_at hl 3 rfl) ?_
  refine lv_iconst (v := (-1)) hx hb dL_errors_216 (by decide) ?_
  refine g_runV (As := [.int (-1)]) (rest := []) (own := RL) (C := RX7) (T := TX7) (N := 7) 1 hx hb hml hown hts hK hz hP hL hS hlo hl.1 (c_X7_breathFor l o b S tf tn P C kp z_17 ((-1))  τ_20 z_17 hW hY.1.1 ) gL_errors_X7_breathFor rfl rfl rfl (by decide +kernel) ⟨Nat.le_of_ble_eq_true rfl, Nat.le_of_ble_eq_true rfl⟩ hW.c0 rfl rfl rfl (Nat.le_of_ble_eq_true rfl) dL_errors_217 ⟨Nat.le_of_ble_eq_true rfl, Nat.le_of_ble_eq_true rfl⟩ (g_kxi0 (fun r_21 τ_21 H locs z_21 hz hp hP hL hS => ?_))
  obtain ⟨hr_21, hW, hz_21, ha_21⟩ := hp
  have hz := hz.trans hz_21
  subst hr_21
  refine g_top (y := (-1)) (ybr_out _) ?_
  refine lv_iconst (v := (-1)) hx hb dL_errors_220 (by decide) ?_
  refine lv_icmp_ne (tgt := 246) hx hb dL_errors_221 (by decide) (fun c221 => by first | exact absurd (by decide) c221 | exact absurd c221 (by decide)) (fun c221 => ?_)
  refine lv_aload_n hx hb dL_errors_224 rfl (lv_at hl 3 rfl) ?_
  refine lv_iconst (v := (nI 2)) hx hb dL_errors_225 (by decide) ?_
  refine g_runV (As := [.int (nI 2)]) (rest := []) (own := RL) (C := RX7) (T := TX7) (N := 7) 1 hx hb hml hown hts hK hz hP hL hS hlo hl.1 (c_X7_keep l o b S tf tn P C kp ((nI 2)) τ_21 z_17 (hW.up (by omega)) hY.1.1) gL_errors_X7_keep rfl rfl rfl (by decide +kernel) ⟨Nat.le_of_ble_eq_true rfl, Nat.le_of_ble_eq_true rfl⟩ hW.c0 rfl rfl rfl (Nat.le_of_ble_eq_true rfl) dL_errors_226 ⟨Nat.le_of_ble_eq_true rfl, Nat.le_of_ble_eq_true rfl⟩ (g_kxi (fun r_22 τ_22 H locs z_22 hz hp hP hL hS => ?_))
  simp only [keepC, keepK, if_neg (show ¬ (inN (nI 2) 2 = true) by decide)] at hp
  obtain ⟨hr_22, hW, hzl_22, hzu_22, -⟩ := hp
  have hlo : lo ≤ z_22 := Nat.le_trans hlo hzl_22
  subst hr_22
  refine lv_iconst (v := (-1)) hx hb dL_errors_229 (by decide) ?_
  refine lv_icmp_ne (tgt := 246) hx hb dL_errors_230 (by decide) (fun c230 => by first | exact absurd (by decide) c230 | exact absurd c230 (by decide)) (fun c230 => ?_)
  refine lv_aload_n hx hb dL_errors_233 rfl (lv_at hl 3 rfl) ?_
  refine lv_iconst (v := (nI 2)) hx hb dL_errors_234 (by decide) ?_
  refine g_runV (As := [.int (nI 2)]) (rest := []) (own := RL) (C := RX7) (T := TX7) (N := 7) 1 hx hb hml hown hts hK hz hP hL hS hlo hl.1 (c_X7_restore l o b S tf tn P C kp ((nI 2)) τ_22 z_22 (hW.up (by omega)) hY.1.1 hC.res) gL_errors_X7_restore rfl rfl rfl (by decide +kernel) ⟨Nat.le_of_ble_eq_true rfl, Nat.le_of_ble_eq_true rfl⟩ hW.c0 rfl rfl rfl (Nat.le_of_ble_eq_true rfl) dL_errors_235 ⟨Nat.le_of_ble_eq_true rfl, Nat.le_of_ble_eq_true rfl⟩ (g_kxi (fun r_23 τ_23 H locs z_23 hz hp hP hL hS => ?_))
  obtain ⟨hr_23, hW, hzl_23, hzu_23⟩ := wP_no (e_re _ _ _) hp
  have hlo : lo ≤ z_23 := Nat.le_trans hlo hzl_23
  subst hr_23
  refine lv_iconst (v := (-1)) hx hb dL_errors_238 (by decide) ?_
  refine lv_icmp_ne (tgt := 246) hx hb dL_errors_239 (by decide) (fun c239 => by first | exact absurd (by decide) c239 | exact absurd c239 (by decide)) (fun c239 => ?_)
  refine lv_iconst (v := (nI 1)) hx hb dL_errors_242 (by decide) ?_
  refine lv_goto (tgt := 247) hx hb dL_errors_243 (by decide) ?_
  refine W.widen (k := 289) (n := 13413) (by omega) (by omega) ?_
  exact g_zret (z := z_23) hx hb hr hlk hz hP hL hS rfl dL_errors_247 (gxi_i rfl)
