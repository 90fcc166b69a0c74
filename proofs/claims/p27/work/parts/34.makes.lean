set_option maxHeartbeats 4000000 in
set_option maxRecDepth 100000 in
theorem c_L_makes (l : Launch) (o b : Nat) (S : sS) (tf : Nat → Int32) (tn P : Nat) (C : Nat → sS) (kp : Nat → Bool) (zp : Nat) (σ : gS) (sz : Nat) (hW : Wo σ o b S tf tn P C kp zp) (hY : okY S) (hzp : zp ≤ sz) (hC : okC P C kp) (hB1 : 0 < sB S) : gM l yL_makes wsL_makes ({ frames := 7, cells := 17, slots := 789, locals := 162 } : Room) 17 789 [.ref o] σ sz (gxi (fun r τ n => r = nI 1 ∧ ∃ (S2 : sS) (P2 : Nat) (C2 : Nat → sS), Wo τ o b S2 tf tn P2 C2 kp n ∧ okY S2 ∧ sB S2 = sB S ∧ sN S2 = sN S ∧ okC P2 C2 kp ∧ sz ≤ n ∧ n ≤ sz + 17)) := by
  refine gM_of (cc := cL_makes) (maxL := 11) (ret := (some .boolean)) (by decide) rfl (Nat.le_of_ble_eq_true rfl) ?_
  intro D ka lo hL hlo p e s m below meth c hx hb hr hts hown hml hlk hnm hK H locs ls hz hP hS hl
  have hl : lv_has ls 11 [(0, .ref o)] := hl
  have hown : s.vm.findClass RL = some m.cls := hown
  have hoz := hW.oz
  obtain ⟨⟨hB, hN, hKs, hRs⟩, -⟩ := id hY.1
  refine lv_aload_n hx hb dL_makes_0 rfl (lv_at hl 0 rfl) ?_
  obtain ⟨np, hnp⟩ : ∃ np : Nat, np = cntF (presB S) (sN S) := ⟨_, rfl⟩
  have hnp12 := cntF_le (presB S) (sN S)
  refine g_runV (As := []) (rest := []) (own := RL) (C := RX7) (T := TX7) (N := 7) 0 hx hb hml hown hts hK hz hP hL hS hlo hl.1 (c_X7_make l o b S tf tn P C kp np σ sz (hW.up (by omega)) hY.1.1 (by rw [hnp]; exact hY.1.np) (by omega)) gL_makes_X7_make rfl rfl rfl (by decide +kernel) ⟨Nat.le_of_ble_eq_true rfl, Nat.le_of_ble_eq_true rfl⟩ hW.c0 rfl rfl rfl (Nat.le_of_ble_eq_true rfl) dL_makes_1 ⟨Nat.le_of_ble_eq_true rfl, Nat.le_of_ble_eq_true rfl⟩ (g_kxi (fun r_1 τ_1 H locs z_1 hz hp hP hL hS => ?_))
  rcases Nat.eq_zero_or_pos np with h0 | h0
  · have hme := mk_no hY hnp h0
    obtain ⟨hr_1, hW, hzl_1, hzu_1⟩ := wP_no hme hp
    have hlo : lo ≤ z_1 := Nat.le_trans hlo hzl_1
    subst hr_1
    refine lv_istore_n (lv' := [(1, .int (-4)), (0, .ref o)]) hx hb dL_makes_4 rfl hl (by decide) rfl (fun ls hl => ?_)
    refine lv_aload_n hx hb dL_makes_5 rfl (lv_at hl 1 rfl) ?_
    refine lv_iconst (v := (nI 4)) hx hb dL_makes_6 (by decide) ?_
    refine g_runV (As := [.int (nI 4)]) (rest := []) (own := RL) (C := RX7) (T := TX7) (N := 7) 1 hx hb hml hown hts hK hz hP hL hS hlo hl.1 (c_X7_count l o b S tf tn P C kp z_1 ((nI 4))  τ_1 z_1 hW hY.1.1 ) gL_makes_X7_count rfl rfl rfl (by decide +kernel) ⟨Nat.le_of_ble_eq_true rfl, Nat.le_of_ble_eq_true rfl⟩ hW.c0 rfl rfl rfl (Nat.le_of_ble_eq_true rfl) dL_makes_7 ⟨Nat.le_of_ble_eq_true rfl, Nat.le_of_ble_eq_true rfl⟩ (g_kxi0 (fun r_2 τ_2 H locs z_2 hz hp hP hL hS => ?_))
    obtain ⟨hr_2, hW, hz_2, ha_2⟩ := hp
    have hz := hz.trans hz_2
    subst hr_2
    have hct4 := cntF_le (presB S) (sN S)
    refine g_top (y := (nI (cntF (presB S) (sN S)))) (yc_4 hY) ?_
    refine lv_istore_n (lv' := [(2, .int (nI (cntF (presB S) (sN S)))), (1, .int (-4)), (0, .ref o)]) hx hb dL_makes_10 rfl hl (by decide) rfl (fun ls hl => ?_)
    refine lv_iload_n hx hb dL_makes_11 rfl (lv_at hl 0 rfl) ?_
    refine g_if_eq (tgt := 23) hx hb (by omega) dL_makes_12 (by decide) (fun c12 => ?_) (fun c12 => False.elim (by omega))
    refine lv_iload_n hx hb dL_makes_23 rfl (lv_at hl 1 rfl) ?_
    refine lv_bipush (v := (-4)) hx hb dL_makes_24 (by decide) ?_
    refine lv_icmp_ne (tgt := 33) hx hb dL_makes_26 (by decide) (fun c26 => by first | exact absurd (by decide) c26 | exact absurd c26 (by decide)) (fun c26 => ?_)
    refine lv_iconst (v := (nI 1)) hx hb dL_makes_29 (by decide) ?_
    refine lv_goto (tgt := 34) hx hb dL_makes_30 (by decide) ?_
    refine W.widen (k := 17) (n := 789) (by omega) (by omega) ?_
    exact g_zret (z := z_1) hx hb hr hlk hz hP hL hS rfl dL_makes_34 (gxi_i ⟨rfl, S, P, C, hW, hY, rfl, rfl, hC, by omega, by omega⟩)
  · obtain ⟨V, hVe⟩ : ∃ V : sS, V = planS S np := ⟨_, rfl⟩
    have hme := mk_yes hY hnp h0 hB1
    rw [← hVe] at hme
    have hV : okY V := by rw [hVe]; exact hY.plan
    have hPl : PlOk V np := by rw [hVe]; exact PlOk.of hY hnp
    have hBV : sB V = sB S := by rw [hVe]; rfl
    have hNV : sN V = sN S := by rw [hVe]; rfl
    obtain ⟨hr_1, hW, hzl_1, hzu_1⟩ := wP_yes hme hp
    have hlo : lo ≤ z_1 := Nat.le_trans hlo hzl_1
    subst hr_1
    obtain ⟨⟨hBv, hNv, hKv, hRv⟩, -⟩ := id hV.1
    obtain ⟨hnv2, hPh, hPe, hPt, hPs, hP0⟩ := hPl
    have hoz2 := hW.oz
    have hsum := suF_le (g := fun x => cnQ V 1 x) (c := 12) (fun x => Nat.le_trans (cn_le _ _ _) hNv) (sB V)
    clear hVe hme
    refine lv_istore_n (lv' := [(1, .int (nI (suF (fun x => cnQ V 1 x) (sB V)))), (0, .ref o)]) hx hb dL_makes_4 rfl hl (by decide) rfl (fun ls hl => ?_)
    refine lv_aload_n hx hb dL_makes_5 rfl (lv_at hl 1 rfl) ?_
    refine lv_iconst (v := (nI 4)) hx hb dL_makes_6 (by decide) ?_
    refine g_runV (As := [.int (nI 4)]) (rest := []) (own := RL) (C := RX7) (T := TX7) (N := 7) 1 hx hb hml hown hts hK hz hP hL hS hlo hl.1 (c_X7_count l o b V tf tn (recP P) (recS C P S) kp z_1 ((nI 4))  τ_1 z_1 hW hV.1.1 ) gL_makes_X7_count rfl rfl rfl (by decide +kernel) ⟨Nat.le_of_ble_eq_true rfl, Nat.le_of_ble_eq_true rfl⟩ hW.c0 rfl rfl rfl (Nat.le_of_ble_eq_true rfl) dL_makes_7 ⟨Nat.le_of_ble_eq_true rfl, Nat.le_of_ble_eq_true rfl⟩ (g_kxi0 (fun r_3 τ_3 H locs z_3 hz hp hP hL hS => ?_))
    obtain ⟨hr_3, hW, hz_3, ha_3⟩ := hp
    have hz := hz.trans hz_3
    subst hr_3
    have hct4 := cntF_le (presB V) (sN V)
    refine g_top (y := (nI (cntF (presB V) (sN V)))) (yc_4 hV) ?_
    refine lv_istore_n (lv' := [(2, .int (nI (cntF (presB V) (sN V)))), (1, .int (nI (suF (fun x => cnQ V 1 x) (sB V)))), (0, .ref o)]) hx hb dL_makes_10 rfl hl (by decide) rfl (fun ls hl => ?_)
    refine lv_iload_n hx hb dL_makes_11 rfl (lv_at hl 0 rfl) ?_
    refine g_if_eq (tgt := 23) hx hb (by omega) dL_makes_12 (by decide) (fun c12 => False.elim (by omega)) (fun c12 => ?_)
    refine lv_aload_n hx hb dL_makes_15 rfl (lv_at hl 2 rfl) ?_
    refine lv_iconst (v := (nI 0)) hx hb dL_makes_16 (by decide) ?_
    refine g_runV (As := [.int (nI 0)]) (rest := []) (own := RL) (C := RX7) (T := TX7) (N := 7) 1 hx hb hml hown hts hK hz hP hL hS hlo hl.1 (c_X7_count l o b V tf tn (recP P) (recS C P S) kp z_1 ((nI 0))  τ_3 z_1 hW hV.1.1 ) gL_makes_X7_count rfl rfl rfl (by decide +kernel) ⟨Nat.le_of_ble_eq_true rfl, Nat.le_of_ble_eq_true rfl⟩ hW.c0 rfl rfl rfl (Nat.le_of_ble_eq_true rfl) dL_makes_17 ⟨Nat.le_of_ble_eq_true rfl, Nat.le_of_ble_eq_true rfl⟩ (g_kxi0 (fun r_4 τ_4 H locs z_4 hz hp hP hL hS => ?_))
    obtain ⟨hr_4, hW, hz_4, ha_4⟩ := hp
    have hz := hz.trans hz_4
    subst hr_4
    refine g_top (y := (nI (sB V))) yc_0 ?_
    refine g_if_ne (tgt := 35) hx hb (by omega) dL_makes_20 (by decide) (fun c20 => ?_) (fun c20 => False.elim (by omega))
    refine lv_iload_n hx hb dL_makes_35 rfl (lv_at hl 0 rfl) ?_
    refine lv_iconst (v := (nI 2)) hx hb dL_makes_36 (by decide) ?_
    refine lv_idiv hx hb dL_makes_37 (by decide) ?_
    refine g_top (pk_div (a := cntF (presB V) (sN V)) (d := 2) (by omega) (by omega) (by omega)) ?_
    refine lv_iconst (v := (nI 1)) hx hb dL_makes_38 (by decide) ?_
    refine g_icmp_ge (tgt := 46) (a := (cntF (presB V) (sN V)) / 2) (b := 1) hx hb (by omega) (by omega) dL_makes_39 (by decide) (fun c39 => ?_) (fun c39 => ?_)
    · refine lv_iload_n hx hb dL_makes_46 rfl (lv_at hl 0 rfl) ?_
      refine lv_iconst (v := (nI 2)) hx hb dL_makes_47 (by decide) ?_
      refine lv_idiv hx hb dL_makes_48 (by decide) ?_
      refine g_top (pk_div (a := cntF (presB V) (sN V)) (d := 2) (by omega) (by omega) (by omega)) ?_
      refine g_top (y := (nI (max 1 (np / 2)))) (congrArg nI (by omega)) ?_
      refine lv_istore_n (lv' := [(3, .int (nI (max 1 (np / 2)))), (2, .int (nI (cntF (presB V) (sN V)))), (1, .int (nI (suF (fun x => cnQ V 1 x) (sB V)))), (0, .ref o)]) hx hb dL_makes_49 rfl hl (by decide) rfl (fun ls hl => ?_)
      refine lv_iconst (v := (nI 0)) hx hb dL_makes_50 (by decide) ?_
      refine lv_istore (lv' := [(4, .int (nI 0)), (3, .int (nI (max 1 (np / 2)))), (2, .int (nI (cntF (presB V) (sN V)))), (1, .int (nI (suF (fun x => cnQ V 1 x) (sB V)))), (0, .ref o)]) hx hb dL_makes_51 hl (by decide) rfl (fun ls hl => ?_)
      refine lv_iconst (v := (nI 0)) hx hb dL_makes_53 (by decide) ?_
      refine lv_istore (lv' := [(5, .int (nI 0)), (4, .int (nI 0)), (3, .int (nI (max 1 (np / 2)))), (2, .int (nI (cntF (presB V) (sN V)))), (1, .int (nI (suF (fun x => cnQ V 1 x) (sB V)))), (0, .ref o)]) hx hb dL_makes_54 hl (by decide) rfl (fun ls hl => ?_)
      have lpA : ∀ (fu_lpA : Nat) (j : Nat), (j ≤ sB V) → (sB V - j < fu_lpA) → ∀ (υ : gS), (Wo υ o b V tf tn (recP P) (recS C P S) kp z_1) → gL lo υ → ∀ (H : Heap) (locs : List Loc) (ls : Array Slot), H.size = z_1 → gH D ka υ H → va_S (gA lo) s.heap H locs → lv_has ls 11 [(0, .ref o), (1, .int (nI (suF (fun x => cnQ V 1 x) (sB V)))), (2, .int (nI (cntF (presB V) (sN V)))), (3, .int (nI (max 1 (np / 2)))), (4, .int (nI (suF (fun x => cnQ V 1 x) j))), (5, .int (nI j))] → W p l e ({ frames := 7, cells := 17, slots := 789, locals := 162 } : Room) s m ([.ref o] : List Value).toArray below meth c H locs (0 + 17) (0 + 789) (MQ below (gQ D ka lo (gxi (fun r τ n => r = nI 1 ∧ ∃ (S2 : sS) (P2 : Nat) (C2 : Nat → sS), Wo τ o b S2 tf tn P2 C2 kp n ∧ okY S2 ∧ sB S2 = sB S ∧ sN S2 = sN S ∧ okC P2 C2 kp ∧ sz ≤ n ∧ n ≤ sz + 17))) ([.ref o] : List Value).toArray s 17 789 (gA lo)) (F0 m 56 ls []) := by
        intro fu_lpA
        induction fu_lpA with
        | zero => intro j hj hm_lpA; exact absurd hm_lpA (Nat.not_lt_zero _)
        | succ fu_lpA ih_lpA =>
          intro j hj hm_lpA υ hW hL H locs ls hz hP hS hl
          refine lv_iload hx hb dL_makes_56 (lv_at hl 5 rfl) ?_
          refine lv_aload_n hx hb dL_makes_58 rfl (lv_at hl 0 rfl) ?_
          refine lv_iconst (v := (nI 0)) hx hb dL_makes_59 (by decide) ?_
          refine g_runV (As := [.int (nI 0)]) (rest := [.int (nI j)]) (own := RL) (C := RX7) (T := TX7) (N := 7) 1 hx hb hml hown hts hK hz hP hL hS hlo hl.1 (c_X7_count l o b V tf tn (recP P) (recS C P S) kp z_1 ((nI 0))  υ z_1 hW hV.1.1 ) gL_makes_X7_count rfl rfl rfl (by decide +kernel) ⟨Nat.le_of_ble_eq_true rfl, Nat.le_of_ble_eq_true rfl⟩ hW.c0 rfl rfl rfl (Nat.le_of_ble_eq_true rfl) dL_makes_60 ⟨Nat.le_of_ble_eq_true rfl, Nat.le_of_ble_eq_true rfl⟩ (g_kxi0 (fun r_5 τ_5 H locs z_5 hz hp hP hL hS => ?_))
          obtain ⟨hr_5, hW, hz_5, ha_5⟩ := hp
          have hz := hz.trans hz_5
          subst hr_5
          refine g_top (y := (nI (sB V))) yc_0 ?_
          refine g_icmp_ge (tgt := 275) (a := j) (b := sB V) hx hb (by omega) (by omega) dL_makes_63 (by decide) (fun c63 => ?_) (fun c63 => ?_)
          · have hje : j = sB V := by omega
            rw [hje] at hl
            refine lv_iload_n hx hb dL_makes_275 rfl (lv_at hl 1 rfl) ?_
            refine lv_iload hx hb dL_makes_276 (lv_at hl 4 rfl) ?_
            refine lv_icmp_ne (tgt := 305) hx hb dL_makes_278 (by decide) (fun c278 => absurd rfl c278) (fun c278 => ?_)
            refine lv_aload_n hx hb dL_makes_281 rfl (lv_at hl 0 rfl) ?_
            refine lv_bipush (v := (nI 6)) hx hb dL_makes_282 (by decide) ?_
            refine g_runV (As := [.int (nI 6)]) (rest := []) (own := RL) (C := RX7) (T := TX7) (N := 7) 1 hx hb hml hown hts hK hz hP hL hS hlo hl.1 (c_X7_count l o b V tf tn (recP P) (recS C P S) kp z_1 ((nI 6))  τ_5 z_1 hW hV.1.1 ) gL_makes_X7_count rfl rfl rfl (by decide +kernel) ⟨Nat.le_of_ble_eq_true rfl, Nat.le_of_ble_eq_true rfl⟩ hW.c0 rfl rfl rfl (Nat.le_of_ble_eq_true rfl) dL_makes_284 ⟨Nat.le_of_ble_eq_true rfl, Nat.le_of_ble_eq_true rfl⟩ (g_kxi0 (fun r_6 τ_6 H locs z_6 hz hp hP hL hS => ?_))
            obtain ⟨hr_6, hW, hz_6, ha_6⟩ := hp
            have hz := hz.trans hz_6
            subst hr_6
            have hmt := mk_le hV
            refine g_top (y := (nI (suF (fun x => cntF (markB V x) (sB V)) (sN V)))) (yc_6 hV) ?_
            refine g_top (y := (nI (suF (fun x => cnQ V 1 x) (sB V)))) (congrArg nI hPs) ?_
            refine lv_iload hx hb dL_makes_287 (lv_at hl 4 rfl) ?_
            refine lv_icmp_ne (tgt := 305) hx hb dL_makes_289 (by decide) (fun c289 => absurd rfl c289) (fun c289 => ?_)
            refine lv_aload_n hx hb dL_makes_292 rfl (lv_at hl 0 rfl) ?_
            refine lv_bipush (v := (nI 11)) hx hb dL_makes_293 (by decide) ?_
            refine g_runV (As := [.int (nI 11)]) (rest := []) (own := RL) (C := RX7) (T := TX7) (N := 7) 1 hx hb hml hown hts hK hz hP hL hS hlo hl.1 (c_X7_count l o b V tf tn (recP P) (recS C P S) kp z_1 ((nI 11))  τ_6 z_1 hW hV.1.1 ) gL_makes_X7_count rfl rfl rfl (by decide +kernel) ⟨Nat.le_of_ble_eq_true rfl, Nat.le_of_ble_eq_true rfl⟩ hW.c0 rfl rfl rfl (Nat.le_of_ble_eq_true rfl) dL_makes_295 ⟨Nat.le_of_ble_eq_true rfl, Nat.le_of_ble_eq_true rfl⟩ (g_kxi0 (fun r_7 τ_7 H locs z_7 hz hp hP hL hS => ?_))
            obtain ⟨hr_7, hW, hz_7, ha_7⟩ := hp
            have hz := hz.trans hz_7
            subst hr_7
            have hcq := cq_le V 3 hV.1.1.1
            refine g_top (y := (nI (cqG (gF V) 3 (sB V) 0 0))) (yc_11 hV) ?_
            refine g_top (y := (nI 0)) (congrArg nI hP0) ?_
            refine lv_if_ne (tgt := 305) hx hb dL_makes_298 (by decide) (fun c298 => by first | exact absurd (by decide) c298 | exact absurd c298 (by decide)) (fun c298 => ?_)
            refine lv_iconst (v := (nI 1)) hx hb dL_makes_301 (by decide) ?_
            refine lv_goto (tgt := 306) hx hb dL_makes_302 (by decide) ?_
            refine W.widen (k := 17) (n := 789) (by omega) (by omega) ?_
            exact g_zret (z := z_1) hx hb hr hlk hz hP hL hS rfl dL_makes_306 (gxi_i ⟨rfl, V, _, _, hW, hV, hBV, hNV, hC.act hY.1.1 (by omega), by omega, by omega⟩)
          · have hjl : j < sB V := by omega
            have hhf := hPh j hjl
            refine lv_aload_n hx hb dL_makes_66 rfl (lv_at hl 0 rfl) ?_
            refine lv_iload hx hb dL_makes_67 (lv_at hl 5 rfl) ?_
            refine lv_iconst (v := (nI 5)) hx hb dL_makes_69 (by decide) ?_
            refine g_runV (As := [.int (nI j), .int (nI 5)]) (rest := []) (own := RL) (C := RX7) (T := TX7) (N := 7) 2 hx hb hml hown hts hK hz hP hL hS hlo hl.1 (c_X7_beat l o b V tf tn (recP P) (recS C P S) kp z_1 ((nI j)) ((nI 5))  τ_5 z_1 hW hV.1.1 ) gL_makes_X7_beat rfl rfl rfl (by decide +kernel) ⟨Nat.le_of_ble_eq_true rfl, Nat.le_of_ble_eq_true rfl⟩ hW.c0 rfl rfl rfl (Nat.le_of_ble_eq_true rfl) dL_makes_70 ⟨Nat.le_of_ble_eq_true rfl, Nat.le_of_ble_eq_true rfl⟩ (g_kxi0 (fun r_8 τ_8 H locs z_8 hz hp hP hL hS => ?_))
            obtain ⟨hr_8, hW, hz_8, ha_8⟩ := hp
            have hz := hz.trans hz_8
            subst hr_8
            have hcn1 := cn_le V 1 j
            refine g_top (y := (nI (cnQ V 1 j))) (yb_5 hV (by omega)) ?_
            refine lv_istore (lv' := [(6, .int (nI (cnQ V 1 j))), (0, .ref o), (1, .int (nI (suF (fun x => cnQ V 1 x) (sB V)))), (2, .int (nI (cntF (presB V) (sN V)))), (3, .int (nI (max 1 (np / 2)))), (4, .int (nI (suF (fun x => cnQ V 1 x) j))), (5, .int (nI j))]) hx hb dL_makes_73 hl (by decide) rfl (fun ls hl => ?_)
            refine lv_iconst (v := (nI 0)) hx hb dL_makes_75 (by decide) ?_
            refine lv_istore (lv' := [(7, .int (nI 0)), (6, .int (nI (cnQ V 1 j))), (0, .ref o), (1, .int (nI (suF (fun x => cnQ V 1 x) (sB V)))), (2, .int (nI (cntF (presB V) (sN V)))), (3, .int (nI (max 1 (np / 2)))), (4, .int (nI (suF (fun x => cnQ V 1 x) j))), (5, .int (nI j))]) hx hb dL_makes_76 hl (by decide) rfl (fun ls hl => ?_)
            refine lv_aload_n hx hb dL_makes_78 rfl (lv_at hl 2 rfl) ?_
            refine lv_bipush (v := (nI 12)) hx hb dL_makes_79 (by decide) ?_
            refine g_runV (As := [.int (nI 12)]) (rest := []) (own := RL) (C := RX7) (T := TX7) (N := 7) 1 hx hb hml hown hts hK hz hP hL hS hlo hl.1 (c_X7_count l o b V tf tn (recP P) (recS C P S) kp z_1 ((nI 12))  τ_8 z_1 hW hV.1.1 ) gL_makes_X7_count rfl rfl rfl (by decide +kernel) ⟨Nat.le_of_ble_eq_true rfl, Nat.le_of_ble_eq_true rfl⟩ hW.c0 rfl rfl rfl (Nat.le_of_ble_eq_true rfl) dL_makes_81 ⟨Nat.le_of_ble_eq_true rfl, Nat.le_of_ble_eq_true rfl⟩ (g_kxi0 (fun r_9 τ_9 H locs z_9 hz hp hP hL hS => ?_))
            obtain ⟨hr_9, hW, hz_9, ha_9⟩ := hp
            have hz := hz.trans hz_9
            subst hr_9
            refine g_top (y := (nI (sR V))) yc_12 ?_
            refine lv_istore (lv' := [(8, .int (nI (sR V))), (7, .int (nI 0)), (6, .int (nI (cnQ V 1 j))), (0, .ref o), (1, .int (nI (suF (fun x => cnQ V 1 x) (sB V)))), (2, .int (nI (cntF (presB V) (sN V)))), (3, .int (nI (max 1 (np / 2)))), (4, .int (nI (suF (fun x => cnQ V 1 x) j))), (5, .int (nI j))]) hx hb dL_makes_84 hl (by decide) rfl (fun ls hl => ?_)
            refine lv_iload hx hb dL_makes_86 (lv_at hl 8 rfl) ?_
            refine lv_istore (lv' := [(9, .int (nI j)), (8, .int (nI (sR V))), (7, .int (nI 0)), (6, .int (nI (cnQ V 1 j))), (0, .ref o), (1, .int (nI (suF (fun x => cnQ V 1 x) (sB V)))), (2, .int (nI (cntF (presB V) (sN V)))), (3, .int (nI (max 1 (np / 2)))), (4, .int (nI (suF (fun x => cnQ V 1 x) j))), (5, .int (nI j))]) hx hb dL_makes_88 hl (by decide) rfl (fun ls hl => ?_)
            have lpB : ∀ (fu_lpB : Nat) (y : Nat) (su : Nat) (lq : Nat), (j ≤ y) → (y ≤ sB V) → (lq ≤ sR V) → (su ≤ 5 * y) → (neF V (sB V - y) y (sR V - lq) (nI su) = needI V j) → (sB V - y < fu_lpB) → ∀ (υ : gS), (Wo υ o b V tf tn (recP P) (recS C P S) kp z_1) → gL lo υ → ∀ (H : Heap) (locs : List Loc) (ls : Array Slot), H.size = z_1 → gH D ka υ H → va_S (gA lo) s.heap H locs → lv_has ls 11 [(0, .ref o), (1, .int (nI (suF (fun x => cnQ V 1 x) (sB V)))), (2, .int (nI (cntF (presB V) (sN V)))), (3, .int (nI (max 1 (np / 2)))), (4, .int (nI (suF (fun x => cnQ V 1 x) j))), (5, .int (nI j)), (6, .int (nI (cnQ V 1 j))), (7, .int (nI su)), (8, .int (nI lq)), (9, .int (nI y))] → W p l e ({ frames := 7, cells := 17, slots := 789, locals := 162 } : Room) s m ([.ref o] : List Value).toArray below meth c H locs (0 + 17) (0 + 789) (MQ below (gQ D ka lo (gxi (fun r τ n => r = nI 1 ∧ ∃ (S2 : sS) (P2 : Nat) (C2 : Nat → sS), Wo τ o b S2 tf tn P2 C2 kp n ∧ okY S2 ∧ sB S2 = sB S ∧ sN S2 = sN S ∧ okC P2 C2 kp ∧ sz ≤ n ∧ n ≤ sz + 17))) ([.ref o] : List Value).toArray s 17 789 (gA lo)) (F0 m 90 ls []) := by
              intro fu_lpB
              induction fu_lpB with
              | zero => intro y su lq hyj hy hq8 hsu hne hm_lpB; exact absurd hm_lpB (Nat.not_lt_zero _)
              | succ fu_lpB ih_lpB =>
                intro y su lq hyj hy hq8 hsu hne hm_lpB υ hW hL H locs ls hz hP hS hl
                refine lv_iload hx hb dL_makes_90 (lv_at hl 9 rfl) ?_
                refine lv_aload_n hx hb dL_makes_92 rfl (lv_at hl 0 rfl) ?_
                refine lv_iconst (v := (nI 0)) hx hb dL_makes_93 (by decide) ?_
                refine g_runV (As := [.int (nI 0)]) (rest := [.int (nI y)]) (own := RL) (C := RX7) (T := TX7) (N := 7) 1 hx hb hml hown hts hK hz hP hL hS hlo hl.1 (c_X7_count l o b V tf tn (recP P) (recS C P S) kp z_1 ((nI 0))  υ z_1 hW hV.1.1 ) gL_makes_X7_count rfl rfl rfl (by decide +kernel) ⟨Nat.le_of_ble_eq_true rfl, Nat.le_of_ble_eq_true rfl⟩ hW.c0 rfl rfl rfl (Nat.le_of_ble_eq_true rfl) dL_makes_94 ⟨Nat.le_of_ble_eq_true rfl, Nat.le_of_ble_eq_true rfl⟩ (g_kxi0 (fun r_10 τ_10 H locs z_10 hz hp hP hL hS => ?_))
                obtain ⟨hr_10, hW, hz_10, ha_10⟩ := hp
                have hz := hz.trans hz_10
                subst hr_10
                refine g_top (y := (nI (sB V))) yc_0 ?_
                refine g_icmp_ge (tgt := 157) (a := y) (b := sB V) hx hb (by omega) (by omega) dL_makes_97 (by decide) (fun c97 => ?_) (fun c97 => ?_)
                · have hnd := ne_e hy hq8 (Or.inl c97) hne
                  refine lv_iload hx hb dL_makes_157 (lv_at hl 4 rfl) ?_
                  refine lv_iload hx hb dL_makes_159 (lv_at hl 6 rfl) ?_
                  refine lv_iadd hx hb dL_makes_161 ?_
                  refine g_top (nI_add (suF (fun x => cnQ V 1 x) j) (cnQ V 1 j)) ?_
                  refine g_top (y := (nI (suF (fun x => cnQ V 1 x) (j + 1)))) rfl ?_
                  refine lv_istore (lv' := [(4, .int (nI (suF (fun x => cnQ V 1 x) (j + 1)))), (0, .ref o), (1, .int (nI (suF (fun x => cnQ V 1 x) (sB V)))), (2, .int (nI (cntF (presB V) (sN V)))), (3, .int (nI (max 1 (np / 2)))), (5, .int (nI j)), (6, .int (nI (cnQ V 1 j))), (7, .int (nI su)), (8, .int (nI lq)), (9, .int (nI y))]) hx hb dL_makes_162 hl (by decide) rfl (fun ls hl => ?_)
                  refine lv_iload hx hb dL_makes_164 (lv_at hl 6 rfl) ?_
                  refine lv_iload_n hx hb dL_makes_166 rfl (lv_at hl 4 rfl) ?_
                  refine g_icmp_gt (tgt := 195) (a := cnQ V 1 j) (b := max 1 (np / 2)) hx hb (by omega) (by omega) dL_makes_167 (by decide) (fun c167 => False.elim (by omega)) (fun c167 => ?_)
                  refine lv_iload hx hb dL_makes_170 (lv_at hl 6 rfl) ?_
                  refine g_if_le (tgt := 197) hx hb (by omega) dL_makes_172 (by decide) (fun c172 => ?_) (fun c172 => ?_)
                  · refine lv_iconst (v := (nI 0)) hx hb dL_makes_197 (by decide) ?_
                    refine lv_istore (lv' := [(9, .int (nI 0)), (4, .int (nI (suF (fun x => cnQ V 1 x) (j + 1)))), (0, .ref o), (1, .int (nI (suF (fun x => cnQ V 1 x) (sB V)))), (2, .int (nI (cntF (presB V) (sN V)))), (3, .int (nI (max 1 (np / 2)))), (5, .int (nI j)), (6, .int (nI (cnQ V 1 j))), (7, .int (nI su)), (8, .int (nI lq))]) hx hb dL_makes_198 hl (by decide) rfl (fun ls hl => ?_)
                    have lpC : ∀ (fu_lpC : Nat) (i : Nat), (i ≤ sN V) → (sN V - i < fu_lpC) → ∀ (υ : gS), (Wo υ o b V tf tn (recP P) (recS C P S) kp z_1) → gL lo υ → ∀ (H : Heap) (locs : List Loc) (ls : Array Slot), H.size = z_1 → gH D ka υ H → va_S (gA lo) s.heap H locs → lv_has ls 11 [(0, .ref o), (1, .int (nI (suF (fun x => cnQ V 1 x) (sB V)))), (2, .int (nI (cntF (presB V) (sN V)))), (3, .int (nI (max 1 (np / 2)))), (4, .int (nI (suF (fun x => cnQ V 1 x) (j + 1)))), (5, .int (nI j)), (6, .int (nI (cnQ V 1 j))), (7, .int (nI su)), (8, .int (nI lq)), (9, .int (nI i))] → W p l e ({ frames := 7, cells := 17, slots := 789, locals := 162 } : Room) s m ([.ref o] : List Value).toArray below meth c H locs (0 + 17) (0 + 789) (MQ below (gQ D ka lo (gxi (fun r τ n => r = nI 1 ∧ ∃ (S2 : sS) (P2 : Nat) (C2 : Nat → sS), Wo τ o b S2 tf tn P2 C2 kp n ∧ okY S2 ∧ sB S2 = sB S ∧ sN S2 = sN S ∧ okC P2 C2 kp ∧ sz ≤ n ∧ n ≤ sz + 17))) ([.ref o] : List Value).toArray s 17 789 (gA lo)) (F0 m 200 ls []) := by
                      intro fu_lpC
                      induction fu_lpC with
                      | zero => intro i hi hm_lpC; exact absurd hm_lpC (Nat.not_lt_zero _)
                      | succ fu_lpC ih_lpC =>
                        intro i hi hm_lpC υ hW hL H locs ls hz hP hS hl
                        refine lv_iload hx hb dL_makes_200 (lv_at hl 9 rfl) ?_
                        refine lv_aload_n hx hb dL_makes_202 rfl (lv_at hl 0 rfl) ?_
                        refine lv_iconst (v := (nI 3)) hx hb dL_makes_203 (by decide) ?_
                        refine g_runV (As := [.int (nI 3)]) (rest := [.int (nI i)]) (own := RL) (C := RX7) (T := TX7) (N := 7) 1 hx hb hml hown hts hK hz hP hL hS hlo hl.1 (c_X7_count l o b V tf tn (recP P) (recS C P S) kp z_1 ((nI 3))  υ z_1 hW hV.1.1 ) gL_makes_X7_count rfl rfl rfl (by decide +kernel) ⟨Nat.le_of_ble_eq_true rfl, Nat.le_of_ble_eq_true rfl⟩ hW.c0 rfl rfl rfl (Nat.le_of_ble_eq_true rfl) dL_makes_204 ⟨Nat.le_of_ble_eq_true rfl, Nat.le_of_ble_eq_true rfl⟩ (g_kxi0 (fun r_11 τ_11 H locs z_11 hz hp hP hL hS => ?_))
                        obtain ⟨hr_11, hW, hz_11, ha_11⟩ := hp
                        have hz := hz.trans hz_11
                        subst hr_11
                        refine g_top (y := (nI (sN V))) yc_3 ?_
                        refine g_icmp_ge (tgt := 269) (a := i) (b := sN V) hx hb (by omega) (by omega) dL_makes_207 (by decide) (fun c207 => ?_) (fun c207 => ?_)
                        · refine lv_iinc (v := (nI (j + 1))) (lv' := [(5, .int (nI (j + 1))), (0, .ref o), (1, .int (nI (suF (fun x => cnQ V 1 x) (sB V)))), (2, .int (nI (cntF (presB V) (sN V)))), (3, .int (nI (max 1 (np / 2)))), (4, .int (nI (suF (fun x => cnQ V 1 x) (j + 1)))), (6, .int (nI (cnQ V 1 j))), (7, .int (nI su)), (8, .int (nI lq)), (9, .int (nI i))]) hx hb dL_makes_269 hl (k := 5) rfl (g_inc j 1) (by decide) rfl (fun ls hl => ?_)
                          refine lv_goto (tgt := 56) hx hb dL_makes_272 (by decide) ?_
                          exact ih_lpA (j + 1) (by omega) (by omega) τ_11 hW hL H locs ls hz hP hS (lv_sub hl [1, 2, 3, 4, 5, 0] rfl)
                        · refine lv_iload hx hb dL_makes_210 (lv_at hl 6 rfl) ?_
                          refine g_if_le (tgt := 269) hx hb (by omega) dL_makes_212 (by decide) (fun c212 => ?_) (fun c212 => ?_)
                          · refine lv_iinc (v := (nI (j + 1))) (lv' := [(5, .int (nI (j + 1))), (0, .ref o), (1, .int (nI (suF (fun x => cnQ V 1 x) (sB V)))), (2, .int (nI (cntF (presB V) (sN V)))), (3, .int (nI (max 1 (np / 2)))), (4, .int (nI (suF (fun x => cnQ V 1 x) (j + 1)))), (6, .int (nI (cnQ V 1 j))), (7, .int (nI su)), (8, .int (nI lq)), (9, .int (nI i))]) hx hb dL_makes_269 hl (k := 5) rfl (g_inc j 1) (by decide) rfl (fun ls hl => ?_)
                            refine lv_goto (tgt := 56) hx hb dL_makes_272 (by decide) ?_
                            exact ih_lpA (j + 1) (by omega) (by omega) τ_11 hW hL H locs ls hz hP hS (lv_sub hl [1, 2, 3, 4, 5, 0] rfl)
                          · have hil0 : i < sN V := by omega
                            have hbri := hV.br (i := i) hil0
                            have hil : i < sN V := by omega
                            have hlfj := lfN_le hV (i := i) (k := j) hil (by omega)
                            refine lv_iload hx hb dL_makes_215 (lv_at hl 5 rfl) ?_
                            refine g_if_ne (tgt := 230) hx hb (by omega) dL_makes_217 (by decide) (fun c217 => ?_) (fun c217 => ?_)
                            · refine lv_aload_n hx hb dL_makes_230 rfl (lv_at hl 0 rfl) ?_
                              refine lv_iload hx hb dL_makes_231 (lv_at hl 9 rfl) ?_
                              refine lv_iload hx hb dL_makes_233 (lv_at hl 5 rfl) ?_
                              refine lv_iconst (v := (nI 1)) hx hb dL_makes_235 (by decide) ?_
                              refine lv_isub hx hb dL_makes_236 ?_
                              refine g_top (pk_sub (by omega : 1 ≤ j)) ?_
                              refine g_runV (As := [.int (nI i), .int (nI (j - 1))]) (rest := []) (own := RL) (C := RX7) (T := TX7) (N := 7) 2 hx hb hml hown hts hK hz hP hL hS hlo hl.1 (c_X7_left l o b V tf tn (recP P) (recS C P S) kp z_1 ((nI i)) ((nI (j - 1)))  τ_11 z_1 hW hV.1.1 ) gL_makes_X7_left rfl rfl rfl (by decide +kernel) ⟨Nat.le_of_ble_eq_true rfl, Nat.le_of_ble_eq_true rfl⟩ hW.c0 rfl rfl rfl (Nat.le_of_ble_eq_true rfl) dL_makes_237 ⟨Nat.le_of_ble_eq_true rfl, Nat.le_of_ble_eq_true rfl⟩ (g_kxi0 (fun r_12 τ_12 H locs z_12 hz hp hP hL hS => ?_))
                              obtain ⟨hr_12, hW, hz_12, ha_12⟩ := hp
                              have hz := hz.trans hz_12
                              subst hr_12
                              have hlf := lfN_le hV (i := i) (k := j - 1 + 1) (by omega) (by omega)
                              refine g_top (y := (nI (lfN V i (j - 1 + 1)))) (yl hV (by omega) (by omega)) ?_
                              refine g_top (y := (nI (lfN V i j))) (congrArg nI (by rw [Nat.sub_add_cancel (by omega)])) ?_
                              refine lv_istore (lv' := [(10, .int (nI (lfN V i j))), (0, .ref o), (1, .int (nI (suF (fun x => cnQ V 1 x) (sB V)))), (2, .int (nI (cntF (presB V) (sN V)))), (3, .int (nI (max 1 (np / 2)))), (4, .int (nI (suF (fun x => cnQ V 1 x) (j + 1)))), (5, .int (nI j)), (6, .int (nI (cnQ V 1 j))), (7, .int (nI su)), (8, .int (nI lq)), (9, .int (nI i))]) hx hb dL_makes_240 hl (by decide) rfl (fun ls hl => ?_)
                              refine lv_aload_n hx hb dL_makes_242 rfl (lv_at hl 1 rfl) ?_
                              refine lv_iload hx hb dL_makes_243 (lv_at hl 10 rfl) ?_
                              refine lv_iload hx hb dL_makes_245 (lv_at hl 6 rfl) ?_
                              refine g_runV (As := [.int (nI i), .int (nI j)]) (rest := []) (own := RL) (C := RX7) (T := TX7) (N := 7) 2 hx hb hml hown hts hK hz hP hL hS hlo hl.1 (c_X7_does l o b V tf tn (recP P) (recS C P S) kp z_1 ((nI i)) ((nI j))  τ_12 z_1 hW hV.1.1 ) gL_makes_X7_does rfl rfl rfl (by decide +kernel) ⟨Nat.le_of_ble_eq_true rfl, Nat.le_of_ble_eq_true rfl⟩ hW.c0 rfl rfl rfl (Nat.le_of_ble_eq_true rfl) dL_makes_247 ⟨Nat.le_of_ble_eq_true rfl, Nat.le_of_ble_eq_true rfl⟩ (g_kxi0 (fun r_13 τ_13 H locs z_13 hz hp hP hL hS => ?_))
                              obtain ⟨hr_13, hW, hz_13, ha_13⟩ := hp
                              have hz := hz.trans hz_13
                              subst hr_13
                              have hdo := dosQ_lt V i j
                              refine g_top (y := (nI (dosQ V i j))) (yd hV (by omega) (by omega)) ?_
                              refine lv_iconst (v := (nI 1)) hx hb dL_makes_250 (by decide) ?_
                              refine g_icmp_ne (tgt := 263) (a := dosQ V i j) (b := 1) hx hb (by omega) (by omega) dL_makes_251 (by decide) (fun c251 => ?_) (fun c251 => ?_)
                              · refine lv_iinc (v := (nI (i + 1))) (lv' := [(9, .int (nI (i + 1))), (10, .int (nI (lfN V i j))), (0, .ref o), (1, .int (nI (suF (fun x => cnQ V 1 x) (sB V)))), (2, .int (nI (cntF (presB V) (sN V)))), (3, .int (nI (max 1 (np / 2)))), (4, .int (nI (suF (fun x => cnQ V 1 x) (j + 1)))), (5, .int (nI j)), (6, .int (nI (cnQ V 1 j))), (7, .int (nI su)), (8, .int (nI lq))]) hx hb dL_makes_263 hl (k := 10) rfl (g_inc i 1) (by decide) rfl (fun ls hl => ?_)
                                refine lv_goto (tgt := 200) hx hb dL_makes_266 (by decide) ?_
                                exact ih_lpC (i + 1) (by omega) (by omega) τ_13 hW hL H locs ls hz hP hS (lv_sub hl [2, 3, 4, 5, 6, 7, 8, 9, 10, 0] rfl)
                              · refine lv_iload hx hb dL_makes_254 (lv_at hl 0 rfl) ?_
                                refine lv_iload hx hb dL_makes_256 (lv_at hl 8 rfl) ?_
                                refine g_icmp_lt (tgt := 263) (a := lfN V i j) (b := su) hx hb (by omega) (by omega) dL_makes_258 (by decide) (fun c258 => ?_) (fun c258 => absurd c258 (Nat.not_le.mpr (hPt j i su hjl hil c251 hnd (by omega))))
                                refine lv_iinc (v := (nI (i + 1))) (lv' := [(9, .int (nI (i + 1))), (10, .int (nI (lfN V i j))), (0, .ref o), (1, .int (nI (suF (fun x => cnQ V 1 x) (sB V)))), (2, .int (nI (cntF (presB V) (sN V)))), (3, .int (nI (max 1 (np / 2)))), (4, .int (nI (suF (fun x => cnQ V 1 x) (j + 1)))), (5, .int (nI j)), (6, .int (nI (cnQ V 1 j))), (7, .int (nI su)), (8, .int (nI lq))]) hx hb dL_makes_263 hl (k := 10) rfl (g_inc i 1) (by decide) rfl (fun ls hl => ?_)
                                refine lv_goto (tgt := 200) hx hb dL_makes_266 (by decide) ?_
                                exact ih_lpC (i + 1) (by omega) (by omega) τ_13 hW hL H locs ls hz hP hS (lv_sub hl [2, 3, 4, 5, 6, 7, 8, 9, 10, 0] rfl)
                            · refine lv_aload_n hx hb dL_makes_220 rfl (lv_at hl 0 rfl) ?_
                              refine lv_iload hx hb dL_makes_221 (lv_at hl 9 rfl) ?_
                              refine lv_iconst (v := (nI 0)) hx hb dL_makes_223 (by decide) ?_
                              refine g_runV (As := [.int (nI i), .int (nI 0)]) (rest := []) (own := RL) (C := RX7) (T := TX7) (N := 7) 2 hx hb hml hown hts hK hz hP hL hS hlo hl.1 (c_X7_singer l o b V tf tn (recP P) (recS C P S) kp z_1 ((nI i)) ((nI 0))  τ_11 z_1 hW hV.1.1 ) gL_makes_X7_singer rfl rfl rfl (by decide +kernel) ⟨Nat.le_of_ble_eq_true rfl, Nat.le_of_ble_eq_true rfl⟩ hW.c0 rfl rfl rfl (Nat.le_of_ble_eq_true rfl) dL_makes_224 ⟨Nat.le_of_ble_eq_true rfl, Nat.le_of_ble_eq_true rfl⟩ (g_kxi0 (fun r_14 τ_14 H locs z_14 hz hp hP hL hS => ?_))
                              obtain ⟨hr_14, hW, hz_14, ha_14⟩ := hp
                              have hz := hz.trans hz_14
                              subst hr_14
                              have hbr := hV.br (i := i) (by omega)
                              refine g_top (y := (nI (tk (V 3 i)))) (yn_0 hV (by omega)) ?_
                              refine lv_goto (tgt := 240) hx hb dL_makes_227 (by decide) ?_
                              refine g_top (y := (nI (lfN V i j))) (congrArg nI (by rw [c217]; rfl)) ?_
                              refine lv_istore (lv' := [(10, .int (nI (lfN V i j))), (0, .ref o), (1, .int (nI (suF (fun x => cnQ V 1 x) (sB V)))), (2, .int (nI (cntF (presB V) (sN V)))), (3, .int (nI (max 1 (np / 2)))), (4, .int (nI (suF (fun x => cnQ V 1 x) (j + 1)))), (5, .int (nI j)), (6, .int (nI (cnQ V 1 j))), (7, .int (nI su)), (8, .int (nI lq)), (9, .int (nI i))]) hx hb dL_makes_240 hl (by decide) rfl (fun ls hl => ?_)
                              refine lv_aload_n hx hb dL_makes_242 rfl (lv_at hl 1 rfl) ?_
                              refine lv_iload hx hb dL_makes_243 (lv_at hl 10 rfl) ?_
                              refine lv_iload hx hb dL_makes_245 (lv_at hl 6 rfl) ?_
                              refine g_runV (As := [.int (nI i), .int (nI j)]) (rest := []) (own := RL) (C := RX7) (T := TX7) (N := 7) 2 hx hb hml hown hts hK hz hP hL hS hlo hl.1 (c_X7_does l o b V tf tn (recP P) (recS C P S) kp z_1 ((nI i)) ((nI j))  τ_14 z_1 hW hV.1.1 ) gL_makes_X7_does rfl rfl rfl (by decide +kernel) ⟨Nat.le_of_ble_eq_true rfl, Nat.le_of_ble_eq_true rfl⟩ hW.c0 rfl rfl rfl (Nat.le_of_ble_eq_true rfl) dL_makes_247 ⟨Nat.le_of_ble_eq_true rfl, Nat.le_of_ble_eq_true rfl⟩ (g_kxi0 (fun r_15 τ_15 H locs z_15 hz hp hP hL hS => ?_))
                              obtain ⟨hr_15, hW, hz_15, ha_15⟩ := hp
                              have hz := hz.trans hz_15
                              subst hr_15
                              have hdo := dosQ_lt V i j
                              refine g_top (y := (nI (dosQ V i j))) (yd hV (by omega) (by omega)) ?_
                              refine lv_iconst (v := (nI 1)) hx hb dL_makes_250 (by decide) ?_
                              refine g_icmp_ne (tgt := 263) (a := dosQ V i j) (b := 1) hx hb (by omega) (by omega) dL_makes_251 (by decide) (fun c251 => ?_) (fun c251 => ?_)
                              · refine lv_iinc (v := (nI (i + 1))) (lv' := [(9, .int (nI (i + 1))), (10, .int (nI (lfN V i j))), (0, .ref o), (1, .int (nI (suF (fun x => cnQ V 1 x) (sB V)))), (2, .int (nI (cntF (presB V) (sN V)))), (3, .int (nI (max 1 (np / 2)))), (4, .int (nI (suF (fun x => cnQ V 1 x) (j + 1)))), (5, .int (nI j)), (6, .int (nI (cnQ V 1 j))), (7, .int (nI su)), (8, .int (nI lq))]) hx hb dL_makes_263 hl (k := 10) rfl (g_inc i 1) (by decide) rfl (fun ls hl => ?_)
                                refine lv_goto (tgt := 200) hx hb dL_makes_266 (by decide) ?_
                                exact ih_lpC (i + 1) (by omega) (by omega) τ_15 hW hL H locs ls hz hP hS (lv_sub hl [2, 3, 4, 5, 6, 7, 8, 9, 10, 0] rfl)
                              · refine lv_iload hx hb dL_makes_254 (lv_at hl 0 rfl) ?_
                                refine lv_iload hx hb dL_makes_256 (lv_at hl 8 rfl) ?_
                                refine g_icmp_lt (tgt := 263) (a := lfN V i j) (b := su) hx hb (by omega) (by omega) dL_makes_258 (by decide) (fun c258 => ?_) (fun c258 => absurd c258 (Nat.not_le.mpr (hPt j i su hjl hil c251 hnd (by omega))))
                                refine lv_iinc (v := (nI (i + 1))) (lv' := [(9, .int (nI (i + 1))), (10, .int (nI (lfN V i j))), (0, .ref o), (1, .int (nI (suF (fun x => cnQ V 1 x) (sB V)))), (2, .int (nI (cntF (presB V) (sN V)))), (3, .int (nI (max 1 (np / 2)))), (4, .int (nI (suF (fun x => cnQ V 1 x) (j + 1)))), (5, .int (nI j)), (6, .int (nI (cnQ V 1 j))), (7, .int (nI su)), (8, .int (nI lq))]) hx hb dL_makes_263 hl (k := 10) rfl (g_inc i 1) (by decide) rfl (fun ls hl => ?_)
                                refine lv_goto (tgt := 200) hx hb dL_makes_266 (by decide) ?_
                                exact ih_lpC (i + 1) (by omega) (by omega) τ_15 hW hL H locs ls hz hP hS (lv_sub hl [2, 3, 4, 5, 6, 7, 8, 9, 10, 0] rfl)
                    exact lpC _ 0 (by omega) (Nat.lt_succ_self _) τ_10 hW hL H locs ls hz hP hS (lv_sub hl [2, 3, 4, 5, 1, 6, 7, 8, 9, 0] rfl)
                  · obtain ⟨hso, hsi⟩ := hPe j hjl c172
                    refine lv_aload_n hx hb dL_makes_175 rfl (lv_at hl 1 rfl) ?_
                    refine lv_iload hx hb dL_makes_176 (lv_at hl 5 rfl) ?_
                    refine lv_iconst (v := (nI 3)) hx hb dL_makes_178 (by decide) ?_
                    refine g_runV (As := [.int (nI j), .int (nI 3)]) (rest := []) (own := RL) (C := RX7) (T := TX7) (N := 7) 2 hx hb hml hown hts hK hz hP hL hS hlo hl.1 (c_X7_beat l o b V tf tn (recP P) (recS C P S) kp z_1 ((nI j)) ((nI 3))  τ_10 z_1 hW hV.1.1 ) gL_makes_X7_beat rfl rfl rfl (by decide +kernel) ⟨Nat.le_of_ble_eq_true rfl, Nat.le_of_ble_eq_true rfl⟩ hW.c0 rfl rfl rfl (Nat.le_of_ble_eq_true rfl) dL_makes_179 ⟨Nat.le_of_ble_eq_true rfl, Nat.le_of_ble_eq_true rfl⟩ (g_kxi0 (fun r_16 τ_16 H locs z_16 hz hp hP hL hS => ?_))
                    obtain ⟨hr_16, hW, hz_16, ha_16⟩ := hp
                    have hz := hz.trans hz_16
                    subst hr_16
                    have hcn0 := cn_le V 0 j
                    refine g_top (y := (nI (cnQ V 0 j))) (yb_3 hV (by omega)) ?_
                    refine g_if_eq (tgt := 195) hx hb (by omega) dL_makes_182 (by decide) (fun c182 => False.elim (by omega)) (fun c182 => ?_)
                    refine lv_aload_n hx hb dL_makes_185 rfl (lv_at hl 1 rfl) ?_
                    refine lv_iload hx hb dL_makes_186 (lv_at hl 5 rfl) ?_
                    refine lv_iconst (v := (nI 4)) hx hb dL_makes_188 (by decide) ?_
                    refine g_runV (As := [.int (nI j), .int (nI 4)]) (rest := []) (own := RL) (C := RX7) (T := TX7) (N := 7) 2 hx hb hml hown hts hK hz hP hL hS hlo hl.1 (c_X7_beat l o b V tf tn (recP P) (recS C P S) kp z_1 ((nI j)) ((nI 4))  τ_16 z_1 hW hV.1.1 ) gL_makes_X7_beat rfl rfl rfl (by decide +kernel) ⟨Nat.le_of_ble_eq_true rfl, Nat.le_of_ble_eq_true rfl⟩ hW.c0 rfl rfl rfl (Nat.le_of_ble_eq_true rfl) dL_makes_189 ⟨Nat.le_of_ble_eq_true rfl, Nat.le_of_ble_eq_true rfl⟩ (g_kxi0 (fun r_17 τ_17 H locs z_17 hz hp hP hL hS => ?_))
                    obtain ⟨hr_17, hW, hz_17, ha_17⟩ := hp
                    have hz := hz.trans hz_17
                    subst hr_17
                    refine g_top (y := (oI (soloF V j))) (yb_4 hV (by omega)) ?_
                    refine g_top (y := (-5)) (by rw [hso]; rfl) ?_
                    refine lv_if_lt (tgt := 197) hx hb dL_makes_192 (by decide) (fun c192 => ?_) (fun c192 => by first | exact absurd (by decide) c192 | exact absurd c192 (by decide))
                    refine lv_iconst (v := (nI 0)) hx hb dL_makes_197 (by decide) ?_
                    refine lv_istore (lv' := [(9, .int (nI 0)), (4, .int (nI (suF (fun x => cnQ V 1 x) (j + 1)))), (0, .ref o), (1, .int (nI (suF (fun x => cnQ V 1 x) (sB V)))), (2, .int (nI (cntF (presB V) (sN V)))), (3, .int (nI (max 1 (np / 2)))), (5, .int (nI j)), (6, .int (nI (cnQ V 1 j))), (7, .int (nI su)), (8, .int (nI lq))]) hx hb dL_makes_198 hl (by decide) rfl (fun ls hl => ?_)
                    have lpC : ∀ (fu_lpC : Nat) (i : Nat), (i ≤ sN V) → (sN V - i < fu_lpC) → ∀ (υ : gS), (Wo υ o b V tf tn (recP P) (recS C P S) kp z_1) → gL lo υ → ∀ (H : Heap) (locs : List Loc) (ls : Array Slot), H.size = z_1 → gH D ka υ H → va_S (gA lo) s.heap H locs → lv_has ls 11 [(0, .ref o), (1, .int (nI (suF (fun x => cnQ V 1 x) (sB V)))), (2, .int (nI (cntF (presB V) (sN V)))), (3, .int (nI (max 1 (np / 2)))), (4, .int (nI (suF (fun x => cnQ V 1 x) (j + 1)))), (5, .int (nI j)), (6, .int (nI (cnQ V 1 j))), (7, .int (nI su)), (8, .int (nI lq)), (9, .int (nI i))] → W p l e ({ frames := 7, cells := 17, slots := 789, locals := 162 } : Room) s m ([.ref o] : List Value).toArray below meth c H locs (0 + 17) (0 + 789) (MQ below (gQ D ka lo (gxi (fun r τ n => r = nI 1 ∧ ∃ (S2 : sS) (P2 : Nat) (C2 : Nat → sS), Wo τ o b S2 tf tn P2 C2 kp n ∧ okY S2 ∧ sB S2 = sB S ∧ sN S2 = sN S ∧ okC P2 C2 kp ∧ sz ≤ n ∧ n ≤ sz + 17))) ([.ref o] : List Value).toArray s 17 789 (gA lo)) (F0 m 200 ls []) := by
                      intro fu_lpC
                      induction fu_lpC with
                      | zero => intro i hi hm_lpC; exact absurd hm_lpC (Nat.not_lt_zero _)
                      | succ fu_lpC ih_lpC =>
                        intro i hi hm_lpC υ hW hL H locs ls hz hP hS hl
                        refine lv_iload hx hb dL_makes_200 (lv_at hl 9 rfl) ?_
                        refine lv_aload_n hx hb dL_makes_202 rfl (lv_at hl 0 rfl) ?_
                        refine lv_iconst (v := (nI 3)) hx hb dL_makes_203 (by decide) ?_
                        refine g_runV (As := [.int (nI 3)]) (rest := [.int (nI i)]) (own := RL) (C := RX7) (T := TX7) (N := 7) 1 hx hb hml hown hts hK hz hP hL hS hlo hl.1 (c_X7_count l o b V tf tn (recP P) (recS C P S) kp z_1 ((nI 3))  υ z_1 hW hV.1.1 ) gL_makes_X7_count rfl rfl rfl (by decide +kernel) ⟨Nat.le_of_ble_eq_true rfl, Nat.le_of_ble_eq_true rfl⟩ hW.c0 rfl rfl rfl (Nat.le_of_ble_eq_true rfl) dL_makes_204 ⟨Nat.le_of_ble_eq_true rfl, Nat.le_of_ble_eq_true rfl⟩ (g_kxi0 (fun r_18 τ_18 H locs z_18 hz hp hP hL hS => ?_))
                        obtain ⟨hr_18, hW, hz_18, ha_18⟩ := hp
                        have hz := hz.trans hz_18
                        subst hr_18
                        refine g_top (y := (nI (sN V))) yc_3 ?_
                        refine g_icmp_ge (tgt := 269) (a := i) (b := sN V) hx hb (by omega) (by omega) dL_makes_207 (by decide) (fun c207 => ?_) (fun c207 => ?_)
                        · refine lv_iinc (v := (nI (j + 1))) (lv' := [(5, .int (nI (j + 1))), (0, .ref o), (1, .int (nI (suF (fun x => cnQ V 1 x) (sB V)))), (2, .int (nI (cntF (presB V) (sN V)))), (3, .int (nI (max 1 (np / 2)))), (4, .int (nI (suF (fun x => cnQ V 1 x) (j + 1)))), (6, .int (nI (cnQ V 1 j))), (7, .int (nI su)), (8, .int (nI lq)), (9, .int (nI i))]) hx hb dL_makes_269 hl (k := 5) rfl (g_inc j 1) (by decide) rfl (fun ls hl => ?_)
                          refine lv_goto (tgt := 56) hx hb dL_makes_272 (by decide) ?_
                          exact ih_lpA (j + 1) (by omega) (by omega) τ_18 hW hL H locs ls hz hP hS (lv_sub hl [1, 2, 3, 4, 5, 0] rfl)
                        · refine lv_iload hx hb dL_makes_210 (lv_at hl 6 rfl) ?_
                          refine g_if_le (tgt := 269) hx hb (by omega) dL_makes_212 (by decide) (fun c212 => ?_) (fun c212 => ?_)
                          · refine lv_iinc (v := (nI (j + 1))) (lv' := [(5, .int (nI (j + 1))), (0, .ref o), (1, .int (nI (suF (fun x => cnQ V 1 x) (sB V)))), (2, .int (nI (cntF (presB V) (sN V)))), (3, .int (nI (max 1 (np / 2)))), (4, .int (nI (suF (fun x => cnQ V 1 x) (j + 1)))), (6, .int (nI (cnQ V 1 j))), (7, .int (nI su)), (8, .int (nI lq)), (9, .int (nI i))]) hx hb dL_makes_269 hl (k := 5) rfl (g_inc j 1) (by decide) rfl (fun ls hl => ?_)
                            refine lv_goto (tgt := 56) hx hb dL_makes_272 (by decide) ?_
                            exact ih_lpA (j + 1) (by omega) (by omega) τ_18 hW hL H locs ls hz hP hS (lv_sub hl [1, 2, 3, 4, 5, 0] rfl)
                          · have hil0 : i < sN V := by omega
                            have hbri := hV.br (i := i) hil0
                            have hil : i < sN V := by omega
                            have hlfj := lfN_le hV (i := i) (k := j) hil (by omega)
                            refine lv_iload hx hb dL_makes_215 (lv_at hl 5 rfl) ?_
                            refine g_if_ne (tgt := 230) hx hb (by omega) dL_makes_217 (by decide) (fun c217 => ?_) (fun c217 => ?_)
                            · refine lv_aload_n hx hb dL_makes_230 rfl (lv_at hl 0 rfl) ?_
                              refine lv_iload hx hb dL_makes_231 (lv_at hl 9 rfl) ?_
                              refine lv_iload hx hb dL_makes_233 (lv_at hl 5 rfl) ?_
                              refine lv_iconst (v := (nI 1)) hx hb dL_makes_235 (by decide) ?_
                              refine lv_isub hx hb dL_makes_236 ?_
                              refine g_top (pk_sub (by omega : 1 ≤ j)) ?_
                              refine g_runV (As := [.int (nI i), .int (nI (j - 1))]) (rest := []) (own := RL) (C := RX7) (T := TX7) (N := 7) 2 hx hb hml hown hts hK hz hP hL hS hlo hl.1 (c_X7_left l o b V tf tn (recP P) (recS C P S) kp z_1 ((nI i)) ((nI (j - 1)))  τ_18 z_1 hW hV.1.1 ) gL_makes_X7_left rfl rfl rfl (by decide +kernel) ⟨Nat.le_of_ble_eq_true rfl, Nat.le_of_ble_eq_true rfl⟩ hW.c0 rfl rfl rfl (Nat.le_of_ble_eq_true rfl) dL_makes_237 ⟨Nat.le_of_ble_eq_true rfl, Nat.le_of_ble_eq_true rfl⟩ (g_kxi0 (fun r_19 τ_19 H locs z_19 hz hp hP hL hS => ?_))
                              obtain ⟨hr_19, hW, hz_19, ha_19⟩ := hp
                              have hz := hz.trans hz_19
                              subst hr_19
                              have hlf := lfN_le hV (i := i) (k := j - 1 + 1) (by omega) (by omega)
                              refine g_top (y := (nI (lfN V i (j - 1 + 1)))) (yl hV (by omega) (by omega)) ?_
                              refine g_top (y := (nI (lfN V i j))) (congrArg nI (by rw [Nat.sub_add_cancel (by omega)])) ?_
                              refine lv_istore (lv' := [(10, .int (nI (lfN V i j))), (0, .ref o), (1, .int (nI (suF (fun x => cnQ V 1 x) (sB V)))), (2, .int (nI (cntF (presB V) (sN V)))), (3, .int (nI (max 1 (np / 2)))), (4, .int (nI (suF (fun x => cnQ V 1 x) (j + 1)))), (5, .int (nI j)), (6, .int (nI (cnQ V 1 j))), (7, .int (nI su)), (8, .int (nI lq)), (9, .int (nI i))]) hx hb dL_makes_240 hl (by decide) rfl (fun ls hl => ?_)
                              refine lv_aload_n hx hb dL_makes_242 rfl (lv_at hl 1 rfl) ?_
                              refine lv_iload hx hb dL_makes_243 (lv_at hl 10 rfl) ?_
                              refine lv_iload hx hb dL_makes_245 (lv_at hl 6 rfl) ?_
                              refine g_runV (As := [.int (nI i), .int (nI j)]) (rest := []) (own := RL) (C := RX7) (T := TX7) (N := 7) 2 hx hb hml hown hts hK hz hP hL hS hlo hl.1 (c_X7_does l o b V tf tn (recP P) (recS C P S) kp z_1 ((nI i)) ((nI j))  τ_19 z_1 hW hV.1.1 ) gL_makes_X7_does rfl rfl rfl (by decide +kernel) ⟨Nat.le_of_ble_eq_true rfl, Nat.le_of_ble_eq_true rfl⟩ hW.c0 rfl rfl rfl (Nat.le_of_ble_eq_true rfl) dL_makes_247 ⟨Nat.le_of_ble_eq_true rfl, Nat.le_of_ble_eq_true rfl⟩ (g_kxi0 (fun r_20 τ_20 H locs z_20 hz hp hP hL hS => ?_))
                              obtain ⟨hr_20, hW, hz_20, ha_20⟩ := hp
                              have hz := hz.trans hz_20
                              subst hr_20
                              have hdo := dosQ_lt V i j
                              refine g_top (y := (nI (dosQ V i j))) (yd hV (by omega) (by omega)) ?_
                              refine lv_iconst (v := (nI 1)) hx hb dL_makes_250 (by decide) ?_
                              refine g_icmp_ne (tgt := 263) (a := dosQ V i j) (b := 1) hx hb (by omega) (by omega) dL_makes_251 (by decide) (fun c251 => ?_) (fun c251 => ?_)
                              · refine lv_iinc (v := (nI (i + 1))) (lv' := [(9, .int (nI (i + 1))), (10, .int (nI (lfN V i j))), (0, .ref o), (1, .int (nI (suF (fun x => cnQ V 1 x) (sB V)))), (2, .int (nI (cntF (presB V) (sN V)))), (3, .int (nI (max 1 (np / 2)))), (4, .int (nI (suF (fun x => cnQ V 1 x) (j + 1)))), (5, .int (nI j)), (6, .int (nI (cnQ V 1 j))), (7, .int (nI su)), (8, .int (nI lq))]) hx hb dL_makes_263 hl (k := 10) rfl (g_inc i 1) (by decide) rfl (fun ls hl => ?_)
                                refine lv_goto (tgt := 200) hx hb dL_makes_266 (by decide) ?_
                                exact ih_lpC (i + 1) (by omega) (by omega) τ_20 hW hL H locs ls hz hP hS (lv_sub hl [2, 3, 4, 5, 6, 7, 8, 9, 10, 0] rfl)
                              · refine lv_iload hx hb dL_makes_254 (lv_at hl 0 rfl) ?_
                                refine lv_iload hx hb dL_makes_256 (lv_at hl 8 rfl) ?_
                                refine g_icmp_lt (tgt := 263) (a := lfN V i j) (b := su) hx hb (by omega) (by omega) dL_makes_258 (by decide) (fun c258 => ?_) (fun c258 => absurd c258 (Nat.not_le.mpr (hPt j i su hjl hil c251 hnd (by omega))))
                                refine lv_iinc (v := (nI (i + 1))) (lv' := [(9, .int (nI (i + 1))), (10, .int (nI (lfN V i j))), (0, .ref o), (1, .int (nI (suF (fun x => cnQ V 1 x) (sB V)))), (2, .int (nI (cntF (presB V) (sN V)))), (3, .int (nI (max 1 (np / 2)))), (4, .int (nI (suF (fun x => cnQ V 1 x) (j + 1)))), (5, .int (nI j)), (6, .int (nI (cnQ V 1 j))), (7, .int (nI su)), (8, .int (nI lq))]) hx hb dL_makes_263 hl (k := 10) rfl (g_inc i 1) (by decide) rfl (fun ls hl => ?_)
                                refine lv_goto (tgt := 200) hx hb dL_makes_266 (by decide) ?_
                                exact ih_lpC (i + 1) (by omega) (by omega) τ_20 hW hL H locs ls hz hP hS (lv_sub hl [2, 3, 4, 5, 6, 7, 8, 9, 10, 0] rfl)
                            · refine lv_aload_n hx hb dL_makes_220 rfl (lv_at hl 0 rfl) ?_
                              refine lv_iload hx hb dL_makes_221 (lv_at hl 9 rfl) ?_
                              refine lv_iconst (v := (nI 0)) hx hb dL_makes_223 (by decide) ?_
                              refine g_runV (As := [.int (nI i), .int (nI 0)]) (rest := []) (own := RL) (C := RX7) (T := TX7) (N := 7) 2 hx hb hml hown hts hK hz hP hL hS hlo hl.1 (c_X7_singer l o b V tf tn (recP P) (recS C P S) kp z_1 ((nI i)) ((nI 0))  τ_18 z_1 hW hV.1.1 ) gL_makes_X7_singer rfl rfl rfl (by decide +kernel) ⟨Nat.le_of_ble_eq_true rfl, Nat.le_of_ble_eq_true rfl⟩ hW.c0 rfl rfl rfl (Nat.le_of_ble_eq_true rfl) dL_makes_224 ⟨Nat.le_of_ble_eq_true rfl, Nat.le_of_ble_eq_true rfl⟩ (g_kxi0 (fun r_21 τ_21 H locs z_21 hz hp hP hL hS => ?_))
                              obtain ⟨hr_21, hW, hz_21, ha_21⟩ := hp
                              have hz := hz.trans hz_21
                              subst hr_21
                              have hbr := hV.br (i := i) (by omega)
                              refine g_top (y := (nI (tk (V 3 i)))) (yn_0 hV (by omega)) ?_
                              refine lv_goto (tgt := 240) hx hb dL_makes_227 (by decide) ?_
                              refine g_top (y := (nI (lfN V i j))) (congrArg nI (by rw [c217]; rfl)) ?_
                              refine lv_istore (lv' := [(10, .int (nI (lfN V i j))), (0, .ref o), (1, .int (nI (suF (fun x => cnQ V 1 x) (sB V)))), (2, .int (nI (cntF (presB V) (sN V)))), (3, .int (nI (max 1 (np / 2)))), (4, .int (nI (suF (fun x => cnQ V 1 x) (j + 1)))), (5, .int (nI j)), (6, .int (nI (cnQ V 1 j))), (7, .int (nI su)), (8, .int (nI lq)), (9, .int (nI i))]) hx hb dL_makes_240 hl (by decide) rfl (fun ls hl => ?_)
                              refine lv_aload_n hx hb dL_makes_242 rfl (lv_at hl 1 rfl) ?_
                              refine lv_iload hx hb dL_makes_243 (lv_at hl 10 rfl) ?_
                              refine lv_iload hx hb dL_makes_245 (lv_at hl 6 rfl) ?_
                              refine g_runV (As := [.int (nI i), .int (nI j)]) (rest := []) (own := RL) (C := RX7) (T := TX7) (N := 7) 2 hx hb hml hown hts hK hz hP hL hS hlo hl.1 (c_X7_does l o b V tf tn (recP P) (recS C P S) kp z_1 ((nI i)) ((nI j))  τ_21 z_1 hW hV.1.1 ) gL_makes_X7_does rfl rfl rfl (by decide +kernel) ⟨Nat.le_of_ble_eq_true rfl, Nat.le_of_ble_eq_true rfl⟩ hW.c0 rfl rfl rfl (Nat.le_of_ble_eq_true rfl) dL_makes_247 ⟨Nat.le_of_ble_eq_true rfl, Nat.le_of_ble_eq_true rfl⟩ (g_kxi0 (fun r_22 τ_22 H locs z_22 hz hp hP hL hS => ?_))
                              obtain ⟨hr_22, hW, hz_22, ha_22⟩ := hp
                              have hz := hz.trans hz_22
                              subst hr_22
                              have hdo := dosQ_lt V i j
                              refine g_top (y := (nI (dosQ V i j))) (yd hV (by omega) (by omega)) ?_
                              refine lv_iconst (v := (nI 1)) hx hb dL_makes_250 (by decide) ?_
                              refine g_icmp_ne (tgt := 263) (a := dosQ V i j) (b := 1) hx hb (by omega) (by omega) dL_makes_251 (by decide) (fun c251 => ?_) (fun c251 => ?_)
                              · refine lv_iinc (v := (nI (i + 1))) (lv' := [(9, .int (nI (i + 1))), (10, .int (nI (lfN V i j))), (0, .ref o), (1, .int (nI (suF (fun x => cnQ V 1 x) (sB V)))), (2, .int (nI (cntF (presB V) (sN V)))), (3, .int (nI (max 1 (np / 2)))), (4, .int (nI (suF (fun x => cnQ V 1 x) (j + 1)))), (5, .int (nI j)), (6, .int (nI (cnQ V 1 j))), (7, .int (nI su)), (8, .int (nI lq))]) hx hb dL_makes_263 hl (k := 10) rfl (g_inc i 1) (by decide) rfl (fun ls hl => ?_)
                                refine lv_goto (tgt := 200) hx hb dL_makes_266 (by decide) ?_
                                exact ih_lpC (i + 1) (by omega) (by omega) τ_22 hW hL H locs ls hz hP hS (lv_sub hl [2, 3, 4, 5, 6, 7, 8, 9, 10, 0] rfl)
                              · refine lv_iload hx hb dL_makes_254 (lv_at hl 0 rfl) ?_
                                refine lv_iload hx hb dL_makes_256 (lv_at hl 8 rfl) ?_
                                refine g_icmp_lt (tgt := 263) (a := lfN V i j) (b := su) hx hb (by omega) (by omega) dL_makes_258 (by decide) (fun c258 => ?_) (fun c258 => absurd c258 (Nat.not_le.mpr (hPt j i su hjl hil c251 hnd (by omega))))
                                refine lv_iinc (v := (nI (i + 1))) (lv' := [(9, .int (nI (i + 1))), (10, .int (nI (lfN V i j))), (0, .ref o), (1, .int (nI (suF (fun x => cnQ V 1 x) (sB V)))), (2, .int (nI (cntF (presB V) (sN V)))), (3, .int (nI (max 1 (np / 2)))), (4, .int (nI (suF (fun x => cnQ V 1 x) (j + 1)))), (5, .int (nI j)), (6, .int (nI (cnQ V 1 j))), (7, .int (nI su)), (8, .int (nI lq))]) hx hb dL_makes_263 hl (k := 10) rfl (g_inc i 1) (by decide) rfl (fun ls hl => ?_)
                                refine lv_goto (tgt := 200) hx hb dL_makes_266 (by decide) ?_
                                exact ih_lpC (i + 1) (by omega) (by omega) τ_22 hW hL H locs ls hz hP hS (lv_sub hl [2, 3, 4, 5, 6, 7, 8, 9, 10, 0] rfl)
                    exact lpC _ 0 (by omega) (Nat.lt_succ_self _) τ_17 hW hL H locs ls hz hP hS (lv_sub hl [2, 3, 4, 5, 1, 6, 7, 8, 9, 0] rfl)
                · refine lv_iload hx hb dL_makes_100 (lv_at hl 8 rfl) ?_
                  refine g_if_le (tgt := 157) hx hb (by omega) dL_makes_102 (by decide) (fun c102 => ?_) (fun c102 => ?_)
                  · have hnd := ne_e hy hq8 (Or.inr c102) hne
                    refine lv_iload hx hb dL_makes_157 (lv_at hl 4 rfl) ?_
                    refine lv_iload hx hb dL_makes_159 (lv_at hl 6 rfl) ?_
                    refine lv_iadd hx hb dL_makes_161 ?_
                    refine g_top (nI_add (suF (fun x => cnQ V 1 x) j) (cnQ V 1 j)) ?_
                    refine g_top (y := (nI (suF (fun x => cnQ V 1 x) (j + 1)))) rfl ?_
                    refine lv_istore (lv' := [(4, .int (nI (suF (fun x => cnQ V 1 x) (j + 1)))), (0, .ref o), (1, .int (nI (suF (fun x => cnQ V 1 x) (sB V)))), (2, .int (nI (cntF (presB V) (sN V)))), (3, .int (nI (max 1 (np / 2)))), (5, .int (nI j)), (6, .int (nI (cnQ V 1 j))), (7, .int (nI su)), (8, .int (nI lq)), (9, .int (nI y))]) hx hb dL_makes_162 hl (by decide) rfl (fun ls hl => ?_)
                    refine lv_iload hx hb dL_makes_164 (lv_at hl 6 rfl) ?_
                    refine lv_iload_n hx hb dL_makes_166 rfl (lv_at hl 4 rfl) ?_
                    refine g_icmp_gt (tgt := 195) (a := cnQ V 1 j) (b := max 1 (np / 2)) hx hb (by omega) (by omega) dL_makes_167 (by decide) (fun c167 => False.elim (by omega)) (fun c167 => ?_)
                    refine lv_iload hx hb dL_makes_170 (lv_at hl 6 rfl) ?_
                    refine g_if_le (tgt := 197) hx hb (by omega) dL_makes_172 (by decide) (fun c172 => ?_) (fun c172 => ?_)
                    · refine lv_iconst (v := (nI 0)) hx hb dL_makes_197 (by decide) ?_
                      refine lv_istore (lv' := [(9, .int (nI 0)), (4, .int (nI (suF (fun x => cnQ V 1 x) (j + 1)))), (0, .ref o), (1, .int (nI (suF (fun x => cnQ V 1 x) (sB V)))), (2, .int (nI (cntF (presB V) (sN V)))), (3, .int (nI (max 1 (np / 2)))), (5, .int (nI j)), (6, .int (nI (cnQ V 1 j))), (7, .int (nI su)), (8, .int (nI lq))]) hx hb dL_makes_198 hl (by decide) rfl (fun ls hl => ?_)
                      have lpC : ∀ (fu_lpC : Nat) (i : Nat), (i ≤ sN V) → (sN V - i < fu_lpC) → ∀ (υ : gS), (Wo υ o b V tf tn (recP P) (recS C P S) kp z_1) → gL lo υ → ∀ (H : Heap) (locs : List Loc) (ls : Array Slot), H.size = z_1 → gH D ka υ H → va_S (gA lo) s.heap H locs → lv_has ls 11 [(0, .ref o), (1, .int (nI (suF (fun x => cnQ V 1 x) (sB V)))), (2, .int (nI (cntF (presB V) (sN V)))), (3, .int (nI (max 1 (np / 2)))), (4, .int (nI (suF (fun x => cnQ V 1 x) (j + 1)))), (5, .int (nI j)), (6, .int (nI (cnQ V 1 j))), (7, .int (nI su)), (8, .int (nI lq)), (9, .int (nI i))] → W p l e ({ frames := 7, cells := 17, slots := 789, locals := 162 } : Room) s m ([.ref o] : List Value).toArray below meth c H locs (0 + 17) (0 + 789) (MQ below (gQ D ka lo (gxi (fun r τ n => r = nI 1 ∧ ∃ (S2 : sS) (P2 : Nat) (C2 : Nat → sS), Wo τ o b S2 tf tn P2 C2 kp n ∧ okY S2 ∧ sB S2 = sB S ∧ sN S2 = sN S ∧ okC P2 C2 kp ∧ sz ≤ n ∧ n ≤ sz + 17))) ([.ref o] : List Value).toArray s 17 789 (gA lo)) (F0 m 200 ls []) := by
                        intro fu_lpC
                        induction fu_lpC with
                        | zero => intro i hi hm_lpC; exact absurd hm_lpC (Nat.not_lt_zero _)
                        | succ fu_lpC ih_lpC =>
                          intro i hi hm_lpC υ hW hL H locs ls hz hP hS hl
                          refine lv_iload hx hb dL_makes_200 (lv_at hl 9 rfl) ?_
                          refine lv_aload_n hx hb dL_makes_202 rfl (lv_at hl 0 rfl) ?_
                          refine lv_iconst (v := (nI 3)) hx hb dL_makes_203 (by decide) ?_
                          refine g_runV (As := [.int (nI 3)]) (rest := [.int (nI i)]) (own := RL) (C := RX7) (T := TX7) (N := 7) 1 hx hb hml hown hts hK hz hP hL hS hlo hl.1 (c_X7_count l o b V tf tn (recP P) (recS C P S) kp z_1 ((nI 3))  υ z_1 hW hV.1.1 ) gL_makes_X7_count rfl rfl rfl (by decide +kernel) ⟨Nat.le_of_ble_eq_true rfl, Nat.le_of_ble_eq_true rfl⟩ hW.c0 rfl rfl rfl (Nat.le_of_ble_eq_true rfl) dL_makes_204 ⟨Nat.le_of_ble_eq_true rfl, Nat.le_of_ble_eq_true rfl⟩ (g_kxi0 (fun r_23 τ_23 H locs z_23 hz hp hP hL hS => ?_))
                          obtain ⟨hr_23, hW, hz_23, ha_23⟩ := hp
                          have hz := hz.trans hz_23
                          subst hr_23
                          refine g_top (y := (nI (sN V))) yc_3 ?_
                          refine g_icmp_ge (tgt := 269) (a := i) (b := sN V) hx hb (by omega) (by omega) dL_makes_207 (by decide) (fun c207 => ?_) (fun c207 => ?_)
                          · refine lv_iinc (v := (nI (j + 1))) (lv' := [(5, .int (nI (j + 1))), (0, .ref o), (1, .int (nI (suF (fun x => cnQ V 1 x) (sB V)))), (2, .int (nI (cntF (presB V) (sN V)))), (3, .int (nI (max 1 (np / 2)))), (4, .int (nI (suF (fun x => cnQ V 1 x) (j + 1)))), (6, .int (nI (cnQ V 1 j))), (7, .int (nI su)), (8, .int (nI lq)), (9, .int (nI i))]) hx hb dL_makes_269 hl (k := 5) rfl (g_inc j 1) (by decide) rfl (fun ls hl => ?_)
                            refine lv_goto (tgt := 56) hx hb dL_makes_272 (by decide) ?_
                            exact ih_lpA (j + 1) (by omega) (by omega) τ_23 hW hL H locs ls hz hP hS (lv_sub hl [1, 2, 3, 4, 5, 0] rfl)
                          · refine lv_iload hx hb dL_makes_210 (lv_at hl 6 rfl) ?_
                            refine g_if_le (tgt := 269) hx hb (by omega) dL_makes_212 (by decide) (fun c212 => ?_) (fun c212 => ?_)
                            · refine lv_iinc (v := (nI (j + 1))) (lv' := [(5, .int (nI (j + 1))), (0, .ref o), (1, .int (nI (suF (fun x => cnQ V 1 x) (sB V)))), (2, .int (nI (cntF (presB V) (sN V)))), (3, .int (nI (max 1 (np / 2)))), (4, .int (nI (suF (fun x => cnQ V 1 x) (j + 1)))), (6, .int (nI (cnQ V 1 j))), (7, .int (nI su)), (8, .int (nI lq)), (9, .int (nI i))]) hx hb dL_makes_269 hl (k := 5) rfl (g_inc j 1) (by decide) rfl (fun ls hl => ?_)
                              refine lv_goto (tgt := 56) hx hb dL_makes_272 (by decide) ?_
                              exact ih_lpA (j + 1) (by omega) (by omega) τ_23 hW hL H locs ls hz hP hS (lv_sub hl [1, 2, 3, 4, 5, 0] rfl)
                            · have hil0 : i < sN V := by omega
                              have hbri := hV.br (i := i) hil0
                              have hil : i < sN V := by omega
                              have hlfj := lfN_le hV (i := i) (k := j) hil (by omega)
                              refine lv_iload hx hb dL_makes_215 (lv_at hl 5 rfl) ?_
                              refine g_if_ne (tgt := 230) hx hb (by omega) dL_makes_217 (by decide) (fun c217 => ?_) (fun c217 => ?_)
                              · refine lv_aload_n hx hb dL_makes_230 rfl (lv_at hl 0 rfl) ?_
                                refine lv_iload hx hb dL_makes_231 (lv_at hl 9 rfl) ?_
                                refine lv_iload hx hb dL_makes_233 (lv_at hl 5 rfl) ?_
                                refine lv_iconst (v := (nI 1)) hx hb dL_makes_235 (by decide) ?_
                                refine lv_isub hx hb dL_makes_236 ?_
                                refine g_top (pk_sub (by omega : 1 ≤ j)) ?_
                                refine g_runV (As := [.int (nI i), .int (nI (j - 1))]) (rest := []) (own := RL) (C := RX7) (T := TX7) (N := 7) 2 hx hb hml hown hts hK hz hP hL hS hlo hl.1 (c_X7_left l o b V tf tn (recP P) (recS C P S) kp z_1 ((nI i)) ((nI (j - 1)))  τ_23 z_1 hW hV.1.1 ) gL_makes_X7_left rfl rfl rfl (by decide +kernel) ⟨Nat.le_of_ble_eq_true rfl, Nat.le_of_ble_eq_true rfl⟩ hW.c0 rfl rfl rfl (Nat.le_of_ble_eq_true rfl) dL_makes_237 ⟨Nat.le_of_ble_eq_true rfl, Nat.le_of_ble_eq_true rfl⟩ (g_kxi0 (fun r_24 τ_24 H locs z_24 hz hp hP hL hS => ?_))
                                obtain ⟨hr_24, hW, hz_24, ha_24⟩ := hp
                                have hz := hz.trans hz_24
                                subst hr_24
                                have hlf := lfN_le hV (i := i) (k := j - 1 + 1) (by omega) (by omega)
                                refine g_top (y := (nI (lfN V i (j - 1 + 1)))) (yl hV (by omega) (by omega)) ?_
                                refine g_top (y := (nI (lfN V i j))) (congrArg nI (by rw [Nat.sub_add_cancel (by omega)])) ?_
                                refine lv_istore (lv' := [(10, .int (nI (lfN V i j))), (0, .ref o), (1, .int (nI (suF (fun x => cnQ V 1 x) (sB V)))), (2, .int (nI (cntF (presB V) (sN V)))), (3, .int (nI (max 1 (np / 2)))), (4, .int (nI (suF (fun x => cnQ V 1 x) (j + 1)))), (5, .int (nI j)), (6, .int (nI (cnQ V 1 j))), (7, .int (nI su)), (8, .int (nI lq)), (9, .int (nI i))]) hx hb dL_makes_240 hl (by decide) rfl (fun ls hl => ?_)
                                refine lv_aload_n hx hb dL_makes_242 rfl (lv_at hl 1 rfl) ?_
                                refine lv_iload hx hb dL_makes_243 (lv_at hl 10 rfl) ?_
                                refine lv_iload hx hb dL_makes_245 (lv_at hl 6 rfl) ?_
                                refine g_runV (As := [.int (nI i), .int (nI j)]) (rest := []) (own := RL) (C := RX7) (T := TX7) (N := 7) 2 hx hb hml hown hts hK hz hP hL hS hlo hl.1 (c_X7_does l o b V tf tn (recP P) (recS C P S) kp z_1 ((nI i)) ((nI j))  τ_24 z_1 hW hV.1.1 ) gL_makes_X7_does rfl rfl rfl (by decide +kernel) ⟨Nat.le_of_ble_eq_true rfl, Nat.le_of_ble_eq_true rfl⟩ hW.c0 rfl rfl rfl (Nat.le_of_ble_eq_true rfl) dL_makes_247 ⟨Nat.le_of_ble_eq_true rfl, Nat.le_of_ble_eq_true rfl⟩ (g_kxi0 (fun r_25 τ_25 H locs z_25 hz hp hP hL hS => ?_))
                                obtain ⟨hr_25, hW, hz_25, ha_25⟩ := hp
                                have hz := hz.trans hz_25
                                subst hr_25
                                have hdo := dosQ_lt V i j
                                refine g_top (y := (nI (dosQ V i j))) (yd hV (by omega) (by omega)) ?_
                                refine lv_iconst (v := (nI 1)) hx hb dL_makes_250 (by decide) ?_
                                refine g_icmp_ne (tgt := 263) (a := dosQ V i j) (b := 1) hx hb (by omega) (by omega) dL_makes_251 (by decide) (fun c251 => ?_) (fun c251 => ?_)
                                · refine lv_iinc (v := (nI (i + 1))) (lv' := [(9, .int (nI (i + 1))), (10, .int (nI (lfN V i j))), (0, .ref o), (1, .int (nI (suF (fun x => cnQ V 1 x) (sB V)))), (2, .int (nI (cntF (presB V) (sN V)))), (3, .int (nI (max 1 (np / 2)))), (4, .int (nI (suF (fun x => cnQ V 1 x) (j + 1)))), (5, .int (nI j)), (6, .int (nI (cnQ V 1 j))), (7, .int (nI su)), (8, .int (nI lq))]) hx hb dL_makes_263 hl (k := 10) rfl (g_inc i 1) (by decide) rfl (fun ls hl => ?_)
                                  refine lv_goto (tgt := 200) hx hb dL_makes_266 (by decide) ?_
                                  exact ih_lpC (i + 1) (by omega) (by omega) τ_25 hW hL H locs ls hz hP hS (lv_sub hl [2, 3, 4, 5, 6, 7, 8, 9, 10, 0] rfl)
                                · refine lv_iload hx hb dL_makes_254 (lv_at hl 0 rfl) ?_
                                  refine lv_iload hx hb dL_makes_256 (lv_at hl 8 rfl) ?_
                                  refine g_icmp_lt (tgt := 263) (a := lfN V i j) (b := su) hx hb (by omega) (by omega) dL_makes_258 (by decide) (fun c258 => ?_) (fun c258 => absurd c258 (Nat.not_le.mpr (hPt j i su hjl hil c251 hnd (by omega))))
                                  refine lv_iinc (v := (nI (i + 1))) (lv' := [(9, .int (nI (i + 1))), (10, .int (nI (lfN V i j))), (0, .ref o), (1, .int (nI (suF (fun x => cnQ V 1 x) (sB V)))), (2, .int (nI (cntF (presB V) (sN V)))), (3, .int (nI (max 1 (np / 2)))), (4, .int (nI (suF (fun x => cnQ V 1 x) (j + 1)))), (5, .int (nI j)), (6, .int (nI (cnQ V 1 j))), (7, .int (nI su)), (8, .int (nI lq))]) hx hb dL_makes_263 hl (k := 10) rfl (g_inc i 1) (by decide) rfl (fun ls hl => ?_)
                                  refine lv_goto (tgt := 200) hx hb dL_makes_266 (by decide) ?_
                                  exact ih_lpC (i + 1) (by omega) (by omega) τ_25 hW hL H locs ls hz hP hS (lv_sub hl [2, 3, 4, 5, 6, 7, 8, 9, 10, 0] rfl)
                              · refine lv_aload_n hx hb dL_makes_220 rfl (lv_at hl 0 rfl) ?_
                                refine lv_iload hx hb dL_makes_221 (lv_at hl 9 rfl) ?_
                                refine lv_iconst (v := (nI 0)) hx hb dL_makes_223 (by decide) ?_
                                refine g_runV (As := [.int (nI i), .int (nI 0)]) (rest := []) (own := RL) (C := RX7) (T := TX7) (N := 7) 2 hx hb hml hown hts hK hz hP hL hS hlo hl.1 (c_X7_singer l o b V tf tn (recP P) (recS C P S) kp z_1 ((nI i)) ((nI 0))  τ_23 z_1 hW hV.1.1 ) gL_makes_X7_singer rfl rfl rfl (by decide +kernel) ⟨Nat.le_of_ble_eq_true rfl, Nat.le_of_ble_eq_true rfl⟩ hW.c0 rfl rfl rfl (Nat.le_of_ble_eq_true rfl) dL_makes_224 ⟨Nat.le_of_ble_eq_true rfl, Nat.le_of_ble_eq_true rfl⟩ (g_kxi0 (fun r_26 τ_26 H locs z_26 hz hp hP hL hS => ?_))
                                obtain ⟨hr_26, hW, hz_26, ha_26⟩ := hp
                                have hz := hz.trans hz_26
                                subst hr_26
                                have hbr := hV.br (i := i) (by omega)
                                refine g_top (y := (nI (tk (V 3 i)))) (yn_0 hV (by omega)) ?_
                                refine lv_goto (tgt := 240) hx hb dL_makes_227 (by decide) ?_
                                refine g_top (y := (nI (lfN V i j))) (congrArg nI (by rw [c217]; rfl)) ?_
                                refine lv_istore (lv' := [(10, .int (nI (lfN V i j))), (0, .ref o), (1, .int (nI (suF (fun x => cnQ V 1 x) (sB V)))), (2, .int (nI (cntF (presB V) (sN V)))), (3, .int (nI (max 1 (np / 2)))), (4, .int (nI (suF (fun x => cnQ V 1 x) (j + 1)))), (5, .int (nI j)), (6, .int (nI (cnQ V 1 j))), (7, .int (nI su)), (8, .int (nI lq)), (9, .int (nI i))]) hx hb dL_makes_240 hl (by decide) rfl (fun ls hl => ?_)
                                refine lv_aload_n hx hb dL_makes_242 rfl (lv_at hl 1 rfl) ?_
                                refine lv_iload hx hb dL_makes_243 (lv_at hl 10 rfl) ?_
                                refine lv_iload hx hb dL_makes_245 (lv_at hl 6 rfl) ?_
                                refine g_runV (As := [.int (nI i), .int (nI j)]) (rest := []) (own := RL) (C := RX7) (T := TX7) (N := 7) 2 hx hb hml hown hts hK hz hP hL hS hlo hl.1 (c_X7_does l o b V tf tn (recP P) (recS C P S) kp z_1 ((nI i)) ((nI j))  τ_26 z_1 hW hV.1.1 ) gL_makes_X7_does rfl rfl rfl (by decide +kernel) ⟨Nat.le_of_ble_eq_true rfl, Nat.le_of_ble_eq_true rfl⟩ hW.c0 rfl rfl rfl (Nat.le_of_ble_eq_true rfl) dL_makes_247 ⟨Nat.le_of_ble_eq_true rfl, Nat.le_of_ble_eq_true rfl⟩ (g_kxi0 (fun r_27 τ_27 H locs z_27 hz hp hP hL hS => ?_))
                                obtain ⟨hr_27, hW, hz_27, ha_27⟩ := hp
                                have hz := hz.trans hz_27
                                subst hr_27
                                have hdo := dosQ_lt V i j
                                refine g_top (y := (nI (dosQ V i j))) (yd hV (by omega) (by omega)) ?_
                                refine lv_iconst (v := (nI 1)) hx hb dL_makes_250 (by decide) ?_
                                refine g_icmp_ne (tgt := 263) (a := dosQ V i j) (b := 1) hx hb (by omega) (by omega) dL_makes_251 (by decide) (fun c251 => ?_) (fun c251 => ?_)
                                · refine lv_iinc (v := (nI (i + 1))) (lv' := [(9, .int (nI (i + 1))), (10, .int (nI (lfN V i j))), (0, .ref o), (1, .int (nI (suF (fun x => cnQ V 1 x) (sB V)))), (2, .int (nI (cntF (presB V) (sN V)))), (3, .int (nI (max 1 (np / 2)))), (4, .int (nI (suF (fun x => cnQ V 1 x) (j + 1)))), (5, .int (nI j)), (6, .int (nI (cnQ V 1 j))), (7, .int (nI su)), (8, .int (nI lq))]) hx hb dL_makes_263 hl (k := 10) rfl (g_inc i 1) (by decide) rfl (fun ls hl => ?_)
                                  refine lv_goto (tgt := 200) hx hb dL_makes_266 (by decide) ?_
                                  exact ih_lpC (i + 1) (by omega) (by omega) τ_27 hW hL H locs ls hz hP hS (lv_sub hl [2, 3, 4, 5, 6, 7, 8, 9, 10, 0] rfl)
                                · refine lv_iload hx hb dL_makes_254 (lv_at hl 0 rfl) ?_
                                  refine lv_iload hx hb dL_makes_256 (lv_at hl 8 rfl) ?_
                                  refine g_icmp_lt (tgt := 263) (a := lfN V i j) (b := su) hx hb (by omega) (by omega) dL_makes_258 (by decide) (fun c258 => ?_) (fun c258 => absurd c258 (Nat.not_le.mpr (hPt j i su hjl hil c251 hnd (by omega))))
                                  refine lv_iinc (v := (nI (i + 1))) (lv' := [(9, .int (nI (i + 1))), (10, .int (nI (lfN V i j))), (0, .ref o), (1, .int (nI (suF (fun x => cnQ V 1 x) (sB V)))), (2, .int (nI (cntF (presB V) (sN V)))), (3, .int (nI (max 1 (np / 2)))), (4, .int (nI (suF (fun x => cnQ V 1 x) (j + 1)))), (5, .int (nI j)), (6, .int (nI (cnQ V 1 j))), (7, .int (nI su)), (8, .int (nI lq))]) hx hb dL_makes_263 hl (k := 10) rfl (g_inc i 1) (by decide) rfl (fun ls hl => ?_)
                                  refine lv_goto (tgt := 200) hx hb dL_makes_266 (by decide) ?_
                                  exact ih_lpC (i + 1) (by omega) (by omega) τ_27 hW hL H locs ls hz hP hS (lv_sub hl [2, 3, 4, 5, 6, 7, 8, 9, 10, 0] rfl)
                      exact lpC _ 0 (by omega) (Nat.lt_succ_self _) τ_10 hW hL H locs ls hz hP hS (lv_sub hl [2, 3, 4, 5, 1, 6, 7, 8, 9, 0] rfl)
                    · obtain ⟨hso, hsi⟩ := hPe j hjl c172
                      refine lv_aload_n hx hb dL_makes_175 rfl (lv_at hl 1 rfl) ?_
                      refine lv_iload hx hb dL_makes_176 (lv_at hl 5 rfl) ?_
                      refine lv_iconst (v := (nI 3)) hx hb dL_makes_178 (by decide) ?_
                      refine g_runV (As := [.int (nI j), .int (nI 3)]) (rest := []) (own := RL) (C := RX7) (T := TX7) (N := 7) 2 hx hb hml hown hts hK hz hP hL hS hlo hl.1 (c_X7_beat l o b V tf tn (recP P) (recS C P S) kp z_1 ((nI j)) ((nI 3))  τ_10 z_1 hW hV.1.1 ) gL_makes_X7_beat rfl rfl rfl (by decide +kernel) ⟨Nat.le_of_ble_eq_true rfl, Nat.le_of_ble_eq_true rfl⟩ hW.c0 rfl rfl rfl (Nat.le_of_ble_eq_true rfl) dL_makes_179 ⟨Nat.le_of_ble_eq_true rfl, Nat.le_of_ble_eq_true rfl⟩ (g_kxi0 (fun r_28 τ_28 H locs z_28 hz hp hP hL hS => ?_))
                      obtain ⟨hr_28, hW, hz_28, ha_28⟩ := hp
                      have hz := hz.trans hz_28
                      subst hr_28
                      have hcn0 := cn_le V 0 j
                      refine g_top (y := (nI (cnQ V 0 j))) (yb_3 hV (by omega)) ?_
                      refine g_if_eq (tgt := 195) hx hb (by omega) dL_makes_182 (by decide) (fun c182 => False.elim (by omega)) (fun c182 => ?_)
                      refine lv_aload_n hx hb dL_makes_185 rfl (lv_at hl 1 rfl) ?_
                      refine lv_iload hx hb dL_makes_186 (lv_at hl 5 rfl) ?_
                      refine lv_iconst (v := (nI 4)) hx hb dL_makes_188 (by decide) ?_
                      refine g_runV (As := [.int (nI j), .int (nI 4)]) (rest := []) (own := RL) (C := RX7) (T := TX7) (N := 7) 2 hx hb hml hown hts hK hz hP hL hS hlo hl.1 (c_X7_beat l o b V tf tn (recP P) (recS C P S) kp z_1 ((nI j)) ((nI 4))  τ_28 z_1 hW hV.1.1 ) gL_makes_X7_beat rfl rfl rfl (by decide +kernel) ⟨Nat.le_of_ble_eq_true rfl, Nat.le_of_ble_eq_true rfl⟩ hW.c0 rfl rfl rfl (Nat.le_of_ble_eq_true rfl) dL_makes_189 ⟨Nat.le_of_ble_eq_true rfl, Nat.le_of_ble_eq_true rfl⟩ (g_kxi0 (fun r_29 τ_29 H locs z_29 hz hp hP hL hS => ?_))
                      obtain ⟨hr_29, hW, hz_29, ha_29⟩ := hp
                      have hz := hz.trans hz_29
                      subst hr_29
                      refine g_top (y := (oI (soloF V j))) (yb_4 hV (by omega)) ?_
                      refine g_top (y := (-5)) (by rw [hso]; rfl) ?_
                      refine lv_if_lt (tgt := 197) hx hb dL_makes_192 (by decide) (fun c192 => ?_) (fun c192 => by first | exact absurd (by decide) c192 | exact absurd c192 (by decide))
                      refine lv_iconst (v := (nI 0)) hx hb dL_makes_197 (by decide) ?_
                      refine lv_istore (lv' := [(9, .int (nI 0)), (4, .int (nI (suF (fun x => cnQ V 1 x) (j + 1)))), (0, .ref o), (1, .int (nI (suF (fun x => cnQ V 1 x) (sB V)))), (2, .int (nI (cntF (presB V) (sN V)))), (3, .int (nI (max 1 (np / 2)))), (5, .int (nI j)), (6, .int (nI (cnQ V 1 j))), (7, .int (nI su)), (8, .int (nI lq))]) hx hb dL_makes_198 hl (by decide) rfl (fun ls hl => ?_)
                      have lpC : ∀ (fu_lpC : Nat) (i : Nat), (i ≤ sN V) → (sN V - i < fu_lpC) → ∀ (υ : gS), (Wo υ o b V tf tn (recP P) (recS C P S) kp z_1) → gL lo υ → ∀ (H : Heap) (locs : List Loc) (ls : Array Slot), H.size = z_1 → gH D ka υ H → va_S (gA lo) s.heap H locs → lv_has ls 11 [(0, .ref o), (1, .int (nI (suF (fun x => cnQ V 1 x) (sB V)))), (2, .int (nI (cntF (presB V) (sN V)))), (3, .int (nI (max 1 (np / 2)))), (4, .int (nI (suF (fun x => cnQ V 1 x) (j + 1)))), (5, .int (nI j)), (6, .int (nI (cnQ V 1 j))), (7, .int (nI su)), (8, .int (nI lq)), (9, .int (nI i))] → W p l e ({ frames := 7, cells := 17, slots := 789, locals := 162 } : Room) s m ([.ref o] : List Value).toArray below meth c H locs (0 + 17) (0 + 789) (MQ below (gQ D ka lo (gxi (fun r τ n => r = nI 1 ∧ ∃ (S2 : sS) (P2 : Nat) (C2 : Nat → sS), Wo τ o b S2 tf tn P2 C2 kp n ∧ okY S2 ∧ sB S2 = sB S ∧ sN S2 = sN S ∧ okC P2 C2 kp ∧ sz ≤ n ∧ n ≤ sz + 17))) ([.ref o] : List Value).toArray s 17 789 (gA lo)) (F0 m 200 ls []) := by
                        intro fu_lpC
                        induction fu_lpC with
                        | zero => intro i hi hm_lpC; exact absurd hm_lpC (Nat.not_lt_zero _)
                        | succ fu_lpC ih_lpC =>
                          intro i hi hm_lpC υ hW hL H locs ls hz hP hS hl
                          refine lv_iload hx hb dL_makes_200 (lv_at hl 9 rfl) ?_
                          refine lv_aload_n hx hb dL_makes_202 rfl (lv_at hl 0 rfl) ?_
                          refine lv_iconst (v := (nI 3)) hx hb dL_makes_203 (by decide) ?_
                          refine g_runV (As := [.int (nI 3)]) (rest := [.int (nI i)]) (own := RL) (C := RX7) (T := TX7) (N := 7) 1 hx hb hml hown hts hK hz hP hL hS hlo hl.1 (c_X7_count l o b V tf tn (recP P) (recS C P S) kp z_1 ((nI 3))  υ z_1 hW hV.1.1 ) gL_makes_X7_count rfl rfl rfl (by decide +kernel) ⟨Nat.le_of_ble_eq_true rfl, Nat.le_of_ble_eq_true rfl⟩ hW.c0 rfl rfl rfl (Nat.le_of_ble_eq_true rfl) dL_makes_204 ⟨Nat.le_of_ble_eq_true rfl, Nat.le_of_ble_eq_true rfl⟩ (g_kxi0 (fun r_30 τ_30 H locs z_30 hz hp hP hL hS => ?_))
                          obtain ⟨hr_30, hW, hz_30, ha_30⟩ := hp
                          have hz := hz.trans hz_30
                          subst hr_30
                          refine g_top (y := (nI (sN V))) yc_3 ?_
                          refine g_icmp_ge (tgt := 269) (a := i) (b := sN V) hx hb (by omega) (by omega) dL_makes_207 (by decide) (fun c207 => ?_) (fun c207 => ?_)
                          · refine lv_iinc (v := (nI (j + 1))) (lv' := [(5, .int (nI (j + 1))), (0, .ref o), (1, .int (nI (suF (fun x => cnQ V 1 x) (sB V)))), (2, .int (nI (cntF (presB V) (sN V)))), (3, .int (nI (max 1 (np / 2)))), (4, .int (nI (suF (fun x => cnQ V 1 x) (j + 1)))), (6, .int (nI (cnQ V 1 j))), (7, .int (nI su)), (8, .int (nI lq)), (9, .int (nI i))]) hx hb dL_makes_269 hl (k := 5) rfl (g_inc j 1) (by decide) rfl (fun ls hl => ?_)
                            refine lv_goto (tgt := 56) hx hb dL_makes_272 (by decide) ?_
                            exact ih_lpA (j + 1) (by omega) (by omega) τ_30 hW hL H locs ls hz hP hS (lv_sub hl [1, 2, 3, 4, 5, 0] rfl)
                          · refine lv_iload hx hb dL_makes_210 (lv_at hl 6 rfl) ?_
                            refine g_if_le (tgt := 269) hx hb (by omega) dL_makes_212 (by decide) (fun c212 => ?_) (fun c212 => ?_)
                            · refine lv_iinc (v := (nI (j + 1))) (lv' := [(5, .int (nI (j + 1))), (0, .ref o), (1, .int (nI (suF (fun x => cnQ V 1 x) (sB V)))), (2, .int (nI (cntF (presB V) (sN V)))), (3, .int (nI (max 1 (np / 2)))), (4, .int (nI (suF (fun x => cnQ V 1 x) (j + 1)))), (6, .int (nI (cnQ V 1 j))), (7, .int (nI su)), (8, .int (nI lq)), (9, .int (nI i))]) hx hb dL_makes_269 hl (k := 5) rfl (g_inc j 1) (by decide) rfl (fun ls hl => ?_)
                              refine lv_goto (tgt := 56) hx hb dL_makes_272 (by decide) ?_
                              exact ih_lpA (j + 1) (by omega) (by omega) τ_30 hW hL H locs ls hz hP hS (lv_sub hl [1, 2, 3, 4, 5, 0] rfl)
                            · have hil0 : i < sN V := by omega
                              have hbri := hV.br (i := i) hil0
                              have hil : i < sN V := by omega
                              have hlfj := lfN_le hV (i := i) (k := j) hil (by omega)
                              refine lv_iload hx hb dL_makes_215 (lv_at hl 5 rfl) ?_
                              refine g_if_ne (tgt := 230) hx hb (by omega) dL_makes_217 (by decide) (fun c217 => ?_) (fun c217 => ?_)
                              · refine lv_aload_n hx hb dL_makes_230 rfl (lv_at hl 0 rfl) ?_
                                refine lv_iload hx hb dL_makes_231 (lv_at hl 9 rfl) ?_
                                refine lv_iload hx hb dL_makes_233 (lv_at hl 5 rfl) ?_
                                refine lv_iconst (v := (nI 1)) hx hb dL_makes_235 (by decide) ?_
                                refine lv_isub hx hb dL_makes_236 ?_
                                refine g_top (pk_sub (by omega : 1 ≤ j)) ?_
                                refine g_runV (As := [.int (nI i), .int (nI (j - 1))]) (rest := []) (own := RL) (C := RX7) (T := TX7) (N := 7) 2 hx hb hml hown hts hK hz hP hL hS hlo hl.1 (c_X7_left l o b V tf tn (recP P) (recS C P S) kp z_1 ((nI i)) ((nI (j - 1)))  τ_30 z_1 hW hV.1.1 ) gL_makes_X7_left rfl rfl rfl (by decide +kernel) ⟨Nat.le_of_ble_eq_true rfl, Nat.le_of_ble_eq_true rfl⟩ hW.c0 rfl rfl rfl (Nat.le_of_ble_eq_true rfl) dL_makes_237 ⟨Nat.le_of_ble_eq_true rfl, Nat.le_of_ble_eq_true rfl⟩ (g_kxi0 (fun r_31 τ_31 H locs z_31 hz hp hP hL hS => ?_))
                                obtain ⟨hr_31, hW, hz_31, ha_31⟩ := hp
                                have hz := hz.trans hz_31
                                subst hr_31
                                have hlf := lfN_le hV (i := i) (k := j - 1 + 1) (by omega) (by omega)
                                refine g_top (y := (nI (lfN V i (j - 1 + 1)))) (yl hV (by omega) (by omega)) ?_
                                refine g_top (y := (nI (lfN V i j))) (congrArg nI (by rw [Nat.sub_add_cancel (by omega)])) ?_
                                refine lv_istore (lv' := [(10, .int (nI (lfN V i j))), (0, .ref o), (1, .int (nI (suF (fun x => cnQ V 1 x) (sB V)))), (2, .int (nI (cntF (presB V) (sN V)))), (3, .int (nI (max 1 (np / 2)))), (4, .int (nI (suF (fun x => cnQ V 1 x) (j + 1)))), (5, .int (nI j)), (6, .int (nI (cnQ V 1 j))), (7, .int (nI su)), (8, .int (nI lq)), (9, .int (nI i))]) hx hb dL_makes_240 hl (by decide) rfl (fun ls hl => ?_)
                                refine lv_aload_n hx hb dL_makes_242 rfl (lv_at hl 1 rfl) ?_
                                refine lv_iload hx hb dL_makes_243 (lv_at hl 10 rfl) ?_
                                refine lv_iload hx hb dL_makes_245 (lv_at hl 6 rfl) ?_
                                refine g_runV (As := [.int (nI i), .int (nI j)]) (rest := []) (own := RL) (C := RX7) (T := TX7) (N := 7) 2 hx hb hml hown hts hK hz hP hL hS hlo hl.1 (c_X7_does l o b V tf tn (recP P) (recS C P S) kp z_1 ((nI i)) ((nI j))  τ_31 z_1 hW hV.1.1 ) gL_makes_X7_does rfl rfl rfl (by decide +kernel) ⟨Nat.le_of_ble_eq_true rfl, Nat.le_of_ble_eq_true rfl⟩ hW.c0 rfl rfl rfl (Nat.le_of_ble_eq_true rfl) dL_makes_247 ⟨Nat.le_of_ble_eq_true rfl, Nat.le_of_ble_eq_true rfl⟩ (g_kxi0 (fun r_32 τ_32 H locs z_32 hz hp hP hL hS => ?_))
                                obtain ⟨hr_32, hW, hz_32, ha_32⟩ := hp
                                have hz := hz.trans hz_32
                                subst hr_32
                                have hdo := dosQ_lt V i j
                                refine g_top (y := (nI (dosQ V i j))) (yd hV (by omega) (by omega)) ?_
                                refine lv_iconst (v := (nI 1)) hx hb dL_makes_250 (by decide) ?_
                                refine g_icmp_ne (tgt := 263) (a := dosQ V i j) (b := 1) hx hb (by omega) (by omega) dL_makes_251 (by decide) (fun c251 => ?_) (fun c251 => ?_)
                                · refine lv_iinc (v := (nI (i + 1))) (lv' := [(9, .int (nI (i + 1))), (10, .int (nI (lfN V i j))), (0, .ref o), (1, .int (nI (suF (fun x => cnQ V 1 x) (sB V)))), (2, .int (nI (cntF (presB V) (sN V)))), (3, .int (nI (max 1 (np / 2)))), (4, .int (nI (suF (fun x => cnQ V 1 x) (j + 1)))), (5, .int (nI j)), (6, .int (nI (cnQ V 1 j))), (7, .int (nI su)), (8, .int (nI lq))]) hx hb dL_makes_263 hl (k := 10) rfl (g_inc i 1) (by decide) rfl (fun ls hl => ?_)
                                  refine lv_goto (tgt := 200) hx hb dL_makes_266 (by decide) ?_
                                  exact ih_lpC (i + 1) (by omega) (by omega) τ_32 hW hL H locs ls hz hP hS (lv_sub hl [2, 3, 4, 5, 6, 7, 8, 9, 10, 0] rfl)
                                · refine lv_iload hx hb dL_makes_254 (lv_at hl 0 rfl) ?_
                                  refine lv_iload hx hb dL_makes_256 (lv_at hl 8 rfl) ?_
                                  refine g_icmp_lt (tgt := 263) (a := lfN V i j) (b := su) hx hb (by omega) (by omega) dL_makes_258 (by decide) (fun c258 => ?_) (fun c258 => absurd c258 (Nat.not_le.mpr (hPt j i su hjl hil c251 hnd (by omega))))
                                  refine lv_iinc (v := (nI (i + 1))) (lv' := [(9, .int (nI (i + 1))), (10, .int (nI (lfN V i j))), (0, .ref o), (1, .int (nI (suF (fun x => cnQ V 1 x) (sB V)))), (2, .int (nI (cntF (presB V) (sN V)))), (3, .int (nI (max 1 (np / 2)))), (4, .int (nI (suF (fun x => cnQ V 1 x) (j + 1)))), (5, .int (nI j)), (6, .int (nI (cnQ V 1 j))), (7, .int (nI su)), (8, .int (nI lq))]) hx hb dL_makes_263 hl (k := 10) rfl (g_inc i 1) (by decide) rfl (fun ls hl => ?_)
                                  refine lv_goto (tgt := 200) hx hb dL_makes_266 (by decide) ?_
                                  exact ih_lpC (i + 1) (by omega) (by omega) τ_32 hW hL H locs ls hz hP hS (lv_sub hl [2, 3, 4, 5, 6, 7, 8, 9, 10, 0] rfl)
                              · refine lv_aload_n hx hb dL_makes_220 rfl (lv_at hl 0 rfl) ?_
                                refine lv_iload hx hb dL_makes_221 (lv_at hl 9 rfl) ?_
                                refine lv_iconst (v := (nI 0)) hx hb dL_makes_223 (by decide) ?_
                                refine g_runV (As := [.int (nI i), .int (nI 0)]) (rest := []) (own := RL) (C := RX7) (T := TX7) (N := 7) 2 hx hb hml hown hts hK hz hP hL hS hlo hl.1 (c_X7_singer l o b V tf tn (recP P) (recS C P S) kp z_1 ((nI i)) ((nI 0))  τ_30 z_1 hW hV.1.1 ) gL_makes_X7_singer rfl rfl rfl (by decide +kernel) ⟨Nat.le_of_ble_eq_true rfl, Nat.le_of_ble_eq_true rfl⟩ hW.c0 rfl rfl rfl (Nat.le_of_ble_eq_true rfl) dL_makes_224 ⟨Nat.le_of_ble_eq_true rfl, Nat.le_of_ble_eq_true rfl⟩ (g_kxi0 (fun r_33 τ_33 H locs z_33 hz hp hP hL hS => ?_))
                                obtain ⟨hr_33, hW, hz_33, ha_33⟩ := hp
                                have hz := hz.trans hz_33
                                subst hr_33
                                have hbr := hV.br (i := i) (by omega)
                                refine g_top (y := (nI (tk (V 3 i)))) (yn_0 hV (by omega)) ?_
                                refine lv_goto (tgt := 240) hx hb dL_makes_227 (by decide) ?_
                                refine g_top (y := (nI (lfN V i j))) (congrArg nI (by rw [c217]; rfl)) ?_
                                refine lv_istore (lv' := [(10, .int (nI (lfN V i j))), (0, .ref o), (1, .int (nI (suF (fun x => cnQ V 1 x) (sB V)))), (2, .int (nI (cntF (presB V) (sN V)))), (3, .int (nI (max 1 (np / 2)))), (4, .int (nI (suF (fun x => cnQ V 1 x) (j + 1)))), (5, .int (nI j)), (6, .int (nI (cnQ V 1 j))), (7, .int (nI su)), (8, .int (nI lq)), (9, .int (nI i))]) hx hb dL_makes_240 hl (by decide) rfl (fun ls hl => ?_)
                                refine lv_aload_n hx hb dL_makes_242 rfl (lv_at hl 1 rfl) ?_
                                refine lv_iload hx hb dL_makes_243 (lv_at hl 10 rfl) ?_
                                refine lv_iload hx hb dL_makes_245 (lv_at hl 6 rfl) ?_
                                refine g_runV (As := [.int (nI i), .int (nI j)]) (rest := []) (own := RL) (C := RX7) (T := TX7) (N := 7) 2 hx hb hml hown hts hK hz hP hL hS hlo hl.1 (c_X7_does l o b V tf tn (recP P) (recS C P S) kp z_1 ((nI i)) ((nI j))  τ_33 z_1 hW hV.1.1 ) gL_makes_X7_does rfl rfl rfl (by decide +kernel) ⟨Nat.le_of_ble_eq_true rfl, Nat.le_of_ble_eq_true rfl⟩ hW.c0 rfl rfl rfl (Nat.le_of_ble_eq_true rfl) dL_makes_247 ⟨Nat.le_of_ble_eq_true rfl, Nat.le_of_ble_eq_true rfl⟩ (g_kxi0 (fun r_34 τ_34 H locs z_34 hz hp hP hL hS => ?_))
                                obtain ⟨hr_34, hW, hz_34, ha_34⟩ := hp
                                have hz := hz.trans hz_34
                                subst hr_34
                                have hdo := dosQ_lt V i j
                                refine g_top (y := (nI (dosQ V i j))) (yd hV (by omega) (by omega)) ?_
                                refine lv_iconst (v := (nI 1)) hx hb dL_makes_250 (by decide) ?_
                                refine g_icmp_ne (tgt := 263) (a := dosQ V i j) (b := 1) hx hb (by omega) (by omega) dL_makes_251 (by decide) (fun c251 => ?_) (fun c251 => ?_)
                                · refine lv_iinc (v := (nI (i + 1))) (lv' := [(9, .int (nI (i + 1))), (10, .int (nI (lfN V i j))), (0, .ref o), (1, .int (nI (suF (fun x => cnQ V 1 x) (sB V)))), (2, .int (nI (cntF (presB V) (sN V)))), (3, .int (nI (max 1 (np / 2)))), (4, .int (nI (suF (fun x => cnQ V 1 x) (j + 1)))), (5, .int (nI j)), (6, .int (nI (cnQ V 1 j))), (7, .int (nI su)), (8, .int (nI lq))]) hx hb dL_makes_263 hl (k := 10) rfl (g_inc i 1) (by decide) rfl (fun ls hl => ?_)
                                  refine lv_goto (tgt := 200) hx hb dL_makes_266 (by decide) ?_
                                  exact ih_lpC (i + 1) (by omega) (by omega) τ_34 hW hL H locs ls hz hP hS (lv_sub hl [2, 3, 4, 5, 6, 7, 8, 9, 10, 0] rfl)
                                · refine lv_iload hx hb dL_makes_254 (lv_at hl 0 rfl) ?_
                                  refine lv_iload hx hb dL_makes_256 (lv_at hl 8 rfl) ?_
                                  refine g_icmp_lt (tgt := 263) (a := lfN V i j) (b := su) hx hb (by omega) (by omega) dL_makes_258 (by decide) (fun c258 => ?_) (fun c258 => absurd c258 (Nat.not_le.mpr (hPt j i su hjl hil c251 hnd (by omega))))
                                  refine lv_iinc (v := (nI (i + 1))) (lv' := [(9, .int (nI (i + 1))), (10, .int (nI (lfN V i j))), (0, .ref o), (1, .int (nI (suF (fun x => cnQ V 1 x) (sB V)))), (2, .int (nI (cntF (presB V) (sN V)))), (3, .int (nI (max 1 (np / 2)))), (4, .int (nI (suF (fun x => cnQ V 1 x) (j + 1)))), (5, .int (nI j)), (6, .int (nI (cnQ V 1 j))), (7, .int (nI su)), (8, .int (nI lq))]) hx hb dL_makes_263 hl (k := 10) rfl (g_inc i 1) (by decide) rfl (fun ls hl => ?_)
                                  refine lv_goto (tgt := 200) hx hb dL_makes_266 (by decide) ?_
                                  exact ih_lpC (i + 1) (by omega) (by omega) τ_34 hW hL H locs ls hz hP hS (lv_sub hl [2, 3, 4, 5, 6, 7, 8, 9, 10, 0] rfl)
                      exact lpC _ 0 (by omega) (Nat.lt_succ_self _) τ_29 hW hL H locs ls hz hP hS (lv_sub hl [2, 3, 4, 5, 1, 6, 7, 8, 9, 0] rfl)
                  · refine lv_iload hx hb dL_makes_105 (lv_at hl 7 rfl) ?_
                    refine lv_aload_n hx hb dL_makes_107 rfl (lv_at hl 0 rfl) ?_
                    refine lv_iload hx hb dL_makes_108 (lv_at hl 9 rfl) ?_
                    refine lv_iconst (v := (nI 0)) hx hb dL_makes_110 (by decide) ?_
                    refine g_runV (As := [.int (nI y), .int (nI 0)]) (rest := [.int (nI su)]) (own := RL) (C := RX7) (T := TX7) (N := 7) 2 hx hb hml hown hts hK hz hP hL hS hlo hl.1 (c_X7_beat l o b V tf tn (recP P) (recS C P S) kp z_1 ((nI y)) ((nI 0))  τ_10 z_1 hW hV.1.1 ) gL_makes_X7_beat rfl rfl rfl (by decide +kernel) ⟨Nat.le_of_ble_eq_true rfl, Nat.le_of_ble_eq_true rfl⟩ hW.c0 rfl rfl rfl (Nat.le_of_ble_eq_true rfl) dL_makes_111 ⟨Nat.le_of_ble_eq_true rfl, Nat.le_of_ble_eq_true rfl⟩ (g_kxi0 (fun r_35 τ_35 H locs z_35 hz hp hP hL hS => ?_))
                    obtain ⟨hr_35, hW, hz_35, ha_35⟩ := hp
                    have hz := hz.trans hz_35
                    subst hr_35
                    have hxso := hV.so (b := y) (by omega)
                    refine g_top (y := (nI (tk (V 0 y)))) (yb_0 hV (by omega)) ?_
                    refine g_if_le (tgt := 127) hx hb (by omega) dL_makes_114 (by decide) (fun c114 => ?_) (fun c114 => ?_)
                    · refine lv_iconst (v := (nI 0)) hx hb dL_makes_127 (by decide) ?_
                      refine lv_iadd hx hb dL_makes_128 ?_
                      refine g_top (nI_add su 0) ?_
                      refine lv_istore (lv' := [(7, .int (nI (su + 0))), (0, .ref o), (1, .int (nI (suF (fun x => cnQ V 1 x) (sB V)))), (2, .int (nI (cntF (presB V) (sN V)))), (3, .int (nI (max 1 (np / 2)))), (4, .int (nI (suF (fun x => cnQ V 1 x) j))), (5, .int (nI j)), (6, .int (nI (cnQ V 1 j))), (8, .int (nI lq)), (9, .int (nI y))]) hx hb dL_makes_129 hl (by decide) rfl (fun ls hl => ?_)
                      refine lv_iload hx hb dL_makes_131 (lv_at hl 8 rfl) ?_
                      refine lv_aload_n hx hb dL_makes_133 rfl (lv_at hl 1 rfl) ?_
                      refine lv_iload hx hb dL_makes_134 (lv_at hl 9 rfl) ?_
                      refine lv_iconst (v := (nI 0)) hx hb dL_makes_136 (by decide) ?_
                      refine g_runV (As := [.int (nI y), .int (nI 0)]) (rest := [.int (nI lq)]) (own := RL) (C := RX7) (T := TX7) (N := 7) 2 hx hb hml hown hts hK hz hP hL hS hlo hl.1 (c_X7_beat l o b V tf tn (recP P) (recS C P S) kp z_1 ((nI y)) ((nI 0))  τ_35 z_1 hW hV.1.1 ) gL_makes_X7_beat rfl rfl rfl (by decide +kernel) ⟨Nat.le_of_ble_eq_true rfl, Nat.le_of_ble_eq_true rfl⟩ hW.c0 rfl rfl rfl (Nat.le_of_ble_eq_true rfl) dL_makes_137 ⟨Nat.le_of_ble_eq_true rfl, Nat.le_of_ble_eq_true rfl⟩ (g_kxi0 (fun r_36 τ_36 H locs z_36 hz hp hP hL hS => ?_))
                      obtain ⟨hr_36, hW, hz_36, ha_36⟩ := hp
                      have hz := hz.trans hz_36
                      subst hr_36
                      have hxso := hV.so (b := y) (by omega)
                      refine g_top (y := (nI (tk (V 0 y)))) (yb_0 hV (by omega)) ?_
                      refine g_if_le (tgt := 147) hx hb (by omega) dL_makes_140 (by decide) (fun c140 => ?_) (fun c140 => False.elim (by omega))
                      refine lv_iconst (v := (nI 0)) hx hb dL_makes_147 (by decide) ?_
                      refine lv_isub hx hb dL_makes_148 ?_
                      refine g_top (pk_sub (by omega : 0 ≤ lq)) ?_
                      refine lv_istore (lv' := [(8, .int (nI (lq - 0))), (7, .int (nI (su + 0))), (0, .ref o), (1, .int (nI (suF (fun x => cnQ V 1 x) (sB V)))), (2, .int (nI (cntF (presB V) (sN V)))), (3, .int (nI (max 1 (np / 2)))), (4, .int (nI (suF (fun x => cnQ V 1 x) j))), (5, .int (nI j)), (6, .int (nI (cnQ V 1 j))), (9, .int (nI y))]) hx hb dL_makes_149 hl (by decide) rfl (fun ls hl => ?_)
                      refine lv_iinc (v := (nI (y + 1))) (lv' := [(9, .int (nI (y + 1))), (8, .int (nI (lq - 0))), (7, .int (nI (su + 0))), (0, .ref o), (1, .int (nI (suF (fun x => cnQ V 1 x) (sB V)))), (2, .int (nI (cntF (presB V) (sN V)))), (3, .int (nI (max 1 (np / 2)))), (4, .int (nI (suF (fun x => cnQ V 1 x) j))), (5, .int (nI j)), (6, .int (nI (cnQ V 1 j)))]) hx hb dL_makes_151 hl (k := 9) rfl (g_inc y 1) (by decide) rfl (fun ls hl => ?_)
                      refine lv_goto (tgt := 90) hx hb dL_makes_154 (by decide) ?_
                      exact ih_lpB (y + 1) (su + 0) (lq - 0) (by omega) (by omega) (by omega) (by omega) (ne_r hV (by omega) (by omega) hq8 c114 hne) (by omega) τ_36 hW hL H locs ls hz hP hS (lv_sub hl [3, 4, 5, 6, 7, 8, 9, 2, 1, 0] rfl)
                    · refine lv_aload_n hx hb dL_makes_117 rfl (lv_at hl 0 rfl) ?_
                      refine lv_iload hx hb dL_makes_118 (lv_at hl 9 rfl) ?_
                      refine lv_iconst (v := (nI 1)) hx hb dL_makes_120 (by decide) ?_
                      refine g_runV (As := [.int (nI y), .int (nI 1)]) (rest := [.int (nI su)]) (own := RL) (C := RX7) (T := TX7) (N := 7) 2 hx hb hml hown hts hK hz hP hL hS hlo hl.1 (c_X7_beat l o b V tf tn (recP P) (recS C P S) kp z_1 ((nI y)) ((nI 1))  τ_35 z_1 hW hV.1.1 ) gL_makes_X7_beat rfl rfl rfl (by decide +kernel) ⟨Nat.le_of_ble_eq_true rfl, Nat.le_of_ble_eq_true rfl⟩ hW.c0 rfl rfl rfl (Nat.le_of_ble_eq_true rfl) dL_makes_121 ⟨Nat.le_of_ble_eq_true rfl, Nat.le_of_ble_eq_true rfl⟩ (g_kxi0 (fun r_37 τ_37 H locs z_37 hz hp hP hL hS => ?_))
                      obtain ⟨hr_37, hW, hz_37, ha_37⟩ := hp
                      have hz := hz.trans hz_37
                      subst hr_37
                      have hxlo := hV.lo (b := y) (by omega)
                      refine g_top (y := (nI (tk (V 1 y)))) (yb_1 hV (by omega)) ?_
                      refine lv_goto (tgt := 128) hx hb dL_makes_124 (by decide) ?_
                      refine lv_iadd hx hb dL_makes_128 ?_
                      refine g_top (nI_add su (tk (V 1 y))) ?_
                      refine lv_istore (lv' := [(7, .int (nI (su + (tk (V 1 y))))), (0, .ref o), (1, .int (nI (suF (fun x => cnQ V 1 x) (sB V)))), (2, .int (nI (cntF (presB V) (sN V)))), (3, .int (nI (max 1 (np / 2)))), (4, .int (nI (suF (fun x => cnQ V 1 x) j))), (5, .int (nI j)), (6, .int (nI (cnQ V 1 j))), (8, .int (nI lq)), (9, .int (nI y))]) hx hb dL_makes_129 hl (by decide) rfl (fun ls hl => ?_)
                      refine lv_iload hx hb dL_makes_131 (lv_at hl 8 rfl) ?_
                      refine lv_aload_n hx hb dL_makes_133 rfl (lv_at hl 1 rfl) ?_
                      refine lv_iload hx hb dL_makes_134 (lv_at hl 9 rfl) ?_
                      refine lv_iconst (v := (nI 0)) hx hb dL_makes_136 (by decide) ?_
                      refine g_runV (As := [.int (nI y), .int (nI 0)]) (rest := [.int (nI lq)]) (own := RL) (C := RX7) (T := TX7) (N := 7) 2 hx hb hml hown hts hK hz hP hL hS hlo hl.1 (c_X7_beat l o b V tf tn (recP P) (recS C P S) kp z_1 ((nI y)) ((nI 0))  τ_37 z_1 hW hV.1.1 ) gL_makes_X7_beat rfl rfl rfl (by decide +kernel) ⟨Nat.le_of_ble_eq_true rfl, Nat.le_of_ble_eq_true rfl⟩ hW.c0 rfl rfl rfl (Nat.le_of_ble_eq_true rfl) dL_makes_137 ⟨Nat.le_of_ble_eq_true rfl, Nat.le_of_ble_eq_true rfl⟩ (g_kxi0 (fun r_38 τ_38 H locs z_38 hz hp hP hL hS => ?_))
                      obtain ⟨hr_38, hW, hz_38, ha_38⟩ := hp
                      have hz := hz.trans hz_38
                      subst hr_38
                      have hxso := hV.so (b := y) (by omega)
                      refine g_top (y := (nI (tk (V 0 y)))) (yb_0 hV (by omega)) ?_
                      refine g_if_le (tgt := 147) hx hb (by omega) dL_makes_140 (by decide) (fun c140 => False.elim (by omega)) (fun c140 => ?_)
                      refine lv_iconst (v := (nI 1)) hx hb dL_makes_143 (by decide) ?_
                      refine lv_goto (tgt := 148) hx hb dL_makes_144 (by decide) ?_
                      refine lv_isub hx hb dL_makes_148 ?_
                      refine g_top (pk_sub (by omega : 1 ≤ lq)) ?_
                      refine lv_istore (lv' := [(8, .int (nI (lq - 1))), (7, .int (nI (su + (tk (V 1 y))))), (0, .ref o), (1, .int (nI (suF (fun x => cnQ V 1 x) (sB V)))), (2, .int (nI (cntF (presB V) (sN V)))), (3, .int (nI (max 1 (np / 2)))), (4, .int (nI (suF (fun x => cnQ V 1 x) j))), (5, .int (nI j)), (6, .int (nI (cnQ V 1 j))), (9, .int (nI y))]) hx hb dL_makes_149 hl (by decide) rfl (fun ls hl => ?_)
                      refine lv_iinc (v := (nI (y + 1))) (lv' := [(9, .int (nI (y + 1))), (8, .int (nI (lq - 1))), (7, .int (nI (su + (tk (V 1 y))))), (0, .ref o), (1, .int (nI (suF (fun x => cnQ V 1 x) (sB V)))), (2, .int (nI (cntF (presB V) (sN V)))), (3, .int (nI (max 1 (np / 2)))), (4, .int (nI (suF (fun x => cnQ V 1 x) j))), (5, .int (nI j)), (6, .int (nI (cnQ V 1 j)))]) hx hb dL_makes_151 hl (k := 9) rfl (g_inc y 1) (by decide) rfl (fun ls hl => ?_)
                      refine lv_goto (tgt := 90) hx hb dL_makes_154 (by decide) ?_
                      exact ih_lpB (y + 1) (su + tk (V 1 y)) (lq - 1) (by omega) (by omega) (by omega) (by omega) (ne_s hV (by omega) (by omega) hq8 c114 hne) (by omega) τ_38 hW hL H locs ls hz hP hS (lv_sub hl [3, 4, 5, 6, 7, 8, 9, 2, 1, 0] rfl)
            exact lpB _ j 0 (sR V) (Nat.le_refl j) (by omega) (Nat.le_refl _) (by omega) (ne_0 j) (Nat.lt_succ_self _) τ_9 hW hL H locs ls hz hP hS (lv_sub hl [4, 5, 6, 7, 8, 9, 3, 2, 1, 0] rfl)
      exact lpA _ 0 (by omega) (Nat.lt_succ_self _) τ_4 hW hL H locs ls hz hP hS (lv_sub hl [5, 4, 3, 2, 1, 0] rfl)
    · refine lv_iconst (v := (nI 1)) hx hb dL_makes_42 (by decide) ?_
      refine lv_goto (tgt := 49) hx hb dL_makes_43 (by decide) ?_
      refine g_top (y := (nI (max 1 (np / 2)))) (congrArg nI (by omega)) ?_
      refine lv_istore_n (lv' := [(3, .int (nI (max 1 (np / 2)))), (2, .int (nI (cntF (presB V) (sN V)))), (1, .int (nI (suF (fun x => cnQ V 1 x) (sB V)))), (0, .ref o)]) hx hb dL_makes_49 rfl hl (by decide) rfl (fun ls hl => ?_)
      refine lv_iconst (v := (nI 0)) hx hb dL_makes_50 (by decide) ?_
      refine lv_istore (lv' := [(4, .int (nI 0)), (3, .int (nI (max 1 (np / 2)))), (2, .int (nI (cntF (presB V) (sN V)))), (1, .int (nI (suF (fun x => cnQ V 1 x) (sB V)))), (0, .ref o)]) hx hb dL_makes_51 hl (by decide) rfl (fun ls hl => ?_)
      refine lv_iconst (v := (nI 0)) hx hb dL_makes_53 (by decide) ?_
      refine lv_istore (lv' := [(5, .int (nI 0)), (4, .int (nI 0)), (3, .int (nI (max 1 (np / 2)))), (2, .int (nI (cntF (presB V) (sN V)))), (1, .int (nI (suF (fun x => cnQ V 1 x) (sB V)))), (0, .ref o)]) hx hb dL_makes_54 hl (by decide) rfl (fun ls hl => ?_)
      have lpA : ∀ (fu_lpA : Nat) (j : Nat), (j ≤ sB V) → (sB V - j < fu_lpA) → ∀ (υ : gS), (Wo υ o b V tf tn (recP P) (recS C P S) kp z_1) → gL lo υ → ∀ (H : Heap) (locs : List Loc) (ls : Array Slot), H.size = z_1 → gH D ka υ H → va_S (gA lo) s.heap H locs → lv_has ls 11 [(0, .ref o), (1, .int (nI (suF (fun x => cnQ V 1 x) (sB V)))), (2, .int (nI (cntF (presB V) (sN V)))), (3, .int (nI (max 1 (np / 2)))), (4, .int (nI (suF (fun x => cnQ V 1 x) j))), (5, .int (nI j))] → W p l e ({ frames := 7, cells := 17, slots := 789, locals := 162 } : Room) s m ([.ref o] : List Value).toArray below meth c H locs (0 + 17) (0 + 789) (MQ below (gQ D ka lo (gxi (fun r τ n => r = nI 1 ∧ ∃ (S2 : sS) (P2 : Nat) (C2 : Nat → sS), Wo τ o b S2 tf tn P2 C2 kp n ∧ okY S2 ∧ sB S2 = sB S ∧ sN S2 = sN S ∧ okC P2 C2 kp ∧ sz ≤ n ∧ n ≤ sz + 17))) ([.ref o] : List Value).toArray s 17 789 (gA lo)) (F0 m 56 ls []) := by
        intro fu_lpA
        induction fu_lpA with
        | zero => intro j hj hm_lpA; exact absurd hm_lpA (Nat.not_lt_zero _)
        | succ fu_lpA ih_lpA =>
          intro j hj hm_lpA υ hW hL H locs ls hz hP hS hl
          refine lv_iload hx hb dL_makes_56 (lv_at hl 5 rfl) ?_
          refine lv_aload_n hx hb dL_makes_58 rfl (lv_at hl 0 rfl) ?_
          refine lv_iconst (v := (nI 0)) hx hb dL_makes_59 (by decide) ?_
          refine g_runV (As := [.int (nI 0)]) (rest := [.int (nI j)]) (own := RL) (C := RX7) (T := TX7) (N := 7) 1 hx hb hml hown hts hK hz hP hL hS hlo hl.1 (c_X7_count l o b V tf tn (recP P) (recS C P S) kp z_1 ((nI 0))  υ z_1 hW hV.1.1 ) gL_makes_X7_count rfl rfl rfl (by decide +kernel) ⟨Nat.le_of_ble_eq_true rfl, Nat.le_of_ble_eq_true rfl⟩ hW.c0 rfl rfl rfl (Nat.le_of_ble_eq_true rfl) dL_makes_60 ⟨Nat.le_of_ble_eq_true rfl, Nat.le_of_ble_eq_true rfl⟩ (g_kxi0 (fun r_39 τ_39 H locs z_39 hz hp hP hL hS => ?_))
          obtain ⟨hr_39, hW, hz_39, ha_39⟩ := hp
          have hz := hz.trans hz_39
          subst hr_39
          refine g_top (y := (nI (sB V))) yc_0 ?_
          refine g_icmp_ge (tgt := 275) (a := j) (b := sB V) hx hb (by omega) (by omega) dL_makes_63 (by decide) (fun c63 => ?_) (fun c63 => ?_)
          · have hje : j = sB V := by omega
            rw [hje] at hl
            refine lv_iload_n hx hb dL_makes_275 rfl (lv_at hl 1 rfl) ?_
            refine lv_iload hx hb dL_makes_276 (lv_at hl 4 rfl) ?_
            refine lv_icmp_ne (tgt := 305) hx hb dL_makes_278 (by decide) (fun c278 => absurd rfl c278) (fun c278 => ?_)
            refine lv_aload_n hx hb dL_makes_281 rfl (lv_at hl 0 rfl) ?_
            refine lv_bipush (v := (nI 6)) hx hb dL_makes_282 (by decide) ?_
            refine g_runV (As := [.int (nI 6)]) (rest := []) (own := RL) (C := RX7) (T := TX7) (N := 7) 1 hx hb hml hown hts hK hz hP hL hS hlo hl.1 (c_X7_count l o b V tf tn (recP P) (recS C P S) kp z_1 ((nI 6))  τ_39 z_1 hW hV.1.1 ) gL_makes_X7_count rfl rfl rfl (by decide +kernel) ⟨Nat.le_of_ble_eq_true rfl, Nat.le_of_ble_eq_true rfl⟩ hW.c0 rfl rfl rfl (Nat.le_of_ble_eq_true rfl) dL_makes_284 ⟨Nat.le_of_ble_eq_true rfl, Nat.le_of_ble_eq_true rfl⟩ (g_kxi0 (fun r_40 τ_40 H locs z_40 hz hp hP hL hS => ?_))
            obtain ⟨hr_40, hW, hz_40, ha_40⟩ := hp
            have hz := hz.trans hz_40
            subst hr_40
            have hmt := mk_le hV
            refine g_top (y := (nI (suF (fun x => cntF (markB V x) (sB V)) (sN V)))) (yc_6 hV) ?_
            refine g_top (y := (nI (suF (fun x => cnQ V 1 x) (sB V)))) (congrArg nI hPs) ?_
            refine lv_iload hx hb dL_makes_287 (lv_at hl 4 rfl) ?_
            refine lv_icmp_ne (tgt := 305) hx hb dL_makes_289 (by decide) (fun c289 => absurd rfl c289) (fun c289 => ?_)
            refine lv_aload_n hx hb dL_makes_292 rfl (lv_at hl 0 rfl) ?_
            refine lv_bipush (v := (nI 11)) hx hb dL_makes_293 (by decide) ?_
            refine g_runV (As := [.int (nI 11)]) (rest := []) (own := RL) (C := RX7) (T := TX7) (N := 7) 1 hx hb hml hown hts hK hz hP hL hS hlo hl.1 (c_X7_count l o b V tf tn (recP P) (recS C P S) kp z_1 ((nI 11))  τ_40 z_1 hW hV.1.1 ) gL_makes_X7_count rfl rfl rfl (by decide +kernel) ⟨Nat.le_of_ble_eq_true rfl, Nat.le_of_ble_eq_true rfl⟩ hW.c0 rfl rfl rfl (Nat.le_of_ble_eq_true rfl) dL_makes_295 ⟨Nat.le_of_ble_eq_true rfl, Nat.le_of_ble_eq_true rfl⟩ (g_kxi0 (fun r_41 τ_41 H locs z_41 hz hp hP hL hS => ?_))
            obtain ⟨hr_41, hW, hz_41, ha_41⟩ := hp
            have hz := hz.trans hz_41
            subst hr_41
            have hcq := cq_le V 3 hV.1.1.1
            refine g_top (y := (nI (cqG (gF V) 3 (sB V) 0 0))) (yc_11 hV) ?_
            refine g_top (y := (nI 0)) (congrArg nI hP0) ?_
            refine lv_if_ne (tgt := 305) hx hb dL_makes_298 (by decide) (fun c298 => by first | exact absurd (by decide) c298 | exact absurd c298 (by decide)) (fun c298 => ?_)
            refine lv_iconst (v := (nI 1)) hx hb dL_makes_301 (by decide) ?_
            refine lv_goto (tgt := 306) hx hb dL_makes_302 (by decide) ?_
            refine W.widen (k := 17) (n := 789) (by omega) (by omega) ?_
            exact g_zret (z := z_1) hx hb hr hlk hz hP hL hS rfl dL_makes_306 (gxi_i ⟨rfl, V, _, _, hW, hV, hBV, hNV, hC.act hY.1.1 (by omega), by omega, by omega⟩)
          · have hjl : j < sB V := by omega
            have hhf := hPh j hjl
            refine lv_aload_n hx hb dL_makes_66 rfl (lv_at hl 0 rfl) ?_
            refine lv_iload hx hb dL_makes_67 (lv_at hl 5 rfl) ?_
            refine lv_iconst (v := (nI 5)) hx hb dL_makes_69 (by decide) ?_
            refine g_runV (As := [.int (nI j), .int (nI 5)]) (rest := []) (own := RL) (C := RX7) (T := TX7) (N := 7) 2 hx hb hml hown hts hK hz hP hL hS hlo hl.1 (c_X7_beat l o b V tf tn (recP P) (recS C P S) kp z_1 ((nI j)) ((nI 5))  τ_39 z_1 hW hV.1.1 ) gL_makes_X7_beat rfl rfl rfl (by decide +kernel) ⟨Nat.le_of_ble_eq_true rfl, Nat.le_of_ble_eq_true rfl⟩ hW.c0 rfl rfl rfl (Nat.le_of_ble_eq_true rfl) dL_makes_70 ⟨Nat.le_of_ble_eq_true rfl, Nat.le_of_ble_eq_true rfl⟩ (g_kxi0 (fun r_42 τ_42 H locs z_42 hz hp hP hL hS => ?_))
            obtain ⟨hr_42, hW, hz_42, ha_42⟩ := hp
            have hz := hz.trans hz_42
            subst hr_42
            have hcn1 := cn_le V 1 j
            refine g_top (y := (nI (cnQ V 1 j))) (yb_5 hV (by omega)) ?_
            refine lv_istore (lv' := [(6, .int (nI (cnQ V 1 j))), (0, .ref o), (1, .int (nI (suF (fun x => cnQ V 1 x) (sB V)))), (2, .int (nI (cntF (presB V) (sN V)))), (3, .int (nI (max 1 (np / 2)))), (4, .int (nI (suF (fun x => cnQ V 1 x) j))), (5, .int (nI j))]) hx hb dL_makes_73 hl (by decide) rfl (fun ls hl => ?_)
            refine lv_iconst (v := (nI 0)) hx hb dL_makes_75 (by decide) ?_
            refine lv_istore (lv' := [(7, .int (nI 0)), (6, .int (nI (cnQ V 1 j))), (0, .ref o), (1, .int (nI (suF (fun x => cnQ V 1 x) (sB V)))), (2, .int (nI (cntF (presB V) (sN V)))), (3, .int (nI (max 1 (np / 2)))), (4, .int (nI (suF (fun x => cnQ V 1 x) j))), (5, .int (nI j))]) hx hb dL_makes_76 hl (by decide) rfl (fun ls hl => ?_)
            refine lv_aload_n hx hb dL_makes_78 rfl (lv_at hl 2 rfl) ?_
            refine lv_bipush (v := (nI 12)) hx hb dL_makes_79 (by decide) ?_
            refine g_runV (As := [.int (nI 12)]) (rest := []) (own := RL) (C := RX7) (T := TX7) (N := 7) 1 hx hb hml hown hts hK hz hP hL hS hlo hl.1 (c_X7_count l o b V tf tn (recP P) (recS C P S) kp z_1 ((nI 12))  τ_42 z_1 hW hV.1.1 ) gL_makes_X7_count rfl rfl rfl (by decide +kernel) ⟨Nat.le_of_ble_eq_true rfl, Nat.le_of_ble_eq_true rfl⟩ hW.c0 rfl rfl rfl (Nat.le_of_ble_eq_true rfl) dL_makes_81 ⟨Nat.le_of_ble_eq_true rfl, Nat.le_of_ble_eq_true rfl⟩ (g_kxi0 (fun r_43 τ_43 H locs z_43 hz hp hP hL hS => ?_))
            obtain ⟨hr_43, hW, hz_43, ha_43⟩ := hp
            have hz := hz.trans hz_43
            subst hr_43
            refine g_top (y := (nI (sR V))) yc_12 ?_
            refine lv_istore (lv' := [(8, .int (nI (sR V))), (7, .int (nI 0)), (6, .int (nI (cnQ V 1 j))), (0, .ref o), (1, .int (nI (suF (fun x => cnQ V 1 x) (sB V)))), (2, .int (nI (cntF (presB V) (sN V)))), (3, .int (nI (max 1 (np / 2)))), (4, .int (nI (suF (fun x => cnQ V 1 x) j))), (5, .int (nI j))]) hx hb dL_makes_84 hl (by decide) rfl (fun ls hl => ?_)
            refine lv_iload hx hb dL_makes_86 (lv_at hl 8 rfl) ?_
            refine lv_istore (lv' := [(9, .int (nI j)), (8, .int (nI (sR V))), (7, .int (nI 0)), (6, .int (nI (cnQ V 1 j))), (0, .ref o), (1, .int (nI (suF (fun x => cnQ V 1 x) (sB V)))), (2, .int (nI (cntF (presB V) (sN V)))), (3, .int (nI (max 1 (np / 2)))), (4, .int (nI (suF (fun x => cnQ V 1 x) j))), (5, .int (nI j))]) hx hb dL_makes_88 hl (by decide) rfl (fun ls hl => ?_)
            have lpB : ∀ (fu_lpB : Nat) (y : Nat) (su : Nat) (lq : Nat), (j ≤ y) → (y ≤ sB V) → (lq ≤ sR V) → (su ≤ 5 * y) → (neF V (sB V - y) y (sR V - lq) (nI su) = needI V j) → (sB V - y < fu_lpB) → ∀ (υ : gS), (Wo υ o b V tf tn (recP P) (recS C P S) kp z_1) → gL lo υ → ∀ (H : Heap) (locs : List Loc) (ls : Array Slot), H.size = z_1 → gH D ka υ H → va_S (gA lo) s.heap H locs → lv_has ls 11 [(0, .ref o), (1, .int (nI (suF (fun x => cnQ V 1 x) (sB V)))), (2, .int (nI (cntF (presB V) (sN V)))), (3, .int (nI (max 1 (np / 2)))), (4, .int (nI (suF (fun x => cnQ V 1 x) j))), (5, .int (nI j)), (6, .int (nI (cnQ V 1 j))), (7, .int (nI su)), (8, .int (nI lq)), (9, .int (nI y))] → W p l e ({ frames := 7, cells := 17, slots := 789, locals := 162 } : Room) s m ([.ref o] : List Value).toArray below meth c H locs (0 + 17) (0 + 789) (MQ below (gQ D ka lo (gxi (fun r τ n => r = nI 1 ∧ ∃ (S2 : sS) (P2 : Nat) (C2 : Nat → sS), Wo τ o b S2 tf tn P2 C2 kp n ∧ okY S2 ∧ sB S2 = sB S ∧ sN S2 = sN S ∧ okC P2 C2 kp ∧ sz ≤ n ∧ n ≤ sz + 17))) ([.ref o] : List Value).toArray s 17 789 (gA lo)) (F0 m 90 ls []) := by
              intro fu_lpB
              induction fu_lpB with
              | zero => intro y su lq hyj hy hq8 hsu hne hm_lpB; exact absurd hm_lpB (Nat.not_lt_zero _)
              | succ fu_lpB ih_lpB =>
                intro y su lq hyj hy hq8 hsu hne hm_lpB υ hW hL H locs ls hz hP hS hl
                refine lv_iload hx hb dL_makes_90 (lv_at hl 9 rfl) ?_
                refine lv_aload_n hx hb dL_makes_92 rfl (lv_at hl 0 rfl) ?_
                refine lv_iconst (v := (nI 0)) hx hb dL_makes_93 (by decide) ?_
                refine g_runV (As := [.int (nI 0)]) (rest := [.int (nI y)]) (own := RL) (C := RX7) (T := TX7) (N := 7) 1 hx hb hml hown hts hK hz hP hL hS hlo hl.1 (c_X7_count l o b V tf tn (recP P) (recS C P S) kp z_1 ((nI 0))  υ z_1 hW hV.1.1 ) gL_makes_X7_count rfl rfl rfl (by decide +kernel) ⟨Nat.le_of_ble_eq_true rfl, Nat.le_of_ble_eq_true rfl⟩ hW.c0 rfl rfl rfl (Nat.le_of_ble_eq_true rfl) dL_makes_94 ⟨Nat.le_of_ble_eq_true rfl, Nat.le_of_ble_eq_true rfl⟩ (g_kxi0 (fun r_44 τ_44 H locs z_44 hz hp hP hL hS => ?_))
                obtain ⟨hr_44, hW, hz_44, ha_44⟩ := hp
                have hz := hz.trans hz_44
                subst hr_44
                refine g_top (y := (nI (sB V))) yc_0 ?_
                refine g_icmp_ge (tgt := 157) (a := y) (b := sB V) hx hb (by omega) (by omega) dL_makes_97 (by decide) (fun c97 => ?_) (fun c97 => ?_)
                · have hnd := ne_e hy hq8 (Or.inl c97) hne
                  refine lv_iload hx hb dL_makes_157 (lv_at hl 4 rfl) ?_
                  refine lv_iload hx hb dL_makes_159 (lv_at hl 6 rfl) ?_
                  refine lv_iadd hx hb dL_makes_161 ?_
                  refine g_top (nI_add (suF (fun x => cnQ V 1 x) j) (cnQ V 1 j)) ?_
                  refine g_top (y := (nI (suF (fun x => cnQ V 1 x) (j + 1)))) rfl ?_
                  refine lv_istore (lv' := [(4, .int (nI (suF (fun x => cnQ V 1 x) (j + 1)))), (0, .ref o), (1, .int (nI (suF (fun x => cnQ V 1 x) (sB V)))), (2, .int (nI (cntF (presB V) (sN V)))), (3, .int (nI (max 1 (np / 2)))), (5, .int (nI j)), (6, .int (nI (cnQ V 1 j))), (7, .int (nI su)), (8, .int (nI lq)), (9, .int (nI y))]) hx hb dL_makes_162 hl (by decide) rfl (fun ls hl => ?_)
                  refine lv_iload hx hb dL_makes_164 (lv_at hl 6 rfl) ?_
                  refine lv_iload_n hx hb dL_makes_166 rfl (lv_at hl 4 rfl) ?_
                  refine g_icmp_gt (tgt := 195) (a := cnQ V 1 j) (b := max 1 (np / 2)) hx hb (by omega) (by omega) dL_makes_167 (by decide) (fun c167 => False.elim (by omega)) (fun c167 => ?_)
                  refine lv_iload hx hb dL_makes_170 (lv_at hl 6 rfl) ?_
                  refine g_if_le (tgt := 197) hx hb (by omega) dL_makes_172 (by decide) (fun c172 => ?_) (fun c172 => ?_)
                  · refine lv_iconst (v := (nI 0)) hx hb dL_makes_197 (by decide) ?_
                    refine lv_istore (lv' := [(9, .int (nI 0)), (4, .int (nI (suF (fun x => cnQ V 1 x) (j + 1)))), (0, .ref o), (1, .int (nI (suF (fun x => cnQ V 1 x) (sB V)))), (2, .int (nI (cntF (presB V) (sN V)))), (3, .int (nI (max 1 (np / 2)))), (5, .int (nI j)), (6, .int (nI (cnQ V 1 j))), (7, .int (nI su)), (8, .int (nI lq))]) hx hb dL_makes_198 hl (by decide) rfl (fun ls hl => ?_)
                    have lpC : ∀ (fu_lpC : Nat) (i : Nat), (i ≤ sN V) → (sN V - i < fu_lpC) → ∀ (υ : gS), (Wo υ o b V tf tn (recP P) (recS C P S) kp z_1) → gL lo υ → ∀ (H : Heap) (locs : List Loc) (ls : Array Slot), H.size = z_1 → gH D ka υ H → va_S (gA lo) s.heap H locs → lv_has ls 11 [(0, .ref o), (1, .int (nI (suF (fun x => cnQ V 1 x) (sB V)))), (2, .int (nI (cntF (presB V) (sN V)))), (3, .int (nI (max 1 (np / 2)))), (4, .int (nI (suF (fun x => cnQ V 1 x) (j + 1)))), (5, .int (nI j)), (6, .int (nI (cnQ V 1 j))), (7, .int (nI su)), (8, .int (nI lq)), (9, .int (nI i))] → W p l e ({ frames := 7, cells := 17, slots := 789, locals := 162 } : Room) s m ([.ref o] : List Value).toArray below meth c H locs (0 + 17) (0 + 789) (MQ below (gQ D ka lo (gxi (fun r τ n => r = nI 1 ∧ ∃ (S2 : sS) (P2 : Nat) (C2 : Nat → sS), Wo τ o b S2 tf tn P2 C2 kp n ∧ okY S2 ∧ sB S2 = sB S ∧ sN S2 = sN S ∧ okC P2 C2 kp ∧ sz ≤ n ∧ n ≤ sz + 17))) ([.ref o] : List Value).toArray s 17 789 (gA lo)) (F0 m 200 ls []) := by
                      intro fu_lpC
                      induction fu_lpC with
                      | zero => intro i hi hm_lpC; exact absurd hm_lpC (Nat.not_lt_zero _)
                      | succ fu_lpC ih_lpC =>
                        intro i hi hm_lpC υ hW hL H locs ls hz hP hS hl
                        refine lv_iload hx hb dL_makes_200 (lv_at hl 9 rfl) ?_
                        refine lv_aload_n hx hb dL_makes_202 rfl (lv_at hl 0 rfl) ?_
                        refine lv_iconst (v := (nI 3)) hx hb dL_makes_203 (by decide) ?_
                        refine g_runV (As := [.int (nI 3)]) (rest := [.int (nI i)]) (own := RL) (C := RX7) (T := TX7) (N := 7) 1 hx hb hml hown hts hK hz hP hL hS hlo hl.1 (c_X7_count l o b V tf tn (recP P) (recS C P S) kp z_1 ((nI 3))  υ z_1 hW hV.1.1 ) gL_makes_X7_count rfl rfl rfl (by decide +kernel) ⟨Nat.le_of_ble_eq_true rfl, Nat.le_of_ble_eq_true rfl⟩ hW.c0 rfl rfl rfl (Nat.le_of_ble_eq_true rfl) dL_makes_204 ⟨Nat.le_of_ble_eq_true rfl, Nat.le_of_ble_eq_true rfl⟩ (g_kxi0 (fun r_45 τ_45 H locs z_45 hz hp hP hL hS => ?_))
                        obtain ⟨hr_45, hW, hz_45, ha_45⟩ := hp
                        have hz := hz.trans hz_45
                        subst hr_45
                        refine g_top (y := (nI (sN V))) yc_3 ?_
                        refine g_icmp_ge (tgt := 269) (a := i) (b := sN V) hx hb (by omega) (by omega) dL_makes_207 (by decide) (fun c207 => ?_) (fun c207 => ?_)
                        · refine lv_iinc (v := (nI (j + 1))) (lv' := [(5, .int (nI (j + 1))), (0, .ref o), (1, .int (nI (suF (fun x => cnQ V 1 x) (sB V)))), (2, .int (nI (cntF (presB V) (sN V)))), (3, .int (nI (max 1 (np / 2)))), (4, .int (nI (suF (fun x => cnQ V 1 x) (j + 1)))), (6, .int (nI (cnQ V 1 j))), (7, .int (nI su)), (8, .int (nI lq)), (9, .int (nI i))]) hx hb dL_makes_269 hl (k := 5) rfl (g_inc j 1) (by decide) rfl (fun ls hl => ?_)
                          refine lv_goto (tgt := 56) hx hb dL_makes_272 (by decide) ?_
                          exact ih_lpA (j + 1) (by omega) (by omega) τ_45 hW hL H locs ls hz hP hS (lv_sub hl [1, 2, 3, 4, 5, 0] rfl)
                        · refine lv_iload hx hb dL_makes_210 (lv_at hl 6 rfl) ?_
                          refine g_if_le (tgt := 269) hx hb (by omega) dL_makes_212 (by decide) (fun c212 => ?_) (fun c212 => ?_)
                          · refine lv_iinc (v := (nI (j + 1))) (lv' := [(5, .int (nI (j + 1))), (0, .ref o), (1, .int (nI (suF (fun x => cnQ V 1 x) (sB V)))), (2, .int (nI (cntF (presB V) (sN V)))), (3, .int (nI (max 1 (np / 2)))), (4, .int (nI (suF (fun x => cnQ V 1 x) (j + 1)))), (6, .int (nI (cnQ V 1 j))), (7, .int (nI su)), (8, .int (nI lq)), (9, .int (nI i))]) hx hb dL_makes_269 hl (k := 5) rfl (g_inc j 1) (by decide) rfl (fun ls hl => ?_)
                            refine lv_goto (tgt := 56) hx hb dL_makes_272 (by decide) ?_
                            exact ih_lpA (j + 1) (by omega) (by omega) τ_45 hW hL H locs ls hz hP hS (lv_sub hl [1, 2, 3, 4, 5, 0] rfl)
                          · have hil0 : i < sN V := by omega
                            have hbri := hV.br (i := i) hil0
                            have hil : i < sN V := by omega
                            have hlfj := lfN_le hV (i := i) (k := j) hil (by omega)
                            refine lv_iload hx hb dL_makes_215 (lv_at hl 5 rfl) ?_
                            refine g_if_ne (tgt := 230) hx hb (by omega) dL_makes_217 (by decide) (fun c217 => ?_) (fun c217 => ?_)
                            · refine lv_aload_n hx hb dL_makes_230 rfl (lv_at hl 0 rfl) ?_
                              refine lv_iload hx hb dL_makes_231 (lv_at hl 9 rfl) ?_
                              refine lv_iload hx hb dL_makes_233 (lv_at hl 5 rfl) ?_
                              refine lv_iconst (v := (nI 1)) hx hb dL_makes_235 (by decide) ?_
                              refine lv_isub hx hb dL_makes_236 ?_
                              refine g_top (pk_sub (by omega : 1 ≤ j)) ?_
                              refine g_runV (As := [.int (nI i), .int (nI (j - 1))]) (rest := []) (own := RL) (C := RX7) (T := TX7) (N := 7) 2 hx hb hml hown hts hK hz hP hL hS hlo hl.1 (c_X7_left l o b V tf tn (recP P) (recS C P S) kp z_1 ((nI i)) ((nI (j - 1)))  τ_45 z_1 hW hV.1.1 ) gL_makes_X7_left rfl rfl rfl (by decide +kernel) ⟨Nat.le_of_ble_eq_true rfl, Nat.le_of_ble_eq_true rfl⟩ hW.c0 rfl rfl rfl (Nat.le_of_ble_eq_true rfl) dL_makes_237 ⟨Nat.le_of_ble_eq_true rfl, Nat.le_of_ble_eq_true rfl⟩ (g_kxi0 (fun r_46 τ_46 H locs z_46 hz hp hP hL hS => ?_))
                              obtain ⟨hr_46, hW, hz_46, ha_46⟩ := hp
                              have hz := hz.trans hz_46
                              subst hr_46
                              have hlf := lfN_le hV (i := i) (k := j - 1 + 1) (by omega) (by omega)
                              refine g_top (y := (nI (lfN V i (j - 1 + 1)))) (yl hV (by omega) (by omega)) ?_
                              refine g_top (y := (nI (lfN V i j))) (congrArg nI (by rw [Nat.sub_add_cancel (by omega)])) ?_
                              refine lv_istore (lv' := [(10, .int (nI (lfN V i j))), (0, .ref o), (1, .int (nI (suF (fun x => cnQ V 1 x) (sB V)))), (2, .int (nI (cntF (presB V) (sN V)))), (3, .int (nI (max 1 (np / 2)))), (4, .int (nI (suF (fun x => cnQ V 1 x) (j + 1)))), (5, .int (nI j)), (6, .int (nI (cnQ V 1 j))), (7, .int (nI su)), (8, .int (nI lq)), (9, .int (nI i))]) hx hb dL_makes_240 hl (by decide) rfl (fun ls hl => ?_)
                              refine lv_aload_n hx hb dL_makes_242 rfl (lv_at hl 1 rfl) ?_
                              refine lv_iload hx hb dL_makes_243 (lv_at hl 10 rfl) ?_
                              refine lv_iload hx hb dL_makes_245 (lv_at hl 6 rfl) ?_
                              refine g_runV (As := [.int (nI i), .int (nI j)]) (rest := []) (own := RL) (C := RX7) (T := TX7) (N := 7) 2 hx hb hml hown hts hK hz hP hL hS hlo hl.1 (c_X7_does l o b V tf tn (recP P) (recS C P S) kp z_1 ((nI i)) ((nI j))  τ_46 z_1 hW hV.1.1 ) gL_makes_X7_does rfl rfl rfl (by decide +kernel) ⟨Nat.le_of_ble_eq_true rfl, Nat.le_of_ble_eq_true rfl⟩ hW.c0 rfl rfl rfl (Nat.le_of_ble_eq_true rfl) dL_makes_247 ⟨Nat.le_of_ble_eq_true rfl, Nat.le_of_ble_eq_true rfl⟩ (g_kxi0 (fun r_47 τ_47 H locs z_47 hz hp hP hL hS => ?_))
                              obtain ⟨hr_47, hW, hz_47, ha_47⟩ := hp
                              have hz := hz.trans hz_47
                              subst hr_47
                              have hdo := dosQ_lt V i j
                              refine g_top (y := (nI (dosQ V i j))) (yd hV (by omega) (by omega)) ?_
                              refine lv_iconst (v := (nI 1)) hx hb dL_makes_250 (by decide) ?_
                              refine g_icmp_ne (tgt := 263) (a := dosQ V i j) (b := 1) hx hb (by omega) (by omega) dL_makes_251 (by decide) (fun c251 => ?_) (fun c251 => ?_)
                              · refine lv_iinc (v := (nI (i + 1))) (lv' := [(9, .int (nI (i + 1))), (10, .int (nI (lfN V i j))), (0, .ref o), (1, .int (nI (suF (fun x => cnQ V 1 x) (sB V)))), (2, .int (nI (cntF (presB V) (sN V)))), (3, .int (nI (max 1 (np / 2)))), (4, .int (nI (suF (fun x => cnQ V 1 x) (j + 1)))), (5, .int (nI j)), (6, .int (nI (cnQ V 1 j))), (7, .int (nI su)), (8, .int (nI lq))]) hx hb dL_makes_263 hl (k := 10) rfl (g_inc i 1) (by decide) rfl (fun ls hl => ?_)
                                refine lv_goto (tgt := 200) hx hb dL_makes_266 (by decide) ?_
                                exact ih_lpC (i + 1) (by omega) (by omega) τ_47 hW hL H locs ls hz hP hS (lv_sub hl [2, 3, 4, 5, 6, 7, 8, 9, 10, 0] rfl)
                              · refine lv_iload hx hb dL_makes_254 (lv_at hl 0 rfl) ?_
                                refine lv_iload hx hb dL_makes_256 (lv_at hl 8 rfl) ?_
                                refine g_icmp_lt (tgt := 263) (a := lfN V i j) (b := su) hx hb (by omega) (by omega) dL_makes_258 (by decide) (fun c258 => ?_) (fun c258 => absurd c258 (Nat.not_le.mpr (hPt j i su hjl hil c251 hnd (by omega))))
                                refine lv_iinc (v := (nI (i + 1))) (lv' := [(9, .int (nI (i + 1))), (10, .int (nI (lfN V i j))), (0, .ref o), (1, .int (nI (suF (fun x => cnQ V 1 x) (sB V)))), (2, .int (nI (cntF (presB V) (sN V)))), (3, .int (nI (max 1 (np / 2)))), (4, .int (nI (suF (fun x => cnQ V 1 x) (j + 1)))), (5, .int (nI j)), (6, .int (nI (cnQ V 1 j))), (7, .int (nI su)), (8, .int (nI lq))]) hx hb dL_makes_263 hl (k := 10) rfl (g_inc i 1) (by decide) rfl (fun ls hl => ?_)
                                refine lv_goto (tgt := 200) hx hb dL_makes_266 (by decide) ?_
                                exact ih_lpC (i + 1) (by omega) (by omega) τ_47 hW hL H locs ls hz hP hS (lv_sub hl [2, 3, 4, 5, 6, 7, 8, 9, 10, 0] rfl)
                            · refine lv_aload_n hx hb dL_makes_220 rfl (lv_at hl 0 rfl) ?_
                              refine lv_iload hx hb dL_makes_221 (lv_at hl 9 rfl) ?_
                              refine lv_iconst (v := (nI 0)) hx hb dL_makes_223 (by decide) ?_
                              refine g_runV (As := [.int (nI i), .int (nI 0)]) (rest := []) (own := RL) (C := RX7) (T := TX7) (N := 7) 2 hx hb hml hown hts hK hz hP hL hS hlo hl.1 (c_X7_singer l o b V tf tn (recP P) (recS C P S) kp z_1 ((nI i)) ((nI 0))  τ_45 z_1 hW hV.1.1 ) gL_makes_X7_singer rfl rfl rfl (by decide +kernel) ⟨Nat.le_of_ble_eq_true rfl, Nat.le_of_ble_eq_true rfl⟩ hW.c0 rfl rfl rfl (Nat.le_of_ble_eq_true rfl) dL_makes_224 ⟨Nat.le_of_ble_eq_true rfl, Nat.le_of_ble_eq_true rfl⟩ (g_kxi0 (fun r_48 τ_48 H locs z_48 hz hp hP hL hS => ?_))
                              obtain ⟨hr_48, hW, hz_48, ha_48⟩ := hp
                              have hz := hz.trans hz_48
                              subst hr_48
                              have hbr := hV.br (i := i) (by omega)
                              refine g_top (y := (nI (tk (V 3 i)))) (yn_0 hV (by omega)) ?_
                              refine lv_goto (tgt := 240) hx hb dL_makes_227 (by decide) ?_
                              refine g_top (y := (nI (lfN V i j))) (congrArg nI (by rw [c217]; rfl)) ?_
                              refine lv_istore (lv' := [(10, .int (nI (lfN V i j))), (0, .ref o), (1, .int (nI (suF (fun x => cnQ V 1 x) (sB V)))), (2, .int (nI (cntF (presB V) (sN V)))), (3, .int (nI (max 1 (np / 2)))), (4, .int (nI (suF (fun x => cnQ V 1 x) (j + 1)))), (5, .int (nI j)), (6, .int (nI (cnQ V 1 j))), (7, .int (nI su)), (8, .int (nI lq)), (9, .int (nI i))]) hx hb dL_makes_240 hl (by decide) rfl (fun ls hl => ?_)
                              refine lv_aload_n hx hb dL_makes_242 rfl (lv_at hl 1 rfl) ?_
                              refine lv_iload hx hb dL_makes_243 (lv_at hl 10 rfl) ?_
                              refine lv_iload hx hb dL_makes_245 (lv_at hl 6 rfl) ?_
                              refine g_runV (As := [.int (nI i), .int (nI j)]) (rest := []) (own := RL) (C := RX7) (T := TX7) (N := 7) 2 hx hb hml hown hts hK hz hP hL hS hlo hl.1 (c_X7_does l o b V tf tn (recP P) (recS C P S) kp z_1 ((nI i)) ((nI j))  τ_48 z_1 hW hV.1.1 ) gL_makes_X7_does rfl rfl rfl (by decide +kernel) ⟨Nat.le_of_ble_eq_true rfl, Nat.le_of_ble_eq_true rfl⟩ hW.c0 rfl rfl rfl (Nat.le_of_ble_eq_true rfl) dL_makes_247 ⟨Nat.le_of_ble_eq_true rfl, Nat.le_of_ble_eq_true rfl⟩ (g_kxi0 (fun r_49 τ_49 H locs z_49 hz hp hP hL hS => ?_))
                              obtain ⟨hr_49, hW, hz_49, ha_49⟩ := hp
                              have hz := hz.trans hz_49
                              subst hr_49
                              have hdo := dosQ_lt V i j
                              refine g_top (y := (nI (dosQ V i j))) (yd hV (by omega) (by omega)) ?_
                              refine lv_iconst (v := (nI 1)) hx hb dL_makes_250 (by decide) ?_
                              refine g_icmp_ne (tgt := 263) (a := dosQ V i j) (b := 1) hx hb (by omega) (by omega) dL_makes_251 (by decide) (fun c251 => ?_) (fun c251 => ?_)
                              · refine lv_iinc (v := (nI (i + 1))) (lv' := [(9, .int (nI (i + 1))), (10, .int (nI (lfN V i j))), (0, .ref o), (1, .int (nI (suF (fun x => cnQ V 1 x) (sB V)))), (2, .int (nI (cntF (presB V) (sN V)))), (3, .int (nI (max 1 (np / 2)))), (4, .int (nI (suF (fun x => cnQ V 1 x) (j + 1)))), (5, .int (nI j)), (6, .int (nI (cnQ V 1 j))), (7, .int (nI su)), (8, .int (nI lq))]) hx hb dL_makes_263 hl (k := 10) rfl (g_inc i 1) (by decide) rfl (fun ls hl => ?_)
                                refine lv_goto (tgt := 200) hx hb dL_makes_266 (by decide) ?_
                                exact ih_lpC (i + 1) (by omega) (by omega) τ_49 hW hL H locs ls hz hP hS (lv_sub hl [2, 3, 4, 5, 6, 7, 8, 9, 10, 0] rfl)
                              · refine lv_iload hx hb dL_makes_254 (lv_at hl 0 rfl) ?_
                                refine lv_iload hx hb dL_makes_256 (lv_at hl 8 rfl) ?_
                                refine g_icmp_lt (tgt := 263) (a := lfN V i j) (b := su) hx hb (by omega) (by omega) dL_makes_258 (by decide) (fun c258 => ?_) (fun c258 => absurd c258 (Nat.not_le.mpr (hPt j i su hjl hil c251 hnd (by omega))))
                                refine lv_iinc (v := (nI (i + 1))) (lv' := [(9, .int (nI (i + 1))), (10, .int (nI (lfN V i j))), (0, .ref o), (1, .int (nI (suF (fun x => cnQ V 1 x) (sB V)))), (2, .int (nI (cntF (presB V) (sN V)))), (3, .int (nI (max 1 (np / 2)))), (4, .int (nI (suF (fun x => cnQ V 1 x) (j + 1)))), (5, .int (nI j)), (6, .int (nI (cnQ V 1 j))), (7, .int (nI su)), (8, .int (nI lq))]) hx hb dL_makes_263 hl (k := 10) rfl (g_inc i 1) (by decide) rfl (fun ls hl => ?_)
                                refine lv_goto (tgt := 200) hx hb dL_makes_266 (by decide) ?_
                                exact ih_lpC (i + 1) (by omega) (by omega) τ_49 hW hL H locs ls hz hP hS (lv_sub hl [2, 3, 4, 5, 6, 7, 8, 9, 10, 0] rfl)
                    exact lpC _ 0 (by omega) (Nat.lt_succ_self _) τ_44 hW hL H locs ls hz hP hS (lv_sub hl [2, 3, 4, 5, 1, 6, 7, 8, 9, 0] rfl)
                  · obtain ⟨hso, hsi⟩ := hPe j hjl c172
                    refine lv_aload_n hx hb dL_makes_175 rfl (lv_at hl 1 rfl) ?_
                    refine lv_iload hx hb dL_makes_176 (lv_at hl 5 rfl) ?_
                    refine lv_iconst (v := (nI 3)) hx hb dL_makes_178 (by decide) ?_
                    refine g_runV (As := [.int (nI j), .int (nI 3)]) (rest := []) (own := RL) (C := RX7) (T := TX7) (N := 7) 2 hx hb hml hown hts hK hz hP hL hS hlo hl.1 (c_X7_beat l o b V tf tn (recP P) (recS C P S) kp z_1 ((nI j)) ((nI 3))  τ_44 z_1 hW hV.1.1 ) gL_makes_X7_beat rfl rfl rfl (by decide +kernel) ⟨Nat.le_of_ble_eq_true rfl, Nat.le_of_ble_eq_true rfl⟩ hW.c0 rfl rfl rfl (Nat.le_of_ble_eq_true rfl) dL_makes_179 ⟨Nat.le_of_ble_eq_true rfl, Nat.le_of_ble_eq_true rfl⟩ (g_kxi0 (fun r_50 τ_50 H locs z_50 hz hp hP hL hS => ?_))
                    obtain ⟨hr_50, hW, hz_50, ha_50⟩ := hp
                    have hz := hz.trans hz_50
                    subst hr_50
                    have hcn0 := cn_le V 0 j
                    refine g_top (y := (nI (cnQ V 0 j))) (yb_3 hV (by omega)) ?_
                    refine g_if_eq (tgt := 195) hx hb (by omega) dL_makes_182 (by decide) (fun c182 => False.elim (by omega)) (fun c182 => ?_)
                    refine lv_aload_n hx hb dL_makes_185 rfl (lv_at hl 1 rfl) ?_
                    refine lv_iload hx hb dL_makes_186 (lv_at hl 5 rfl) ?_
                    refine lv_iconst (v := (nI 4)) hx hb dL_makes_188 (by decide) ?_
                    refine g_runV (As := [.int (nI j), .int (nI 4)]) (rest := []) (own := RL) (C := RX7) (T := TX7) (N := 7) 2 hx hb hml hown hts hK hz hP hL hS hlo hl.1 (c_X7_beat l o b V tf tn (recP P) (recS C P S) kp z_1 ((nI j)) ((nI 4))  τ_50 z_1 hW hV.1.1 ) gL_makes_X7_beat rfl rfl rfl (by decide +kernel) ⟨Nat.le_of_ble_eq_true rfl, Nat.le_of_ble_eq_true rfl⟩ hW.c0 rfl rfl rfl (Nat.le_of_ble_eq_true rfl) dL_makes_189 ⟨Nat.le_of_ble_eq_true rfl, Nat.le_of_ble_eq_true rfl⟩ (g_kxi0 (fun r_51 τ_51 H locs z_51 hz hp hP hL hS => ?_))
                    obtain ⟨hr_51, hW, hz_51, ha_51⟩ := hp
                    have hz := hz.trans hz_51
                    subst hr_51
                    refine g_top (y := (oI (soloF V j))) (yb_4 hV (by omega)) ?_
                    refine g_top (y := (-5)) (by rw [hso]; rfl) ?_
                    refine lv_if_lt (tgt := 197) hx hb dL_makes_192 (by decide) (fun c192 => ?_) (fun c192 => by first | exact absurd (by decide) c192 | exact absurd c192 (by decide))
                    refine lv_iconst (v := (nI 0)) hx hb dL_makes_197 (by decide) ?_
                    refine lv_istore (lv' := [(9, .int (nI 0)), (4, .int (nI (suF (fun x => cnQ V 1 x) (j + 1)))), (0, .ref o), (1, .int (nI (suF (fun x => cnQ V 1 x) (sB V)))), (2, .int (nI (cntF (presB V) (sN V)))), (3, .int (nI (max 1 (np / 2)))), (5, .int (nI j)), (6, .int (nI (cnQ V 1 j))), (7, .int (nI su)), (8, .int (nI lq))]) hx hb dL_makes_198 hl (by decide) rfl (fun ls hl => ?_)
                    have lpC : ∀ (fu_lpC : Nat) (i : Nat), (i ≤ sN V) → (sN V - i < fu_lpC) → ∀ (υ : gS), (Wo υ o b V tf tn (recP P) (recS C P S) kp z_1) → gL lo υ → ∀ (H : Heap) (locs : List Loc) (ls : Array Slot), H.size = z_1 → gH D ka υ H → va_S (gA lo) s.heap H locs → lv_has ls 11 [(0, .ref o), (1, .int (nI (suF (fun x => cnQ V 1 x) (sB V)))), (2, .int (nI (cntF (presB V) (sN V)))), (3, .int (nI (max 1 (np / 2)))), (4, .int (nI (suF (fun x => cnQ V 1 x) (j + 1)))), (5, .int (nI j)), (6, .int (nI (cnQ V 1 j))), (7, .int (nI su)), (8, .int (nI lq)), (9, .int (nI i))] → W p l e ({ frames := 7, cells := 17, slots := 789, locals := 162 } : Room) s m ([.ref o] : List Value).toArray below meth c H locs (0 + 17) (0 + 789) (MQ below (gQ D ka lo (gxi (fun r τ n => r = nI 1 ∧ ∃ (S2 : sS) (P2 : Nat) (C2 : Nat → sS), Wo τ o b S2 tf tn P2 C2 kp n ∧ okY S2 ∧ sB S2 = sB S ∧ sN S2 = sN S ∧ okC P2 C2 kp ∧ sz ≤ n ∧ n ≤ sz + 17))) ([.ref o] : List Value).toArray s 17 789 (gA lo)) (F0 m 200 ls []) := by
                      intro fu_lpC
                      induction fu_lpC with
                      | zero => intro i hi hm_lpC; exact absurd hm_lpC (Nat.not_lt_zero _)
                      | succ fu_lpC ih_lpC =>
                        intro i hi hm_lpC υ hW hL H locs ls hz hP hS hl
                        refine lv_iload hx hb dL_makes_200 (lv_at hl 9 rfl) ?_
                        refine lv_aload_n hx hb dL_makes_202 rfl (lv_at hl 0 rfl) ?_
                        refine lv_iconst (v := (nI 3)) hx hb dL_makes_203 (by decide) ?_
                        refine g_runV (As := [.int (nI 3)]) (rest := [.int (nI i)]) (own := RL) (C := RX7) (T := TX7) (N := 7) 1 hx hb hml hown hts hK hz hP hL hS hlo hl.1 (c_X7_count l o b V tf tn (recP P) (recS C P S) kp z_1 ((nI 3))  υ z_1 hW hV.1.1 ) gL_makes_X7_count rfl rfl rfl (by decide +kernel) ⟨Nat.le_of_ble_eq_true rfl, Nat.le_of_ble_eq_true rfl⟩ hW.c0 rfl rfl rfl (Nat.le_of_ble_eq_true rfl) dL_makes_204 ⟨Nat.le_of_ble_eq_true rfl, Nat.le_of_ble_eq_true rfl⟩ (g_kxi0 (fun r_52 τ_52 H locs z_52 hz hp hP hL hS => ?_))
                        obtain ⟨hr_52, hW, hz_52, ha_52⟩ := hp
                        have hz := hz.trans hz_52
                        subst hr_52
                        refine g_top (y := (nI (sN V))) yc_3 ?_
                        refine g_icmp_ge (tgt := 269) (a := i) (b := sN V) hx hb (by omega) (by omega) dL_makes_207 (by decide) (fun c207 => ?_) (fun c207 => ?_)
                        · refine lv_iinc (v := (nI (j + 1))) (lv' := [(5, .int (nI (j + 1))), (0, .ref o), (1, .int (nI (suF (fun x => cnQ V 1 x) (sB V)))), (2, .int (nI (cntF (presB V) (sN V)))), (3, .int (nI (max 1 (np / 2)))), (4, .int (nI (suF (fun x => cnQ V 1 x) (j + 1)))), (6, .int (nI (cnQ V 1 j))), (7, .int (nI su)), (8, .int (nI lq)), (9, .int (nI i))]) hx hb dL_makes_269 hl (k := 5) rfl (g_inc j 1) (by decide) rfl (fun ls hl => ?_)
                          refine lv_goto (tgt := 56) hx hb dL_makes_272 (by decide) ?_
                          exact ih_lpA (j + 1) (by omega) (by omega) τ_52 hW hL H locs ls hz hP hS (lv_sub hl [1, 2, 3, 4, 5, 0] rfl)
                        · refine lv_iload hx hb dL_makes_210 (lv_at hl 6 rfl) ?_
                          refine g_if_le (tgt := 269) hx hb (by omega) dL_makes_212 (by decide) (fun c212 => ?_) (fun c212 => ?_)
                          · refine lv_iinc (v := (nI (j + 1))) (lv' := [(5, .int (nI (j + 1))), (0, .ref o), (1, .int (nI (suF (fun x => cnQ V 1 x) (sB V)))), (2, .int (nI (cntF (presB V) (sN V)))), (3, .int (nI (max 1 (np / 2)))), (4, .int (nI (suF (fun x => cnQ V 1 x) (j + 1)))), (6, .int (nI (cnQ V 1 j))), (7, .int (nI su)), (8, .int (nI lq)), (9, .int (nI i))]) hx hb dL_makes_269 hl (k := 5) rfl (g_inc j 1) (by decide) rfl (fun ls hl => ?_)
                            refine lv_goto (tgt := 56) hx hb dL_makes_272 (by decide) ?_
                            exact ih_lpA (j + 1) (by omega) (by omega) τ_52 hW hL H locs ls hz hP hS (lv_sub hl [1, 2, 3, 4, 5, 0] rfl)
                          · have hil0 : i < sN V := by omega
                            have hbri := hV.br (i := i) hil0
                            have hil : i < sN V := by omega
                            have hlfj := lfN_le hV (i := i) (k := j) hil (by omega)
                            refine lv_iload hx hb dL_makes_215 (lv_at hl 5 rfl) ?_
                            refine g_if_ne (tgt := 230) hx hb (by omega) dL_makes_217 (by decide) (fun c217 => ?_) (fun c217 => ?_)
                            · refine lv_aload_n hx hb dL_makes_230 rfl (lv_at hl 0 rfl) ?_
                              refine lv_iload hx hb dL_makes_231 (lv_at hl 9 rfl) ?_
                              refine lv_iload hx hb dL_makes_233 (lv_at hl 5 rfl) ?_
                              refine lv_iconst (v := (nI 1)) hx hb dL_makes_235 (by decide) ?_
                              refine lv_isub hx hb dL_makes_236 ?_
                              refine g_top (pk_sub (by omega : 1 ≤ j)) ?_
                              refine g_runV (As := [.int (nI i), .int (nI (j - 1))]) (rest := []) (own := RL) (C := RX7) (T := TX7) (N := 7) 2 hx hb hml hown hts hK hz hP hL hS hlo hl.1 (c_X7_left l o b V tf tn (recP P) (recS C P S) kp z_1 ((nI i)) ((nI (j - 1)))  τ_52 z_1 hW hV.1.1 ) gL_makes_X7_left rfl rfl rfl (by decide +kernel) ⟨Nat.le_of_ble_eq_true rfl, Nat.le_of_ble_eq_true rfl⟩ hW.c0 rfl rfl rfl (Nat.le_of_ble_eq_true rfl) dL_makes_237 ⟨Nat.le_of_ble_eq_true rfl, Nat.le_of_ble_eq_true rfl⟩ (g_kxi0 (fun r_53 τ_53 H locs z_53 hz hp hP hL hS => ?_))
                              obtain ⟨hr_53, hW, hz_53, ha_53⟩ := hp
                              have hz := hz.trans hz_53
                              subst hr_53
                              have hlf := lfN_le hV (i := i) (k := j - 1 + 1) (by omega) (by omega)
                              refine g_top (y := (nI (lfN V i (j - 1 + 1)))) (yl hV (by omega) (by omega)) ?_
                              refine g_top (y := (nI (lfN V i j))) (congrArg nI (by rw [Nat.sub_add_cancel (by omega)])) ?_
                              refine lv_istore (lv' := [(10, .int (nI (lfN V i j))), (0, .ref o), (1, .int (nI (suF (fun x => cnQ V 1 x) (sB V)))), (2, .int (nI (cntF (presB V) (sN V)))), (3, .int (nI (max 1 (np / 2)))), (4, .int (nI (suF (fun x => cnQ V 1 x) (j + 1)))), (5, .int (nI j)), (6, .int (nI (cnQ V 1 j))), (7, .int (nI su)), (8, .int (nI lq)), (9, .int (nI i))]) hx hb dL_makes_240 hl (by decide) rfl (fun ls hl => ?_)
                              refine lv_aload_n hx hb dL_makes_242 rfl (lv_at hl 1 rfl) ?_
                              refine lv_iload hx hb dL_makes_243 (lv_at hl 10 rfl) ?_
                              refine lv_iload hx hb dL_makes_245 (lv_at hl 6 rfl) ?_
                              refine g_runV (As := [.int (nI i), .int (nI j)]) (rest := []) (own := RL) (C := RX7) (T := TX7) (N := 7) 2 hx hb hml hown hts hK hz hP hL hS hlo hl.1 (c_X7_does l o b V tf tn (recP P) (recS C P S) kp z_1 ((nI i)) ((nI j))  τ_53 z_1 hW hV.1.1 ) gL_makes_X7_does rfl rfl rfl (by decide +kernel) ⟨Nat.le_of_ble_eq_true rfl, Nat.le_of_ble_eq_true rfl⟩ hW.c0 rfl rfl rfl (Nat.le_of_ble_eq_true rfl) dL_makes_247 ⟨Nat.le_of_ble_eq_true rfl, Nat.le_of_ble_eq_true rfl⟩ (g_kxi0 (fun r_54 τ_54 H locs z_54 hz hp hP hL hS => ?_))
                              obtain ⟨hr_54, hW, hz_54, ha_54⟩ := hp
                              have hz := hz.trans hz_54
                              subst hr_54
                              have hdo := dosQ_lt V i j
                              refine g_top (y := (nI (dosQ V i j))) (yd hV (by omega) (by omega)) ?_
                              refine lv_iconst (v := (nI 1)) hx hb dL_makes_250 (by decide) ?_
                              refine g_icmp_ne (tgt := 263) (a := dosQ V i j) (b := 1) hx hb (by omega) (by omega) dL_makes_251 (by decide) (fun c251 => ?_) (fun c251 => ?_)
                              · refine lv_iinc (v := (nI (i + 1))) (lv' := [(9, .int (nI (i + 1))), (10, .int (nI (lfN V i j))), (0, .ref o), (1, .int (nI (suF (fun x => cnQ V 1 x) (sB V)))), (2, .int (nI (cntF (presB V) (sN V)))), (3, .int (nI (max 1 (np / 2)))), (4, .int (nI (suF (fun x => cnQ V 1 x) (j + 1)))), (5, .int (nI j)), (6, .int (nI (cnQ V 1 j))), (7, .int (nI su)), (8, .int (nI lq))]) hx hb dL_makes_263 hl (k := 10) rfl (g_inc i 1) (by decide) rfl (fun ls hl => ?_)
                                refine lv_goto (tgt := 200) hx hb dL_makes_266 (by decide) ?_
                                exact ih_lpC (i + 1) (by omega) (by omega) τ_54 hW hL H locs ls hz hP hS (lv_sub hl [2, 3, 4, 5, 6, 7, 8, 9, 10, 0] rfl)
                              · refine lv_iload hx hb dL_makes_254 (lv_at hl 0 rfl) ?_
                                refine lv_iload hx hb dL_makes_256 (lv_at hl 8 rfl) ?_
                                refine g_icmp_lt (tgt := 263) (a := lfN V i j) (b := su) hx hb (by omega) (by omega) dL_makes_258 (by decide) (fun c258 => ?_) (fun c258 => absurd c258 (Nat.not_le.mpr (hPt j i su hjl hil c251 hnd (by omega))))
                                refine lv_iinc (v := (nI (i + 1))) (lv' := [(9, .int (nI (i + 1))), (10, .int (nI (lfN V i j))), (0, .ref o), (1, .int (nI (suF (fun x => cnQ V 1 x) (sB V)))), (2, .int (nI (cntF (presB V) (sN V)))), (3, .int (nI (max 1 (np / 2)))), (4, .int (nI (suF (fun x => cnQ V 1 x) (j + 1)))), (5, .int (nI j)), (6, .int (nI (cnQ V 1 j))), (7, .int (nI su)), (8, .int (nI lq))]) hx hb dL_makes_263 hl (k := 10) rfl (g_inc i 1) (by decide) rfl (fun ls hl => ?_)
                                refine lv_goto (tgt := 200) hx hb dL_makes_266 (by decide) ?_
                                exact ih_lpC (i + 1) (by omega) (by omega) τ_54 hW hL H locs ls hz hP hS (lv_sub hl [2, 3, 4, 5, 6, 7, 8, 9, 10, 0] rfl)
                            · refine lv_aload_n hx hb dL_makes_220 rfl (lv_at hl 0 rfl) ?_
                              refine lv_iload hx hb dL_makes_221 (lv_at hl 9 rfl) ?_
                              refine lv_iconst (v := (nI 0)) hx hb dL_makes_223 (by decide) ?_
                              refine g_runV (As := [.int (nI i), .int (nI 0)]) (rest := []) (own := RL) (C := RX7) (T := TX7) (N := 7) 2 hx hb hml hown hts hK hz hP hL hS hlo hl.1 (c_X7_singer l o b V tf tn (recP P) (recS C P S) kp z_1 ((nI i)) ((nI 0))  τ_52 z_1 hW hV.1.1 ) gL_makes_X7_singer rfl rfl rfl (by decide +kernel) ⟨Nat.le_of_ble_eq_true rfl, Nat.le_of_ble_eq_true rfl⟩ hW.c0 rfl rfl rfl (Nat.le_of_ble_eq_true rfl) dL_makes_224 ⟨Nat.le_of_ble_eq_true rfl, Nat.le_of_ble_eq_true rfl⟩ (g_kxi0 (fun r_55 τ_55 H locs z_55 hz hp hP hL hS => ?_))
                              obtain ⟨hr_55, hW, hz_55, ha_55⟩ := hp
                              have hz := hz.trans hz_55
                              subst hr_55
                              have hbr := hV.br (i := i) (by omega)
                              refine g_top (y := (nI (tk (V 3 i)))) (yn_0 hV (by omega)) ?_
                              refine lv_goto (tgt := 240) hx hb dL_makes_227 (by decide) ?_
                              refine g_top (y := (nI (lfN V i j))) (congrArg nI (by rw [c217]; rfl)) ?_
                              refine lv_istore (lv' := [(10, .int (nI (lfN V i j))), (0, .ref o), (1, .int (nI (suF (fun x => cnQ V 1 x) (sB V)))), (2, .int (nI (cntF (presB V) (sN V)))), (3, .int (nI (max 1 (np / 2)))), (4, .int (nI (suF (fun x => cnQ V 1 x) (j + 1)))), (5, .int (nI j)), (6, .int (nI (cnQ V 1 j))), (7, .int (nI su)), (8, .int (nI lq)), (9, .int (nI i))]) hx hb dL_makes_240 hl (by decide) rfl (fun ls hl => ?_)
                              refine lv_aload_n hx hb dL_makes_242 rfl (lv_at hl 1 rfl) ?_
                              refine lv_iload hx hb dL_makes_243 (lv_at hl 10 rfl) ?_
                              refine lv_iload hx hb dL_makes_245 (lv_at hl 6 rfl) ?_
                              refine g_runV (As := [.int (nI i), .int (nI j)]) (rest := []) (own := RL) (C := RX7) (T := TX7) (N := 7) 2 hx hb hml hown hts hK hz hP hL hS hlo hl.1 (c_X7_does l o b V tf tn (recP P) (recS C P S) kp z_1 ((nI i)) ((nI j))  τ_55 z_1 hW hV.1.1 ) gL_makes_X7_does rfl rfl rfl (by decide +kernel) ⟨Nat.le_of_ble_eq_true rfl, Nat.le_of_ble_eq_true rfl⟩ hW.c0 rfl rfl rfl (Nat.le_of_ble_eq_true rfl) dL_makes_247 ⟨Nat.le_of_ble_eq_true rfl, Nat.le_of_ble_eq_true rfl⟩ (g_kxi0 (fun r_56 τ_56 H locs z_56 hz hp hP hL hS => ?_))
                              obtain ⟨hr_56, hW, hz_56, ha_56⟩ := hp
                              have hz := hz.trans hz_56
                              subst hr_56
                              have hdo := dosQ_lt V i j
                              refine g_top (y := (nI (dosQ V i j))) (yd hV (by omega) (by omega)) ?_
                              refine lv_iconst (v := (nI 1)) hx hb dL_makes_250 (by decide) ?_
                              refine g_icmp_ne (tgt := 263) (a := dosQ V i j) (b := 1) hx hb (by omega) (by omega) dL_makes_251 (by decide) (fun c251 => ?_) (fun c251 => ?_)
                              · refine lv_iinc (v := (nI (i + 1))) (lv' := [(9, .int (nI (i + 1))), (10, .int (nI (lfN V i j))), (0, .ref o), (1, .int (nI (suF (fun x => cnQ V 1 x) (sB V)))), (2, .int (nI (cntF (presB V) (sN V)))), (3, .int (nI (max 1 (np / 2)))), (4, .int (nI (suF (fun x => cnQ V 1 x) (j + 1)))), (5, .int (nI j)), (6, .int (nI (cnQ V 1 j))), (7, .int (nI su)), (8, .int (nI lq))]) hx hb dL_makes_263 hl (k := 10) rfl (g_inc i 1) (by decide) rfl (fun ls hl => ?_)
                                refine lv_goto (tgt := 200) hx hb dL_makes_266 (by decide) ?_
                                exact ih_lpC (i + 1) (by omega) (by omega) τ_56 hW hL H locs ls hz hP hS (lv_sub hl [2, 3, 4, 5, 6, 7, 8, 9, 10, 0] rfl)
                              · refine lv_iload hx hb dL_makes_254 (lv_at hl 0 rfl) ?_
                                refine lv_iload hx hb dL_makes_256 (lv_at hl 8 rfl) ?_
                                refine g_icmp_lt (tgt := 263) (a := lfN V i j) (b := su) hx hb (by omega) (by omega) dL_makes_258 (by decide) (fun c258 => ?_) (fun c258 => absurd c258 (Nat.not_le.mpr (hPt j i su hjl hil c251 hnd (by omega))))
                                refine lv_iinc (v := (nI (i + 1))) (lv' := [(9, .int (nI (i + 1))), (10, .int (nI (lfN V i j))), (0, .ref o), (1, .int (nI (suF (fun x => cnQ V 1 x) (sB V)))), (2, .int (nI (cntF (presB V) (sN V)))), (3, .int (nI (max 1 (np / 2)))), (4, .int (nI (suF (fun x => cnQ V 1 x) (j + 1)))), (5, .int (nI j)), (6, .int (nI (cnQ V 1 j))), (7, .int (nI su)), (8, .int (nI lq))]) hx hb dL_makes_263 hl (k := 10) rfl (g_inc i 1) (by decide) rfl (fun ls hl => ?_)
                                refine lv_goto (tgt := 200) hx hb dL_makes_266 (by decide) ?_
                                exact ih_lpC (i + 1) (by omega) (by omega) τ_56 hW hL H locs ls hz hP hS (lv_sub hl [2, 3, 4, 5, 6, 7, 8, 9, 10, 0] rfl)
                    exact lpC _ 0 (by omega) (Nat.lt_succ_self _) τ_51 hW hL H locs ls hz hP hS (lv_sub hl [2, 3, 4, 5, 1, 6, 7, 8, 9, 0] rfl)
                · refine lv_iload hx hb dL_makes_100 (lv_at hl 8 rfl) ?_
                  refine g_if_le (tgt := 157) hx hb (by omega) dL_makes_102 (by decide) (fun c102 => ?_) (fun c102 => ?_)
                  · have hnd := ne_e hy hq8 (Or.inr c102) hne
                    refine lv_iload hx hb dL_makes_157 (lv_at hl 4 rfl) ?_
                    refine lv_iload hx hb dL_makes_159 (lv_at hl 6 rfl) ?_
                    refine lv_iadd hx hb dL_makes_161 ?_
                    refine g_top (nI_add (suF (fun x => cnQ V 1 x) j) (cnQ V 1 j)) ?_
                    refine g_top (y := (nI (suF (fun x => cnQ V 1 x) (j + 1)))) rfl ?_
                    refine lv_istore (lv' := [(4, .int (nI (suF (fun x => cnQ V 1 x) (j + 1)))), (0, .ref o), (1, .int (nI (suF (fun x => cnQ V 1 x) (sB V)))), (2, .int (nI (cntF (presB V) (sN V)))), (3, .int (nI (max 1 (np / 2)))), (5, .int (nI j)), (6, .int (nI (cnQ V 1 j))), (7, .int (nI su)), (8, .int (nI lq)), (9, .int (nI y))]) hx hb dL_makes_162 hl (by decide) rfl (fun ls hl => ?_)
                    refine lv_iload hx hb dL_makes_164 (lv_at hl 6 rfl) ?_
                    refine lv_iload_n hx hb dL_makes_166 rfl (lv_at hl 4 rfl) ?_
                    refine g_icmp_gt (tgt := 195) (a := cnQ V 1 j) (b := max 1 (np / 2)) hx hb (by omega) (by omega) dL_makes_167 (by decide) (fun c167 => False.elim (by omega)) (fun c167 => ?_)
                    refine lv_iload hx hb dL_makes_170 (lv_at hl 6 rfl) ?_
                    refine g_if_le (tgt := 197) hx hb (by omega) dL_makes_172 (by decide) (fun c172 => ?_) (fun c172 => ?_)
                    · refine lv_iconst (v := (nI 0)) hx hb dL_makes_197 (by decide) ?_
                      refine lv_istore (lv' := [(9, .int (nI 0)), (4, .int (nI (suF (fun x => cnQ V 1 x) (j + 1)))), (0, .ref o), (1, .int (nI (suF (fun x => cnQ V 1 x) (sB V)))), (2, .int (nI (cntF (presB V) (sN V)))), (3, .int (nI (max 1 (np / 2)))), (5, .int (nI j)), (6, .int (nI (cnQ V 1 j))), (7, .int (nI su)), (8, .int (nI lq))]) hx hb dL_makes_198 hl (by decide) rfl (fun ls hl => ?_)
                      have lpC : ∀ (fu_lpC : Nat) (i : Nat), (i ≤ sN V) → (sN V - i < fu_lpC) → ∀ (υ : gS), (Wo υ o b V tf tn (recP P) (recS C P S) kp z_1) → gL lo υ → ∀ (H : Heap) (locs : List Loc) (ls : Array Slot), H.size = z_1 → gH D ka υ H → va_S (gA lo) s.heap H locs → lv_has ls 11 [(0, .ref o), (1, .int (nI (suF (fun x => cnQ V 1 x) (sB V)))), (2, .int (nI (cntF (presB V) (sN V)))), (3, .int (nI (max 1 (np / 2)))), (4, .int (nI (suF (fun x => cnQ V 1 x) (j + 1)))), (5, .int (nI j)), (6, .int (nI (cnQ V 1 j))), (7, .int (nI su)), (8, .int (nI lq)), (9, .int (nI i))] → W p l e ({ frames := 7, cells := 17, slots := 789, locals := 162 } : Room) s m ([.ref o] : List Value).toArray below meth c H locs (0 + 17) (0 + 789) (MQ below (gQ D ka lo (gxi (fun r τ n => r = nI 1 ∧ ∃ (S2 : sS) (P2 : Nat) (C2 : Nat → sS), Wo τ o b S2 tf tn P2 C2 kp n ∧ okY S2 ∧ sB S2 = sB S ∧ sN S2 = sN S ∧ okC P2 C2 kp ∧ sz ≤ n ∧ n ≤ sz + 17))) ([.ref o] : List Value).toArray s 17 789 (gA lo)) (F0 m 200 ls []) := by
                        intro fu_lpC
                        induction fu_lpC with
                        | zero => intro i hi hm_lpC; exact absurd hm_lpC (Nat.not_lt_zero _)
                        | succ fu_lpC ih_lpC =>
                          intro i hi hm_lpC υ hW hL H locs ls hz hP hS hl
                          refine lv_iload hx hb dL_makes_200 (lv_at hl 9 rfl) ?_
                          refine lv_aload_n hx hb dL_makes_202 rfl (lv_at hl 0 rfl) ?_
                          refine lv_iconst (v := (nI 3)) hx hb dL_makes_203 (by decide) ?_
                          refine g_runV (As := [.int (nI 3)]) (rest := [.int (nI i)]) (own := RL) (C := RX7) (T := TX7) (N := 7) 1 hx hb hml hown hts hK hz hP hL hS hlo hl.1 (c_X7_count l o b V tf tn (recP P) (recS C P S) kp z_1 ((nI 3))  υ z_1 hW hV.1.1 ) gL_makes_X7_count rfl rfl rfl (by decide +kernel) ⟨Nat.le_of_ble_eq_true rfl, Nat.le_of_ble_eq_true rfl⟩ hW.c0 rfl rfl rfl (Nat.le_of_ble_eq_true rfl) dL_makes_204 ⟨Nat.le_of_ble_eq_true rfl, Nat.le_of_ble_eq_true rfl⟩ (g_kxi0 (fun r_57 τ_57 H locs z_57 hz hp hP hL hS => ?_))
                          obtain ⟨hr_57, hW, hz_57, ha_57⟩ := hp
                          have hz := hz.trans hz_57
                          subst hr_57
                          refine g_top (y := (nI (sN V))) yc_3 ?_
                          refine g_icmp_ge (tgt := 269) (a := i) (b := sN V) hx hb (by omega) (by omega) dL_makes_207 (by decide) (fun c207 => ?_) (fun c207 => ?_)
                          · refine lv_iinc (v := (nI (j + 1))) (lv' := [(5, .int (nI (j + 1))), (0, .ref o), (1, .int (nI (suF (fun x => cnQ V 1 x) (sB V)))), (2, .int (nI (cntF (presB V) (sN V)))), (3, .int (nI (max 1 (np / 2)))), (4, .int (nI (suF (fun x => cnQ V 1 x) (j + 1)))), (6, .int (nI (cnQ V 1 j))), (7, .int (nI su)), (8, .int (nI lq)), (9, .int (nI i))]) hx hb dL_makes_269 hl (k := 5) rfl (g_inc j 1) (by decide) rfl (fun ls hl => ?_)
                            refine lv_goto (tgt := 56) hx hb dL_makes_272 (by decide) ?_
                            exact ih_lpA (j + 1) (by omega) (by omega) τ_57 hW hL H locs ls hz hP hS (lv_sub hl [1, 2, 3, 4, 5, 0] rfl)
                          · refine lv_iload hx hb dL_makes_210 (lv_at hl 6 rfl) ?_
                            refine g_if_le (tgt := 269) hx hb (by omega) dL_makes_212 (by decide) (fun c212 => ?_) (fun c212 => ?_)
                            · refine lv_iinc (v := (nI (j + 1))) (lv' := [(5, .int (nI (j + 1))), (0, .ref o), (1, .int (nI (suF (fun x => cnQ V 1 x) (sB V)))), (2, .int (nI (cntF (presB V) (sN V)))), (3, .int (nI (max 1 (np / 2)))), (4, .int (nI (suF (fun x => cnQ V 1 x) (j + 1)))), (6, .int (nI (cnQ V 1 j))), (7, .int (nI su)), (8, .int (nI lq)), (9, .int (nI i))]) hx hb dL_makes_269 hl (k := 5) rfl (g_inc j 1) (by decide) rfl (fun ls hl => ?_)
                              refine lv_goto (tgt := 56) hx hb dL_makes_272 (by decide) ?_
                              exact ih_lpA (j + 1) (by omega) (by omega) τ_57 hW hL H locs ls hz hP hS (lv_sub hl [1, 2, 3, 4, 5, 0] rfl)
                            · have hil0 : i < sN V := by omega
                              have hbri := hV.br (i := i) hil0
                              have hil : i < sN V := by omega
                              have hlfj := lfN_le hV (i := i) (k := j) hil (by omega)
                              refine lv_iload hx hb dL_makes_215 (lv_at hl 5 rfl) ?_
                              refine g_if_ne (tgt := 230) hx hb (by omega) dL_makes_217 (by decide) (fun c217 => ?_) (fun c217 => ?_)
                              · refine lv_aload_n hx hb dL_makes_230 rfl (lv_at hl 0 rfl) ?_
                                refine lv_iload hx hb dL_makes_231 (lv_at hl 9 rfl) ?_
                                refine lv_iload hx hb dL_makes_233 (lv_at hl 5 rfl) ?_
                                refine lv_iconst (v := (nI 1)) hx hb dL_makes_235 (by decide) ?_
                                refine lv_isub hx hb dL_makes_236 ?_
                                refine g_top (pk_sub (by omega : 1 ≤ j)) ?_
                                refine g_runV (As := [.int (nI i), .int (nI (j - 1))]) (rest := []) (own := RL) (C := RX7) (T := TX7) (N := 7) 2 hx hb hml hown hts hK hz hP hL hS hlo hl.1 (c_X7_left l o b V tf tn (recP P) (recS C P S) kp z_1 ((nI i)) ((nI (j - 1)))  τ_57 z_1 hW hV.1.1 ) gL_makes_X7_left rfl rfl rfl (by decide +kernel) ⟨Nat.le_of_ble_eq_true rfl, Nat.le_of_ble_eq_true rfl⟩ hW.c0 rfl rfl rfl (Nat.le_of_ble_eq_true rfl) dL_makes_237 ⟨Nat.le_of_ble_eq_true rfl, Nat.le_of_ble_eq_true rfl⟩ (g_kxi0 (fun r_58 τ_58 H locs z_58 hz hp hP hL hS => ?_))
                                obtain ⟨hr_58, hW, hz_58, ha_58⟩ := hp
                                have hz := hz.trans hz_58
                                subst hr_58
                                have hlf := lfN_le hV (i := i) (k := j - 1 + 1) (by omega) (by omega)
                                refine g_top (y := (nI (lfN V i (j - 1 + 1)))) (yl hV (by omega) (by omega)) ?_
                                refine g_top (y := (nI (lfN V i j))) (congrArg nI (by rw [Nat.sub_add_cancel (by omega)])) ?_
                                refine lv_istore (lv' := [(10, .int (nI (lfN V i j))), (0, .ref o), (1, .int (nI (suF (fun x => cnQ V 1 x) (sB V)))), (2, .int (nI (cntF (presB V) (sN V)))), (3, .int (nI (max 1 (np / 2)))), (4, .int (nI (suF (fun x => cnQ V 1 x) (j + 1)))), (5, .int (nI j)), (6, .int (nI (cnQ V 1 j))), (7, .int (nI su)), (8, .int (nI lq)), (9, .int (nI i))]) hx hb dL_makes_240 hl (by decide) rfl (fun ls hl => ?_)
                                refine lv_aload_n hx hb dL_makes_242 rfl (lv_at hl 1 rfl) ?_
                                refine lv_iload hx hb dL_makes_243 (lv_at hl 10 rfl) ?_
                                refine lv_iload hx hb dL_makes_245 (lv_at hl 6 rfl) ?_
                                refine g_runV (As := [.int (nI i), .int (nI j)]) (rest := []) (own := RL) (C := RX7) (T := TX7) (N := 7) 2 hx hb hml hown hts hK hz hP hL hS hlo hl.1 (c_X7_does l o b V tf tn (recP P) (recS C P S) kp z_1 ((nI i)) ((nI j))  τ_58 z_1 hW hV.1.1 ) gL_makes_X7_does rfl rfl rfl (by decide +kernel) ⟨Nat.le_of_ble_eq_true rfl, Nat.le_of_ble_eq_true rfl⟩ hW.c0 rfl rfl rfl (Nat.le_of_ble_eq_true rfl) dL_makes_247 ⟨Nat.le_of_ble_eq_true rfl, Nat.le_of_ble_eq_true rfl⟩ (g_kxi0 (fun r_59 τ_59 H locs z_59 hz hp hP hL hS => ?_))
                                obtain ⟨hr_59, hW, hz_59, ha_59⟩ := hp
                                have hz := hz.trans hz_59
                                subst hr_59
                                have hdo := dosQ_lt V i j
                                refine g_top (y := (nI (dosQ V i j))) (yd hV (by omega) (by omega)) ?_
                                refine lv_iconst (v := (nI 1)) hx hb dL_makes_250 (by decide) ?_
                                refine g_icmp_ne (tgt := 263) (a := dosQ V i j) (b := 1) hx hb (by omega) (by omega) dL_makes_251 (by decide) (fun c251 => ?_) (fun c251 => ?_)
                                · refine lv_iinc (v := (nI (i + 1))) (lv' := [(9, .int (nI (i + 1))), (10, .int (nI (lfN V i j))), (0, .ref o), (1, .int (nI (suF (fun x => cnQ V 1 x) (sB V)))), (2, .int (nI (cntF (presB V) (sN V)))), (3, .int (nI (max 1 (np / 2)))), (4, .int (nI (suF (fun x => cnQ V 1 x) (j + 1)))), (5, .int (nI j)), (6, .int (nI (cnQ V 1 j))), (7, .int (nI su)), (8, .int (nI lq))]) hx hb dL_makes_263 hl (k := 10) rfl (g_inc i 1) (by decide) rfl (fun ls hl => ?_)
                                  refine lv_goto (tgt := 200) hx hb dL_makes_266 (by decide) ?_
                                  exact ih_lpC (i + 1) (by omega) (by omega) τ_59 hW hL H locs ls hz hP hS (lv_sub hl [2, 3, 4, 5, 6, 7, 8, 9, 10, 0] rfl)
                                · refine lv_iload hx hb dL_makes_254 (lv_at hl 0 rfl) ?_
                                  refine lv_iload hx hb dL_makes_256 (lv_at hl 8 rfl) ?_
                                  refine g_icmp_lt (tgt := 263) (a := lfN V i j) (b := su) hx hb (by omega) (by omega) dL_makes_258 (by decide) (fun c258 => ?_) (fun c258 => absurd c258 (Nat.not_le.mpr (hPt j i su hjl hil c251 hnd (by omega))))
                                  refine lv_iinc (v := (nI (i + 1))) (lv' := [(9, .int (nI (i + 1))), (10, .int (nI (lfN V i j))), (0, .ref o), (1, .int (nI (suF (fun x => cnQ V 1 x) (sB V)))), (2, .int (nI (cntF (presB V) (sN V)))), (3, .int (nI (max 1 (np / 2)))), (4, .int (nI (suF (fun x => cnQ V 1 x) (j + 1)))), (5, .int (nI j)), (6, .int (nI (cnQ V 1 j))), (7, .int (nI su)), (8, .int (nI lq))]) hx hb dL_makes_263 hl (k := 10) rfl (g_inc i 1) (by decide) rfl (fun ls hl => ?_)
                                  refine lv_goto (tgt := 200) hx hb dL_makes_266 (by decide) ?_
                                  exact ih_lpC (i + 1) (by omega) (by omega) τ_59 hW hL H locs ls hz hP hS (lv_sub hl [2, 3, 4, 5, 6, 7, 8, 9, 10, 0] rfl)
                              · refine lv_aload_n hx hb dL_makes_220 rfl (lv_at hl 0 rfl) ?_
                                refine lv_iload hx hb dL_makes_221 (lv_at hl 9 rfl) ?_
                                refine lv_iconst (v := (nI 0)) hx hb dL_makes_223 (by decide) ?_
                                refine g_runV (As := [.int (nI i), .int (nI 0)]) (rest := []) (own := RL) (C := RX7) (T := TX7) (N := 7) 2 hx hb hml hown hts hK hz hP hL hS hlo hl.1 (c_X7_singer l o b V tf tn (recP P) (recS C P S) kp z_1 ((nI i)) ((nI 0))  τ_57 z_1 hW hV.1.1 ) gL_makes_X7_singer rfl rfl rfl (by decide +kernel) ⟨Nat.le_of_ble_eq_true rfl, Nat.le_of_ble_eq_true rfl⟩ hW.c0 rfl rfl rfl (Nat.le_of_ble_eq_true rfl) dL_makes_224 ⟨Nat.le_of_ble_eq_true rfl, Nat.le_of_ble_eq_true rfl⟩ (g_kxi0 (fun r_60 τ_60 H locs z_60 hz hp hP hL hS => ?_))
                                obtain ⟨hr_60, hW, hz_60, ha_60⟩ := hp
                                have hz := hz.trans hz_60
                                subst hr_60
                                have hbr := hV.br (i := i) (by omega)
                                refine g_top (y := (nI (tk (V 3 i)))) (yn_0 hV (by omega)) ?_
                                refine lv_goto (tgt := 240) hx hb dL_makes_227 (by decide) ?_
                                refine g_top (y := (nI (lfN V i j))) (congrArg nI (by rw [c217]; rfl)) ?_
                                refine lv_istore (lv' := [(10, .int (nI (lfN V i j))), (0, .ref o), (1, .int (nI (suF (fun x => cnQ V 1 x) (sB V)))), (2, .int (nI (cntF (presB V) (sN V)))), (3, .int (nI (max 1 (np / 2)))), (4, .int (nI (suF (fun x => cnQ V 1 x) (j + 1)))), (5, .int (nI j)), (6, .int (nI (cnQ V 1 j))), (7, .int (nI su)), (8, .int (nI lq)), (9, .int (nI i))]) hx hb dL_makes_240 hl (by decide) rfl (fun ls hl => ?_)
                                refine lv_aload_n hx hb dL_makes_242 rfl (lv_at hl 1 rfl) ?_
                                refine lv_iload hx hb dL_makes_243 (lv_at hl 10 rfl) ?_
                                refine lv_iload hx hb dL_makes_245 (lv_at hl 6 rfl) ?_
                                refine g_runV (As := [.int (nI i), .int (nI j)]) (rest := []) (own := RL) (C := RX7) (T := TX7) (N := 7) 2 hx hb hml hown hts hK hz hP hL hS hlo hl.1 (c_X7_does l o b V tf tn (recP P) (recS C P S) kp z_1 ((nI i)) ((nI j))  τ_60 z_1 hW hV.1.1 ) gL_makes_X7_does rfl rfl rfl (by decide +kernel) ⟨Nat.le_of_ble_eq_true rfl, Nat.le_of_ble_eq_true rfl⟩ hW.c0 rfl rfl rfl (Nat.le_of_ble_eq_true rfl) dL_makes_247 ⟨Nat.le_of_ble_eq_true rfl, Nat.le_of_ble_eq_true rfl⟩ (g_kxi0 (fun r_61 τ_61 H locs z_61 hz hp hP hL hS => ?_))
                                obtain ⟨hr_61, hW, hz_61, ha_61⟩ := hp
                                have hz := hz.trans hz_61
                                subst hr_61
                                have hdo := dosQ_lt V i j
                                refine g_top (y := (nI (dosQ V i j))) (yd hV (by omega) (by omega)) ?_
                                refine lv_iconst (v := (nI 1)) hx hb dL_makes_250 (by decide) ?_
                                refine g_icmp_ne (tgt := 263) (a := dosQ V i j) (b := 1) hx hb (by omega) (by omega) dL_makes_251 (by decide) (fun c251 => ?_) (fun c251 => ?_)
                                · refine lv_iinc (v := (nI (i + 1))) (lv' := [(9, .int (nI (i + 1))), (10, .int (nI (lfN V i j))), (0, .ref o), (1, .int (nI (suF (fun x => cnQ V 1 x) (sB V)))), (2, .int (nI (cntF (presB V) (sN V)))), (3, .int (nI (max 1 (np / 2)))), (4, .int (nI (suF (fun x => cnQ V 1 x) (j + 1)))), (5, .int (nI j)), (6, .int (nI (cnQ V 1 j))), (7, .int (nI su)), (8, .int (nI lq))]) hx hb dL_makes_263 hl (k := 10) rfl (g_inc i 1) (by decide) rfl (fun ls hl => ?_)
                                  refine lv_goto (tgt := 200) hx hb dL_makes_266 (by decide) ?_
                                  exact ih_lpC (i + 1) (by omega) (by omega) τ_61 hW hL H locs ls hz hP hS (lv_sub hl [2, 3, 4, 5, 6, 7, 8, 9, 10, 0] rfl)
                                · refine lv_iload hx hb dL_makes_254 (lv_at hl 0 rfl) ?_
                                  refine lv_iload hx hb dL_makes_256 (lv_at hl 8 rfl) ?_
                                  refine g_icmp_lt (tgt := 263) (a := lfN V i j) (b := su) hx hb (by omega) (by omega) dL_makes_258 (by decide) (fun c258 => ?_) (fun c258 => absurd c258 (Nat.not_le.mpr (hPt j i su hjl hil c251 hnd (by omega))))
                                  refine lv_iinc (v := (nI (i + 1))) (lv' := [(9, .int (nI (i + 1))), (10, .int (nI (lfN V i j))), (0, .ref o), (1, .int (nI (suF (fun x => cnQ V 1 x) (sB V)))), (2, .int (nI (cntF (presB V) (sN V)))), (3, .int (nI (max 1 (np / 2)))), (4, .int (nI (suF (fun x => cnQ V 1 x) (j + 1)))), (5, .int (nI j)), (6, .int (nI (cnQ V 1 j))), (7, .int (nI su)), (8, .int (nI lq))]) hx hb dL_makes_263 hl (k := 10) rfl (g_inc i 1) (by decide) rfl (fun ls hl => ?_)
                                  refine lv_goto (tgt := 200) hx hb dL_makes_266 (by decide) ?_
                                  exact ih_lpC (i + 1) (by omega) (by omega) τ_61 hW hL H locs ls hz hP hS (lv_sub hl [2, 3, 4, 5, 6, 7, 8, 9, 10, 0] rfl)
                      exact lpC _ 0 (by omega) (Nat.lt_succ_self _) τ_44 hW hL H locs ls hz hP hS (lv_sub hl [2, 3, 4, 5, 1, 6, 7, 8, 9, 0] rfl)
                    · obtain ⟨hso, hsi⟩ := hPe j hjl c172
                      refine lv_aload_n hx hb dL_makes_175 rfl (lv_at hl 1 rfl) ?_
                      refine lv_iload hx hb dL_makes_176 (lv_at hl 5 rfl) ?_
                      refine lv_iconst (v := (nI 3)) hx hb dL_makes_178 (by decide) ?_
                      refine g_runV (As := [.int (nI j), .int (nI 3)]) (rest := []) (own := RL) (C := RX7) (T := TX7) (N := 7) 2 hx hb hml hown hts hK hz hP hL hS hlo hl.1 (c_X7_beat l o b V tf tn (recP P) (recS C P S) kp z_1 ((nI j)) ((nI 3))  τ_44 z_1 hW hV.1.1 ) gL_makes_X7_beat rfl rfl rfl (by decide +kernel) ⟨Nat.le_of_ble_eq_true rfl, Nat.le_of_ble_eq_true rfl⟩ hW.c0 rfl rfl rfl (Nat.le_of_ble_eq_true rfl) dL_makes_179 ⟨Nat.le_of_ble_eq_true rfl, Nat.le_of_ble_eq_true rfl⟩ (g_kxi0 (fun r_62 τ_62 H locs z_62 hz hp hP hL hS => ?_))
                      obtain ⟨hr_62, hW, hz_62, ha_62⟩ := hp
                      have hz := hz.trans hz_62
                      subst hr_62
                      have hcn0 := cn_le V 0 j
                      refine g_top (y := (nI (cnQ V 0 j))) (yb_3 hV (by omega)) ?_
                      refine g_if_eq (tgt := 195) hx hb (by omega) dL_makes_182 (by decide) (fun c182 => False.elim (by omega)) (fun c182 => ?_)
                      refine lv_aload_n hx hb dL_makes_185 rfl (lv_at hl 1 rfl) ?_
                      refine lv_iload hx hb dL_makes_186 (lv_at hl 5 rfl) ?_
                      refine lv_iconst (v := (nI 4)) hx hb dL_makes_188 (by decide) ?_
                      refine g_runV (As := [.int (nI j), .int (nI 4)]) (rest := []) (own := RL) (C := RX7) (T := TX7) (N := 7) 2 hx hb hml hown hts hK hz hP hL hS hlo hl.1 (c_X7_beat l o b V tf tn (recP P) (recS C P S) kp z_1 ((nI j)) ((nI 4))  τ_62 z_1 hW hV.1.1 ) gL_makes_X7_beat rfl rfl rfl (by decide +kernel) ⟨Nat.le_of_ble_eq_true rfl, Nat.le_of_ble_eq_true rfl⟩ hW.c0 rfl rfl rfl (Nat.le_of_ble_eq_true rfl) dL_makes_189 ⟨Nat.le_of_ble_eq_true rfl, Nat.le_of_ble_eq_true rfl⟩ (g_kxi0 (fun r_63 τ_63 H locs z_63 hz hp hP hL hS => ?_))
                      obtain ⟨hr_63, hW, hz_63, ha_63⟩ := hp
                      have hz := hz.trans hz_63
                      subst hr_63
                      refine g_top (y := (oI (soloF V j))) (yb_4 hV (by omega)) ?_
                      refine g_top (y := (-5)) (by rw [hso]; rfl) ?_
                      refine lv_if_lt (tgt := 197) hx hb dL_makes_192 (by decide) (fun c192 => ?_) (fun c192 => by first | exact absurd (by decide) c192 | exact absurd c192 (by decide))
                      refine lv_iconst (v := (nI 0)) hx hb dL_makes_197 (by decide) ?_
                      refine lv_istore (lv' := [(9, .int (nI 0)), (4, .int (nI (suF (fun x => cnQ V 1 x) (j + 1)))), (0, .ref o), (1, .int (nI (suF (fun x => cnQ V 1 x) (sB V)))), (2, .int (nI (cntF (presB V) (sN V)))), (3, .int (nI (max 1 (np / 2)))), (5, .int (nI j)), (6, .int (nI (cnQ V 1 j))), (7, .int (nI su)), (8, .int (nI lq))]) hx hb dL_makes_198 hl (by decide) rfl (fun ls hl => ?_)
                      have lpC : ∀ (fu_lpC : Nat) (i : Nat), (i ≤ sN V) → (sN V - i < fu_lpC) → ∀ (υ : gS), (Wo υ o b V tf tn (recP P) (recS C P S) kp z_1) → gL lo υ → ∀ (H : Heap) (locs : List Loc) (ls : Array Slot), H.size = z_1 → gH D ka υ H → va_S (gA lo) s.heap H locs → lv_has ls 11 [(0, .ref o), (1, .int (nI (suF (fun x => cnQ V 1 x) (sB V)))), (2, .int (nI (cntF (presB V) (sN V)))), (3, .int (nI (max 1 (np / 2)))), (4, .int (nI (suF (fun x => cnQ V 1 x) (j + 1)))), (5, .int (nI j)), (6, .int (nI (cnQ V 1 j))), (7, .int (nI su)), (8, .int (nI lq)), (9, .int (nI i))] → W p l e ({ frames := 7, cells := 17, slots := 789, locals := 162 } : Room) s m ([.ref o] : List Value).toArray below meth c H locs (0 + 17) (0 + 789) (MQ below (gQ D ka lo (gxi (fun r τ n => r = nI 1 ∧ ∃ (S2 : sS) (P2 : Nat) (C2 : Nat → sS), Wo τ o b S2 tf tn P2 C2 kp n ∧ okY S2 ∧ sB S2 = sB S ∧ sN S2 = sN S ∧ okC P2 C2 kp ∧ sz ≤ n ∧ n ≤ sz + 17))) ([.ref o] : List Value).toArray s 17 789 (gA lo)) (F0 m 200 ls []) := by
                        intro fu_lpC
                        induction fu_lpC with
                        | zero => intro i hi hm_lpC; exact absurd hm_lpC (Nat.not_lt_zero _)
                        | succ fu_lpC ih_lpC =>
                          intro i hi hm_lpC υ hW hL H locs ls hz hP hS hl
                          refine lv_iload hx hb dL_makes_200 (lv_at hl 9 rfl) ?_
                          refine lv_aload_n hx hb dL_makes_202 rfl (lv_at hl 0 rfl) ?_
                          refine lv_iconst (v := (nI 3)) hx hb dL_makes_203 (by decide) ?_
                          refine g_runV (As := [.int (nI 3)]) (rest := [.int (nI i)]) (own := RL) (C := RX7) (T := TX7) (N := 7) 1 hx hb hml hown hts hK hz hP hL hS hlo hl.1 (c_X7_count l o b V tf tn (recP P) (recS C P S) kp z_1 ((nI 3))  υ z_1 hW hV.1.1 ) gL_makes_X7_count rfl rfl rfl (by decide +kernel) ⟨Nat.le_of_ble_eq_true rfl, Nat.le_of_ble_eq_true rfl⟩ hW.c0 rfl rfl rfl (Nat.le_of_ble_eq_true rfl) dL_makes_204 ⟨Nat.le_of_ble_eq_true rfl, Nat.le_of_ble_eq_true rfl⟩ (g_kxi0 (fun r_64 τ_64 H locs z_64 hz hp hP hL hS => ?_))
                          obtain ⟨hr_64, hW, hz_64, ha_64⟩ := hp
                          have hz := hz.trans hz_64
                          subst hr_64
                          refine g_top (y := (nI (sN V))) yc_3 ?_
                          refine g_icmp_ge (tgt := 269) (a := i) (b := sN V) hx hb (by omega) (by omega) dL_makes_207 (by decide) (fun c207 => ?_) (fun c207 => ?_)
                          · refine lv_iinc (v := (nI (j + 1))) (lv' := [(5, .int (nI (j + 1))), (0, .ref o), (1, .int (nI (suF (fun x => cnQ V 1 x) (sB V)))), (2, .int (nI (cntF (presB V) (sN V)))), (3, .int (nI (max 1 (np / 2)))), (4, .int (nI (suF (fun x => cnQ V 1 x) (j + 1)))), (6, .int (nI (cnQ V 1 j))), (7, .int (nI su)), (8, .int (nI lq)), (9, .int (nI i))]) hx hb dL_makes_269 hl (k := 5) rfl (g_inc j 1) (by decide) rfl (fun ls hl => ?_)
                            refine lv_goto (tgt := 56) hx hb dL_makes_272 (by decide) ?_
                            exact ih_lpA (j + 1) (by omega) (by omega) τ_64 hW hL H locs ls hz hP hS (lv_sub hl [1, 2, 3, 4, 5, 0] rfl)
                          · refine lv_iload hx hb dL_makes_210 (lv_at hl 6 rfl) ?_
                            refine g_if_le (tgt := 269) hx hb (by omega) dL_makes_212 (by decide) (fun c212 => ?_) (fun c212 => ?_)
                            · refine lv_iinc (v := (nI (j + 1))) (lv' := [(5, .int (nI (j + 1))), (0, .ref o), (1, .int (nI (suF (fun x => cnQ V 1 x) (sB V)))), (2, .int (nI (cntF (presB V) (sN V)))), (3, .int (nI (max 1 (np / 2)))), (4, .int (nI (suF (fun x => cnQ V 1 x) (j + 1)))), (6, .int (nI (cnQ V 1 j))), (7, .int (nI su)), (8, .int (nI lq)), (9, .int (nI i))]) hx hb dL_makes_269 hl (k := 5) rfl (g_inc j 1) (by decide) rfl (fun ls hl => ?_)
                              refine lv_goto (tgt := 56) hx hb dL_makes_272 (by decide) ?_
                              exact ih_lpA (j + 1) (by omega) (by omega) τ_64 hW hL H locs ls hz hP hS (lv_sub hl [1, 2, 3, 4, 5, 0] rfl)
                            · have hil0 : i < sN V := by omega
                              have hbri := hV.br (i := i) hil0
                              have hil : i < sN V := by omega
                              have hlfj := lfN_le hV (i := i) (k := j) hil (by omega)
                              refine lv_iload hx hb dL_makes_215 (lv_at hl 5 rfl) ?_
                              refine g_if_ne (tgt := 230) hx hb (by omega) dL_makes_217 (by decide) (fun c217 => ?_) (fun c217 => ?_)
                              · refine lv_aload_n hx hb dL_makes_230 rfl (lv_at hl 0 rfl) ?_
                                refine lv_iload hx hb dL_makes_231 (lv_at hl 9 rfl) ?_
                                refine lv_iload hx hb dL_makes_233 (lv_at hl 5 rfl) ?_
                                refine lv_iconst (v := (nI 1)) hx hb dL_makes_235 (by decide) ?_
                                refine lv_isub hx hb dL_makes_236 ?_
                                refine g_top (pk_sub (by omega : 1 ≤ j)) ?_
                                refine g_runV (As := [.int (nI i), .int (nI (j - 1))]) (rest := []) (own := RL) (C := RX7) (T := TX7) (N := 7) 2 hx hb hml hown hts hK hz hP hL hS hlo hl.1 (c_X7_left l o b V tf tn (recP P) (recS C P S) kp z_1 ((nI i)) ((nI (j - 1)))  τ_64 z_1 hW hV.1.1 ) gL_makes_X7_left rfl rfl rfl (by decide +kernel) ⟨Nat.le_of_ble_eq_true rfl, Nat.le_of_ble_eq_true rfl⟩ hW.c0 rfl rfl rfl (Nat.le_of_ble_eq_true rfl) dL_makes_237 ⟨Nat.le_of_ble_eq_true rfl, Nat.le_of_ble_eq_true rfl⟩ (g_kxi0 (fun r_65 τ_65 H locs z_65 hz hp hP hL hS => ?_))
                                obtain ⟨hr_65, hW, hz_65, ha_65⟩ := hp
                                have hz := hz.trans hz_65
                                subst hr_65
                                have hlf := lfN_le hV (i := i) (k := j - 1 + 1) (by omega) (by omega)
                                refine g_top (y := (nI (lfN V i (j - 1 + 1)))) (yl hV (by omega) (by omega)) ?_
                                refine g_top (y := (nI (lfN V i j))) (congrArg nI (by rw [Nat.sub_add_cancel (by omega)])) ?_
                                refine lv_istore (lv' := [(10, .int (nI (lfN V i j))), (0, .ref o), (1, .int (nI (suF (fun x => cnQ V 1 x) (sB V)))), (2, .int (nI (cntF (presB V) (sN V)))), (3, .int (nI (max 1 (np / 2)))), (4, .int (nI (suF (fun x => cnQ V 1 x) (j + 1)))), (5, .int (nI j)), (6, .int (nI (cnQ V 1 j))), (7, .int (nI su)), (8, .int (nI lq)), (9, .int (nI i))]) hx hb dL_makes_240 hl (by decide) rfl (fun ls hl => ?_)
                                refine lv_aload_n hx hb dL_makes_242 rfl (lv_at hl 1 rfl) ?_
                                refine lv_iload hx hb dL_makes_243 (lv_at hl 10 rfl) ?_
                                refine lv_iload hx hb dL_makes_245 (lv_at hl 6 rfl) ?_
                                refine g_runV (As := [.int (nI i), .int (nI j)]) (rest := []) (own := RL) (C := RX7) (T := TX7) (N := 7) 2 hx hb hml hown hts hK hz hP hL hS hlo hl.1 (c_X7_does l o b V tf tn (recP P) (recS C P S) kp z_1 ((nI i)) ((nI j))  τ_65 z_1 hW hV.1.1 ) gL_makes_X7_does rfl rfl rfl (by decide +kernel) ⟨Nat.le_of_ble_eq_true rfl, Nat.le_of_ble_eq_true rfl⟩ hW.c0 rfl rfl rfl (Nat.le_of_ble_eq_true rfl) dL_makes_247 ⟨Nat.le_of_ble_eq_true rfl, Nat.le_of_ble_eq_true rfl⟩ (g_kxi0 (fun r_66 τ_66 H locs z_66 hz hp hP hL hS => ?_))
                                obtain ⟨hr_66, hW, hz_66, ha_66⟩ := hp
                                have hz := hz.trans hz_66
                                subst hr_66
                                have hdo := dosQ_lt V i j
                                refine g_top (y := (nI (dosQ V i j))) (yd hV (by omega) (by omega)) ?_
                                refine lv_iconst (v := (nI 1)) hx hb dL_makes_250 (by decide) ?_
                                refine g_icmp_ne (tgt := 263) (a := dosQ V i j) (b := 1) hx hb (by omega) (by omega) dL_makes_251 (by decide) (fun c251 => ?_) (fun c251 => ?_)
                                · refine lv_iinc (v := (nI (i + 1))) (lv' := [(9, .int (nI (i + 1))), (10, .int (nI (lfN V i j))), (0, .ref o), (1, .int (nI (suF (fun x => cnQ V 1 x) (sB V)))), (2, .int (nI (cntF (presB V) (sN V)))), (3, .int (nI (max 1 (np / 2)))), (4, .int (nI (suF (fun x => cnQ V 1 x) (j + 1)))), (5, .int (nI j)), (6, .int (nI (cnQ V 1 j))), (7, .int (nI su)), (8, .int (nI lq))]) hx hb dL_makes_263 hl (k := 10) rfl (g_inc i 1) (by decide) rfl (fun ls hl => ?_)
                                  refine lv_goto (tgt := 200) hx hb dL_makes_266 (by decide) ?_
                                  exact ih_lpC (i + 1) (by omega) (by omega) τ_66 hW hL H locs ls hz hP hS (lv_sub hl [2, 3, 4, 5, 6, 7, 8, 9, 10, 0] rfl)
                                · refine lv_iload hx hb dL_makes_254 (lv_at hl 0 rfl) ?_
                                  refine lv_iload hx hb dL_makes_256 (lv_at hl 8 rfl) ?_
                                  refine g_icmp_lt (tgt := 263) (a := lfN V i j) (b := su) hx hb (by omega) (by omega) dL_makes_258 (by decide) (fun c258 => ?_) (fun c258 => absurd c258 (Nat.not_le.mpr (hPt j i su hjl hil c251 hnd (by omega))))
                                  refine lv_iinc (v := (nI (i + 1))) (lv' := [(9, .int (nI (i + 1))), (10, .int (nI (lfN V i j))), (0, .ref o), (1, .int (nI (suF (fun x => cnQ V 1 x) (sB V)))), (2, .int (nI (cntF (presB V) (sN V)))), (3, .int (nI (max 1 (np / 2)))), (4, .int (nI (suF (fun x => cnQ V 1 x) (j + 1)))), (5, .int (nI j)), (6, .int (nI (cnQ V 1 j))), (7, .int (nI su)), (8, .int (nI lq))]) hx hb dL_makes_263 hl (k := 10) rfl (g_inc i 1) (by decide) rfl (fun ls hl => ?_)
                                  refine lv_goto (tgt := 200) hx hb dL_makes_266 (by decide) ?_
                                  exact ih_lpC (i + 1) (by omega) (by omega) τ_66 hW hL H locs ls hz hP hS (lv_sub hl [2, 3, 4, 5, 6, 7, 8, 9, 10, 0] rfl)
                              · refine lv_aload_n hx hb dL_makes_220 rfl (lv_at hl 0 rfl) ?_
                                refine lv_iload hx hb dL_makes_221 (lv_at hl 9 rfl) ?_
                                refine lv_iconst (v := (nI 0)) hx hb dL_makes_223 (by decide) ?_
                                refine g_runV (As := [.int (nI i), .int (nI 0)]) (rest := []) (own := RL) (C := RX7) (T := TX7) (N := 7) 2 hx hb hml hown hts hK hz hP hL hS hlo hl.1 (c_X7_singer l o b V tf tn (recP P) (recS C P S) kp z_1 ((nI i)) ((nI 0))  τ_64 z_1 hW hV.1.1 ) gL_makes_X7_singer rfl rfl rfl (by decide +kernel) ⟨Nat.le_of_ble_eq_true rfl, Nat.le_of_ble_eq_true rfl⟩ hW.c0 rfl rfl rfl (Nat.le_of_ble_eq_true rfl) dL_makes_224 ⟨Nat.le_of_ble_eq_true rfl, Nat.le_of_ble_eq_true rfl⟩ (g_kxi0 (fun r_67 τ_67 H locs z_67 hz hp hP hL hS => ?_))
                                obtain ⟨hr_67, hW, hz_67, ha_67⟩ := hp
                                have hz := hz.trans hz_67
                                subst hr_67
                                have hbr := hV.br (i := i) (by omega)
                                refine g_top (y := (nI (tk (V 3 i)))) (yn_0 hV (by omega)) ?_
                                refine lv_goto (tgt := 240) hx hb dL_makes_227 (by decide) ?_
                                refine g_top (y := (nI (lfN V i j))) (congrArg nI (by rw [c217]; rfl)) ?_
                                refine lv_istore (lv' := [(10, .int (nI (lfN V i j))), (0, .ref o), (1, .int (nI (suF (fun x => cnQ V 1 x) (sB V)))), (2, .int (nI (cntF (presB V) (sN V)))), (3, .int (nI (max 1 (np / 2)))), (4, .int (nI (suF (fun x => cnQ V 1 x) (j + 1)))), (5, .int (nI j)), (6, .int (nI (cnQ V 1 j))), (7, .int (nI su)), (8, .int (nI lq)), (9, .int (nI i))]) hx hb dL_makes_240 hl (by decide) rfl (fun ls hl => ?_)
                                refine lv_aload_n hx hb dL_makes_242 rfl (lv_at hl 1 rfl) ?_
                                refine lv_iload hx hb dL_makes_243 (lv_at hl 10 rfl) ?_
                                refine lv_iload hx hb dL_makes_245 (lv_at hl 6 rfl) ?_
                                refine g_runV (As := [.int (nI i), .int (nI j)]) (rest := []) (own := RL) (C := RX7) (T := TX7) (N := 7) 2 hx hb hml hown hts hK hz hP hL hS hlo hl.1 (c_X7_does l o b V tf tn (recP P) (recS C P S) kp z_1 ((nI i)) ((nI j))  τ_67 z_1 hW hV.1.1 ) gL_makes_X7_does rfl rfl rfl (by decide +kernel) ⟨Nat.le_of_ble_eq_true rfl, Nat.le_of_ble_eq_true rfl⟩ hW.c0 rfl rfl rfl (Nat.le_of_ble_eq_true rfl) dL_makes_247 ⟨Nat.le_of_ble_eq_true rfl, Nat.le_of_ble_eq_true rfl⟩ (g_kxi0 (fun r_68 τ_68 H locs z_68 hz hp hP hL hS => ?_))
                                obtain ⟨hr_68, hW, hz_68, ha_68⟩ := hp
                                have hz := hz.trans hz_68
                                subst hr_68
                                have hdo := dosQ_lt V i j
                                refine g_top (y := (nI (dosQ V i j))) (yd hV (by omega) (by omega)) ?_
                                refine lv_iconst (v := (nI 1)) hx hb dL_makes_250 (by decide) ?_
                                refine g_icmp_ne (tgt := 263) (a := dosQ V i j) (b := 1) hx hb (by omega) (by omega) dL_makes_251 (by decide) (fun c251 => ?_) (fun c251 => ?_)
                                · refine lv_iinc (v := (nI (i + 1))) (lv' := [(9, .int (nI (i + 1))), (10, .int (nI (lfN V i j))), (0, .ref o), (1, .int (nI (suF (fun x => cnQ V 1 x) (sB V)))), (2, .int (nI (cntF (presB V) (sN V)))), (3, .int (nI (max 1 (np / 2)))), (4, .int (nI (suF (fun x => cnQ V 1 x) (j + 1)))), (5, .int (nI j)), (6, .int (nI (cnQ V 1 j))), (7, .int (nI su)), (8, .int (nI lq))]) hx hb dL_makes_263 hl (k := 10) rfl (g_inc i 1) (by decide) rfl (fun ls hl => ?_)
                                  refine lv_goto (tgt := 200) hx hb dL_makes_266 (by decide) ?_
                                  exact ih_lpC (i + 1) (by omega) (by omega) τ_68 hW hL H locs ls hz hP hS (lv_sub hl [2, 3, 4, 5, 6, 7, 8, 9, 10, 0] rfl)
                                · refine lv_iload hx hb dL_makes_254 (lv_at hl 0 rfl) ?_
                                  refine lv_iload hx hb dL_makes_256 (lv_at hl 8 rfl) ?_
                                  refine g_icmp_lt (tgt := 263) (a := lfN V i j) (b := su) hx hb (by omega) (by omega) dL_makes_258 (by decide) (fun c258 => ?_) (fun c258 => absurd c258 (Nat.not_le.mpr (hPt j i su hjl hil c251 hnd (by omega))))
                                  refine lv_iinc (v := (nI (i + 1))) (lv' := [(9, .int (nI (i + 1))), (10, .int (nI (lfN V i j))), (0, .ref o), (1, .int (nI (suF (fun x => cnQ V 1 x) (sB V)))), (2, .int (nI (cntF (presB V) (sN V)))), (3, .int (nI (max 1 (np / 2)))), (4, .int (nI (suF (fun x => cnQ V 1 x) (j + 1)))), (5, .int (nI j)), (6, .int (nI (cnQ V 1 j))), (7, .int (nI su)), (8, .int (nI lq))]) hx hb dL_makes_263 hl (k := 10) rfl (g_inc i 1) (by decide) rfl (fun ls hl => ?_)
                                  refine lv_goto (tgt := 200) hx hb dL_makes_266 (by decide) ?_
                                  exact ih_lpC (i + 1) (by omega) (by omega) τ_68 hW hL H locs ls hz hP hS (lv_sub hl [2, 3, 4, 5, 6, 7, 8, 9, 10, 0] rfl)
                      exact lpC _ 0 (by omega) (Nat.lt_succ_self _) τ_63 hW hL H locs ls hz hP hS (lv_sub hl [2, 3, 4, 5, 1, 6, 7, 8, 9, 0] rfl)
                  · refine lv_iload hx hb dL_makes_105 (lv_at hl 7 rfl) ?_
                    refine lv_aload_n hx hb dL_makes_107 rfl (lv_at hl 0 rfl) ?_
                    refine lv_iload hx hb dL_makes_108 (lv_at hl 9 rfl) ?_
                    refine lv_iconst (v := (nI 0)) hx hb dL_makes_110 (by decide) ?_
                    refine g_runV (As := [.int (nI y), .int (nI 0)]) (rest := [.int (nI su)]) (own := RL) (C := RX7) (T := TX7) (N := 7) 2 hx hb hml hown hts hK hz hP hL hS hlo hl.1 (c_X7_beat l o b V tf tn (recP P) (recS C P S) kp z_1 ((nI y)) ((nI 0))  τ_44 z_1 hW hV.1.1 ) gL_makes_X7_beat rfl rfl rfl (by decide +kernel) ⟨Nat.le_of_ble_eq_true rfl, Nat.le_of_ble_eq_true rfl⟩ hW.c0 rfl rfl rfl (Nat.le_of_ble_eq_true rfl) dL_makes_111 ⟨Nat.le_of_ble_eq_true rfl, Nat.le_of_ble_eq_true rfl⟩ (g_kxi0 (fun r_69 τ_69 H locs z_69 hz hp hP hL hS => ?_))
                    obtain ⟨hr_69, hW, hz_69, ha_69⟩ := hp
                    have hz := hz.trans hz_69
                    subst hr_69
                    have hxso := hV.so (b := y) (by omega)
                    refine g_top (y := (nI (tk (V 0 y)))) (yb_0 hV (by omega)) ?_
                    refine g_if_le (tgt := 127) hx hb (by omega) dL_makes_114 (by decide) (fun c114 => ?_) (fun c114 => ?_)
                    · refine lv_iconst (v := (nI 0)) hx hb dL_makes_127 (by decide) ?_
                      refine lv_iadd hx hb dL_makes_128 ?_
                      refine g_top (nI_add su 0) ?_
                      refine lv_istore (lv' := [(7, .int (nI (su + 0))), (0, .ref o), (1, .int (nI (suF (fun x => cnQ V 1 x) (sB V)))), (2, .int (nI (cntF (presB V) (sN V)))), (3, .int (nI (max 1 (np / 2)))), (4, .int (nI (suF (fun x => cnQ V 1 x) j))), (5, .int (nI j)), (6, .int (nI (cnQ V 1 j))), (8, .int (nI lq)), (9, .int (nI y))]) hx hb dL_makes_129 hl (by decide) rfl (fun ls hl => ?_)
                      refine lv_iload hx hb dL_makes_131 (lv_at hl 8 rfl) ?_
                      refine lv_aload_n hx hb dL_makes_133 rfl (lv_at hl 1 rfl) ?_
                      refine lv_iload hx hb dL_makes_134 (lv_at hl 9 rfl) ?_
                      refine lv_iconst (v := (nI 0)) hx hb dL_makes_136 (by decide) ?_
                      refine g_runV (As := [.int (nI y), .int (nI 0)]) (rest := [.int (nI lq)]) (own := RL) (C := RX7) (T := TX7) (N := 7) 2 hx hb hml hown hts hK hz hP hL hS hlo hl.1 (c_X7_beat l o b V tf tn (recP P) (recS C P S) kp z_1 ((nI y)) ((nI 0))  τ_69 z_1 hW hV.1.1 ) gL_makes_X7_beat rfl rfl rfl (by decide +kernel) ⟨Nat.le_of_ble_eq_true rfl, Nat.le_of_ble_eq_true rfl⟩ hW.c0 rfl rfl rfl (Nat.le_of_ble_eq_true rfl) dL_makes_137 ⟨Nat.le_of_ble_eq_true rfl, Nat.le_of_ble_eq_true rfl⟩ (g_kxi0 (fun r_70 τ_70 H locs z_70 hz hp hP hL hS => ?_))
                      obtain ⟨hr_70, hW, hz_70, ha_70⟩ := hp
                      have hz := hz.trans hz_70
                      subst hr_70
                      have hxso := hV.so (b := y) (by omega)
                      refine g_top (y := (nI (tk (V 0 y)))) (yb_0 hV (by omega)) ?_
                      refine g_if_le (tgt := 147) hx hb (by omega) dL_makes_140 (by decide) (fun c140 => ?_) (fun c140 => False.elim (by omega))
                      refine lv_iconst (v := (nI 0)) hx hb dL_makes_147 (by decide) ?_
                      refine lv_isub hx hb dL_makes_148 ?_
                      refine g_top (pk_sub (by omega : 0 ≤ lq)) ?_
                      refine lv_istore (lv' := [(8, .int (nI (lq - 0))), (7, .int (nI (su + 0))), (0, .ref o), (1, .int (nI (suF (fun x => cnQ V 1 x) (sB V)))), (2, .int (nI (cntF (presB V) (sN V)))), (3, .int (nI (max 1 (np / 2)))), (4, .int (nI (suF (fun x => cnQ V 1 x) j))), (5, .int (nI j)), (6, .int (nI (cnQ V 1 j))), (9, .int (nI y))]) hx hb dL_makes_149 hl (by decide) rfl (fun ls hl => ?_)
                      refine lv_iinc (v := (nI (y + 1))) (lv' := [(9, .int (nI (y + 1))), (8, .int (nI (lq - 0))), (7, .int (nI (su + 0))), (0, .ref o), (1, .int (nI (suF (fun x => cnQ V 1 x) (sB V)))), (2, .int (nI (cntF (presB V) (sN V)))), (3, .int (nI (max 1 (np / 2)))), (4, .int (nI (suF (fun x => cnQ V 1 x) j))), (5, .int (nI j)), (6, .int (nI (cnQ V 1 j)))]) hx hb dL_makes_151 hl (k := 9) rfl (g_inc y 1) (by decide) rfl (fun ls hl => ?_)
                      refine lv_goto (tgt := 90) hx hb dL_makes_154 (by decide) ?_
                      exact ih_lpB (y + 1) (su + 0) (lq - 0) (by omega) (by omega) (by omega) (by omega) (ne_r hV (by omega) (by omega) hq8 c114 hne) (by omega) τ_70 hW hL H locs ls hz hP hS (lv_sub hl [3, 4, 5, 6, 7, 8, 9, 2, 1, 0] rfl)
                    · refine lv_aload_n hx hb dL_makes_117 rfl (lv_at hl 0 rfl) ?_
                      refine lv_iload hx hb dL_makes_118 (lv_at hl 9 rfl) ?_
                      refine lv_iconst (v := (nI 1)) hx hb dL_makes_120 (by decide) ?_
                      refine g_runV (As := [.int (nI y), .int (nI 1)]) (rest := [.int (nI su)]) (own := RL) (C := RX7) (T := TX7) (N := 7) 2 hx hb hml hown hts hK hz hP hL hS hlo hl.1 (c_X7_beat l o b V tf tn (recP P) (recS C P S) kp z_1 ((nI y)) ((nI 1))  τ_69 z_1 hW hV.1.1 ) gL_makes_X7_beat rfl rfl rfl (by decide +kernel) ⟨Nat.le_of_ble_eq_true rfl, Nat.le_of_ble_eq_true rfl⟩ hW.c0 rfl rfl rfl (Nat.le_of_ble_eq_true rfl) dL_makes_121 ⟨Nat.le_of_ble_eq_true rfl, Nat.le_of_ble_eq_true rfl⟩ (g_kxi0 (fun r_71 τ_71 H locs z_71 hz hp hP hL hS => ?_))
                      obtain ⟨hr_71, hW, hz_71, ha_71⟩ := hp
                      have hz := hz.trans hz_71
                      subst hr_71
                      have hxlo := hV.lo (b := y) (by omega)
                      refine g_top (y := (nI (tk (V 1 y)))) (yb_1 hV (by omega)) ?_
                      refine lv_goto (tgt := 128) hx hb dL_makes_124 (by decide) ?_
                      refine lv_iadd hx hb dL_makes_128 ?_
                      refine g_top (nI_add su (tk (V 1 y))) ?_
                      refine lv_istore (lv' := [(7, .int (nI (su + (tk (V 1 y))))), (0, .ref o), (1, .int (nI (suF (fun x => cnQ V 1 x) (sB V)))), (2, .int (nI (cntF (presB V) (sN V)))), (3, .int (nI (max 1 (np / 2)))), (4, .int (nI (suF (fun x => cnQ V 1 x) j))), (5, .int (nI j)), (6, .int (nI (cnQ V 1 j))), (8, .int (nI lq)), (9, .int (nI y))]) hx hb dL_makes_129 hl (by decide) rfl (fun ls hl => ?_)
                      refine lv_iload hx hb dL_makes_131 (lv_at hl 8 rfl) ?_
                      refine lv_aload_n hx hb dL_makes_133 rfl (lv_at hl 1 rfl) ?_
                      refine lv_iload hx hb dL_makes_134 (lv_at hl 9 rfl) ?_
                      refine lv_iconst (v := (nI 0)) hx hb dL_makes_136 (by decide) ?_
                      refine g_runV (As := [.int (nI y), .int (nI 0)]) (rest := [.int (nI lq)]) (own := RL) (C := RX7) (T := TX7) (N := 7) 2 hx hb hml hown hts hK hz hP hL hS hlo hl.1 (c_X7_beat l o b V tf tn (recP P) (recS C P S) kp z_1 ((nI y)) ((nI 0))  τ_71 z_1 hW hV.1.1 ) gL_makes_X7_beat rfl rfl rfl (by decide +kernel) ⟨Nat.le_of_ble_eq_true rfl, Nat.le_of_ble_eq_true rfl⟩ hW.c0 rfl rfl rfl (Nat.le_of_ble_eq_true rfl) dL_makes_137 ⟨Nat.le_of_ble_eq_true rfl, Nat.le_of_ble_eq_true rfl⟩ (g_kxi0 (fun r_72 τ_72 H locs z_72 hz hp hP hL hS => ?_))
                      obtain ⟨hr_72, hW, hz_72, ha_72⟩ := hp
                      have hz := hz.trans hz_72
                      subst hr_72
                      have hxso := hV.so (b := y) (by omega)
                      refine g_top (y := (nI (tk (V 0 y)))) (yb_0 hV (by omega)) ?_
                      refine g_if_le (tgt := 147) hx hb (by omega) dL_makes_140 (by decide) (fun c140 => False.elim (by omega)) (fun c140 => ?_)
                      refine lv_iconst (v := (nI 1)) hx hb dL_makes_143 (by decide) ?_
                      refine lv_goto (tgt := 148) hx hb dL_makes_144 (by decide) ?_
                      refine lv_isub hx hb dL_makes_148 ?_
                      refine g_top (pk_sub (by omega : 1 ≤ lq)) ?_
                      refine lv_istore (lv' := [(8, .int (nI (lq - 1))), (7, .int (nI (su + (tk (V 1 y))))), (0, .ref o), (1, .int (nI (suF (fun x => cnQ V 1 x) (sB V)))), (2, .int (nI (cntF (presB V) (sN V)))), (3, .int (nI (max 1 (np / 2)))), (4, .int (nI (suF (fun x => cnQ V 1 x) j))), (5, .int (nI j)), (6, .int (nI (cnQ V 1 j))), (9, .int (nI y))]) hx hb dL_makes_149 hl (by decide) rfl (fun ls hl => ?_)
                      refine lv_iinc (v := (nI (y + 1))) (lv' := [(9, .int (nI (y + 1))), (8, .int (nI (lq - 1))), (7, .int (nI (su + (tk (V 1 y))))), (0, .ref o), (1, .int (nI (suF (fun x => cnQ V 1 x) (sB V)))), (2, .int (nI (cntF (presB V) (sN V)))), (3, .int (nI (max 1 (np / 2)))), (4, .int (nI (suF (fun x => cnQ V 1 x) j))), (5, .int (nI j)), (6, .int (nI (cnQ V 1 j)))]) hx hb dL_makes_151 hl (k := 9) rfl (g_inc y 1) (by decide) rfl (fun ls hl => ?_)
                      refine lv_goto (tgt := 90) hx hb dL_makes_154 (by decide) ?_
                      exact ih_lpB (y + 1) (su + tk (V 1 y)) (lq - 1) (by omega) (by omega) (by omega) (by omega) (ne_s hV (by omega) (by omega) hq8 c114 hne) (by omega) τ_72 hW hL H locs ls hz hP hS (lv_sub hl [3, 4, 5, 6, 7, 8, 9, 2, 1, 0] rfl)
            exact lpB _ j 0 (sR V) (Nat.le_refl j) (by omega) (Nat.le_refl _) (by omega) (ne_0 j) (Nat.lt_succ_self _) τ_43 hW hL H locs ls hz hP hS (lv_sub hl [4, 5, 6, 7, 8, 9, 3, 2, 1, 0] rfl)
      exact lpA _ 0 (by omega) (Nat.lt_succ_self _) τ_4 hW hL H locs ls hz hP hS (lv_sub hl [5, 4, 3, 2, 1, 0] rfl)
