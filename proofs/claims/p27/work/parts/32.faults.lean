set_option maxHeartbeats 4000000 in
set_option maxRecDepth 100000 in
theorem c_L_solos (l : Launch) (o b : Nat) (S : sS) (tf : Nat → Int32) (tn P : Nat) (C : Nat → sS) (kp : Nat → Bool) (zp : Nat) (σ : gS) (sz : Nat) (hW : Wo σ o b S tf tn P C kp zp) (hY : okY S) (hzp : zp ≤ sz) : gM l yL_solos wsL_solos ({ frames := 7, cells := 0, slots := 0, locals := 162 } : Room) 0 0 [.ref o] σ sz (gxi (fun r τ n => r = nI 1 ∧ Wo τ o b S tf tn P C kp zp ∧ n = sz ∧ gAs (gZo o 39) σ τ)) := by
  refine gM_of (cc := cL_solos) (maxL := 5) (ret := (some .boolean)) (by decide) rfl (Nat.le_of_ble_eq_true rfl) ?_
  intro D ka lo hL hlo p e s m below meth c hx hb hr hts hown hml hlk hnm hK H locs ls hz hP hS hl
  have hl : lv_has ls 5 [(0, .ref o)] := hl
  have hown : s.vm.findClass RL = some m.cls := hown
  have hoz := hW.oz
  obtain ⟨⟨hB, hN, hKs, hRs⟩, -⟩ := id hY.1
  have hag : gAs (gZo o 39) σ σ := gAs.rf
  refine lv_iconst (v := (-1)) hx hb dL_solos_0 (by decide) ?_
  refine lv_istore_n (lv' := [(1, .int (-1)), (0, .ref o)]) hx hb dL_solos_1 rfl hl (by decide) rfl (fun ls hl => ?_)
  refine lv_iconst (v := (nI 0)) hx hb dL_solos_2 (by decide) ?_
  refine lv_istore_n (lv' := [(2, .int (nI 0)), (1, .int (-1)), (0, .ref o)]) hx hb dL_solos_3 rfl hl (by decide) rfl (fun ls hl => ?_)
  have lpA : ∀ (fu_lpA : Nat) (k : Nat), (k ≤ sK S) → (sK S - k < fu_lpA) → ∀ (υ : gS), (Wo υ o b S tf tn P C kp zp) → (gAs (gZo o 39) σ υ) → gL lo υ → ∀ (H : Heap) (locs : List Loc) (ls : Array Slot), H.size = sz → gH D ka υ H → va_S (gA lo) s.heap H locs → lv_has ls 5 [(0, .ref o), (1, .int (laS S k)), (2, .int (nI k))] → W p l e ({ frames := 7, cells := 0, slots := 0, locals := 162 } : Room) s m ([.ref o] : List Value).toArray below meth c H locs (0) (0) (MQ below (gQ D ka lo (gxi (fun r τ n => r = nI 1 ∧ Wo τ o b S tf tn P C kp zp ∧ n = sz ∧ gAs (gZo o 39) σ τ))) ([.ref o] : List Value).toArray s 0 0 (gA lo)) (F0 m 4 ls []) := by
    intro fu_lpA
    induction fu_lpA with
    | zero => intro k hk hm_lpA; exact absurd hm_lpA (Nat.not_lt_zero _)
    | succ fu_lpA ih_lpA =>
      intro k hk hm_lpA υ hW hag hL H locs ls hz hP hS hl
      refine lv_iload_n hx hb dL_solos_4 rfl (lv_at hl 2 rfl) ?_
      refine lv_aload_n hx hb dL_solos_5 rfl (lv_at hl 0 rfl) ?_
      refine lv_iconst (v := (nI 5)) hx hb dL_solos_6 (by decide) ?_
      refine g_runV (As := [.int (nI 5)]) (rest := [.int (nI k)]) (own := RL) (C := RX7) (T := TX7) (N := 7) 1 hx hb hml hown hts hK hz hP hL hS hlo hl.1 (c_X7_count l o b S tf tn P C kp zp ((nI 5))  υ sz hW hY.1.1 ) gL_solos_X7_count rfl rfl rfl (by decide +kernel) ⟨Nat.le_of_ble_eq_true rfl, Nat.le_of_ble_eq_true rfl⟩ hW.c0 rfl rfl rfl (Nat.le_of_ble_eq_true rfl) dL_solos_7 ⟨Nat.le_of_ble_eq_true rfl, Nat.le_of_ble_eq_true rfl⟩ (g_kxi0 (fun r_1 τ_1 H locs z_1 hz hp hP hL hS => ?_))
      obtain ⟨hr_1, hW, hz_1, ha_1⟩ := hp
      have hz := hz.trans hz_1
      subst hr_1
      have hag := hag.tr ha_1 (fun q h => h)
      refine g_top (y := (nI (sK S))) yc_5 ?_
      refine g_icmp_ge (tgt := 73) (a := k) (b := sK S) hx hb (by omega) (by omega) dL_solos_10 (by decide) (fun c10 => ?_) (fun c10 => ?_)
      · refine lv_iconst (v := (nI 0)) hx hb dL_solos_73 (by decide) ?_
        refine lv_istore_n (lv' := [(2, .int (nI 0)), (0, .ref o), (1, .int (laS S k))]) hx hb dL_solos_74 rfl hl (by decide) rfl (fun ls hl => ?_)
        have lpB : ∀ (fu_lpB : Nat) (j : Nat), (j ≤ sB S) → (sB S - j < fu_lpB) → ∀ (υ : gS), (Wo υ o b S tf tn P C kp zp) → (gAs (gZo o 39) σ υ) → gL lo υ → ∀ (H : Heap) (locs : List Loc) (ls : Array Slot), H.size = sz → gH D ka υ H → va_S (gA lo) s.heap H locs → lv_has ls 5 [(0, .ref o), (2, .int (nI j))] → W p l e ({ frames := 7, cells := 0, slots := 0, locals := 162 } : Room) s m ([.ref o] : List Value).toArray below meth c H locs (0) (0) (MQ below (gQ D ka lo (gxi (fun r τ n => r = nI 1 ∧ Wo τ o b S tf tn P C kp zp ∧ n = sz ∧ gAs (gZo o 39) σ τ))) ([.ref o] : List Value).toArray s 0 0 (gA lo)) (F0 m 75 ls []) := by
          intro fu_lpB
          induction fu_lpB with
          | zero => intro j hj hm_lpB; exact absurd hm_lpB (Nat.not_lt_zero _)
          | succ fu_lpB ih_lpB =>
            intro j hj hm_lpB υ hW hag hL H locs ls hz hP hS hl
            refine lv_iload_n hx hb dL_solos_75 rfl (lv_at hl 1 rfl) ?_
            refine lv_aload_n hx hb dL_solos_76 rfl (lv_at hl 0 rfl) ?_
            refine lv_iconst (v := (nI 0)) hx hb dL_solos_77 (by decide) ?_
            refine g_runV (As := [.int (nI 0)]) (rest := [.int (nI j)]) (own := RL) (C := RX7) (T := TX7) (N := 7) 1 hx hb hml hown hts hK hz hP hL hS hlo hl.1 (c_X7_count l o b S tf tn P C kp zp ((nI 0))  υ sz hW hY.1.1 ) gL_solos_X7_count rfl rfl rfl (by decide +kernel) ⟨Nat.le_of_ble_eq_true rfl, Nat.le_of_ble_eq_true rfl⟩ hW.c0 rfl rfl rfl (Nat.le_of_ble_eq_true rfl) dL_solos_78 ⟨Nat.le_of_ble_eq_true rfl, Nat.le_of_ble_eq_true rfl⟩ (g_kxi0 (fun r_2 τ_2 H locs z_2 hz hp hP hL hS => ?_))
            obtain ⟨hr_2, hW, hz_2, ha_2⟩ := hp
            have hz := hz.trans hz_2
            subst hr_2
            have hag := hag.tr ha_2 (fun q h => h)
            refine g_top (y := (nI (sB S))) yc_0 ?_
            refine g_icmp_ge (tgt := 153) (a := j) (b := sB S) hx hb (by omega) (by omega) dL_solos_81 (by decide) (fun c81 => ?_) (fun c81 => ?_)
            · refine lv_aload_n hx hb dL_solos_153 rfl (lv_at hl 0 rfl) ?_
              refine lv_aload_n hx hb dL_solos_154 rfl (lv_at hl 0 rfl) ?_
              refine lv_iconst (v := (nI 5)) hx hb dL_solos_155 (by decide) ?_
              refine g_runV (As := [.int (nI 5)]) (rest := [.ref o]) (own := RL) (C := RX7) (T := TX7) (N := 7) 1 hx hb hml hown hts hK hz hP hL hS hlo hl.1 (c_X7_count l o b S tf tn P C kp zp ((nI 5))  τ_2 sz hW hY.1.1 ) gL_solos_X7_count rfl rfl rfl (by decide +kernel) ⟨Nat.le_of_ble_eq_true rfl, Nat.le_of_ble_eq_true rfl⟩ hW.c0 rfl rfl rfl (Nat.le_of_ble_eq_true rfl) dL_solos_156 ⟨Nat.le_of_ble_eq_true rfl, Nat.le_of_ble_eq_true rfl⟩ (g_kxi0 (fun r_3 τ_3 H locs z_3 hz hp hP hL hS => ?_))
              obtain ⟨hr_3, hW, hz_3, ha_3⟩ := hp
              have hz := hz.trans hz_3
              subst hr_3
              have hag := hag.tr ha_3 (fun q h => h)
              refine g_top (y := (nI (sK S))) yc_5 ?_
              refine lv_iconst (v := (nI 0)) hx hb dL_solos_159 (by decide) ?_
              refine g_runV (As := [.int (nI (sK S)), .int (nI 0)]) (rest := []) (own := RL) (C := RX7) (T := TX7) (N := 7) 2 hx hb hml hown hts hK hz hP hL hS hlo hl.1 (c_X7_solo l o b S tf tn P C kp zp ((nI (sK S))) ((nI 0))  τ_3 sz hW hY.1.1 ) gL_solos_X7_solo rfl rfl rfl (by decide +kernel) ⟨Nat.le_of_ble_eq_true rfl, Nat.le_of_ble_eq_true rfl⟩ hW.c0 rfl rfl rfl (Nat.le_of_ble_eq_true rfl) dL_solos_160 ⟨Nat.le_of_ble_eq_true rfl, Nat.le_of_ble_eq_true rfl⟩ (g_kxi0 (fun r_4 τ_4 H locs z_4 hz hp hP hL hS => ?_))
              obtain ⟨hr_4, hW, hz_4, ha_4⟩ := hp
              have hz := hz.trans hz_4
              subst hr_4
              have hag := hag.tr ha_4 (fun q h => h)
              refine g_top (y := (-1)) (ys_out _ _) ?_
              refine lv_iconst (v := (-1)) hx hb dL_solos_163 (by decide) ?_
              refine lv_icmp_ne (tgt := 171) hx hb dL_solos_164 (by decide) (fun c164 => by first | exact absurd (by decide) c164 | exact absurd c164 (by decide)) (fun c164 => ?_)
              refine lv_iconst (v := (nI 1)) hx hb dL_solos_167 (by decide) ?_
              refine lv_goto (tgt := 172) hx hb dL_solos_168 (by decide) ?_
              exact g_zret (z := sz) hx hb hr hlk hz hP hL hS rfl dL_solos_172 (gxi_i ⟨rfl, hW, rfl, hag⟩)
            · have hjl : j < sB S := by omega
              refine lv_bipush (v := (-5)) hx hb dL_solos_84 (by decide) ?_
              refine lv_istore_n (lv' := [(3, .int (-5)), (0, .ref o), (2, .int (nI j))]) hx hb dL_solos_86 rfl hl (by decide) rfl (fun ls hl => ?_)
              refine lv_iconst (v := (nI 0)) hx hb dL_solos_87 (by decide) ?_
              refine lv_istore (lv' := [(4, .int (nI 0)), (3, .int (-5)), (0, .ref o), (2, .int (nI j))]) hx hb dL_solos_88 hl (by decide) rfl (fun ls hl => ?_)
              have lpC : ∀ (fu_lpC : Nat) (k : Nat), (k ≤ sK S) → (sK S - k < fu_lpC) → ∀ (υ : gS), (Wo υ o b S tf tn P C kp zp) → (gAs (gZo o 39) σ υ) → gL lo υ → ∀ (H : Heap) (locs : List Loc) (ls : Array Slot), H.size = sz → gH D ka υ H → va_S (gA lo) s.heap H locs → lv_has ls 5 [(0, .ref o), (2, .int (nI j)), (3, .int (duS S j k)), (4, .int (nI k))] → W p l e ({ frames := 7, cells := 0, slots := 0, locals := 162 } : Room) s m ([.ref o] : List Value).toArray below meth c H locs (0) (0) (MQ below (gQ D ka lo (gxi (fun r τ n => r = nI 1 ∧ Wo τ o b S tf tn P C kp zp ∧ n = sz ∧ gAs (gZo o 39) σ τ))) ([.ref o] : List Value).toArray s 0 0 (gA lo)) (F0 m 90 ls []) := by
                intro fu_lpC
                induction fu_lpC with
                | zero => intro k hk hm_lpC; exact absurd hm_lpC (Nat.not_lt_zero _)
                | succ fu_lpC ih_lpC =>
                  intro k hk hm_lpC υ hW hag hL H locs ls hz hP hS hl
                  refine lv_iload hx hb dL_solos_90 (lv_at hl 3 rfl) ?_
                  refine lv_aload_n hx hb dL_solos_92 rfl (lv_at hl 0 rfl) ?_
                  refine lv_iconst (v := (nI 5)) hx hb dL_solos_93 (by decide) ?_
                  refine g_runV (As := [.int (nI 5)]) (rest := [.int (nI k)]) (own := RL) (C := RX7) (T := TX7) (N := 7) 1 hx hb hml hown hts hK hz hP hL hS hlo hl.1 (c_X7_count l o b S tf tn P C kp zp ((nI 5))  υ sz hW hY.1.1 ) gL_solos_X7_count rfl rfl rfl (by decide +kernel) ⟨Nat.le_of_ble_eq_true rfl, Nat.le_of_ble_eq_true rfl⟩ hW.c0 rfl rfl rfl (Nat.le_of_ble_eq_true rfl) dL_solos_94 ⟨Nat.le_of_ble_eq_true rfl, Nat.le_of_ble_eq_true rfl⟩ (g_kxi0 (fun r_5 τ_5 H locs z_5 hz hp hP hL hS => ?_))
                  obtain ⟨hr_5, hW, hz_5, ha_5⟩ := hp
                  have hz := hz.trans hz_5
                  subst hr_5
                  have hag := hag.tr ha_5 (fun q h => h)
                  refine g_top (y := (nI (sK S))) yc_5 ?_
                  refine g_icmp_ge (tgt := 135) (a := k) (b := sK S) hx hb (by omega) (by omega) dL_solos_97 (by decide) (fun c97 => ?_) (fun c97 => ?_)
                  · have hke : k = sK S := by omega
                    rw [hke] at hl
                    refine lv_aload_n hx hb dL_solos_135 rfl (lv_at hl 0 rfl) ?_
                    refine lv_iload_n hx hb dL_solos_136 rfl (lv_at hl 1 rfl) ?_
                    refine lv_iconst (v := (nI 4)) hx hb dL_solos_137 (by decide) ?_
                    refine g_runV (As := [.int (nI j), .int (nI 4)]) (rest := []) (own := RL) (C := RX7) (T := TX7) (N := 7) 2 hx hb hml hown hts hK hz hP hL hS hlo hl.1 (c_X7_beat l o b S tf tn P C kp zp ((nI j)) ((nI 4))  τ_5 sz hW hY.1.1 ) gL_solos_X7_beat rfl rfl rfl (by decide +kernel) ⟨Nat.le_of_ble_eq_true rfl, Nat.le_of_ble_eq_true rfl⟩ hW.c0 rfl rfl rfl (Nat.le_of_ble_eq_true rfl) dL_solos_138 ⟨Nat.le_of_ble_eq_true rfl, Nat.le_of_ble_eq_true rfl⟩ (g_kxi0 (fun r_6 τ_6 H locs z_6 hz hp hP hL hS => ?_))
                    obtain ⟨hr_6, hW, hz_6, ha_6⟩ := hp
                    have hz := hz.trans hz_6
                    subst hr_6
                    have hag := hag.tr ha_6 (fun q h => h)
                    refine g_top (y := (oI (soloF S j))) (yb_4 hY (by omega)) ?_
                    refine lv_iload_n hx hb dL_solos_141 rfl (lv_at hl 2 rfl) ?_
                    refine lv_icmp_eq (tgt := 147) hx hb dL_solos_142 (by decide) (fun c142 => ?_) (fun c142 => absurd c142 (fun q => q (du_eq hY (by omega))))
                    refine lv_iinc (v := (nI (j + 1))) (lv' := [(2, .int (nI (j + 1))), (0, .ref o), (3, .int (duS S j (sK S))), (4, .int (nI (sK S)))]) hx hb dL_solos_147 hl (k := 1) rfl (g_inc j 1) (by decide) rfl (fun ls hl => ?_)
                    refine lv_goto (tgt := 75) hx hb dL_solos_150 (by decide) ?_
                    exact ih_lpB (j + 1) (by omega) (by omega) τ_6 hW hag hL H locs ls hz hP hS (lv_sub hl [1, 0] rfl)
                  · have hkl : k < sK S := by omega
                    refine lv_iload_n hx hb dL_solos_100 rfl (lv_at hl 1 rfl) ?_
                    refine lv_aload_n hx hb dL_solos_101 rfl (lv_at hl 0 rfl) ?_
                    refine lv_iload hx hb dL_solos_102 (lv_at hl 3 rfl) ?_
                    refine lv_iconst (v := (nI 1)) hx hb dL_solos_104 (by decide) ?_
                    refine g_runV (As := [.int (nI k), .int (nI 1)]) (rest := [.int (nI j)]) (own := RL) (C := RX7) (T := TX7) (N := 7) 2 hx hb hml hown hts hK hz hP hL hS hlo hl.1 (c_X7_solo l o b S tf tn P C kp zp ((nI k)) ((nI 1))  τ_5 sz hW hY.1.1 ) gL_solos_X7_solo rfl rfl rfl (by decide +kernel) ⟨Nat.le_of_ble_eq_true rfl, Nat.le_of_ble_eq_true rfl⟩ hW.c0 rfl rfl rfl (Nat.le_of_ble_eq_true rfl) dL_solos_105 ⟨Nat.le_of_ble_eq_true rfl, Nat.le_of_ble_eq_true rfl⟩ (g_kxi0 (fun r_7 τ_7 H locs z_7 hz hp hP hL hS => ?_))
                    obtain ⟨hr_7, hW, hz_7, ha_7⟩ := hp
                    have hz := hz.trans hz_7
                    subst hr_7
                    have hag := hag.tr ha_7 (fun q h => h)
                    have hsl := hY.sl (k := k) (by omega)
                    refine g_top (y := (nI (tk (S 6 k)))) (ys_1 hY (by omega)) ?_
                    refine g_icmp_lt (tgt := 127) (a := j) (b := tk (S 6 k)) hx hb (by omega) (by omega) dL_solos_108 (by decide) (fun c108 => ?_) (fun c108 => ?_)
                    · refine lv_iload_n hx hb dL_solos_127 rfl (lv_at hl 2 rfl) ?_
                      refine g_top (y := (duS S j (k + 1))) (du_1 c108) ?_
                      refine lv_istore_n (lv' := [(3, .int (duS S j (k + 1))), (0, .ref o), (2, .int (nI j)), (4, .int (nI k))]) hx hb dL_solos_128 rfl hl (by decide) rfl (fun ls hl => ?_)
                      refine lv_iinc (v := (nI (k + 1))) (lv' := [(4, .int (nI (k + 1))), (3, .int (duS S j (k + 1))), (0, .ref o), (2, .int (nI j))]) hx hb dL_solos_129 hl (k := 3) rfl (g_inc k 1) (by decide) rfl (fun ls hl => ?_)
                      refine lv_goto (tgt := 90) hx hb dL_solos_132 (by decide) ?_
                      exact ih_lpC (k + 1) (by omega) (by omega) τ_7 hW hag hL H locs ls hz hP hS (lv_sub hl [2, 3, 1, 0] rfl)
                    · refine lv_iload_n hx hb dL_solos_111 rfl (lv_at hl 1 rfl) ?_
                      refine lv_aload_n hx hb dL_solos_112 rfl (lv_at hl 0 rfl) ?_
                      refine lv_iload hx hb dL_solos_113 (lv_at hl 3 rfl) ?_
                      refine lv_iconst (v := (nI 2)) hx hb dL_solos_115 (by decide) ?_
                      refine g_runV (As := [.int (nI k), .int (nI 2)]) (rest := [.int (nI j)]) (own := RL) (C := RX7) (T := TX7) (N := 7) 2 hx hb hml hown hts hK hz hP hL hS hlo hl.1 (c_X7_solo l o b S tf tn P C kp zp ((nI k)) ((nI 2))  τ_7 sz hW hY.1.1 ) gL_solos_X7_solo rfl rfl rfl (by decide +kernel) ⟨Nat.le_of_ble_eq_true rfl, Nat.le_of_ble_eq_true rfl⟩ hW.c0 rfl rfl rfl (Nat.le_of_ble_eq_true rfl) dL_solos_116 ⟨Nat.le_of_ble_eq_true rfl, Nat.le_of_ble_eq_true rfl⟩ (g_kxi0 (fun r_8 τ_8 H locs z_8 hz hp hP hL hS => ?_))
                      obtain ⟨hr_8, hW, hz_8, ha_8⟩ := hp
                      have hz := hz.trans hz_8
                      subst hr_8
                      have hag := hag.tr ha_8 (fun q h => h)
                      have hsl := hY.sl (k := k) (by omega)
                      refine g_top (y := (nI (tk (S 7 k)))) (ys_2 hY (by omega)) ?_
                      refine g_icmp_gt (tgt := 127) (a := j) (b := tk (S 7 k)) hx hb (by omega) (by omega) dL_solos_119 (by decide) (fun c119 => ?_) (fun c119 => ?_)
                      · refine lv_iload_n hx hb dL_solos_127 rfl (lv_at hl 2 rfl) ?_
                        refine g_top (y := (duS S j (k + 1))) (du_2 c119) ?_
                        refine lv_istore_n (lv' := [(3, .int (duS S j (k + 1))), (0, .ref o), (2, .int (nI j)), (4, .int (nI k))]) hx hb dL_solos_128 rfl hl (by decide) rfl (fun ls hl => ?_)
                        refine lv_iinc (v := (nI (k + 1))) (lv' := [(4, .int (nI (k + 1))), (3, .int (duS S j (k + 1))), (0, .ref o), (2, .int (nI j))]) hx hb dL_solos_129 hl (k := 3) rfl (g_inc k 1) (by decide) rfl (fun ls hl => ?_)
                        refine lv_goto (tgt := 90) hx hb dL_solos_132 (by decide) ?_
                        exact ih_lpC (k + 1) (by omega) (by omega) τ_8 hW hag hL H locs ls hz hP hS (lv_sub hl [2, 3, 1, 0] rfl)
                      · refine lv_iload hx hb dL_solos_122 (lv_at hl 3 rfl) ?_
                        refine lv_goto (tgt := 128) hx hb dL_solos_124 (by decide) ?_
                        refine g_top (y := (duS S j (k + 1))) (du_3 (by omega) (by omega)) ?_
                        refine lv_istore_n (lv' := [(3, .int (duS S j (k + 1))), (0, .ref o), (2, .int (nI j)), (4, .int (nI k))]) hx hb dL_solos_128 rfl hl (by decide) rfl (fun ls hl => ?_)
                        refine lv_iinc (v := (nI (k + 1))) (lv' := [(4, .int (nI (k + 1))), (3, .int (duS S j (k + 1))), (0, .ref o), (2, .int (nI j))]) hx hb dL_solos_129 hl (k := 3) rfl (g_inc k 1) (by decide) rfl (fun ls hl => ?_)
                        refine lv_goto (tgt := 90) hx hb dL_solos_132 (by decide) ?_
                        exact ih_lpC (k + 1) (by omega) (by omega) τ_8 hW hag hL H locs ls hz hP hS (lv_sub hl [2, 3, 1, 0] rfl)
              exact lpC _ 0 (by omega) (Nat.lt_succ_self _) τ_2 hW hag hL H locs ls hz hP hS (lv_sub hl [2, 3, 1, 0] rfl)
        exact lpB _ 0 (by omega) (Nat.lt_succ_self _) τ_1 hW hag hL H locs ls hz hP hS (lv_sub hl [1, 0] rfl)
      · have hkl : k < sK S := by omega
        refine lv_aload_n hx hb dL_solos_13 rfl (lv_at hl 0 rfl) ?_
        refine lv_iload_n hx hb dL_solos_14 rfl (lv_at hl 2 rfl) ?_
        refine lv_iconst (v := (nI 1)) hx hb dL_solos_15 (by decide) ?_
        refine g_runV (As := [.int (nI k), .int (nI 1)]) (rest := []) (own := RL) (C := RX7) (T := TX7) (N := 7) 2 hx hb hml hown hts hK hz hP hL hS hlo hl.1 (c_X7_solo l o b S tf tn P C kp zp ((nI k)) ((nI 1))  τ_1 sz hW hY.1.1 ) gL_solos_X7_solo rfl rfl rfl (by decide +kernel) ⟨Nat.le_of_ble_eq_true rfl, Nat.le_of_ble_eq_true rfl⟩ hW.c0 rfl rfl rfl (Nat.le_of_ble_eq_true rfl) dL_solos_16 ⟨Nat.le_of_ble_eq_true rfl, Nat.le_of_ble_eq_true rfl⟩ (g_kxi0 (fun r_9 τ_9 H locs z_9 hz hp hP hL hS => ?_))
        obtain ⟨hr_9, hW, hz_9, ha_9⟩ := hp
        have hz := hz.trans hz_9
        subst hr_9
        have hag := hag.tr ha_9 (fun q h => h)
        have hsl := hY.sl (k := k) (by omega)
        refine g_top (y := (nI (tk (S 6 k)))) (ys_1 hY (by omega)) ?_
        refine lv_iload_n hx hb dL_solos_19 rfl (lv_at hl 1 rfl) ?_
        refine lv_icmp_le (tgt := 58) hx hb dL_solos_20 (by decide) (fun c20 => absurd c20 (so_last hY hkl)) (fun c20 => ?_)
        refine lv_aload_n hx hb dL_solos_23 rfl (lv_at hl 0 rfl) ?_
        refine lv_iload_n hx hb dL_solos_24 rfl (lv_at hl 2 rfl) ?_
        refine lv_iconst (v := (nI 2)) hx hb dL_solos_25 (by decide) ?_
        refine g_runV (As := [.int (nI k), .int (nI 2)]) (rest := []) (own := RL) (C := RX7) (T := TX7) (N := 7) 2 hx hb hml hown hts hK hz hP hL hS hlo hl.1 (c_X7_solo l o b S tf tn P C kp zp ((nI k)) ((nI 2))  τ_9 sz hW hY.1.1 ) gL_solos_X7_solo rfl rfl rfl (by decide +kernel) ⟨Nat.le_of_ble_eq_true rfl, Nat.le_of_ble_eq_true rfl⟩ hW.c0 rfl rfl rfl (Nat.le_of_ble_eq_true rfl) dL_solos_26 ⟨Nat.le_of_ble_eq_true rfl, Nat.le_of_ble_eq_true rfl⟩ (g_kxi0 (fun r_10 τ_10 H locs z_10 hz hp hP hL hS => ?_))
        obtain ⟨hr_10, hW, hz_10, ha_10⟩ := hp
        have hz := hz.trans hz_10
        subst hr_10
        have hag := hag.tr ha_10 (fun q h => h)
        have hsl := hY.sl (k := k) (by omega)
        refine g_top (y := (nI (tk (S 7 k)))) (ys_2 hY (by omega)) ?_
        refine lv_aload_n hx hb dL_solos_29 rfl (lv_at hl 0 rfl) ?_
        refine lv_iload_n hx hb dL_solos_30 rfl (lv_at hl 2 rfl) ?_
        refine lv_iconst (v := (nI 1)) hx hb dL_solos_31 (by decide) ?_
        refine g_runV (As := [.int (nI k), .int (nI 1)]) (rest := [.int (nI (tk (S 7 k)))]) (own := RL) (C := RX7) (T := TX7) (N := 7) 2 hx hb hml hown hts hK hz hP hL hS hlo hl.1 (c_X7_solo l o b S tf tn P C kp zp ((nI k)) ((nI 1))  τ_10 sz hW hY.1.1 ) gL_solos_X7_solo rfl rfl rfl (by decide +kernel) ⟨Nat.le_of_ble_eq_true rfl, Nat.le_of_ble_eq_true rfl⟩ hW.c0 rfl rfl rfl (Nat.le_of_ble_eq_true rfl) dL_solos_32 ⟨Nat.le_of_ble_eq_true rfl, Nat.le_of_ble_eq_true rfl⟩ (g_kxi0 (fun r_11 τ_11 H locs z_11 hz hp hP hL hS => ?_))
        obtain ⟨hr_11, hW, hz_11, ha_11⟩ := hp
        have hz := hz.trans hz_11
        subst hr_11
        have hag := hag.tr ha_11 (fun q h => h)
        have hsl := hY.sl (k := k) (by omega)
        refine g_top (y := (nI (tk (S 6 k)))) (ys_1 hY (by omega)) ?_
        refine g_icmp_lt (tgt := 58) (a := tk (S 7 k)) (b := tk (S 6 k)) hx hb (by omega) (by omega) dL_solos_35 (by decide) (fun c35 => False.elim (by omega)) (fun c35 => ?_)
        refine lv_aload_n hx hb dL_solos_38 rfl (lv_at hl 0 rfl) ?_
        refine lv_iload_n hx hb dL_solos_39 rfl (lv_at hl 2 rfl) ?_
        refine lv_iconst (v := (nI 0)) hx hb dL_solos_40 (by decide) ?_
        refine g_runV (As := [.int (nI k), .int (nI 0)]) (rest := []) (own := RL) (C := RX7) (T := TX7) (N := 7) 2 hx hb hml hown hts hK hz hP hL hS hlo hl.1 (c_X7_solo l o b S tf tn P C kp zp ((nI k)) ((nI 0))  τ_11 sz hW hY.1.1 ) gL_solos_X7_solo rfl rfl rfl (by decide +kernel) ⟨Nat.le_of_ble_eq_true rfl, Nat.le_of_ble_eq_true rfl⟩ hW.c0 rfl rfl rfl (Nat.le_of_ble_eq_true rfl) dL_solos_41 ⟨Nat.le_of_ble_eq_true rfl, Nat.le_of_ble_eq_true rfl⟩ (g_kxi0 (fun r_12 τ_12 H locs z_12 hz hp hP hL hS => ?_))
        obtain ⟨hr_12, hW, hz_12, ha_12⟩ := hp
        have hz := hz.trans hz_12
        subst hr_12
        have hag := hag.tr ha_12 (fun q h => h)
        have hsl := hY.sl (k := k) (by omega)
        refine g_top (y := (nI (tk (S 5 k)))) (ys_0 hY (by omega)) ?_
        refine g_if_lt hx hb (by omega) dL_solos_44 (tgt := 58) (by decide) ?_
        refine lv_aload_n hx hb dL_solos_47 rfl (lv_at hl 0 rfl) ?_
        refine lv_iload_n hx hb dL_solos_48 rfl (lv_at hl 2 rfl) ?_
        refine lv_iconst (v := (nI 3)) hx hb dL_solos_49 (by decide) ?_
        refine g_runV (As := [.int (nI k), .int (nI 3)]) (rest := []) (own := RL) (C := RX7) (T := TX7) (N := 7) 2 hx hb hml hown hts hK hz hP hL hS hlo hl.1 (c_X7_solo l o b S tf tn P C kp zp ((nI k)) ((nI 3))  τ_12 sz hW hY.1.1 ) gL_solos_X7_solo rfl rfl rfl (by decide +kernel) ⟨Nat.le_of_ble_eq_true rfl, Nat.le_of_ble_eq_true rfl⟩ hW.c0 rfl rfl rfl (Nat.le_of_ble_eq_true rfl) dL_solos_50 ⟨Nat.le_of_ble_eq_true rfl, Nat.le_of_ble_eq_true rfl⟩ (g_kxi0 (fun r_13 τ_13 H locs z_13 hz hp hP hL hS => ?_))
        obtain ⟨hr_13, hW, hz_13, ha_13⟩ := hp
        have hz := hz.trans hz_13
        subst hr_13
        have hag := hag.tr ha_13 (fun q h => h)
        have hsl := hY.sl (k := k) (by omega)
        refine g_top (y := (-2)) (ys_3 hY (by omega)) ?_
        refine lv_bipush (v := (-2)) hx hb dL_solos_53 (by decide) ?_
        refine lv_icmp_eq (tgt := 60) hx hb dL_solos_55 (by decide) (fun c55 => ?_) (fun c55 => by first | exact absurd (by decide) c55 | exact absurd c55 (by decide))
        refine lv_aload_n hx hb dL_solos_60 rfl (lv_at hl 0 rfl) ?_
        refine lv_iload_n hx hb dL_solos_61 rfl (lv_at hl 2 rfl) ?_
        refine lv_iconst (v := (nI 2)) hx hb dL_solos_62 (by decide) ?_
        refine g_runV (As := [.int (nI k), .int (nI 2)]) (rest := []) (own := RL) (C := RX7) (T := TX7) (N := 7) 2 hx hb hml hown hts hK hz hP hL hS hlo hl.1 (c_X7_solo l o b S tf tn P C kp zp ((nI k)) ((nI 2))  τ_13 sz hW hY.1.1 ) gL_solos_X7_solo rfl rfl rfl (by decide +kernel) ⟨Nat.le_of_ble_eq_true rfl, Nat.le_of_ble_eq_true rfl⟩ hW.c0 rfl rfl rfl (Nat.le_of_ble_eq_true rfl) dL_solos_63 ⟨Nat.le_of_ble_eq_true rfl, Nat.le_of_ble_eq_true rfl⟩ (g_kxi0 (fun r_14 τ_14 H locs z_14 hz hp hP hL hS => ?_))
        obtain ⟨hr_14, hW, hz_14, ha_14⟩ := hp
        have hz := hz.trans hz_14
        subst hr_14
        have hag := hag.tr ha_14 (fun q h => h)
        have hsl := hY.sl (k := k) (by omega)
        refine g_top (y := (nI (tk (S 7 k)))) (ys_2 hY (by omega)) ?_
        refine g_top (y := (laS S (k + 1))) rfl ?_
        refine lv_istore_n (lv' := [(1, .int (laS S (k + 1))), (0, .ref o), (2, .int (nI k))]) hx hb dL_solos_66 rfl hl (by decide) rfl (fun ls hl => ?_)
        refine lv_iinc (v := (nI (k + 1))) (lv' := [(2, .int (nI (k + 1))), (1, .int (laS S (k + 1))), (0, .ref o)]) hx hb dL_solos_67 hl (k := 2) rfl (g_inc k 1) (by decide) rfl (fun ls hl => ?_)
        refine lv_goto (tgt := 4) hx hb dL_solos_70 (by decide) ?_
        exact ih_lpA (k + 1) (by omega) (by omega) τ_14 hW hag hL H locs ls hz hP hS (lv_sub hl [2, 1, 0] rfl)
  exact lpA _ 0 (by omega) (Nat.lt_succ_self _) σ hW hag hL H locs ls hz hP hS (lv_sub hl [2, 1, 0] rfl)

set_option maxHeartbeats 4000000 in
set_option maxRecDepth 100000 in
theorem c_L_faults (l : Launch) (o b : Nat) (S : sS) (tf : Nat → Int32) (tn P : Nat) (C : Nat → sS) (kp : Nat → Bool) (zp : Nat) (PO : Nat → Nat → Nat → Nat) (σ : gS) (sz : Nat) (hW : Wo σ o b S tf tn P C kp zp) (hY : okY S) (hzp : zp ≤ sz) (hPO : ∀ b q i, PO b q i = poG (gF S) b q i) : gM l yL_faults wsL_faults ({ frames := 8, cells := 1, slots := 4, locals := 186 } : Room) 1 4 [.ref o] σ sz (gxi (fun r τ n => r = nI 1 ∧ Wo τ o b S tf tn P C kp zp ∧ sz ≤ n ∧ n ≤ sz + 1)) := by
  refine gM_of (cc := cL_faults) (maxL := 9) (ret := (some .boolean)) (by decide) rfl (Nat.le_of_ble_eq_true rfl) ?_
  intro D ka lo hL hlo p e s m below meth c hx hb hr hts hown hml hlk hnm hK H locs ls hz hP hS hl
  have hl : lv_has ls 9 [(0, .ref o)] := hl
  have hown : s.vm.findClass RL = some m.cls := hown
  have hoz := hW.oz
  obtain ⟨⟨hB, hN, hKs, hRs⟩, -⟩ := id hY.1
  refine lv_iconst (v := (nI 0)) hx hb dL_faults_0 (by decide) ?_
  refine lv_istore_n (lv' := [(1, .int (nI 0)), (0, .ref o)]) hx hb dL_faults_1 rfl hl (by decide) rfl (fun ls hl => ?_)
  refine lv_iconst (v := (nI 4)) hx hb dL_faults_2 (by decide) ?_
  refine g_newa hx hb hts hK hz hP hL hS hlo 0 .int (by decide) (by decide +kernel) (n := nI 4) (N := 4) rfl (by omega) (show 0 + 1 ≤ 1 by omega) (show 0 + 4 ≤ 4 by omega) dL_faults_3 (fun H hz hP hL hS => ?_)
  have hlo : lo ≤ sz + 1 := Nat.le_succ_of_le hlo
  obtain ⟨σ1, e1⟩ : ∃ υ0 : gS, υ0 = gup σ sz (gI 4 (fun _ => 0)) := ⟨_, rfl⟩
  have hP : gH D ka σ1 H := by rw [e1]; exact hP
  have hL : gL lo σ1 := by rw [e1]; exact hL
  have hW := hW.fr (τ := σ1) (fun q h1 h2 => gup_eq e1 (by omega))
  have hnz_sz_0 : ¬ gZo o 39 sz := fun h => by have h3 := h.2; omega
  refine lv_astore_n (lv' := [(2, .ref sz), (1, .int (nI 0)), (0, .ref o)]) hx hb dL_faults_5 rfl hl (by decide) rfl (fun ls hl => ?_)
  refine lv_iconst (v := (nI 0)) hx hb dL_faults_6 (by decide) ?_
  refine lv_istore_n (lv' := [(3, .int (nI 0)), (2, .ref sz), (1, .int (nI 0)), (0, .ref o)]) hx hb dL_faults_7 rfl hl (by decide) rfl (fun ls hl => ?_)
  have lpA : ∀ (fu_lpA : Nat) (j : Nat), (j ≤ sB S) → (sB S - j < fu_lpA) → ∀ (υ : gS), (Wo υ o b S tf tn P C kp zp) → (υ sz = gI 4 (crow S j 0 0)) → gL lo υ → ∀ (H : Heap) (locs : List Loc) (ls : Array Slot), H.size = (sz + 1) → gH D ka υ H → va_S (gA lo) s.heap H locs → lv_has ls 9 [(0, .ref o), (1, .int (nI (PO j 0 0))), (2, .ref sz), (3, .int (nI j))] → W p l e ({ frames := 8, cells := 1, slots := 4, locals := 186 } : Room) s m ([.ref o] : List Value).toArray below meth c H locs (0 + 1) (0 + 4) (MQ below (gQ D ka lo (gxi (fun r τ n => r = nI 1 ∧ Wo τ o b S tf tn P C kp zp ∧ sz ≤ n ∧ n ≤ sz + 1))) ([.ref o] : List Value).toArray s 1 4 (gA lo)) (F0 m 8 ls []) := by
    intro fu_lpA
    induction fu_lpA with
    | zero => intro j hj hm_lpA; exact absurd hm_lpA (Nat.not_lt_zero _)
    | succ fu_lpA ih_lpA =>
      intro j hj hm_lpA υ hW hA0 hL H locs ls hz hP hS hl
      refine lv_iload_n hx hb dL_faults_8 rfl (lv_at hl 3 rfl) ?_
      refine lv_aload_n hx hb dL_faults_9 rfl (lv_at hl 0 rfl) ?_
      refine lv_iconst (v := (nI 0)) hx hb dL_faults_10 (by decide) ?_
      refine g_runV (As := [.int (nI 0)]) (rest := [.int (nI j)]) (own := RL) (C := RX7) (T := TX7) (N := 7) 1 hx hb hml hown hts hK hz hP hL hS hlo hl.1 (c_X7_count l o b S tf tn P C kp zp ((nI 0))  υ ((sz + 1)) hW hY.1.1 ) gL_faults_X7_count rfl rfl rfl (by decide +kernel) ⟨Nat.le_of_ble_eq_true rfl, Nat.le_of_ble_eq_true rfl⟩ hW.c0 rfl rfl rfl (Nat.le_of_ble_eq_true rfl) dL_faults_11 ⟨Nat.le_of_ble_eq_true rfl, Nat.le_of_ble_eq_true rfl⟩ (g_kxi0 (fun r_2 τ_2 H locs z_2 hz hp hP hL hS => ?_))
      obtain ⟨hr_2, hW, hz_2, ha_2⟩ := hp
      have hz := hz.trans hz_2
      subst hr_2
      refine g_top (y := (nI (sB S))) yc_0 ?_
      refine g_icmp_ge (tgt := 227) (a := j) (b := sB S) hx hb (by omega) (by omega) dL_faults_14 (by decide) (fun c14 => ?_) (fun c14 => ?_)
      · have hje : j = sB S := by omega
        rw [hje] at hl
        have hA9 : τ_2 sz = gI 4 (crow S (sB S) 0 0) := by rw [← hje]; exact ((ha_2 _ hnz_sz_0).trans hA0)
        refine lv_aload_n hx hb dL_faults_227 rfl (lv_at hl 0 rfl) ?_
        refine lv_bipush (v := (nI 7)) hx hb dL_faults_228 (by decide) ?_
        refine g_runV (As := [.int (nI 7)]) (rest := []) (own := RL) (C := RX7) (T := TX7) (N := 7) 1 hx hb hml hown hts hK hz hP hL hS hlo hl.1 (c_X7_count l o b S tf tn P C kp zp ((nI 7))  τ_2 ((sz + 1)) hW hY.1.1 ) gL_faults_X7_count rfl rfl rfl (by decide +kernel) ⟨Nat.le_of_ble_eq_true rfl, Nat.le_of_ble_eq_true rfl⟩ hW.c0 rfl rfl rfl (Nat.le_of_ble_eq_true rfl) dL_faults_230 ⟨Nat.le_of_ble_eq_true rfl, Nat.le_of_ble_eq_true rfl⟩ (g_kxi0 (fun r_3 τ_3 H locs z_3 hz hp hP hL hS => ?_))
        obtain ⟨hr_3, hW, hz_3, ha_3⟩ := hp
        have hz := hz.trans hz_3
        subst hr_3
        have hpg := poG_e (S := S) (B := sB S) (by omega)
        refine g_top (y := (nI (poG (gF S) (sB S) 0 0))) (yc_7 hY) ?_
        refine g_top (y := (nI (PO (sB S) 0 0))) (by rw [hPO]) ?_
        refine lv_iload_n hx hb dL_faults_233 rfl (lv_at hl 1 rfl) ?_
        refine lv_icmp_ne (tgt := 241) hx hb dL_faults_234 (by decide) (fun c234 => absurd rfl c234) (fun c234 => ?_)
        refine lv_iconst (v := (nI 1)) hx hb dL_faults_237 (by decide) ?_
        refine lv_goto (tgt := 242) hx hb dL_faults_238 (by decide) ?_
        refine lv_istore_n (lv' := [(3, .int (nI 1)), (0, .ref o), (1, .int (nI (PO (sB S) 0 0))), (2, .ref sz)]) hx hb dL_faults_242 rfl hl (by decide) rfl (fun ls hl => ?_)
        refine lv_iconst (v := (nI 0)) hx hb dL_faults_243 (by decide) ?_
        refine lv_istore (lv' := [(4, .int (nI 0)), (3, .int (nI 1)), (0, .ref o), (1, .int (nI (PO (sB S) 0 0))), (2, .ref sz)]) hx hb dL_faults_244 hl (by decide) rfl (fun ls hl => ?_)
        have lpD : ∀ (fu_lpD : Nat) (q : Nat), (q ≤ 4) → (4 - q < fu_lpD) → ∀ (υ : gS), (Wo υ o b S tf tn P C kp zp) → (υ sz = gI 4 (crow S (sB S) 0 0)) → gL lo υ → ∀ (H : Heap) (locs : List Loc) (ls : Array Slot), H.size = (sz + 1) → gH D ka υ H → va_S (gA lo) s.heap H locs → lv_has ls 9 [(0, .ref o), (1, .int (nI (PO (sB S) 0 0))), (2, .ref sz), (3, .int (nI 1)), (4, .int (nI q))] → W p l e ({ frames := 8, cells := 1, slots := 4, locals := 186 } : Room) s m ([.ref o] : List Value).toArray below meth c H locs (0 + 1) (0 + 4) (MQ below (gQ D ka lo (gxi (fun r τ n => r = nI 1 ∧ Wo τ o b S tf tn P C kp zp ∧ sz ≤ n ∧ n ≤ sz + 1))) ([.ref o] : List Value).toArray s 1 4 (gA lo)) (F0 m 246 ls []) := by
          intro fu_lpD
          induction fu_lpD with
          | zero => intro q hq4 hm_lpD; exact absurd hm_lpD (Nat.not_lt_zero _)
          | succ fu_lpD ih_lpD =>
            intro q hq4 hm_lpD υ hW hA0 hL H locs ls hz hP hS hl
            refine lv_iload hx hb dL_faults_246 (lv_at hl 4 rfl) ?_
            refine lv_iconst (v := (nI 4)) hx hb dL_faults_248 (by decide) ?_
            refine g_icmp_ge (tgt := 284) (a := q) (b := 4) hx hb (by omega) (by omega) dL_faults_249 (by decide) (fun c249 => ?_) (fun c249 => ?_)
            · refine lv_iload_n hx hb dL_faults_284 rfl (lv_at hl 3 rfl) ?_
              refine lv_if_eq (tgt := 336) hx hb dL_faults_285 (by decide) (fun c285 => by first | exact absurd (by decide) c285 | exact absurd c285 (by decide)) (fun c285 => ?_)
              refine lv_aload_n hx hb dL_faults_288 rfl (lv_at hl 0 rfl) ?_
              refine lv_iload_n hx hb dL_faults_289 rfl (lv_at hl 1 rfl) ?_
              refine lv_iconst (v := (nI 0)) hx hb dL_faults_290 (by decide) ?_
              refine g_runV (As := [.int (nI (PO (sB S) 0 0)), .int (nI 0)]) (rest := []) (own := RL) (C := RX7) (T := TX7) (N := 7) 2 hx hb hml hown hts hK hz hP hL hS hlo hl.1 (c_X7_fault l o b S tf tn P C kp zp ((nI (PO (sB S) 0 0))) ((nI 0)) (cnG (gF S)) υ ((sz + 1)) hW hY.1.1 (fun b q h1 h2 => gF_bc h1 hY.1.1.2.1 h2) (fun b q => cntF_le _ 12)) gL_faults_X7_fault rfl rfl rfl (by decide +kernel) ⟨Nat.le_of_ble_eq_true rfl, Nat.le_of_ble_eq_true rfl⟩ hW.c0 rfl rfl rfl (Nat.le_of_ble_eq_true rfl) dL_faults_291 ⟨Nat.le_of_ble_eq_true rfl, Nat.le_of_ble_eq_true rfl⟩ (g_kxi0 (fun r_4 τ_4 H locs z_4 hz hp hP hL hS => ?_))
              obtain ⟨hr_4, hW, hz_4, ha_4⟩ := hp
              have hz := hz.trans hz_4
              subst hr_4
              refine g_top (y := (-5)) (by rw [hPO]; exact tel_e hY) ?_
              refine lv_bipush (v := (-5)) hx hb dL_faults_294 (by decide) ?_
              refine lv_icmp_ne (tgt := 336) hx hb dL_faults_296 (by decide) (fun c296 => by first | exact absurd (by decide) c296 | exact absurd c296 (by decide)) (fun c296 => ?_)
              refine lv_aload_n hx hb dL_faults_299 rfl (lv_at hl 0 rfl) ?_
              refine lv_iconst (v := (-1)) hx hb dL_faults_300 (by decide) ?_
              refine lv_iconst (v := (nI 0)) hx hb dL_faults_301 (by decide) ?_
              refine g_runV (As := [.int (-1), .int (nI 0)]) (rest := []) (own := RL) (C := RX7) (T := TX7) (N := 7) 2 hx hb hml hown hts hK hz hP hL hS hlo hl.1 (c_X7_fault l o b S tf tn P C kp zp ((-1)) ((nI 0)) (cnG (gF S)) τ_4 ((sz + 1)) hW hY.1.1 (fun b q h1 h2 => gF_bc h1 hY.1.1.2.1 h2) (fun b q => cntF_le _ 12)) gL_faults_X7_fault rfl rfl rfl (by decide +kernel) ⟨Nat.le_of_ble_eq_true rfl, Nat.le_of_ble_eq_true rfl⟩ hW.c0 rfl rfl rfl (Nat.le_of_ble_eq_true rfl) dL_faults_302 ⟨Nat.le_of_ble_eq_true rfl, Nat.le_of_ble_eq_true rfl⟩ (g_kxi0 (fun r_5 τ_5 H locs z_5 hz hp hP hL hS => ?_))
              obtain ⟨hr_5, hW, hz_5, ha_5⟩ := hp
              have hz := hz.trans hz_5
              subst hr_5
              refine g_top (y := (-2)) (tel_1 _) ?_
              refine lv_bipush (v := (-2)) hx hb dL_faults_305 (by decide) ?_
              refine lv_icmp_ne (tgt := 336) hx hb dL_faults_307 (by decide) (fun c307 => by first | exact absurd (by decide) c307 | exact absurd c307 (by decide)) (fun c307 => ?_)
              refine lv_aload_n hx hb dL_faults_310 rfl (lv_at hl 0 rfl) ?_
              refine lv_iconst (v := (nI 0)) hx hb dL_faults_311 (by decide) ?_
              refine lv_iconst (v := (nI 3)) hx hb dL_faults_312 (by decide) ?_
              refine g_runV (As := [.int (nI 0), .int (nI 3)]) (rest := []) (own := RL) (C := RX7) (T := TX7) (N := 7) 2 hx hb hml hown hts hK hz hP hL hS hlo hl.1 (c_X7_fault l o b S tf tn P C kp zp ((nI 0)) ((nI 3)) (cnG (gF S)) τ_5 ((sz + 1)) hW hY.1.1 (fun b q h1 h2 => gF_bc h1 hY.1.1.2.1 h2) (fun b q => cntF_le _ 12)) gL_faults_X7_fault rfl rfl rfl (by decide +kernel) ⟨Nat.le_of_ble_eq_true rfl, Nat.le_of_ble_eq_true rfl⟩ hW.c0 rfl rfl rfl (Nat.le_of_ble_eq_true rfl) dL_faults_313 ⟨Nat.le_of_ble_eq_true rfl, Nat.le_of_ble_eq_true rfl⟩ (g_kxi0 (fun r_6 τ_6 H locs z_6 hz hp hP hL hS => ?_))
              obtain ⟨hr_6, hW, hz_6, ha_6⟩ := hp
              have hz := hz.trans hz_6
              subst hr_6
              refine g_top (y := (-2)) (tel_3 _) ?_
              refine lv_bipush (v := (-2)) hx hb dL_faults_316 (by decide) ?_
              refine lv_icmp_ne (tgt := 336) hx hb dL_faults_318 (by decide) (fun c318 => by first | exact absurd (by decide) c318 | exact absurd c318 (by decide)) (fun c318 => ?_)
              refine lv_aload_n hx hb dL_faults_321 rfl (lv_at hl 0 rfl) ?_
              refine lv_bipush (v := (nI 16)) hx hb dL_faults_322 (by decide) ?_
              refine g_runV (As := [.int (nI 16)]) (rest := []) (own := RL) (C := RX7) (T := TX7) (N := 7) 1 hx hb hml hown hts hK hz hP hL hS hlo hl.1 (c_X7_count l o b S tf tn P C kp zp ((nI 16))  τ_6 ((sz + 1)) hW hY.1.1 ) gL_faults_X7_count rfl rfl rfl (by decide +kernel) ⟨Nat.le_of_ble_eq_true rfl, Nat.le_of_ble_eq_true rfl⟩ hW.c0 rfl rfl rfl (Nat.le_of_ble_eq_true rfl) dL_faults_324 ⟨Nat.le_of_ble_eq_true rfl, Nat.le_of_ble_eq_true rfl⟩ (g_kxi0 (fun r_7 τ_7 H locs z_7 hz hp hP hL hS => ?_))
              obtain ⟨hr_7, hW, hz_7, ha_7⟩ := hp
              have hz := hz.trans hz_7
              subst hr_7
              refine g_top (y := (-2)) (yc_16 _ _ _) ?_
              refine lv_bipush (v := (-2)) hx hb dL_faults_327 (by decide) ?_
              refine lv_icmp_ne (tgt := 336) hx hb dL_faults_329 (by decide) (fun c329 => by first | exact absurd (by decide) c329 | exact absurd c329 (by decide)) (fun c329 => ?_)
              refine lv_iconst (v := (nI 1)) hx hb dL_faults_332 (by decide) ?_
              refine lv_goto (tgt := 337) hx hb dL_faults_333 (by decide) ?_
              refine W.widen (k := 1) (n := 4) (by omega) (by omega) ?_
              exact g_zret (z := (sz + 1)) hx hb hr hlk hz hP hL hS rfl dL_faults_337 (gxi_i ⟨rfl, hW, by omega, by omega⟩)
            · have hql : q < 4 := by omega
              refine lv_iload_n hx hb dL_faults_252 rfl (lv_at hl 3 rfl) ?_
              refine lv_if_eq (tgt := 276) hx hb dL_faults_253 (by decide) (fun c253 => by first | exact absurd (by decide) c253 | exact absurd c253 (by decide)) (fun c253 => ?_)
              refine lv_aload_n hx hb dL_faults_256 rfl (lv_at hl 0 rfl) ?_
              refine lv_bipush (v := (nI 8)) hx hb dL_faults_257 (by decide) ?_
              refine lv_iload hx hb dL_faults_259 (lv_at hl 4 rfl) ?_
              refine lv_iadd hx hb dL_faults_261 ?_
              refine g_top (nI_add 8 q) ?_
              refine g_runV (As := [.int (nI (8 + q))]) (rest := []) (own := RL) (C := RX7) (T := TX7) (N := 7) 1 hx hb hml hown hts hK hz hP hL hS hlo hl.1 (c_X7_count l o b S tf tn P C kp zp ((nI (8 + q)))  υ ((sz + 1)) hW hY.1.1 ) gL_faults_X7_count rfl rfl rfl (by decide +kernel) ⟨Nat.le_of_ble_eq_true rfl, Nat.le_of_ble_eq_true rfl⟩ hW.c0 rfl rfl rfl (Nat.le_of_ble_eq_true rfl) dL_faults_262 ⟨Nat.le_of_ble_eq_true rfl, Nat.le_of_ble_eq_true rfl⟩ (g_kxi0 (fun r_8 τ_8 H locs z_8 hz hp hP hL hS => ?_))
              obtain ⟨hr_8, hW, hz_8, ha_8⟩ := hp
              have hz := hz.trans hz_8
              subst hr_8
              have hcq := cq_le S q hY.1.1.1
              refine g_top (y := (nI (cqG (gF S) q (sB S) 0 0))) (yc_8q hY (by omega)) ?_
              refine lv_aload_n hx hb dL_faults_265 rfl (lv_at hl 2 rfl) ?_
              refine lv_iload hx hb dL_faults_266 (lv_at hl 4 rfl) ?_
              refine g_iald hx hb hK hP ((ha_8 _ hnz_sz_0).trans hA0) (i := nI q) (vp_in_nI (by omega) (by omega)) dL_faults_268 ?_
              rw [nI_clamp (n := q) (by omega)]
              refine g_top (y := (nI (cqG (gF S) q (sB S) 0 0))) (if_pos (show q < 4 by omega)) ?_
              refine lv_icmp_ne (tgt := 276) hx hb dL_faults_269 (by decide) (fun c269 => absurd rfl c269) (fun c269 => ?_)
              refine lv_iconst (v := (nI 1)) hx hb dL_faults_272 (by decide) ?_
              refine lv_goto (tgt := 277) hx hb dL_faults_273 (by decide) ?_
              refine lv_istore_n (lv' := [(3, .int (nI 1)), (0, .ref o), (1, .int (nI (PO (sB S) 0 0))), (2, .ref sz), (4, .int (nI q))]) hx hb dL_faults_277 rfl hl (by decide) rfl (fun ls hl => ?_)
              refine lv_iinc (v := (nI (q + 1))) (lv' := [(4, .int (nI (q + 1))), (3, .int (nI 1)), (0, .ref o), (1, .int (nI (PO (sB S) 0 0))), (2, .ref sz)]) hx hb dL_faults_278 hl (k := 4) rfl (g_inc q 1) (by decide) rfl (fun ls hl => ?_)
              refine lv_goto (tgt := 246) hx hb dL_faults_281 (by decide) ?_
              exact ih_lpD (q + 1) (by omega) (by omega) τ_8 hW ((ha_8 _ hnz_sz_0).trans hA0) hL H locs ls hz hP hS (lv_sub hl [2, 3, 4, 1, 0] rfl)
        exact lpD _ 0 (by omega) (Nat.lt_succ_self _) τ_3 hW ((ha_3 _ hnz_sz_0).trans hA9) hL H locs ls hz hP hS (lv_sub hl [2, 3, 4, 1, 0] rfl)
      · have hjl : j < sB S := by omega
        refine lv_aload_n hx hb dL_faults_17 rfl (lv_at hl 0 rfl) ?_
        refine lv_iload_n hx hb dL_faults_18 rfl (lv_at hl 3 rfl) ?_
        refine lv_iconst (v := (nI 0)) hx hb dL_faults_19 (by decide) ?_
        refine g_runV (As := [.int (nI j), .int (nI 0)]) (rest := []) (own := RL) (C := RX7) (T := TX7) (N := 7) 2 hx hb hml hown hts hK hz hP hL hS hlo hl.1 (c_X7_beat l o b S tf tn P C kp zp ((nI j)) ((nI 0))  τ_2 ((sz + 1)) hW hY.1.1 ) gL_faults_X7_beat rfl rfl rfl (by decide +kernel) ⟨Nat.le_of_ble_eq_true rfl, Nat.le_of_ble_eq_true rfl⟩ hW.c0 rfl rfl rfl (Nat.le_of_ble_eq_true rfl) dL_faults_20 ⟨Nat.le_of_ble_eq_true rfl, Nat.le_of_ble_eq_true rfl⟩ (g_kxi0 (fun r_9 τ_9 H locs z_9 hz hp hP hL hS => ?_))
        obtain ⟨hr_9, hW, hz_9, ha_9⟩ := hp
        have hz := hz.trans hz_9
        subst hr_9
        have hxso := hY.so (b := j) (by omega)
        refine g_top (y := (nI (tk (S 0 j)))) (yb_0 hY (by omega)) ?_
        have jn59 : ∀ (υ : gS), (Wo υ o b S tf tn P C kp zp) → (υ sz = gI 4 (crow S j 1 0)) → gL lo υ → ∀ (H : Heap) (locs : List Loc) (ls : Array Slot), H.size = (sz + 1) → gH D ka υ H → va_S (gA lo) s.heap H locs → lv_has ls 9 [(0, .ref o), (1, .int (nI (PO j 1 0))), (2, .ref sz), (3, .int (nI j))] → W p l e ({ frames := 8, cells := 1, slots := 4, locals := 186 } : Room) s m ([.ref o] : List Value).toArray below meth c H locs (0 + 1) (0 + 4) (MQ below (gQ D ka lo (gxi (fun r τ n => r = nI 1 ∧ Wo τ o b S tf tn P C kp zp ∧ sz ≤ n ∧ n ≤ sz + 1))) ([.ref o] : List Value).toArray s 1 4 (gA lo)) (F0 m 59 ls []) := by
          intro υ hW hA0 hL H locs ls hz hP hS hl
          refine lv_iconst (v := (nI 1)) hx hb dL_faults_59 (by decide) ?_
          refine lv_istore (lv' := [(4, .int (nI 1)), (0, .ref o), (1, .int (nI (PO j 1 0))), (2, .ref sz), (3, .int (nI j))]) hx hb dL_faults_60 hl (by decide) rfl (fun ls hl => ?_)
          have lpB : ∀ (fu_lpB : Nat) (q : Nat), (1 ≤ q) → (q ≤ 4) → (4 - q < fu_lpB) → ∀ (υ : gS), (Wo υ o b S tf tn P C kp zp) → (υ sz = gI 4 (crow S j q 0)) → gL lo υ → ∀ (H : Heap) (locs : List Loc) (ls : Array Slot), H.size = (sz + 1) → gH D ka υ H → va_S (gA lo) s.heap H locs → lv_has ls 9 [(0, .ref o), (1, .int (nI (PO j q 0))), (2, .ref sz), (3, .int (nI j)), (4, .int (nI q))] → W p l e ({ frames := 8, cells := 1, slots := 4, locals := 186 } : Room) s m ([.ref o] : List Value).toArray below meth c H locs (0 + 1) (0 + 4) (MQ below (gQ D ka lo (gxi (fun r τ n => r = nI 1 ∧ Wo τ o b S tf tn P C kp zp ∧ sz ≤ n ∧ n ≤ sz + 1))) ([.ref o] : List Value).toArray s 1 4 (gA lo)) (F0 m 62 ls []) := by
            intro fu_lpB
            induction fu_lpB with
            | zero => intro q hq1 hq4 hm_lpB; exact absurd hm_lpB (Nat.not_lt_zero _)
            | succ fu_lpB ih_lpB =>
              intro q hq1 hq4 hm_lpB υ hW hA0 hL H locs ls hz hP hS hl
              refine lv_iload hx hb dL_faults_62 (lv_at hl 4 rfl) ?_
              refine lv_iconst (v := (nI 4)) hx hb dL_faults_64 (by decide) ?_
              refine g_icmp_ge (tgt := 221) (a := q) (b := 4) hx hb (by omega) (by omega) dL_faults_65 (by decide) (fun c65 => ?_) (fun c65 => ?_)
              · have hqe : q = 4 := by omega
                have hpe : PO j 4 0 = PO (j + 1) 0 0 := by rw [hPO, hPO, po_n]
                rw [hqe, hpe] at hl
                have hA9 : υ sz = gI 4 (crow S (j + 1) 0 0) := by have h9 := hA0; rw [hqe, crow_z] at h9; exact h9
                refine lv_iinc (v := (nI (j + 1))) (lv' := [(3, .int (nI (j + 1))), (0, .ref o), (1, .int (nI (PO (j + 1) 0 0))), (2, .ref sz), (4, .int (nI 4))]) hx hb dL_faults_221 hl (k := 3) rfl (g_inc j 1) (by decide) rfl (fun ls hl => ?_)
                refine lv_goto (tgt := 8) hx hb dL_faults_224 (by decide) ?_
                exact ih_lpA (j + 1) (by omega) (by omega) υ hW hA9 hL H locs ls hz hP hS (lv_sub hl [1, 2, 3, 0] rfl)
              · have hql : q < 4 := by omega
                refine lv_iconst (v := (nI 0)) hx hb dL_faults_68 (by decide) ?_
                refine lv_istore (lv' := [(5, .int (nI 0)), (0, .ref o), (1, .int (nI (PO j q 0))), (2, .ref sz), (3, .int (nI j)), (4, .int (nI q))]) hx hb dL_faults_69 hl (by decide) rfl (fun ls hl => ?_)
                have lpC : ∀ (fu_lpC : Nat) (i : Nat), (i ≤ sN S) → (sN S - i < fu_lpC) → ∀ (υ : gS), (Wo υ o b S tf tn P C kp zp) → (υ sz = gI 4 (crow S j q i)) → gL lo υ → ∀ (H : Heap) (locs : List Loc) (ls : Array Slot), H.size = (sz + 1) → gH D ka υ H → va_S (gA lo) s.heap H locs → lv_has ls 9 [(0, .ref o), (1, .int (nI (PO j q i))), (2, .ref sz), (3, .int (nI j)), (4, .int (nI q)), (5, .int (nI i))] → W p l e ({ frames := 8, cells := 1, slots := 4, locals := 186 } : Room) s m ([.ref o] : List Value).toArray below meth c H locs (0 + 1) (0 + 4) (MQ below (gQ D ka lo (gxi (fun r τ n => r = nI 1 ∧ Wo τ o b S tf tn P C kp zp ∧ sz ≤ n ∧ n ≤ sz + 1))) ([.ref o] : List Value).toArray s 1 4 (gA lo)) (F0 m 71 ls []) := by
                  intro fu_lpC
                  induction fu_lpC with
                  | zero => intro i hi hm_lpC; exact absurd hm_lpC (Nat.not_lt_zero _)
                  | succ fu_lpC ih_lpC =>
                    intro i hi hm_lpC υ hW hA0 hL H locs ls hz hP hS hl
                    refine lv_iload hx hb dL_faults_71 (lv_at hl 5 rfl) ?_
                    refine lv_aload_n hx hb dL_faults_73 rfl (lv_at hl 0 rfl) ?_
                    refine lv_iconst (v := (nI 3)) hx hb dL_faults_74 (by decide) ?_
                    refine g_runV (As := [.int (nI 3)]) (rest := [.int (nI i)]) (own := RL) (C := RX7) (T := TX7) (N := 7) 1 hx hb hml hown hts hK hz hP hL hS hlo hl.1 (c_X7_count l o b S tf tn P C kp zp ((nI 3))  υ ((sz + 1)) hW hY.1.1 ) gL_faults_X7_count rfl rfl rfl (by decide +kernel) ⟨Nat.le_of_ble_eq_true rfl, Nat.le_of_ble_eq_true rfl⟩ hW.c0 rfl rfl rfl (Nat.le_of_ble_eq_true rfl) dL_faults_75 ⟨Nat.le_of_ble_eq_true rfl, Nat.le_of_ble_eq_true rfl⟩ (g_kxi0 (fun r_10 τ_10 H locs z_10 hz hp hP hL hS => ?_))
                    obtain ⟨hr_10, hW, hz_10, ha_10⟩ := hp
                    have hz := hz.trans hz_10
                    subst hr_10
                    refine g_top (y := (nI (sN S))) yc_3 ?_
                    refine g_icmp_ge (tgt := 215) (a := i) (b := sN S) hx hb (by omega) (by omega) dL_faults_78 (by decide) (fun c78 => ?_) (fun c78 => ?_)
                    · have hie : i = sN S := by omega
                      rw [hie] at hl
                      have hA9 : τ_10 sz = gI 4 (crow S j q (sN S)) := by rw [← hie]; exact ((ha_10 _ hnz_sz_0).trans hA0)
                      refine lv_iinc (v := (nI (q + 1))) (lv' := [(4, .int (nI (q + 1))), (0, .ref o), (1, .int (nI (PO j q (sN S)))), (2, .ref sz), (3, .int (nI j)), (5, .int (nI ((sN S))))]) hx hb dL_faults_215 hl (k := 4) rfl (g_inc q 1) (by decide) rfl (fun ls hl => ?_)
                      refine lv_goto (tgt := 62) hx hb dL_faults_218 (by decide) ?_
                      have e_1 : (nI (PO j q (sN S))) = (nI (PO j (q + 1) 0)) := congrArg nI (by rw [hPO, hPO]; exact po_0 hN (z_q hq1))
                      have hl := lv_sub hl (l' := [(0, .ref o), (1, .int (nI (PO j q (sN S)))), (2, .ref sz), (3, .int (nI j)), (4, .int (nI (q + 1)))]) [1, 2, 3, 4, 0] rfl
                      rw [e_1] at hl
                      exact ih_lpB (q + 1) (by omega) (by omega) (by omega) τ_10 hW (by rw [← crow_n hN (z_q hq1)]; exact hA9) hL H locs ls hz hP hS hl
                    · have hil : i < sN S := by omega
                      have jn176 : ∀ (υ : gS), (Wo υ o b S tf tn P C kp zp) → (υ sz = gI 4 (crow S j q i)) → gL lo υ → ∀ (H : Heap) (locs : List Loc) (ls : Array Slot), H.size = (sz + 1) → gH D ka υ H → va_S (gA lo) s.heap H locs → lv_has ls 9 [(0, .ref o), (1, .int (nI (PO j q i))), (2, .ref sz), (3, .int (nI j)), (4, .int (nI q)), (5, .int (nI i))] → W p l e ({ frames := 8, cells := 1, slots := 4, locals := 186 } : Room) s m ([.ref o] : List Value).toArray below meth c H locs (0 + 1) (0 + 4) (MQ below (gQ D ka lo (gxi (fun r τ n => r = nI 1 ∧ Wo τ o b S tf tn P C kp zp ∧ sz ≤ n ∧ n ≤ sz + 1))) ([.ref o] : List Value).toArray s 1 4 (gA lo)) (F0 m 176 ls [.int (bI (gF S j q i))]) := by
                        intro υ hW hA0 hL H locs ls hz hP hS hl
                        cases hgt : gF S j q i
                        · skip
                          refine g_top (y := nI 0) rfl ?_
                          refine lv_istore (lv' := [(8, .int (nI 0)), (0, .ref o), (1, .int (nI (PO j q i))), (2, .ref sz), (3, .int (nI j)), (4, .int (nI q)), (5, .int (nI i))]) hx hb dL_faults_176 hl (by decide) rfl (fun ls hl => ?_)
                          refine lv_iload hx hb dL_faults_178 (lv_at hl 0 rfl) ?_
                          refine lv_if_eq (tgt := 209) hx hb dL_faults_180 (by decide) (fun c180 => ?_) (fun c180 => by first | exact absurd (by decide) c180 | exact absurd c180 (by decide))
                          refine lv_iinc (v := (nI (i + 1))) (lv' := [(5, .int (nI (i + 1))), (8, .int (nI 0)), (0, .ref o), (1, .int (nI (PO j q i))), (2, .ref sz), (3, .int (nI j)), (4, .int (nI q))]) hx hb dL_faults_209 hl (k := 6) rfl (g_inc i 1) (by decide) rfl (fun ls hl => ?_)
                          refine lv_goto (tgt := 71) hx hb dL_faults_212 (by decide) ?_
                          have e_1 : (nI (PO j q i)) = (nI (PO j q (i + 1))) := congrArg nI (by rw [hPO, hPO]; exact po_f hgt)
                          have hl := lv_sub hl (l' := [(0, .ref o), (1, .int (nI (PO j q i))), (2, .ref sz), (3, .int (nI j)), (4, .int (nI q)), (5, .int (nI (i + 1)))]) [2, 3, 4, 5, 6, 0] rfl
                          rw [e_1] at hl
                          exact ih_lpC (i + 1) (by omega) (by omega) υ hW (by rw [← crow_f hgt]; exact hA0) hL H locs ls hz hP hS hl
                        · skip
                          refine g_top (y := nI 1) rfl ?_
                          refine lv_istore (lv' := [(8, .int (nI 1)), (0, .ref o), (1, .int (nI (PO j q i))), (2, .ref sz), (3, .int (nI j)), (4, .int (nI q)), (5, .int (nI i))]) hx hb dL_faults_176 hl (by decide) rfl (fun ls hl => ?_)
                          refine lv_iload hx hb dL_faults_178 (lv_at hl 0 rfl) ?_
                          refine lv_if_eq (tgt := 209) hx hb dL_faults_180 (by decide) (fun c180 => by first | exact absurd (by decide) c180 | exact absurd c180 (by decide)) (fun c180 => ?_)
                          refine lv_aload_n hx hb dL_faults_183 rfl (lv_at hl 1 rfl) ?_
                          refine lv_iload_n hx hb dL_faults_184 rfl (lv_at hl 2 rfl) ?_
                          refine lv_iload hx hb dL_faults_185 (lv_at hl 5 rfl) ?_
                          refine lv_iload_n hx hb dL_faults_187 rfl (lv_at hl 4 rfl) ?_
                          refine lv_iload hx hb dL_faults_188 (lv_at hl 6 rfl) ?_
                          refine g_runS (As := [.ref o, .int (nI (PO j q i)), .int (nI q), .int (nI j), .int (nI i)]) (rest := []) (own := RL) 5 hx hb hml hown hts hK hz hP hL hS hlo hl.1 (c_L_told l o b S tf tn P C kp zp (PO j q i) q j ((nI i)) υ ((sz + 1)) hW hY (by omega) (by rw [hPO]; exact (tel_p hY hjl (by omega) (by omega) hgt).1) (by rw [hPO]; exact (tel_p hY hjl (by omega) (by omega) hgt).2.1) (by rw [hPO]; exact (tel_p hY hjl (by omega) (by omega) hgt).2.2.trans (if_neg (by omega)))) gL_faults_L_told rfl rfl rfl (by decide +kernel) ⟨Nat.le_of_ble_eq_true rfl, Nat.le_of_ble_eq_true rfl⟩ rfl rfl (Nat.le_of_ble_eq_true rfl) dL_faults_190 ⟨Nat.le_of_ble_eq_true rfl, Nat.le_of_ble_eq_true rfl⟩ (g_kxi0 (fun r_11 τ_11 H locs z_11 hz hp hP hL hS => ?_))
                          obtain ⟨hr_11, hW, hz_11, ha_11⟩ := hp
                          have hz := hz.trans hz_11
                          subst hr_11
                          refine lv_if_ne (tgt := 198) hx hb dL_faults_193 (by decide) (fun c193 => ?_) (fun c193 => by first | exact absurd (by decide) c193 | exact absurd c193 (by decide))
                          refine lv_aload_n hx hb dL_faults_198 rfl (lv_at hl 3 rfl) ?_
                          refine lv_iload hx hb dL_faults_199 (lv_at hl 5 rfl) ?_
                          refine lv_dup2_11 hx hb dL_faults_201 rfl rfl ?_
                          refine g_iald hx hb hK hP ((ha_11 _ hnz_sz_0).trans hA0) (i := nI q) (vp_in_nI (by omega) (by omega)) dL_faults_202 ?_
                          rw [nI_clamp (n := q) (by omega)]
                          refine lv_iconst (v := (nI 1)) hx hb dL_faults_203 (by decide) ?_
                          refine lv_iadd hx hb dL_faults_204 ?_
                          refine g_iast hx hb hK hP hL hS ((ha_11 _ hnz_sz_0).trans hA0) (i := nI q) (vp_in_nI (by omega) (by omega)) dL_faults_205 (fun H locs hq hP hL hS => ?_)
                          rw [nI_clamp (n := q) (by omega)] at hP hL
                          have hz := hq.trans hz
                          obtain ⟨σ12, e12⟩ : ∃ υ0 : gS, υ0 = gup τ_11 sz (gI 4 (upd (crow S j q i) q ((((crow S j q i) q) + (nI 1))))) := ⟨_, rfl⟩
                          have hP : gH D ka σ12 H := by rw [e12]; exact hP
                          have hL : gL lo σ12 := by rw [e12]; exact hL
                          have hW := hW.fr (τ := σ12) (fun q h1 h2 => gup_eq e12 (by omega))
                          refine lv_iinc (v := (nI (PO j q i + 1))) (lv' := [(1, .int (nI (PO j q i + 1))), (8, .int (nI 1)), (0, .ref o), (2, .ref sz), (3, .int (nI j)), (4, .int (nI q)), (5, .int (nI i))]) hx hb dL_faults_206 hl (k := 2) rfl (g_inc (PO j q i) 1) (by decide) rfl (fun ls hl => ?_)
                          refine lv_iinc (v := (nI (i + 1))) (lv' := [(5, .int (nI (i + 1))), (1, .int (nI (PO j q i + 1))), (8, .int (nI 1)), (0, .ref o), (2, .ref sz), (3, .int (nI j)), (4, .int (nI q))]) hx hb dL_faults_209 hl (k := 6) rfl (g_inc i 1) (by decide) rfl (fun ls hl => ?_)
                          refine lv_goto (tgt := 71) hx hb dL_faults_212 (by decide) ?_
                          have e_1 : (nI (PO j q i + 1)) = (nI (PO j q (i + 1))) := congrArg nI (by rw [hPO, hPO]; exact po_t hgt)
                          have hl := lv_sub hl (l' := [(0, .ref o), (1, .int (nI (PO j q i + 1))), (2, .ref sz), (3, .int (nI j)), (4, .int (nI q)), (5, .int (nI (i + 1)))]) [3, 1, 4, 5, 6, 0] rfl
                          rw [e_1] at hl
                          exact ih_lpC (i + 1) (by omega) (by omega) σ12 hW (by rw [← crow_t hql hgt]; exact (gup_here e12)) hL H locs ls hz hP hS hl
                      refine lv_aload_n hx hb dL_faults_81 rfl (lv_at hl 0 rfl) ?_
                      refine lv_iload hx hb dL_faults_82 (lv_at hl 5 rfl) ?_
                      refine lv_iload_n hx hb dL_faults_84 rfl (lv_at hl 3 rfl) ?_
                      refine g_runV (As := [.int (nI i), .int (nI j)]) (rest := []) (own := RL) (C := RX7) (T := TX7) (N := 7) 2 hx hb hml hown hts hK hz hP hL hS hlo hl.1 (c_X7_does l o b S tf tn P C kp zp ((nI i)) ((nI j))  τ_10 ((sz + 1)) hW hY.1.1 ) gL_faults_X7_does rfl rfl rfl (by decide +kernel) ⟨Nat.le_of_ble_eq_true rfl, Nat.le_of_ble_eq_true rfl⟩ hW.c0 rfl rfl rfl (Nat.le_of_ble_eq_true rfl) dL_faults_85 ⟨Nat.le_of_ble_eq_true rfl, Nat.le_of_ble_eq_true rfl⟩ (g_kxi0 (fun r_13 τ_13 H locs z_13 hz hp hP hL hS => ?_))
                      obtain ⟨hr_13, hW, hz_13, ha_13⟩ := hp
                      have hz := hz.trans hz_13
                      subst hr_13
                      have hdo := dosQ_lt S i j
                      refine g_top (y := (nI (dosQ S i j))) (yd hY (by omega) (by omega)) ?_
                      refine lv_istore (lv' := [(6, .int (nI (dosQ S i j))), (0, .ref o), (1, .int (nI (PO j q i))), (2, .ref sz), (3, .int (nI j)), (4, .int (nI q)), (5, .int (nI i))]) hx hb dL_faults_88 hl (by decide) rfl (fun ls hl => ?_)
                      refine lv_aload_n hx hb dL_faults_90 rfl (lv_at hl 1 rfl) ?_
                      refine lv_iload_n hx hb dL_faults_91 rfl (lv_at hl 4 rfl) ?_
                      refine lv_iconst (v := (nI 4)) hx hb dL_faults_92 (by decide) ?_
                      refine g_runV (As := [.int (nI j), .int (nI 4)]) (rest := []) (own := RL) (C := RX7) (T := TX7) (N := 7) 2 hx hb hml hown hts hK hz hP hL hS hlo hl.1 (c_X7_beat l o b S tf tn P C kp zp ((nI j)) ((nI 4))  τ_13 ((sz + 1)) hW hY.1.1 ) gL_faults_X7_beat rfl rfl rfl (by decide +kernel) ⟨Nat.le_of_ble_eq_true rfl, Nat.le_of_ble_eq_true rfl⟩ hW.c0 rfl rfl rfl (Nat.le_of_ble_eq_true rfl) dL_faults_93 ⟨Nat.le_of_ble_eq_true rfl, Nat.le_of_ble_eq_true rfl⟩ (g_kxi0 (fun r_14 τ_14 H locs z_14 hz hp hP hL hS => ?_))
                      obtain ⟨hr_14, hW, hz_14, ha_14⟩ := hp
                      have hz := hz.trans hz_14
                      subst hr_14
                      refine g_top (y := (oI (soloF S j))) (yb_4 hY (by omega)) ?_
                      rcases hso : soloF S j with _ | k
                      · refine g_top (y := -5) rfl ?_
                        refine lv_if_lt (tgt := 103) hx hb dL_faults_96 (by decide) (fun c96 => ?_) (fun c96 => by first | exact absurd (by decide) c96 | exact absurd c96 (by decide))
                        refine lv_iconst (v := (nI 0)) hx hb dL_faults_103 (by decide) ?_
                        refine lv_istore (lv' := [(7, .int (nI 0)), (6, .int (nI (dosQ S i j))), (0, .ref o), (1, .int (nI (PO j q i))), (2, .ref sz), (3, .int (nI j)), (4, .int (nI q)), (5, .int (nI i))]) hx hb dL_faults_104 hl (by decide) rfl (fun ls hl => ?_)
                        refine lv_iload hx hb dL_faults_106 (lv_at hl 6 rfl) ?_
                        refine lv_iconst (v := (nI 1)) hx hb dL_faults_108 (by decide) ?_
                        refine g_icmp_ne (tgt := 126) (a := q) (b := 1) hx hb (by omega) (by omega) dL_faults_109 (by decide) (fun c109 => ?_) (fun c109 => ?_)
                        · refine lv_iload hx hb dL_faults_126 (lv_at hl 1 rfl) ?_
                          refine lv_iconst (v := (nI 1)) hx hb dL_faults_128 (by decide) ?_
                          refine g_icmp_ne (tgt := 175) (a := dosQ S i j) (b := 1) hx hb (by omega) (by omega) dL_faults_129 (by decide) (fun c129 => ?_) (fun c129 => ?_)
                          · refine lv_iconst (v := (nI 0)) hx hb dL_faults_175 (by decide) ?_
                            refine g_top (y := bI (gF S j q i)) (by rw [gfn hil c109 hq1 hql c129]; rfl) ?_
                            exact jn176 τ_14 hW ((ha_14 _ hnz_sz_0).trans ((ha_13 _ hnz_sz_0).trans ((ha_10 _ hnz_sz_0).trans hA0))) hL H locs ls hz hP hS (lv_sub hl [2, 3, 4, 5, 6, 7] rfl)
                          · refine lv_iload hx hb dL_faults_132 (lv_at hl 6 rfl) ?_
                            refine lv_iconst (v := (nI 3)) hx hb dL_faults_134 (by decide) ?_
                            refine g_icmp_ne (tgt := 146) (a := q) (b := 3) hx hb (by omega) (by omega) dL_faults_135 (by decide) (fun c135 => ?_) (fun c135 => ?_)
                            · refine lv_iload hx hb dL_faults_146 (lv_at hl 0 rfl) ?_
                              refine lv_if_ne (tgt := 175) hx hb dL_faults_148 (by decide) (fun c148 => by first | exact absurd (by decide) c148 | exact absurd c148 (by decide)) (fun c148 => ?_)
                              refine lv_aload_n hx hb dL_faults_151 rfl (lv_at hl 2 rfl) ?_
                              refine lv_iload_n hx hb dL_faults_152 rfl (lv_at hl 5 rfl) ?_
                              refine lv_iconst (v := (nI 2)) hx hb dL_faults_153 (by decide) ?_
                              refine g_runV (As := [.int (nI j), .int (nI 2)]) (rest := []) (own := RL) (C := RX7) (T := TX7) (N := 7) 2 hx hb hml hown hts hK hz hP hL hS hlo hl.1 (c_X7_beat l o b S tf tn P C kp zp ((nI j)) ((nI 2))  τ_14 ((sz + 1)) hW hY.1.1 ) gL_faults_X7_beat rfl rfl rfl (by decide +kernel) ⟨Nat.le_of_ble_eq_true rfl, Nat.le_of_ble_eq_true rfl⟩ hW.c0 rfl rfl rfl (Nat.le_of_ble_eq_true rfl) dL_faults_154 ⟨Nat.le_of_ble_eq_true rfl, Nat.le_of_ble_eq_true rfl⟩ (g_kxi0 (fun r_15 τ_15 H locs z_15 hz hp hP hL hS => ?_))
                              obtain ⟨hr_15, hW, hz_15, ha_15⟩ := hp
                              have hz := hz.trans hz_15
                              subst hr_15
                              refine g_top (y := (firstI S j)) (yb_2 hY (by omega)) ?_
                              refine lv_iload_n hx hb dL_faults_157 rfl (lv_at hl 5 rfl) ?_
                              refine lv_icmp_eq (tgt := 175) hx hb dL_faults_158 (by decide) (fun c158 => ?_) (fun c158 => ?_)
                              · refine lv_iconst (v := (nI 0)) hx hb dL_faults_175 (by decide) ?_
                                refine g_top (y := bI (gF S j q i)) (by rw [g2_b hil (q_two hq1 hql c109 c135) c158]; rfl) ?_
                                exact jn176 τ_15 hW ((ha_15 _ hnz_sz_0).trans ((ha_14 _ hnz_sz_0).trans ((ha_13 _ hnz_sz_0).trans ((ha_10 _ hnz_sz_0).trans hA0)))) hL H locs ls hz hP hS (lv_sub hl [2, 3, 4, 5, 6, 7] rfl)
                              · refine lv_aload_n hx hb dL_faults_161 rfl (lv_at hl 2 rfl) ?_
                                refine lv_iload_n hx hb dL_faults_162 rfl (lv_at hl 5 rfl) ?_
                                refine lv_iconst (v := (nI 3)) hx hb dL_faults_163 (by decide) ?_
                                refine g_runV (As := [.int (nI j), .int (nI 3)]) (rest := []) (own := RL) (C := RX7) (T := TX7) (N := 7) 2 hx hb hml hown hts hK hz hP hL hS hlo hl.1 (c_X7_beat l o b S tf tn P C kp zp ((nI j)) ((nI 3))  τ_15 ((sz + 1)) hW hY.1.1 ) gL_faults_X7_beat rfl rfl rfl (by decide +kernel) ⟨Nat.le_of_ble_eq_true rfl, Nat.le_of_ble_eq_true rfl⟩ hW.c0 rfl rfl rfl (Nat.le_of_ble_eq_true rfl) dL_faults_164 ⟨Nat.le_of_ble_eq_true rfl, Nat.le_of_ble_eq_true rfl⟩ (g_kxi0 (fun r_16 τ_16 H locs z_16 hz hp hP hL hS => ?_))
                                obtain ⟨hr_16, hW, hz_16, ha_16⟩ := hp
                                have hz := hz.trans hz_16
                                subst hr_16
                                have hcn0 := cn_le S 0 j
                                refine g_top (y := (nI (cnQ S 0 j))) (yb_3 hY (by omega)) ?_
                                refine lv_iconst (v := (nI 2)) hx hb dL_faults_167 (by decide) ?_
                                refine g_icmp_ge (tgt := 175) (a := cnQ S 0 j) (b := 2) hx hb (by omega) (by omega) dL_faults_168 (by decide) (fun c168 => ?_) (fun c168 => ?_)
                                · refine lv_iconst (v := (nI 0)) hx hb dL_faults_175 (by decide) ?_
                                  refine g_top (y := bI (gF S j q i)) (by rw [g2_n hil (q_two hq1 hql c109 c135) c168]; rfl) ?_
                                  exact jn176 τ_16 hW ((ha_16 _ hnz_sz_0).trans ((ha_15 _ hnz_sz_0).trans ((ha_14 _ hnz_sz_0).trans ((ha_13 _ hnz_sz_0).trans ((ha_10 _ hnz_sz_0).trans hA0))))) hL H locs ls hz hP hS (lv_sub hl [2, 3, 4, 5, 6, 7] rfl)
                                · refine lv_iconst (v := (nI 1)) hx hb dL_faults_171 (by decide) ?_
                                  refine lv_goto (tgt := 176) hx hb dL_faults_172 (by decide) ?_
                                  refine g_top (y := bI (gF S j q i)) (by rw [g2_t hil (q_two hq1 hql c109 c135) c129 hso c158 c168]; rfl) ?_
                                  exact jn176 τ_16 hW ((ha_16 _ hnz_sz_0).trans ((ha_15 _ hnz_sz_0).trans ((ha_14 _ hnz_sz_0).trans ((ha_13 _ hnz_sz_0).trans ((ha_10 _ hnz_sz_0).trans hA0))))) hL H locs ls hz hP hS (lv_sub hl [2, 3, 4, 5, 6, 7] rfl)
                            · refine lv_iload hx hb dL_faults_138 (lv_at hl 0 rfl) ?_
                              refine lv_if_eq (tgt := 175) hx hb dL_faults_140 (by decide) (fun c140 => ?_) (fun c140 => by first | exact absurd (by decide) c140 | exact absurd c140 (by decide))
                              refine lv_iconst (v := (nI 0)) hx hb dL_faults_175 (by decide) ?_
                              refine g_top (y := bI (gF S j q i)) (by rw [g3_f hil c135 hso]; rfl) ?_
                              exact jn176 τ_14 hW ((ha_14 _ hnz_sz_0).trans ((ha_13 _ hnz_sz_0).trans ((ha_10 _ hnz_sz_0).trans hA0))) hL H locs ls hz hP hS (lv_sub hl [2, 3, 4, 5, 6, 7] rfl)
                        · refine lv_iload hx hb dL_faults_112 (lv_at hl 1 rfl) ?_
                          refine lv_iconst (v := (nI 2)) hx hb dL_faults_114 (by decide) ?_
                          refine g_icmp_ne (tgt := 122) (a := dosQ S i j) (b := 2) hx hb (by omega) (by omega) dL_faults_115 (by decide) (fun c115 => ?_) (fun c115 => ?_)
                          · refine lv_iconst (v := (nI 0)) hx hb dL_faults_122 (by decide) ?_
                            refine lv_goto (tgt := 176) hx hb dL_faults_123 (by decide) ?_
                            refine g_top (y := bI (gF S j q i)) (by rw [(gf1 hil c109).trans (decide_eq_false c115)]; rfl) ?_
                            exact jn176 τ_14 hW ((ha_14 _ hnz_sz_0).trans ((ha_13 _ hnz_sz_0).trans ((ha_10 _ hnz_sz_0).trans hA0))) hL H locs ls hz hP hS (lv_sub hl [2, 3, 4, 5, 6, 7] rfl)
                          · refine lv_iconst (v := (nI 1)) hx hb dL_faults_118 (by decide) ?_
                            refine lv_goto (tgt := 176) hx hb dL_faults_119 (by decide) ?_
                            refine g_top (y := bI (gF S j q i)) (by rw [(gf1 hil c109).trans (decide_eq_true c115)]; rfl) ?_
                            exact jn176 τ_14 hW ((ha_14 _ hnz_sz_0).trans ((ha_13 _ hnz_sz_0).trans ((ha_10 _ hnz_sz_0).trans hA0))) hL H locs ls hz hP hS (lv_sub hl [2, 3, 4, 5, 6, 7] rfl)
                      · refine g_top (y := nI k) rfl ?_
                        have hk := soloF_lt hso
                        refine g_if_lt hx hb (by omega) dL_faults_96 (tgt := 103) (by decide) ?_
                        refine lv_iconst (v := (nI 1)) hx hb dL_faults_99 (by decide) ?_
                        refine lv_goto (tgt := 104) hx hb dL_faults_100 (by decide) ?_
                        refine lv_istore (lv' := [(7, .int (nI 1)), (6, .int (nI (dosQ S i j))), (0, .ref o), (1, .int (nI (PO j q i))), (2, .ref sz), (3, .int (nI j)), (4, .int (nI q)), (5, .int (nI i))]) hx hb dL_faults_104 hl (by decide) rfl (fun ls hl => ?_)
                        refine lv_iload hx hb dL_faults_106 (lv_at hl 6 rfl) ?_
                        refine lv_iconst (v := (nI 1)) hx hb dL_faults_108 (by decide) ?_
                        refine g_icmp_ne (tgt := 126) (a := q) (b := 1) hx hb (by omega) (by omega) dL_faults_109 (by decide) (fun c109 => ?_) (fun c109 => ?_)
                        · refine lv_iload hx hb dL_faults_126 (lv_at hl 1 rfl) ?_
                          refine lv_iconst (v := (nI 1)) hx hb dL_faults_128 (by decide) ?_
                          refine g_icmp_ne (tgt := 175) (a := dosQ S i j) (b := 1) hx hb (by omega) (by omega) dL_faults_129 (by decide) (fun c129 => ?_) (fun c129 => ?_)
                          · refine lv_iconst (v := (nI 0)) hx hb dL_faults_175 (by decide) ?_
                            refine g_top (y := bI (gF S j q i)) (by rw [gfn hil c109 hq1 hql c129]; rfl) ?_
                            exact jn176 τ_14 hW ((ha_14 _ hnz_sz_0).trans ((ha_13 _ hnz_sz_0).trans ((ha_10 _ hnz_sz_0).trans hA0))) hL H locs ls hz hP hS (lv_sub hl [2, 3, 4, 5, 6, 7] rfl)
                          · refine lv_iload hx hb dL_faults_132 (lv_at hl 6 rfl) ?_
                            refine lv_iconst (v := (nI 3)) hx hb dL_faults_134 (by decide) ?_
                            refine g_icmp_ne (tgt := 146) (a := q) (b := 3) hx hb (by omega) (by omega) dL_faults_135 (by decide) (fun c135 => ?_) (fun c135 => ?_)
                            · refine lv_iload hx hb dL_faults_146 (lv_at hl 0 rfl) ?_
                              refine lv_if_ne (tgt := 175) hx hb dL_faults_148 (by decide) (fun c148 => ?_) (fun c148 => by first | exact absurd (by decide) c148 | exact absurd c148 (by decide))
                              refine lv_iconst (v := (nI 0)) hx hb dL_faults_175 (by decide) ?_
                              refine g_top (y := bI (gF S j q i)) (by rw [g2_s hil (q_two hq1 hql c109 c135) hso]; rfl) ?_
                              exact jn176 τ_14 hW ((ha_14 _ hnz_sz_0).trans ((ha_13 _ hnz_sz_0).trans ((ha_10 _ hnz_sz_0).trans hA0))) hL H locs ls hz hP hS (lv_sub hl [2, 3, 4, 5, 6, 7] rfl)
                            · refine lv_iload hx hb dL_faults_138 (lv_at hl 0 rfl) ?_
                              refine lv_if_eq (tgt := 175) hx hb dL_faults_140 (by decide) (fun c140 => by first | exact absurd (by decide) c140 | exact absurd c140 (by decide)) (fun c140 => ?_)
                              refine lv_goto (tgt := 171) hx hb dL_faults_143 (by decide) ?_
                              refine lv_iconst (v := (nI 1)) hx hb dL_faults_171 (by decide) ?_
                              refine lv_goto (tgt := 176) hx hb dL_faults_172 (by decide) ?_
                              refine g_top (y := bI (gF S j q i)) (by rw [g3_t hil c135 c129 hso]; rfl) ?_
                              exact jn176 τ_14 hW ((ha_14 _ hnz_sz_0).trans ((ha_13 _ hnz_sz_0).trans ((ha_10 _ hnz_sz_0).trans hA0))) hL H locs ls hz hP hS (lv_sub hl [2, 3, 4, 5, 6, 7] rfl)
                        · refine lv_iload hx hb dL_faults_112 (lv_at hl 1 rfl) ?_
                          refine lv_iconst (v := (nI 2)) hx hb dL_faults_114 (by decide) ?_
                          refine g_icmp_ne (tgt := 122) (a := dosQ S i j) (b := 2) hx hb (by omega) (by omega) dL_faults_115 (by decide) (fun c115 => ?_) (fun c115 => ?_)
                          · refine lv_iconst (v := (nI 0)) hx hb dL_faults_122 (by decide) ?_
                            refine lv_goto (tgt := 176) hx hb dL_faults_123 (by decide) ?_
                            refine g_top (y := bI (gF S j q i)) (by rw [(gf1 hil c109).trans (decide_eq_false c115)]; rfl) ?_
                            exact jn176 τ_14 hW ((ha_14 _ hnz_sz_0).trans ((ha_13 _ hnz_sz_0).trans ((ha_10 _ hnz_sz_0).trans hA0))) hL H locs ls hz hP hS (lv_sub hl [2, 3, 4, 5, 6, 7] rfl)
                          · refine lv_iconst (v := (nI 1)) hx hb dL_faults_118 (by decide) ?_
                            refine lv_goto (tgt := 176) hx hb dL_faults_119 (by decide) ?_
                            refine g_top (y := bI (gF S j q i)) (by rw [(gf1 hil c109).trans (decide_eq_true c115)]; rfl) ?_
                            exact jn176 τ_14 hW ((ha_14 _ hnz_sz_0).trans ((ha_13 _ hnz_sz_0).trans ((ha_10 _ hnz_sz_0).trans hA0))) hL H locs ls hz hP hS (lv_sub hl [2, 3, 4, 5, 6, 7] rfl)
                exact lpC _ 0 (by omega) (Nat.lt_succ_self _) υ hW hA0 hL H locs ls hz hP hS (lv_sub hl [1, 2, 3, 4, 5, 0] rfl)
          exact lpB _ 1 (by omega) (by omega) (Nat.lt_succ_self _) υ hW hA0 hL H locs ls hz hP hS (lv_sub hl [1, 2, 3, 4, 0] rfl)
        refine g_if_le (tgt := 59) hx hb (by omega) dL_faults_23 (by decide) (fun c23 => ?_) (fun c23 => ?_)
        · have hg0 := gf0_r hY hjl c23
          have hpe : PO j 0 0 = PO j 1 0 := by rw [hPO, hPO, po_f hg0, po_0 (b := j) (q := 0) (n := 1) (by decide) (z_0 (S := S) (j := j))]
          rw [hpe] at hl
          exact jn59 τ_9 hW (by rw [← crow_n (n := 1) (by decide) (z_0 (S := S) (j := j)), ← crow_f hg0]; exact ((ha_9 _ hnz_sz_0).trans ((ha_2 _ hnz_sz_0).trans hA0))) hL H locs ls hz hP hS (lv_sub hl [0, 1, 2, 3] rfl)
        · refine lv_aload_n hx hb dL_faults_26 rfl (lv_at hl 0 rfl) ?_
          refine lv_iload_n hx hb dL_faults_27 rfl (lv_at hl 3 rfl) ?_
          refine lv_iconst (v := (nI 3)) hx hb dL_faults_28 (by decide) ?_
          refine g_runV (As := [.int (nI j), .int (nI 3)]) (rest := []) (own := RL) (C := RX7) (T := TX7) (N := 7) 2 hx hb hml hown hts hK hz hP hL hS hlo hl.1 (c_X7_beat l o b S tf tn P C kp zp ((nI j)) ((nI 3))  τ_9 ((sz + 1)) hW hY.1.1 ) gL_faults_X7_beat rfl rfl rfl (by decide +kernel) ⟨Nat.le_of_ble_eq_true rfl, Nat.le_of_ble_eq_true rfl⟩ hW.c0 rfl rfl rfl (Nat.le_of_ble_eq_true rfl) dL_faults_29 ⟨Nat.le_of_ble_eq_true rfl, Nat.le_of_ble_eq_true rfl⟩ (g_kxi0 (fun r_17 τ_17 H locs z_17 hz hp hP hL hS => ?_))
          obtain ⟨hr_17, hW, hz_17, ha_17⟩ := hp
          have hz := hz.trans hz_17
          subst hr_17
          have hcn0 := cn_le S 0 j
          refine g_top (y := (nI (cnQ S 0 j))) (yb_3 hY (by omega)) ?_
          refine g_if_ne (tgt := 59) hx hb (by omega) dL_faults_32 (by decide) (fun c32 => ?_) (fun c32 => ?_)
          · have hg0 := gf0_s c32
            have hpe : PO j 0 0 = PO j 1 0 := by rw [hPO, hPO, po_f hg0, po_0 (b := j) (q := 0) (n := 1) (by decide) (z_0 (S := S) (j := j))]
            rw [hpe] at hl
            exact jn59 τ_17 hW (by rw [← crow_n (n := 1) (by decide) (z_0 (S := S) (j := j)), ← crow_f hg0]; exact ((ha_17 _ hnz_sz_0).trans ((ha_9 _ hnz_sz_0).trans ((ha_2 _ hnz_sz_0).trans hA0)))) hL H locs ls hz hP hS (lv_sub hl [0, 1, 2, 3] rfl)
          · refine lv_aload_n hx hb dL_faults_35 rfl (lv_at hl 0 rfl) ?_
            refine lv_iload_n hx hb dL_faults_36 rfl (lv_at hl 1 rfl) ?_
            refine lv_iconst (v := (nI 0)) hx hb dL_faults_37 (by decide) ?_
            refine lv_iload_n hx hb dL_faults_38 rfl (lv_at hl 3 rfl) ?_
            refine lv_bipush (v := (-5)) hx hb dL_faults_39 (by decide) ?_
            refine g_runS (As := [.ref o, .int (nI (PO j 0 0)), .int (nI 0), .int (nI j), .int (-5)]) (rest := []) (own := RL) 5 hx hb hml hown hts hK hz hP hL hS hlo hl.1 (c_L_told l o b S tf tn P C kp zp (PO j 0 0) 0 j ((-5)) τ_17 ((sz + 1)) hW hY (by omega) (by rw [hPO]; exact (tel_p hY hjl (by decide) (by omega) (gf0_t hY hjl c23 c32)).1) (by rw [hPO]; exact (tel_p hY hjl (by decide) (by omega) (gf0_t hY hjl c23 c32)).2.1) (by rw [hPO]; exact (tel_p hY hjl (by decide) (by omega) (gf0_t hY hjl c23 c32)).2.2.trans (if_pos rfl))) gL_faults_L_told rfl rfl rfl (by decide +kernel) ⟨Nat.le_of_ble_eq_true rfl, Nat.le_of_ble_eq_true rfl⟩ rfl rfl (Nat.le_of_ble_eq_true rfl) dL_faults_41 ⟨Nat.le_of_ble_eq_true rfl, Nat.le_of_ble_eq_true rfl⟩ (g_kxi0 (fun r_18 τ_18 H locs z_18 hz hp hP hL hS => ?_))
            obtain ⟨hr_18, hW, hz_18, ha_18⟩ := hp
            have hz := hz.trans hz_18
            subst hr_18
            refine lv_if_ne (tgt := 49) hx hb dL_faults_44 (by decide) (fun c44 => ?_) (fun c44 => by first | exact absurd (by decide) c44 | exact absurd c44 (by decide))
            refine lv_aload_n hx hb dL_faults_49 rfl (lv_at hl 2 rfl) ?_
            refine lv_iconst (v := (nI 0)) hx hb dL_faults_50 (by decide) ?_
            refine lv_dup2_11 hx hb dL_faults_51 rfl rfl ?_
            refine g_iald hx hb hK hP ((ha_18 _ hnz_sz_0).trans ((ha_17 _ hnz_sz_0).trans ((ha_9 _ hnz_sz_0).trans ((ha_2 _ hnz_sz_0).trans hA0)))) (i := nI 0) (vp_in_nI (by omega) (by omega)) dL_faults_52 ?_
            rw [nI_clamp (n := 0) (by omega)]
            refine lv_iconst (v := (nI 1)) hx hb dL_faults_53 (by decide) ?_
            refine lv_iadd hx hb dL_faults_54 ?_
            refine g_iast hx hb hK hP hL hS ((ha_18 _ hnz_sz_0).trans ((ha_17 _ hnz_sz_0).trans ((ha_9 _ hnz_sz_0).trans ((ha_2 _ hnz_sz_0).trans hA0)))) (i := nI 0) (vp_in_nI (by omega) (by omega)) dL_faults_55 (fun H locs hq hP hL hS => ?_)
            rw [nI_clamp (n := 0) (by omega)] at hP hL
            have hz := hq.trans hz
            obtain ⟨σ19, e19⟩ : ∃ υ0 : gS, υ0 = gup τ_18 sz (gI 4 (upd (crow S j 0 0) 0 ((((crow S j 0 0) 0) + (nI 1))))) := ⟨_, rfl⟩
            have hP : gH D ka σ19 H := by rw [e19]; exact hP
            have hL : gL lo σ19 := by rw [e19]; exact hL
            have hW := hW.fr (τ := σ19) (fun q h1 h2 => gup_eq e19 (by omega))
            refine lv_iinc (v := (nI (PO j 0 0 + 1))) (lv' := [(1, .int (nI (PO j 0 0 + 1))), (0, .ref o), (2, .ref sz), (3, .int (nI j))]) hx hb dL_faults_56 hl (k := 1) rfl (g_inc (PO j 0 0) 1) (by decide) rfl (fun ls hl => ?_)
            have hg0 := gf0_t hY hjl c23 c32
            have hpe : PO j 0 0 + 1 = PO j 1 0 := by rw [hPO, hPO, po_t hg0, po_0 (b := j) (q := 0) (n := 1) (by decide) (z_0 (S := S) (j := j))]
            rw [hpe] at hl
            exact jn59 σ19 hW (by rw [← crow_n (n := 1) (by decide) (z_0 (S := S) (j := j)), ← crow_t (by decide) hg0]; exact (gup_here e19)) hL H locs ls hz hP hS (lv_sub hl [1, 0, 2, 3] rfl)
  exact lpA _ 0 (by omega) (Nat.lt_succ_self _) σ1 hW (by rw [crow_0]; exact (gup_here e1)) hL H locs ls hz hP hS (lv_sub hl [3, 2, 1, 0] (by rw [hPO]; rfl))
